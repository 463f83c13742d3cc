/-! Methods that read: Fact.isAlike, Atom.fits. Printed by wip/gen/mk3.py. -/
abbrev cX2_isAlike : ByteArray := prog_4_method_5_code
def yX2_isAlike : MethodName := ⟨RX2, "isAlike", "(LRuleengine$Fact;)Z"⟩
def wqX2_isAlike : List Cond := .code yX2_isAlike cX2_isAlike 2 (some .boolean) :: ([.fieldLink RX2 9 "Ruleengine$Fact" "kind" "I", .fieldLink RX2 15 "Ruleengine$Fact" "value" "[I"] ++ wsX20)
theorem dX2_isAlike_0 : decode cX2_isAlike 0 = .ok (.aload_n 0, 1) := by decide +kernel
theorem dX2_isAlike_1 : decode cX2_isAlike 1 = .ok (.getfield 9, 3) := by decide +kernel
theorem dX2_isAlike_4 : decode cX2_isAlike 4 = .ok (.aload_n 1, 1) := by decide +kernel
theorem dX2_isAlike_5 : decode cX2_isAlike 5 = .ok (.getfield 9, 3) := by decide +kernel
theorem dX2_isAlike_8 : decode cX2_isAlike 8 = .ok (.if_icmp .ne 52, 3) := by decide +kernel
theorem dX2_isAlike_11 : decode cX2_isAlike 11 = .ok (.aload_n 0, 1) := by decide +kernel
theorem dX2_isAlike_12 : decode cX2_isAlike 12 = .ok (.getfield 15, 3) := by decide +kernel
theorem dX2_isAlike_15 : decode cX2_isAlike 15 = .ok (.iconst 0, 1) := by decide +kernel
theorem dX2_isAlike_16 : decode cX2_isAlike 16 = .ok (.iaload, 1) := by decide +kernel
theorem dX2_isAlike_17 : decode cX2_isAlike 17 = .ok (.aload_n 1, 1) := by decide +kernel
theorem dX2_isAlike_18 : decode cX2_isAlike 18 = .ok (.getfield 15, 3) := by decide +kernel
theorem dX2_isAlike_21 : decode cX2_isAlike 21 = .ok (.iconst 0, 1) := by decide +kernel
theorem dX2_isAlike_22 : decode cX2_isAlike 22 = .ok (.iaload, 1) := by decide +kernel
theorem dX2_isAlike_23 : decode cX2_isAlike 23 = .ok (.if_icmp .ne 37, 3) := by decide +kernel
theorem dX2_isAlike_26 : decode cX2_isAlike 26 = .ok (.aload_n 0, 1) := by decide +kernel
theorem dX2_isAlike_27 : decode cX2_isAlike 27 = .ok (.getfield 15, 3) := by decide +kernel
theorem dX2_isAlike_30 : decode cX2_isAlike 30 = .ok (.iconst 1, 1) := by decide +kernel
theorem dX2_isAlike_31 : decode cX2_isAlike 31 = .ok (.iaload, 1) := by decide +kernel
theorem dX2_isAlike_32 : decode cX2_isAlike 32 = .ok (.aload_n 1, 1) := by decide +kernel
theorem dX2_isAlike_33 : decode cX2_isAlike 33 = .ok (.getfield 15, 3) := by decide +kernel
theorem dX2_isAlike_36 : decode cX2_isAlike 36 = .ok (.iconst 1, 1) := by decide +kernel
theorem dX2_isAlike_37 : decode cX2_isAlike 37 = .ok (.iaload, 1) := by decide +kernel
theorem dX2_isAlike_38 : decode cX2_isAlike 38 = .ok (.if_icmp .ne 22, 3) := by decide +kernel
theorem dX2_isAlike_41 : decode cX2_isAlike 41 = .ok (.aload_n 0, 1) := by decide +kernel
theorem dX2_isAlike_42 : decode cX2_isAlike 42 = .ok (.getfield 15, 3) := by decide +kernel
theorem dX2_isAlike_45 : decode cX2_isAlike 45 = .ok (.iconst 2, 1) := by decide +kernel
theorem dX2_isAlike_46 : decode cX2_isAlike 46 = .ok (.iaload, 1) := by decide +kernel
theorem dX2_isAlike_47 : decode cX2_isAlike 47 = .ok (.aload_n 1, 1) := by decide +kernel
theorem dX2_isAlike_48 : decode cX2_isAlike 48 = .ok (.getfield 15, 3) := by decide +kernel
theorem dX2_isAlike_51 : decode cX2_isAlike 51 = .ok (.iconst 2, 1) := by decide +kernel
theorem dX2_isAlike_52 : decode cX2_isAlike 52 = .ok (.iaload, 1) := by decide +kernel
theorem dX2_isAlike_53 : decode cX2_isAlike 53 = .ok (.if_icmp .ne 7, 3) := by decide +kernel
theorem dX2_isAlike_56 : decode cX2_isAlike 56 = .ok (.iconst 1, 1) := by decide +kernel
theorem dX2_isAlike_57 : decode cX2_isAlike 57 = .ok (.goto 4, 3) := by decide +kernel
theorem dX2_isAlike_60 : decode cX2_isAlike 60 = .ok (.iconst 0, 1) := by decide +kernel
theorem dX2_isAlike_61 : decode cX2_isAlike 61 = .ok (.ireturn, 1) := by decide +kernel
set_option maxHeartbeats 8000000 in
set_option maxRecDepth 100000 in
/-- Fact.isAlike: the same kind and values -/
theorem kX2_isAlike (l : Launch) (dC : Nat → ClassId) (dI : Nat → Nat → Nat) (sz : Nat) (h0 vl0 h1 vl1 : Nat) (c0 c1 : ClassId) (nm0 kd0 mi0 td0 nm1 kd1 mi1 td1 : Int32) (v0 v1 : Nat → Int32) : Met l yX2_isAlike wqX2_isAlike ({ frames := 0, cells := 0, slots := 0, locals := 0 }) (va_Pc [.ref h0, .ref h1] (fun U => U.heap.size = sz ∧ va_P (dC, dI) CL [(h0, .inr (2, [.int nm0, .int kd0, .ref vl0, .int mi0, .int td0])), (vl0, .inl (c0, 3, .inl v0)), (h1, .inr (2, [.int nm1, .int kd1, .ref vl1, .int mi1, .int td1])), (vl1, .inl (c1, 3, .inl v1))] U.heap ∧ va_K (dC, dI) CL [(c0, .int), (c1, .int)] U ∧ va_D (fun _ => True) [(h0, .inr (2, [.int nm0, .int kd0, .ref vl0, .int mi0, .int td0])), (vl0, .inl (c0, 3, .inl v0)), (h1, .inr (2, [.int nm1, .int kd1, .ref vl1, .int mi1, .int td1])), (vl1, .inl (c1, 3, .inl v1))])) (va_Qi (fun (r : Int32) (_ : Unit) => r = if kd0 = kd1 ∧ v0 0 = v1 0 ∧ v0 1 = v1 1 ∧ v0 2 = v1 2 then 1 else 0) (fun _ t => va_P (dC, dI) CL [(h0, .inr (2, [.int nm0, .int kd0, .ref vl0, .int mi0, .int td0])), (vl0, .inl (c0, 3, .inl v0)), (h1, .inr (2, [.int nm1, .int kd1, .ref vl1, .int mi1, .int td1])), (vl1, .inl (c1, 3, .inl v1))] t.heap ∧ va_K (dC, dI) CL [(c0, .int), (c1, .int)] t ∧ va_D (fun _ => True) [(h0, .inr (2, [.int nm0, .int kd0, .ref vl0, .int mi0, .int td0])), (vl0, .inl (c0, 3, .inl v0)), (h1, .inr (2, [.int nm1, .int kd1, .ref vl1, .int mi1, .int td1])), (vl1, .inl (c1, 3, .inl v1))]) (fun _ => False)) 0 0 (fun _ => False) := by
  refine Met.ofW (cc := cX2_isAlike) (maxL := 2) (ret := (some .boolean)) (by decide) rfl ?_
  intro p e s m args below meth c s₁ B hml hv
  obtain ⟨rfl, hsz, hP, hK, hD⟩ := hv
  have hx := B.exec
  have hb := B.bytes
  have hr := B.returns
  have hts := atoms_spec (ws := wqX2_isAlike) B.pre
  have hown : s.vm.findClass RX2 = some m.cls := findClass_of_methodNamed B.named
  have hlocks := B.notSynchronized
  have hS : va_S (fun _ => False) s.heap s.heap [] := va_S.rf
  have hl := lv_entry ([.ref h0, .ref h1]) (n := 2) (Nat.le_of_ble_eq_true rfl)
  rw [lg_entry_eq]
  generalize (lg_sl ([.ref h0, .ref h1]) ++ List.replicate (2 - (lg_sl ([.ref h0, .ref h1])).length) Slot.unset).toArray = ls at hl ⊢
  have hl : lv_has ls 2 [(0, .ref h0), (1, .ref h1)] := hl
  refine lv_aload_n hx hb dX2_isAlike_0 rfl (lv_at hl 0 rfl) ?_
  refine va_get (D := (dC, dI)) (ci := 2) (v := .int kd0) (C := RX2) (T := TX2) (N := 5) hx hb hts (by decide +kernel) hown hK hP 0 rfl rfl 1 (by decide) (hts (.fieldLink RX2 9 "Ruleengine$Fact" "kind" "I") (by decide +kernel)) (fun _ h9 => h9) rfl dX2_isAlike_1 ?_
  refine lv_aload_n hx hb dX2_isAlike_4 rfl (lv_at hl 1 rfl) ?_
  refine va_get (D := (dC, dI)) (ci := 2) (v := .int kd1) (C := RX2) (T := TX2) (N := 5) hx hb hts (by decide +kernel) hown hK hP 2 rfl rfl 1 (by decide) (hts (.fieldLink RX2 9 "Ruleengine$Fact" "kind" "I") (by decide +kernel)) (fun _ h9 => h9) rfl dX2_isAlike_5 ?_
  refine lv_icmp_ne hx hb dX2_isAlike_8 rfl (fun q1 => ?_) (fun q1 => ?_)
  · refine lv_iconst (v := (0 : Int32)) hx hb dX2_isAlike_60 (by decide) ?_
    exact W.zret hx hb hr rfl (fun t ht hW => ⟨⟨_, (), rfl, (by simp_all), by rw [ht]; exact hP, va_K.moved hW.alike hK, hD⟩, hS.F ht⟩) hS.2.2 dX2_isAlike_61
  · refine lv_aload_n hx hb dX2_isAlike_11 rfl (lv_at hl 0 rfl) ?_
    refine va_get (D := (dC, dI)) (ci := 2) (v := .ref vl0) (C := RX2) (T := TX2) (N := 5) hx hb hts (by decide +kernel) hown hK hP 0 rfl rfl 2 (by decide) (hts (.fieldLink RX2 15 "Ruleengine$Fact" "value" "[I") (by decide +kernel)) (fun _ h9 => h9) rfl dX2_isAlike_12 ?_
    refine lv_iconst (v := (0 : Int32)) hx hb dX2_isAlike_15 (by decide) ?_
    refine va_iald (i := (0)) hx hb hK hP 1 0 rfl rfl (by unfold vp_in; decide) dX2_isAlike_16 ?_
    refine W.eq (g2 := F0 m 17 _ (.int (v0 0) :: [])) rfl ?_
    refine lv_aload_n hx hb dX2_isAlike_17 rfl (lv_at hl 1 rfl) ?_
    refine va_get (D := (dC, dI)) (ci := 2) (v := .ref vl1) (C := RX2) (T := TX2) (N := 5) hx hb hts (by decide +kernel) hown hK hP 2 rfl rfl 2 (by decide) (hts (.fieldLink RX2 15 "Ruleengine$Fact" "value" "[I") (by decide +kernel)) (fun _ h9 => h9) rfl dX2_isAlike_18 ?_
    refine lv_iconst (v := (0 : Int32)) hx hb dX2_isAlike_21 (by decide) ?_
    refine va_iald (i := (0)) hx hb hK hP 3 1 rfl rfl (by unfold vp_in; decide) dX2_isAlike_22 ?_
    refine W.eq (g2 := F0 m 23 _ (.int (v1 0) :: [.int (v0 0)])) rfl ?_
    refine lv_icmp_ne hx hb dX2_isAlike_23 rfl (fun q2 => ?_) (fun q2 => ?_)
    · refine lv_iconst (v := (0 : Int32)) hx hb dX2_isAlike_60 (by decide) ?_
      exact W.zret hx hb hr rfl (fun t ht hW => ⟨⟨_, (), rfl, (by simp_all), by rw [ht]; exact hP, va_K.moved hW.alike hK, hD⟩, hS.F ht⟩) hS.2.2 dX2_isAlike_61
    · refine lv_aload_n hx hb dX2_isAlike_26 rfl (lv_at hl 0 rfl) ?_
      refine va_get (D := (dC, dI)) (ci := 2) (v := .ref vl0) (C := RX2) (T := TX2) (N := 5) hx hb hts (by decide +kernel) hown hK hP 0 rfl rfl 2 (by decide) (hts (.fieldLink RX2 15 "Ruleengine$Fact" "value" "[I") (by decide +kernel)) (fun _ h9 => h9) rfl dX2_isAlike_27 ?_
      refine lv_iconst (v := (1 : Int32)) hx hb dX2_isAlike_30 (by decide) ?_
      refine va_iald (i := (1)) hx hb hK hP 1 0 rfl rfl (by unfold vp_in; decide) dX2_isAlike_31 ?_
      refine W.eq (g2 := F0 m 32 _ (.int (v0 1) :: [])) rfl ?_
      refine lv_aload_n hx hb dX2_isAlike_32 rfl (lv_at hl 1 rfl) ?_
      refine va_get (D := (dC, dI)) (ci := 2) (v := .ref vl1) (C := RX2) (T := TX2) (N := 5) hx hb hts (by decide +kernel) hown hK hP 2 rfl rfl 2 (by decide) (hts (.fieldLink RX2 15 "Ruleengine$Fact" "value" "[I") (by decide +kernel)) (fun _ h9 => h9) rfl dX2_isAlike_33 ?_
      refine lv_iconst (v := (1 : Int32)) hx hb dX2_isAlike_36 (by decide) ?_
      refine va_iald (i := (1)) hx hb hK hP 3 1 rfl rfl (by unfold vp_in; decide) dX2_isAlike_37 ?_
      refine W.eq (g2 := F0 m 38 _ (.int (v1 1) :: [.int (v0 1)])) rfl ?_
      refine lv_icmp_ne hx hb dX2_isAlike_38 rfl (fun q3 => ?_) (fun q3 => ?_)
      · refine lv_iconst (v := (0 : Int32)) hx hb dX2_isAlike_60 (by decide) ?_
        exact W.zret hx hb hr rfl (fun t ht hW => ⟨⟨_, (), rfl, (by simp_all), by rw [ht]; exact hP, va_K.moved hW.alike hK, hD⟩, hS.F ht⟩) hS.2.2 dX2_isAlike_61
      · refine lv_aload_n hx hb dX2_isAlike_41 rfl (lv_at hl 0 rfl) ?_
        refine va_get (D := (dC, dI)) (ci := 2) (v := .ref vl0) (C := RX2) (T := TX2) (N := 5) hx hb hts (by decide +kernel) hown hK hP 0 rfl rfl 2 (by decide) (hts (.fieldLink RX2 15 "Ruleengine$Fact" "value" "[I") (by decide +kernel)) (fun _ h9 => h9) rfl dX2_isAlike_42 ?_
        refine lv_iconst (v := (2 : Int32)) hx hb dX2_isAlike_45 (by decide) ?_
        refine va_iald (i := (2)) hx hb hK hP 1 0 rfl rfl (by unfold vp_in; decide) dX2_isAlike_46 ?_
        refine W.eq (g2 := F0 m 47 _ (.int (v0 2) :: [])) rfl ?_
        refine lv_aload_n hx hb dX2_isAlike_47 rfl (lv_at hl 1 rfl) ?_
        refine va_get (D := (dC, dI)) (ci := 2) (v := .ref vl1) (C := RX2) (T := TX2) (N := 5) hx hb hts (by decide +kernel) hown hK hP 2 rfl rfl 2 (by decide) (hts (.fieldLink RX2 15 "Ruleengine$Fact" "value" "[I") (by decide +kernel)) (fun _ h9 => h9) rfl dX2_isAlike_48 ?_
        refine lv_iconst (v := (2 : Int32)) hx hb dX2_isAlike_51 (by decide) ?_
        refine va_iald (i := (2)) hx hb hK hP 3 1 rfl rfl (by unfold vp_in; decide) dX2_isAlike_52 ?_
        refine W.eq (g2 := F0 m 53 _ (.int (v1 2) :: [.int (v0 2)])) rfl ?_
        refine lv_icmp_ne hx hb dX2_isAlike_53 rfl (fun q4 => ?_) (fun q4 => ?_)
        · refine lv_iconst (v := (0 : Int32)) hx hb dX2_isAlike_60 (by decide) ?_
          exact W.zret hx hb hr rfl (fun t ht hW => ⟨⟨_, (), rfl, (by simp_all), by rw [ht]; exact hP, va_K.moved hW.alike hK, hD⟩, hS.F ht⟩) hS.2.2 dX2_isAlike_61
        · refine lv_iconst (v := (1 : Int32)) hx hb dX2_isAlike_56 (by decide) ?_
          refine lv_goto hx hb dX2_isAlike_57 rfl ?_
          exact W.zret hx hb hr rfl (fun t ht hW => ⟨⟨_, (), rfl, (by simp_all), by rw [ht]; exact hP, va_K.moved hW.alike hK, hD⟩, hS.F ht⟩) hS.2.2 dX2_isAlike_61
/-- an index into the six values -/
theorem lf_var {x : Int32} (h1 : ¬ x < 16) (h2 : ¬ 22 ≤ x) : vp_in (x - 16) 6 := by
  simp only [Int32.lt_iff_toInt_lt, Int32.le_iff_toInt_le, Int32.reduceToInt] at h1 h2
  have h3 : x.toInt = 16 ∨ x.toInt = 17 ∨ x.toInt = 18 ∨ x.toInt = 19 ∨ x.toInt = 20 ∨ x.toInt = 21 := by omega
  rcases h3 with h | h | h | h | h | h
  · obtain rfl : x = 16 := Int32.toInt_inj.mp (h.trans (by decide))
    unfold vp_in; decide
  · obtain rfl : x = 17 := Int32.toInt_inj.mp (h.trans (by decide))
    unfold vp_in; decide
  · obtain rfl : x = 18 := Int32.toInt_inj.mp (h.trans (by decide))
    unfold vp_in; decide
  · obtain rfl : x = 19 := Int32.toInt_inj.mp (h.trans (by decide))
    unfold vp_in; decide
  · obtain rfl : x = 20 := Int32.toInt_inj.mp (h.trans (by decide))
    unfold vp_in; decide
  · obtain rfl : x = 21 := Int32.toInt_inj.mp (h.trans (by decide))
    unfold vp_in; decide
/-- what a field of a fact must hold: the value of a variable that has one, anything for a blank, else the digit -/
def lf_want (w v vs : Nat → Int32) (i : Nat) : Int32 := if 16 ≤ w i ∧ w i < 22 then vs (w i - 16).toNatClampNeg else if w i = 22 then v i else w i
theorem lf_want_var {w v vs : Nat → Int32} {i : Nat} (h1 : ¬ w i < 16) (h2 : ¬ 22 ≤ w i) : lf_want w v vs i = vs (w i - 16).toNatClampNeg := if_pos ⟨Int32.not_lt.mp h1, Int32.not_le.mp h2⟩
theorem lf_want_low {w v vs : Nat → Int32} {i : Nat} (h1 : w i < 16) : lf_want w v vs i = w i := by
  have h2 : ¬ (16 ≤ w i ∧ w i < 22) := fun h => absurd h1 (Int32.not_lt.mpr h.1)
  have h3 : ¬ w i = 22 := fun h => by rw [h] at h1; exact absurd h1 (by decide)
  unfold lf_want; rw [if_neg h2, if_neg h3]
theorem lf_want_blank {w v vs : Nat → Int32} {i : Nat} (h1 : w i = 22) : lf_want w v vs i = v i := by
  have h2 : ¬ (16 ≤ w i ∧ w i < 22) := fun h => by rw [h1] at h; exact absurd h.2 (by decide)
  unfold lf_want; rw [if_neg h2, if_pos h1]
theorem lf_want_high {w v vs : Nat → Int32} {i : Nat} (h1 : 22 ≤ w i) (h3 : w i ≠ 22) : lf_want w v vs i = w i := by
  have h2 : ¬ (16 ≤ w i ∧ w i < 22) := fun h => absurd h1 (Int32.not_le.mpr h.2)
  unfold lf_want; rw [if_neg h2, if_neg h3]
abbrev cX0_fits : ByteArray := prog_2_method_6_code
def yX0_fits : MethodName := ⟨RX0, "fits", "(LRuleengine$Fact;[I)Z"⟩
def wqX0_fits : List Cond := .code yX0_fits cX0_fits 5 (some .boolean) :: ([.fieldLink RX0 43 "Ruleengine$Fact" "kind" "I", .fieldLink RX0 25 "Ruleengine$Atom" "kind" "I", .fieldLink RX0 15 "Ruleengine$Atom" "want" "[I", .fieldLink RX0 46 "Ruleengine$Fact" "value" "[I", .fieldLink RX0 33 "Ruleengine$Atom" "isFirstSecond" "Z", .fieldLink RX0 37 "Ruleengine$Atom" "isFirstThird" "Z", .fieldLink RX0 40 "Ruleengine$Atom" "isSecondThird" "Z"] ++ wsX20 ++ wsX00)
theorem dX0_fits_0 : decode cX0_fits 0 = .ok (.aload_n 1, 1) := by decide +kernel
theorem dX0_fits_1 : decode cX0_fits 1 = .ok (.getfield 43, 3) := by decide +kernel
theorem dX0_fits_4 : decode cX0_fits 4 = .ok (.aload_n 0, 1) := by decide +kernel
theorem dX0_fits_5 : decode cX0_fits 5 = .ok (.getfield 25, 3) := by decide +kernel
theorem dX0_fits_8 : decode cX0_fits 8 = .ok (.if_icmp .eq 5, 3) := by decide +kernel
theorem dX0_fits_11 : decode cX0_fits 11 = .ok (.iconst 0, 1) := by decide +kernel
theorem dX0_fits_12 : decode cX0_fits 12 = .ok (.ireturn, 1) := by decide +kernel
theorem dX0_fits_13 : decode cX0_fits 13 = .ok (.iconst 0, 1) := by decide +kernel
theorem dX0_fits_14 : decode cX0_fits 14 = .ok (.istore_n 3, 1) := by decide +kernel
theorem dX0_fits_15 : decode cX0_fits 15 = .ok (.iload_n 3, 1) := by decide +kernel
theorem dX0_fits_16 : decode cX0_fits 16 = .ok (.iconst 3, 1) := by decide +kernel
theorem dX0_fits_17 : decode cX0_fits 17 = .ok (.if_icmp .ge 71, 3) := by decide +kernel
theorem dX0_fits_20 : decode cX0_fits 20 = .ok (.aload_n 0, 1) := by decide +kernel
theorem dX0_fits_21 : decode cX0_fits 21 = .ok (.getfield 15, 3) := by decide +kernel
theorem dX0_fits_24 : decode cX0_fits 24 = .ok (.iload_n 3, 1) := by decide +kernel
theorem dX0_fits_25 : decode cX0_fits 25 = .ok (.iaload, 1) := by decide +kernel
theorem dX0_fits_26 : decode cX0_fits 26 = .ok (.istore 4, 2) := by decide +kernel
theorem dX0_fits_28 : decode cX0_fits 28 = .ok (.iload 4, 2) := by decide +kernel
theorem dX0_fits_30 : decode cX0_fits 30 = .ok (.bipush 16, 2) := by decide +kernel
theorem dX0_fits_32 : decode cX0_fits 32 = .ok (.if_icmp .lt 22, 3) := by decide +kernel
theorem dX0_fits_35 : decode cX0_fits 35 = .ok (.iload 4, 2) := by decide +kernel
theorem dX0_fits_37 : decode cX0_fits 37 = .ok (.bipush 22, 2) := by decide +kernel
theorem dX0_fits_39 : decode cX0_fits 39 = .ok (.if_icmp .ge 15, 3) := by decide +kernel
theorem dX0_fits_42 : decode cX0_fits 42 = .ok (.aload_n 2, 1) := by decide +kernel
theorem dX0_fits_43 : decode cX0_fits 43 = .ok (.iload 4, 2) := by decide +kernel
theorem dX0_fits_45 : decode cX0_fits 45 = .ok (.bipush 16, 2) := by decide +kernel
theorem dX0_fits_47 : decode cX0_fits 47 = .ok (.isub, 1) := by decide +kernel
theorem dX0_fits_48 : decode cX0_fits 48 = .ok (.iaload, 1) := by decide +kernel
theorem dX0_fits_49 : decode cX0_fits 49 = .ok (.istore 4, 2) := by decide +kernel
theorem dX0_fits_51 : decode cX0_fits 51 = .ok (.goto 18, 3) := by decide +kernel
theorem dX0_fits_54 : decode cX0_fits 54 = .ok (.iload 4, 2) := by decide +kernel
theorem dX0_fits_56 : decode cX0_fits 56 = .ok (.bipush 22, 2) := by decide +kernel
theorem dX0_fits_58 : decode cX0_fits 58 = .ok (.if_icmp .ne 11, 3) := by decide +kernel
theorem dX0_fits_61 : decode cX0_fits 61 = .ok (.aload_n 1, 1) := by decide +kernel
theorem dX0_fits_62 : decode cX0_fits 62 = .ok (.getfield 46, 3) := by decide +kernel
theorem dX0_fits_65 : decode cX0_fits 65 = .ok (.iload_n 3, 1) := by decide +kernel
theorem dX0_fits_66 : decode cX0_fits 66 = .ok (.iaload, 1) := by decide +kernel
theorem dX0_fits_67 : decode cX0_fits 67 = .ok (.istore 4, 2) := by decide +kernel
theorem dX0_fits_69 : decode cX0_fits 69 = .ok (.iload 4, 2) := by decide +kernel
theorem dX0_fits_71 : decode cX0_fits 71 = .ok (.aload_n 1, 1) := by decide +kernel
theorem dX0_fits_72 : decode cX0_fits 72 = .ok (.getfield 46, 3) := by decide +kernel
theorem dX0_fits_75 : decode cX0_fits 75 = .ok (.iload_n 3, 1) := by decide +kernel
theorem dX0_fits_76 : decode cX0_fits 76 = .ok (.iaload, 1) := by decide +kernel
theorem dX0_fits_77 : decode cX0_fits 77 = .ok (.if_icmp .eq 5, 3) := by decide +kernel
theorem dX0_fits_80 : decode cX0_fits 80 = .ok (.iconst 0, 1) := by decide +kernel
theorem dX0_fits_81 : decode cX0_fits 81 = .ok (.ireturn, 1) := by decide +kernel
theorem dX0_fits_82 : decode cX0_fits 82 = .ok (.iinc 3 1, 3) := by decide +kernel
theorem dX0_fits_85 : decode cX0_fits 85 = .ok (.goto (-70), 3) := by decide +kernel
theorem dX0_fits_88 : decode cX0_fits 88 = .ok (.aload_n 0, 1) := by decide +kernel
theorem dX0_fits_89 : decode cX0_fits 89 = .ok (.getfield 33, 3) := by decide +kernel
theorem dX0_fits_92 : decode cX0_fits 92 = .ok (.ifCond .eq 18, 3) := by decide +kernel
theorem dX0_fits_95 : decode cX0_fits 95 = .ok (.aload_n 1, 1) := by decide +kernel
theorem dX0_fits_96 : decode cX0_fits 96 = .ok (.getfield 46, 3) := by decide +kernel
theorem dX0_fits_99 : decode cX0_fits 99 = .ok (.iconst 0, 1) := by decide +kernel
theorem dX0_fits_100 : decode cX0_fits 100 = .ok (.iaload, 1) := by decide +kernel
theorem dX0_fits_101 : decode cX0_fits 101 = .ok (.aload_n 1, 1) := by decide +kernel
theorem dX0_fits_102 : decode cX0_fits 102 = .ok (.getfield 46, 3) := by decide +kernel
theorem dX0_fits_105 : decode cX0_fits 105 = .ok (.iconst 1, 1) := by decide +kernel
theorem dX0_fits_106 : decode cX0_fits 106 = .ok (.iaload, 1) := by decide +kernel
theorem dX0_fits_107 : decode cX0_fits 107 = .ok (.if_icmp .ne 51, 3) := by decide +kernel
theorem dX0_fits_110 : decode cX0_fits 110 = .ok (.aload_n 0, 1) := by decide +kernel
theorem dX0_fits_111 : decode cX0_fits 111 = .ok (.getfield 37, 3) := by decide +kernel
theorem dX0_fits_114 : decode cX0_fits 114 = .ok (.ifCond .eq 18, 3) := by decide +kernel
theorem dX0_fits_117 : decode cX0_fits 117 = .ok (.aload_n 1, 1) := by decide +kernel
theorem dX0_fits_118 : decode cX0_fits 118 = .ok (.getfield 46, 3) := by decide +kernel
theorem dX0_fits_121 : decode cX0_fits 121 = .ok (.iconst 0, 1) := by decide +kernel
theorem dX0_fits_122 : decode cX0_fits 122 = .ok (.iaload, 1) := by decide +kernel
theorem dX0_fits_123 : decode cX0_fits 123 = .ok (.aload_n 1, 1) := by decide +kernel
theorem dX0_fits_124 : decode cX0_fits 124 = .ok (.getfield 46, 3) := by decide +kernel
theorem dX0_fits_127 : decode cX0_fits 127 = .ok (.iconst 2, 1) := by decide +kernel
theorem dX0_fits_128 : decode cX0_fits 128 = .ok (.iaload, 1) := by decide +kernel
theorem dX0_fits_129 : decode cX0_fits 129 = .ok (.if_icmp .ne 29, 3) := by decide +kernel
theorem dX0_fits_132 : decode cX0_fits 132 = .ok (.aload_n 0, 1) := by decide +kernel
theorem dX0_fits_133 : decode cX0_fits 133 = .ok (.getfield 40, 3) := by decide +kernel
theorem dX0_fits_136 : decode cX0_fits 136 = .ok (.ifCond .eq 18, 3) := by decide +kernel
theorem dX0_fits_139 : decode cX0_fits 139 = .ok (.aload_n 1, 1) := by decide +kernel
theorem dX0_fits_140 : decode cX0_fits 140 = .ok (.getfield 46, 3) := by decide +kernel
theorem dX0_fits_143 : decode cX0_fits 143 = .ok (.iconst 1, 1) := by decide +kernel
theorem dX0_fits_144 : decode cX0_fits 144 = .ok (.iaload, 1) := by decide +kernel
theorem dX0_fits_145 : decode cX0_fits 145 = .ok (.aload_n 1, 1) := by decide +kernel
theorem dX0_fits_146 : decode cX0_fits 146 = .ok (.getfield 46, 3) := by decide +kernel
theorem dX0_fits_149 : decode cX0_fits 149 = .ok (.iconst 2, 1) := by decide +kernel
theorem dX0_fits_150 : decode cX0_fits 150 = .ok (.iaload, 1) := by decide +kernel
theorem dX0_fits_151 : decode cX0_fits 151 = .ok (.if_icmp .ne 7, 3) := by decide +kernel
theorem dX0_fits_154 : decode cX0_fits 154 = .ok (.iconst 1, 1) := by decide +kernel
theorem dX0_fits_155 : decode cX0_fits 155 = .ok (.goto 4, 3) := by decide +kernel
theorem dX0_fits_158 : decode cX0_fits 158 = .ok (.iconst 0, 1) := by decide +kernel
theorem dX0_fits_159 : decode cX0_fits 159 = .ok (.ireturn, 1) := by decide +kernel
set_option maxHeartbeats 8000000 in
set_option maxRecDepth 100000 in
/-- Atom.fits: whether a fact fits an atom, by the values that its variables have -/
theorem kX0_fits (l : Launch) (dC : Nat → ClassId) (dI : Nat → Nat → Nat) (sz : Nat) (h0 sg wt h1 vl g : Nat) (cw cv cg : ClassId) (kd e12 e13 e23 nm fk mi td : Int32) (w v vs : Nat → Int32) : Met l yX0_fits wqX0_fits ({ frames := 0, cells := 0, slots := 0, locals := 0 }) (va_Pc [.ref h0, .ref h1, .ref g] (fun U => U.heap.size = sz ∧ va_P (dC, dI) CL [(h0, .inr (0, [.int kd, .ref sg, .ref wt, .int e12, .int e13, .int e23])), (wt, .inl (cw, 3, .inl w)), (h1, .inr (2, [.int nm, .int fk, .ref vl, .int mi, .int td])), (vl, .inl (cv, 3, .inl v)), (g, .inl (cg, 6, .inl vs))] U.heap ∧ va_K (dC, dI) CL [(cw, .int), (cv, .int), (cg, .int)] U ∧ va_D (fun _ => True) [(h0, .inr (0, [.int kd, .ref sg, .ref wt, .int e12, .int e13, .int e23])), (wt, .inl (cw, 3, .inl w)), (h1, .inr (2, [.int nm, .int fk, .ref vl, .int mi, .int td])), (vl, .inl (cv, 3, .inl v)), (g, .inl (cg, 6, .inl vs))])) (va_Qi (fun (r : Int32) (_ : Unit) => r = if fk = kd ∧ lf_want w v vs 0 = v 0 ∧ lf_want w v vs 1 = v 1 ∧ lf_want w v vs 2 = v 2 ∧ (e12 = 0 ∨ v 0 = v 1) ∧ (e13 = 0 ∨ v 0 = v 2) ∧ (e23 = 0 ∨ v 1 = v 2) then 1 else 0) (fun _ t => va_P (dC, dI) CL [(h0, .inr (0, [.int kd, .ref sg, .ref wt, .int e12, .int e13, .int e23])), (wt, .inl (cw, 3, .inl w)), (h1, .inr (2, [.int nm, .int fk, .ref vl, .int mi, .int td])), (vl, .inl (cv, 3, .inl v)), (g, .inl (cg, 6, .inl vs))] t.heap ∧ va_K (dC, dI) CL [(cw, .int), (cv, .int), (cg, .int)] t ∧ va_D (fun _ => True) [(h0, .inr (0, [.int kd, .ref sg, .ref wt, .int e12, .int e13, .int e23])), (wt, .inl (cw, 3, .inl w)), (h1, .inr (2, [.int nm, .int fk, .ref vl, .int mi, .int td])), (vl, .inl (cv, 3, .inl v)), (g, .inl (cg, 6, .inl vs))]) (fun _ => False)) 0 0 (fun _ => False) := by
  refine Met.ofW (cc := cX0_fits) (maxL := 5) (ret := (some .boolean)) (by decide) rfl ?_
  intro p e s m args below meth c s₁ B hml hv
  obtain ⟨rfl, hsz, hP, hK, hD⟩ := hv
  have hx := B.exec
  have hb := B.bytes
  have hr := B.returns
  have hts := atoms_spec (ws := wqX0_fits) B.pre
  have hown : s.vm.findClass RX0 = some m.cls := findClass_of_methodNamed B.named
  have hlocks := B.notSynchronized
  have hS : va_S (fun _ => False) s.heap s.heap [] := va_S.rf
  have hl := lv_entry ([.ref h0, .ref h1, .ref g]) (n := 5) (Nat.le_of_ble_eq_true rfl)
  rw [lg_entry_eq]
  generalize (lg_sl ([.ref h0, .ref h1, .ref g]) ++ List.replicate (5 - (lg_sl ([.ref h0, .ref h1, .ref g])).length) Slot.unset).toArray = ls at hl ⊢
  have hl : lv_has ls 5 [(0, .ref h0), (1, .ref h1), (2, .ref g)] := hl
  have it3 : ∀ ls : Array Slot, fk = kd → lv_has ls 5 [(3, .int (3)), (0, .ref h0), (1, .ref h1), (2, .ref g)] → lf_want w v vs 0 = v 0 → lf_want w v vs 1 = v 1 → lf_want w v vs 2 = v 2 → W p l e (headSpec wqX0_fits ({ frames := 0, cells := 0, slots := 0, locals := 0 })).room s m #[.ref h0, .ref h1, .ref g] below meth c s.heap [] 0 0 (MQ below (va_Qi (fun (r : Int32) (_ : Unit) => r = if fk = kd ∧ lf_want w v vs 0 = v 0 ∧ lf_want w v vs 1 = v 1 ∧ lf_want w v vs 2 = v 2 ∧ (e12 = 0 ∨ v 0 = v 1) ∧ (e13 = 0 ∨ v 0 = v 2) ∧ (e23 = 0 ∨ v 1 = v 2) then 1 else 0) (fun _ t => va_P (dC, dI) CL [(h0, .inr (0, [.int kd, .ref sg, .ref wt, .int e12, .int e13, .int e23])), (wt, .inl (cw, 3, .inl w)), (h1, .inr (2, [.int nm, .int fk, .ref vl, .int mi, .int td])), (vl, .inl (cv, 3, .inl v)), (g, .inl (cg, 6, .inl vs))] t.heap ∧ va_K (dC, dI) CL [(cw, .int), (cv, .int), (cg, .int)] t ∧ va_D (fun _ => True) [(h0, .inr (0, [.int kd, .ref sg, .ref wt, .int e12, .int e13, .int e23])), (wt, .inl (cw, 3, .inl w)), (h1, .inr (2, [.int nm, .int fk, .ref vl, .int mi, .int td])), (vl, .inl (cv, 3, .inl v)), (g, .inl (cg, 6, .inl vs))]) (fun _ => False)) #[.ref h0, .ref h1, .ref g] s 0 0 (fun _ => False)) (F0 m 15 ls []) := by
    intro ls hk hl a0 a1 a2
    refine lv_iload_n hx hb dX0_fits_15 rfl (lv_at hl 0 rfl) ?_
    refine lv_iconst (v := (3 : Int32)) hx hb dX0_fits_16 (by decide) ?_
    refine lv_icmp_ge hx hb dX0_fits_17 rfl (fun _ => ?_) (fun q => absurd (by decide) q)
    refine lv_aload_n hx hb dX0_fits_88 rfl (lv_at hl 1 rfl) ?_
    refine va_get (D := (dC, dI)) (ci := 0) (v := .int e12) (C := RX0) (T := TX0) (N := 6) hx hb hts (by decide +kernel) hown hK hP 0 rfl rfl 3 (by decide) (hts (.fieldLink RX0 33 "Ruleengine$Atom" "isFirstSecond" "Z") (by decide +kernel)) (fun _ h9 => h9) rfl dX0_fits_89 ?_
    refine lv_if_eq hx hb dX0_fits_92 rfl (fun q2 => ?_) (fun q2 => ?_)
    · refine lv_aload_n hx hb dX0_fits_110 rfl (lv_at hl 1 rfl) ?_
      refine va_get (D := (dC, dI)) (ci := 0) (v := .int e13) (C := RX0) (T := TX0) (N := 6) hx hb hts (by decide +kernel) hown hK hP 0 rfl rfl 4 (by decide) (hts (.fieldLink RX0 37 "Ruleengine$Atom" "isFirstThird" "Z") (by decide +kernel)) (fun _ h9 => h9) rfl dX0_fits_111 ?_
      refine lv_if_eq hx hb dX0_fits_114 rfl (fun q3 => ?_) (fun q3 => ?_)
      · refine lv_aload_n hx hb dX0_fits_132 rfl (lv_at hl 1 rfl) ?_
        refine va_get (D := (dC, dI)) (ci := 0) (v := .int e23) (C := RX0) (T := TX0) (N := 6) hx hb hts (by decide +kernel) hown hK hP 0 rfl rfl 5 (by decide) (hts (.fieldLink RX0 40 "Ruleengine$Atom" "isSecondThird" "Z") (by decide +kernel)) (fun _ h9 => h9) rfl dX0_fits_133 ?_
        refine lv_if_eq hx hb dX0_fits_136 rfl (fun q4 => ?_) (fun q4 => ?_)
        · refine lv_iconst (v := (1 : Int32)) hx hb dX0_fits_154 (by decide) ?_
          refine lv_goto hx hb dX0_fits_155 rfl ?_
          exact W.zret hx hb hr rfl (fun t ht hW => ⟨⟨_, (), rfl, (by first | (rw [if_pos (by simp_all)]; done) | (rw [if_neg (by simp_all)]; done) | simp_all), by rw [ht]; exact hP, va_K.moved hW.alike hK, hD⟩, hS.F ht⟩) hS.2.2 dX0_fits_159
        · refine lv_aload_n hx hb dX0_fits_139 rfl (lv_at hl 2 rfl) ?_
          refine va_get (D := (dC, dI)) (ci := 2) (v := .ref vl) (C := RX2) (T := TX2) (N := 5) hx hb hts (by decide +kernel) hown hK hP 2 rfl rfl 2 (by decide) (hts (.fieldLink RX0 46 "Ruleengine$Fact" "value" "[I") (by decide +kernel)) (fun _ h9 => h9) rfl dX0_fits_140 ?_
          refine lv_iconst (v := (1 : Int32)) hx hb dX0_fits_143 (by decide) ?_
          refine va_iald (i := (1)) hx hb hK hP 3 1 rfl rfl (by unfold vp_in; decide) dX0_fits_144 ?_
          refine W.eq (g2 := F0 m 145 _ (.int (v 1) :: [])) rfl ?_
          refine lv_aload_n hx hb dX0_fits_145 rfl (lv_at hl 2 rfl) ?_
          refine va_get (D := (dC, dI)) (ci := 2) (v := .ref vl) (C := RX2) (T := TX2) (N := 5) hx hb hts (by decide +kernel) hown hK hP 2 rfl rfl 2 (by decide) (hts (.fieldLink RX0 46 "Ruleengine$Fact" "value" "[I") (by decide +kernel)) (fun _ h9 => h9) rfl dX0_fits_146 ?_
          refine lv_iconst (v := (2 : Int32)) hx hb dX0_fits_149 (by decide) ?_
          refine va_iald (i := (2)) hx hb hK hP 3 1 rfl rfl (by unfold vp_in; decide) dX0_fits_150 ?_
          refine W.eq (g2 := F0 m 151 _ (.int (v 2) :: [.int (v 1)])) rfl ?_
          refine lv_icmp_ne hx hb dX0_fits_151 rfl (fun q5 => ?_) (fun q5 => ?_)
          · refine lv_iconst (v := (0 : Int32)) hx hb dX0_fits_158 (by decide) ?_
            exact W.zret hx hb hr rfl (fun t ht hW => ⟨⟨_, (), rfl, (by first | (rw [if_pos (by simp_all)]; done) | (rw [if_neg (by simp_all)]; done) | simp_all), by rw [ht]; exact hP, va_K.moved hW.alike hK, hD⟩, hS.F ht⟩) hS.2.2 dX0_fits_159
          · refine lv_iconst (v := (1 : Int32)) hx hb dX0_fits_154 (by decide) ?_
            refine lv_goto hx hb dX0_fits_155 rfl ?_
            exact W.zret hx hb hr rfl (fun t ht hW => ⟨⟨_, (), rfl, (by first | (rw [if_pos (by simp_all)]; done) | (rw [if_neg (by simp_all)]; done) | simp_all), by rw [ht]; exact hP, va_K.moved hW.alike hK, hD⟩, hS.F ht⟩) hS.2.2 dX0_fits_159
      · refine lv_aload_n hx hb dX0_fits_117 rfl (lv_at hl 2 rfl) ?_
        refine va_get (D := (dC, dI)) (ci := 2) (v := .ref vl) (C := RX2) (T := TX2) (N := 5) hx hb hts (by decide +kernel) hown hK hP 2 rfl rfl 2 (by decide) (hts (.fieldLink RX0 46 "Ruleengine$Fact" "value" "[I") (by decide +kernel)) (fun _ h9 => h9) rfl dX0_fits_118 ?_
        refine lv_iconst (v := (0 : Int32)) hx hb dX0_fits_121 (by decide) ?_
        refine va_iald (i := (0)) hx hb hK hP 3 1 rfl rfl (by unfold vp_in; decide) dX0_fits_122 ?_
        refine W.eq (g2 := F0 m 123 _ (.int (v 0) :: [])) rfl ?_
        refine lv_aload_n hx hb dX0_fits_123 rfl (lv_at hl 2 rfl) ?_
        refine va_get (D := (dC, dI)) (ci := 2) (v := .ref vl) (C := RX2) (T := TX2) (N := 5) hx hb hts (by decide +kernel) hown hK hP 2 rfl rfl 2 (by decide) (hts (.fieldLink RX0 46 "Ruleengine$Fact" "value" "[I") (by decide +kernel)) (fun _ h9 => h9) rfl dX0_fits_124 ?_
        refine lv_iconst (v := (2 : Int32)) hx hb dX0_fits_127 (by decide) ?_
        refine va_iald (i := (2)) hx hb hK hP 3 1 rfl rfl (by unfold vp_in; decide) dX0_fits_128 ?_
        refine W.eq (g2 := F0 m 129 _ (.int (v 2) :: [.int (v 0)])) rfl ?_
        refine lv_icmp_ne hx hb dX0_fits_129 rfl (fun q6 => ?_) (fun q6 => ?_)
        · refine lv_iconst (v := (0 : Int32)) hx hb dX0_fits_158 (by decide) ?_
          exact W.zret hx hb hr rfl (fun t ht hW => ⟨⟨_, (), rfl, (by first | (rw [if_pos (by simp_all)]; done) | (rw [if_neg (by simp_all)]; done) | simp_all), by rw [ht]; exact hP, va_K.moved hW.alike hK, hD⟩, hS.F ht⟩) hS.2.2 dX0_fits_159
        · refine lv_aload_n hx hb dX0_fits_132 rfl (lv_at hl 1 rfl) ?_
          refine va_get (D := (dC, dI)) (ci := 0) (v := .int e23) (C := RX0) (T := TX0) (N := 6) hx hb hts (by decide +kernel) hown hK hP 0 rfl rfl 5 (by decide) (hts (.fieldLink RX0 40 "Ruleengine$Atom" "isSecondThird" "Z") (by decide +kernel)) (fun _ h9 => h9) rfl dX0_fits_133 ?_
          refine lv_if_eq hx hb dX0_fits_136 rfl (fun q7 => ?_) (fun q7 => ?_)
          · refine lv_iconst (v := (1 : Int32)) hx hb dX0_fits_154 (by decide) ?_
            refine lv_goto hx hb dX0_fits_155 rfl ?_
            exact W.zret hx hb hr rfl (fun t ht hW => ⟨⟨_, (), rfl, (by first | (rw [if_pos (by simp_all)]; done) | (rw [if_neg (by simp_all)]; done) | simp_all), by rw [ht]; exact hP, va_K.moved hW.alike hK, hD⟩, hS.F ht⟩) hS.2.2 dX0_fits_159
          · refine lv_aload_n hx hb dX0_fits_139 rfl (lv_at hl 2 rfl) ?_
            refine va_get (D := (dC, dI)) (ci := 2) (v := .ref vl) (C := RX2) (T := TX2) (N := 5) hx hb hts (by decide +kernel) hown hK hP 2 rfl rfl 2 (by decide) (hts (.fieldLink RX0 46 "Ruleengine$Fact" "value" "[I") (by decide +kernel)) (fun _ h9 => h9) rfl dX0_fits_140 ?_
            refine lv_iconst (v := (1 : Int32)) hx hb dX0_fits_143 (by decide) ?_
            refine va_iald (i := (1)) hx hb hK hP 3 1 rfl rfl (by unfold vp_in; decide) dX0_fits_144 ?_
            refine W.eq (g2 := F0 m 145 _ (.int (v 1) :: [])) rfl ?_
            refine lv_aload_n hx hb dX0_fits_145 rfl (lv_at hl 2 rfl) ?_
            refine va_get (D := (dC, dI)) (ci := 2) (v := .ref vl) (C := RX2) (T := TX2) (N := 5) hx hb hts (by decide +kernel) hown hK hP 2 rfl rfl 2 (by decide) (hts (.fieldLink RX0 46 "Ruleengine$Fact" "value" "[I") (by decide +kernel)) (fun _ h9 => h9) rfl dX0_fits_146 ?_
            refine lv_iconst (v := (2 : Int32)) hx hb dX0_fits_149 (by decide) ?_
            refine va_iald (i := (2)) hx hb hK hP 3 1 rfl rfl (by unfold vp_in; decide) dX0_fits_150 ?_
            refine W.eq (g2 := F0 m 151 _ (.int (v 2) :: [.int (v 1)])) rfl ?_
            refine lv_icmp_ne hx hb dX0_fits_151 rfl (fun q8 => ?_) (fun q8 => ?_)
            · refine lv_iconst (v := (0 : Int32)) hx hb dX0_fits_158 (by decide) ?_
              exact W.zret hx hb hr rfl (fun t ht hW => ⟨⟨_, (), rfl, (by first | (rw [if_pos (by simp_all)]; done) | (rw [if_neg (by simp_all)]; done) | simp_all), by rw [ht]; exact hP, va_K.moved hW.alike hK, hD⟩, hS.F ht⟩) hS.2.2 dX0_fits_159
            · refine lv_iconst (v := (1 : Int32)) hx hb dX0_fits_154 (by decide) ?_
              refine lv_goto hx hb dX0_fits_155 rfl ?_
              exact W.zret hx hb hr rfl (fun t ht hW => ⟨⟨_, (), rfl, (by first | (rw [if_pos (by simp_all)]; done) | (rw [if_neg (by simp_all)]; done) | simp_all), by rw [ht]; exact hP, va_K.moved hW.alike hK, hD⟩, hS.F ht⟩) hS.2.2 dX0_fits_159
    · refine lv_aload_n hx hb dX0_fits_95 rfl (lv_at hl 2 rfl) ?_
      refine va_get (D := (dC, dI)) (ci := 2) (v := .ref vl) (C := RX2) (T := TX2) (N := 5) hx hb hts (by decide +kernel) hown hK hP 2 rfl rfl 2 (by decide) (hts (.fieldLink RX0 46 "Ruleengine$Fact" "value" "[I") (by decide +kernel)) (fun _ h9 => h9) rfl dX0_fits_96 ?_
      refine lv_iconst (v := (0 : Int32)) hx hb dX0_fits_99 (by decide) ?_
      refine va_iald (i := (0)) hx hb hK hP 3 1 rfl rfl (by unfold vp_in; decide) dX0_fits_100 ?_
      refine W.eq (g2 := F0 m 101 _ (.int (v 0) :: [])) rfl ?_
      refine lv_aload_n hx hb dX0_fits_101 rfl (lv_at hl 2 rfl) ?_
      refine va_get (D := (dC, dI)) (ci := 2) (v := .ref vl) (C := RX2) (T := TX2) (N := 5) hx hb hts (by decide +kernel) hown hK hP 2 rfl rfl 2 (by decide) (hts (.fieldLink RX0 46 "Ruleengine$Fact" "value" "[I") (by decide +kernel)) (fun _ h9 => h9) rfl dX0_fits_102 ?_
      refine lv_iconst (v := (1 : Int32)) hx hb dX0_fits_105 (by decide) ?_
      refine va_iald (i := (1)) hx hb hK hP 3 1 rfl rfl (by unfold vp_in; decide) dX0_fits_106 ?_
      refine W.eq (g2 := F0 m 107 _ (.int (v 1) :: [.int (v 0)])) rfl ?_
      refine lv_icmp_ne hx hb dX0_fits_107 rfl (fun q9 => ?_) (fun q9 => ?_)
      · refine lv_iconst (v := (0 : Int32)) hx hb dX0_fits_158 (by decide) ?_
        exact W.zret hx hb hr rfl (fun t ht hW => ⟨⟨_, (), rfl, (by first | (rw [if_pos (by simp_all)]; done) | (rw [if_neg (by simp_all)]; done) | simp_all), by rw [ht]; exact hP, va_K.moved hW.alike hK, hD⟩, hS.F ht⟩) hS.2.2 dX0_fits_159
      · refine lv_aload_n hx hb dX0_fits_110 rfl (lv_at hl 1 rfl) ?_
        refine va_get (D := (dC, dI)) (ci := 0) (v := .int e13) (C := RX0) (T := TX0) (N := 6) hx hb hts (by decide +kernel) hown hK hP 0 rfl rfl 4 (by decide) (hts (.fieldLink RX0 37 "Ruleengine$Atom" "isFirstThird" "Z") (by decide +kernel)) (fun _ h9 => h9) rfl dX0_fits_111 ?_
        refine lv_if_eq hx hb dX0_fits_114 rfl (fun q10 => ?_) (fun q10 => ?_)
        · refine lv_aload_n hx hb dX0_fits_132 rfl (lv_at hl 1 rfl) ?_
          refine va_get (D := (dC, dI)) (ci := 0) (v := .int e23) (C := RX0) (T := TX0) (N := 6) hx hb hts (by decide +kernel) hown hK hP 0 rfl rfl 5 (by decide) (hts (.fieldLink RX0 40 "Ruleengine$Atom" "isSecondThird" "Z") (by decide +kernel)) (fun _ h9 => h9) rfl dX0_fits_133 ?_
          refine lv_if_eq hx hb dX0_fits_136 rfl (fun q11 => ?_) (fun q11 => ?_)
          · refine lv_iconst (v := (1 : Int32)) hx hb dX0_fits_154 (by decide) ?_
            refine lv_goto hx hb dX0_fits_155 rfl ?_
            exact W.zret hx hb hr rfl (fun t ht hW => ⟨⟨_, (), rfl, (by first | (rw [if_pos (by simp_all)]; done) | (rw [if_neg (by simp_all)]; done) | simp_all), by rw [ht]; exact hP, va_K.moved hW.alike hK, hD⟩, hS.F ht⟩) hS.2.2 dX0_fits_159
          · refine lv_aload_n hx hb dX0_fits_139 rfl (lv_at hl 2 rfl) ?_
            refine va_get (D := (dC, dI)) (ci := 2) (v := .ref vl) (C := RX2) (T := TX2) (N := 5) hx hb hts (by decide +kernel) hown hK hP 2 rfl rfl 2 (by decide) (hts (.fieldLink RX0 46 "Ruleengine$Fact" "value" "[I") (by decide +kernel)) (fun _ h9 => h9) rfl dX0_fits_140 ?_
            refine lv_iconst (v := (1 : Int32)) hx hb dX0_fits_143 (by decide) ?_
            refine va_iald (i := (1)) hx hb hK hP 3 1 rfl rfl (by unfold vp_in; decide) dX0_fits_144 ?_
            refine W.eq (g2 := F0 m 145 _ (.int (v 1) :: [])) rfl ?_
            refine lv_aload_n hx hb dX0_fits_145 rfl (lv_at hl 2 rfl) ?_
            refine va_get (D := (dC, dI)) (ci := 2) (v := .ref vl) (C := RX2) (T := TX2) (N := 5) hx hb hts (by decide +kernel) hown hK hP 2 rfl rfl 2 (by decide) (hts (.fieldLink RX0 46 "Ruleengine$Fact" "value" "[I") (by decide +kernel)) (fun _ h9 => h9) rfl dX0_fits_146 ?_
            refine lv_iconst (v := (2 : Int32)) hx hb dX0_fits_149 (by decide) ?_
            refine va_iald (i := (2)) hx hb hK hP 3 1 rfl rfl (by unfold vp_in; decide) dX0_fits_150 ?_
            refine W.eq (g2 := F0 m 151 _ (.int (v 2) :: [.int (v 1)])) rfl ?_
            refine lv_icmp_ne hx hb dX0_fits_151 rfl (fun q12 => ?_) (fun q12 => ?_)
            · refine lv_iconst (v := (0 : Int32)) hx hb dX0_fits_158 (by decide) ?_
              exact W.zret hx hb hr rfl (fun t ht hW => ⟨⟨_, (), rfl, (by first | (rw [if_pos (by simp_all)]; done) | (rw [if_neg (by simp_all)]; done) | simp_all), by rw [ht]; exact hP, va_K.moved hW.alike hK, hD⟩, hS.F ht⟩) hS.2.2 dX0_fits_159
            · refine lv_iconst (v := (1 : Int32)) hx hb dX0_fits_154 (by decide) ?_
              refine lv_goto hx hb dX0_fits_155 rfl ?_
              exact W.zret hx hb hr rfl (fun t ht hW => ⟨⟨_, (), rfl, (by first | (rw [if_pos (by simp_all)]; done) | (rw [if_neg (by simp_all)]; done) | simp_all), by rw [ht]; exact hP, va_K.moved hW.alike hK, hD⟩, hS.F ht⟩) hS.2.2 dX0_fits_159
        · refine lv_aload_n hx hb dX0_fits_117 rfl (lv_at hl 2 rfl) ?_
          refine va_get (D := (dC, dI)) (ci := 2) (v := .ref vl) (C := RX2) (T := TX2) (N := 5) hx hb hts (by decide +kernel) hown hK hP 2 rfl rfl 2 (by decide) (hts (.fieldLink RX0 46 "Ruleengine$Fact" "value" "[I") (by decide +kernel)) (fun _ h9 => h9) rfl dX0_fits_118 ?_
          refine lv_iconst (v := (0 : Int32)) hx hb dX0_fits_121 (by decide) ?_
          refine va_iald (i := (0)) hx hb hK hP 3 1 rfl rfl (by unfold vp_in; decide) dX0_fits_122 ?_
          refine W.eq (g2 := F0 m 123 _ (.int (v 0) :: [])) rfl ?_
          refine lv_aload_n hx hb dX0_fits_123 rfl (lv_at hl 2 rfl) ?_
          refine va_get (D := (dC, dI)) (ci := 2) (v := .ref vl) (C := RX2) (T := TX2) (N := 5) hx hb hts (by decide +kernel) hown hK hP 2 rfl rfl 2 (by decide) (hts (.fieldLink RX0 46 "Ruleengine$Fact" "value" "[I") (by decide +kernel)) (fun _ h9 => h9) rfl dX0_fits_124 ?_
          refine lv_iconst (v := (2 : Int32)) hx hb dX0_fits_127 (by decide) ?_
          refine va_iald (i := (2)) hx hb hK hP 3 1 rfl rfl (by unfold vp_in; decide) dX0_fits_128 ?_
          refine W.eq (g2 := F0 m 129 _ (.int (v 2) :: [.int (v 0)])) rfl ?_
          refine lv_icmp_ne hx hb dX0_fits_129 rfl (fun q13 => ?_) (fun q13 => ?_)
          · refine lv_iconst (v := (0 : Int32)) hx hb dX0_fits_158 (by decide) ?_
            exact W.zret hx hb hr rfl (fun t ht hW => ⟨⟨_, (), rfl, (by first | (rw [if_pos (by simp_all)]; done) | (rw [if_neg (by simp_all)]; done) | simp_all), by rw [ht]; exact hP, va_K.moved hW.alike hK, hD⟩, hS.F ht⟩) hS.2.2 dX0_fits_159
          · refine lv_aload_n hx hb dX0_fits_132 rfl (lv_at hl 1 rfl) ?_
            refine va_get (D := (dC, dI)) (ci := 0) (v := .int e23) (C := RX0) (T := TX0) (N := 6) hx hb hts (by decide +kernel) hown hK hP 0 rfl rfl 5 (by decide) (hts (.fieldLink RX0 40 "Ruleengine$Atom" "isSecondThird" "Z") (by decide +kernel)) (fun _ h9 => h9) rfl dX0_fits_133 ?_
            refine lv_if_eq hx hb dX0_fits_136 rfl (fun q14 => ?_) (fun q14 => ?_)
            · refine lv_iconst (v := (1 : Int32)) hx hb dX0_fits_154 (by decide) ?_
              refine lv_goto hx hb dX0_fits_155 rfl ?_
              exact W.zret hx hb hr rfl (fun t ht hW => ⟨⟨_, (), rfl, (by first | (rw [if_pos (by simp_all)]; done) | (rw [if_neg (by simp_all)]; done) | simp_all), by rw [ht]; exact hP, va_K.moved hW.alike hK, hD⟩, hS.F ht⟩) hS.2.2 dX0_fits_159
            · refine lv_aload_n hx hb dX0_fits_139 rfl (lv_at hl 2 rfl) ?_
              refine va_get (D := (dC, dI)) (ci := 2) (v := .ref vl) (C := RX2) (T := TX2) (N := 5) hx hb hts (by decide +kernel) hown hK hP 2 rfl rfl 2 (by decide) (hts (.fieldLink RX0 46 "Ruleengine$Fact" "value" "[I") (by decide +kernel)) (fun _ h9 => h9) rfl dX0_fits_140 ?_
              refine lv_iconst (v := (1 : Int32)) hx hb dX0_fits_143 (by decide) ?_
              refine va_iald (i := (1)) hx hb hK hP 3 1 rfl rfl (by unfold vp_in; decide) dX0_fits_144 ?_
              refine W.eq (g2 := F0 m 145 _ (.int (v 1) :: [])) rfl ?_
              refine lv_aload_n hx hb dX0_fits_145 rfl (lv_at hl 2 rfl) ?_
              refine va_get (D := (dC, dI)) (ci := 2) (v := .ref vl) (C := RX2) (T := TX2) (N := 5) hx hb hts (by decide +kernel) hown hK hP 2 rfl rfl 2 (by decide) (hts (.fieldLink RX0 46 "Ruleengine$Fact" "value" "[I") (by decide +kernel)) (fun _ h9 => h9) rfl dX0_fits_146 ?_
              refine lv_iconst (v := (2 : Int32)) hx hb dX0_fits_149 (by decide) ?_
              refine va_iald (i := (2)) hx hb hK hP 3 1 rfl rfl (by unfold vp_in; decide) dX0_fits_150 ?_
              refine W.eq (g2 := F0 m 151 _ (.int (v 2) :: [.int (v 1)])) rfl ?_
              refine lv_icmp_ne hx hb dX0_fits_151 rfl (fun q15 => ?_) (fun q15 => ?_)
              · refine lv_iconst (v := (0 : Int32)) hx hb dX0_fits_158 (by decide) ?_
                exact W.zret hx hb hr rfl (fun t ht hW => ⟨⟨_, (), rfl, (by first | (rw [if_pos (by simp_all)]; done) | (rw [if_neg (by simp_all)]; done) | simp_all), by rw [ht]; exact hP, va_K.moved hW.alike hK, hD⟩, hS.F ht⟩) hS.2.2 dX0_fits_159
              · refine lv_iconst (v := (1 : Int32)) hx hb dX0_fits_154 (by decide) ?_
                refine lv_goto hx hb dX0_fits_155 rfl ?_
                exact W.zret hx hb hr rfl (fun t ht hW => ⟨⟨_, (), rfl, (by first | (rw [if_pos (by simp_all)]; done) | (rw [if_neg (by simp_all)]; done) | simp_all), by rw [ht]; exact hP, va_K.moved hW.alike hK, hD⟩, hS.F ht⟩) hS.2.2 dX0_fits_159
  have it2 : ∀ ls : Array Slot, fk = kd → lv_has ls 5 [(3, .int (2)), (0, .ref h0), (1, .ref h1), (2, .ref g)] → lf_want w v vs 0 = v 0 → lf_want w v vs 1 = v 1 → W p l e (headSpec wqX0_fits ({ frames := 0, cells := 0, slots := 0, locals := 0 })).room s m #[.ref h0, .ref h1, .ref g] below meth c s.heap [] 0 0 (MQ below (va_Qi (fun (r : Int32) (_ : Unit) => r = if fk = kd ∧ lf_want w v vs 0 = v 0 ∧ lf_want w v vs 1 = v 1 ∧ lf_want w v vs 2 = v 2 ∧ (e12 = 0 ∨ v 0 = v 1) ∧ (e13 = 0 ∨ v 0 = v 2) ∧ (e23 = 0 ∨ v 1 = v 2) then 1 else 0) (fun _ t => va_P (dC, dI) CL [(h0, .inr (0, [.int kd, .ref sg, .ref wt, .int e12, .int e13, .int e23])), (wt, .inl (cw, 3, .inl w)), (h1, .inr (2, [.int nm, .int fk, .ref vl, .int mi, .int td])), (vl, .inl (cv, 3, .inl v)), (g, .inl (cg, 6, .inl vs))] t.heap ∧ va_K (dC, dI) CL [(cw, .int), (cv, .int), (cg, .int)] t ∧ va_D (fun _ => True) [(h0, .inr (0, [.int kd, .ref sg, .ref wt, .int e12, .int e13, .int e23])), (wt, .inl (cw, 3, .inl w)), (h1, .inr (2, [.int nm, .int fk, .ref vl, .int mi, .int td])), (vl, .inl (cv, 3, .inl v)), (g, .inl (cg, 6, .inl vs))]) (fun _ => False)) #[.ref h0, .ref h1, .ref g] s 0 0 (fun _ => False)) (F0 m 15 ls []) := by
    intro ls hk hl a0 a1
    refine lv_iload_n hx hb dX0_fits_15 rfl (lv_at hl 0 rfl) ?_
    refine lv_iconst (v := (3 : Int32)) hx hb dX0_fits_16 (by decide) ?_
    refine lv_icmp_ge hx hb dX0_fits_17 rfl (fun q => absurd q (by decide)) (fun _ => ?_)
    refine lv_aload_n hx hb dX0_fits_20 rfl (lv_at hl 1 rfl) ?_
    refine va_get (D := (dC, dI)) (ci := 0) (v := .ref wt) (C := RX0) (T := TX0) (N := 6) hx hb hts (by decide +kernel) hown hK hP 0 rfl rfl 2 (by decide) (hts (.fieldLink RX0 15 "Ruleengine$Atom" "want" "[I") (by decide +kernel)) (fun _ h9 => h9) rfl dX0_fits_21 ?_
    refine lv_iload_n hx hb dX0_fits_24 rfl (lv_at hl 0 rfl) ?_
    refine va_iald (i := (2)) hx hb hK hP 1 0 rfl rfl (by unfold vp_in; decide) dX0_fits_25 ?_
    refine W.eq (g2 := F0 m 26 _ (.int (w 2) :: [])) rfl ?_
    refine lv_istore (lv' := [(4, .int (w 2)), (3, .int (2)), (0, .ref h0), (1, .ref h1), (2, .ref g)]) hx hb dX0_fits_26 hl (by decide) rfl (fun ls hl => ?_)
    refine lv_iload hx hb dX0_fits_28 (lv_at hl 0 rfl) ?_
    refine lv_bipush (v := (16 : Int32)) hx hb dX0_fits_30 (by decide) ?_
    refine lv_icmp_lt hx hb dX0_fits_32 rfl (fun q17 => ?_) (fun q17 => ?_)
    · refine lv_iload hx hb dX0_fits_54 (lv_at hl 0 rfl) ?_
      refine lv_bipush (v := (22 : Int32)) hx hb dX0_fits_56 (by decide) ?_
      refine lv_icmp_ne hx hb dX0_fits_58 rfl (fun q18 => ?_) (fun q18 => ?_)
      · refine lv_iload hx hb dX0_fits_69 (lv_at hl 0 rfl) ?_
        refine lv_aload_n hx hb dX0_fits_71 rfl (lv_at hl 3 rfl) ?_
        refine va_get (D := (dC, dI)) (ci := 2) (v := .ref vl) (C := RX2) (T := TX2) (N := 5) hx hb hts (by decide +kernel) hown hK hP 2 rfl rfl 2 (by decide) (hts (.fieldLink RX0 46 "Ruleengine$Fact" "value" "[I") (by decide +kernel)) (fun _ h9 => h9) rfl dX0_fits_72 ?_
        refine lv_iload_n hx hb dX0_fits_75 rfl (lv_at hl 1 rfl) ?_
        refine va_iald (i := (2)) hx hb hK hP 3 1 rfl rfl (by unfold vp_in; decide) dX0_fits_76 ?_
        refine W.eq (g2 := F0 m 77 _ (.int (v 2) :: [.int (w 2)])) rfl ?_
        refine lv_icmp_eq hx hb dX0_fits_77 rfl (fun q19 => ?_) (fun q19 => ?_)
        · refine lv_iinc (v := (3)) (lv' := [(3, .int (3)), (4, .int (w 2)), (0, .ref h0), (1, .ref h1), (2, .ref g)]) hx hb dX0_fits_82 hl (k := 1) rfl (by decide) (by decide) rfl (fun ls hl => ?_)
          refine lv_goto hx hb dX0_fits_85 rfl ?_
          exact it3 ls hk (lv_sub hl [0, 2, 3, 4] rfl) a0 a1 (by first | (rw [lf_want_var (by assumption) (by assumption)]; assumption) | (rw [lf_want_low (by assumption)]; assumption) | (rw [lf_want_blank (by assumption)]) | (rw [lf_want_high (by assumption) (by assumption)]; assumption))
        · refine lv_iconst (v := (0 : Int32)) hx hb dX0_fits_80 (by decide) ?_
          exact W.zret hx hb hr rfl (fun t ht hW => ⟨⟨_, (), rfl, (by rw [if_neg]; rintro ⟨-, b0, b1, b2, -⟩; first | (rw [lf_want_var (by assumption) (by assumption)] at b2; contradiction) | (rw [lf_want_low (by assumption)] at b2; contradiction) | (rw [lf_want_high (by assumption) (by assumption)] at b2; contradiction) | exact absurd rfl (by assumption)), by rw [ht]; exact hP, va_K.moved hW.alike hK, hD⟩, hS.F ht⟩) hS.2.2 dX0_fits_81
      · refine lv_aload_n hx hb dX0_fits_61 rfl (lv_at hl 3 rfl) ?_
        refine va_get (D := (dC, dI)) (ci := 2) (v := .ref vl) (C := RX2) (T := TX2) (N := 5) hx hb hts (by decide +kernel) hown hK hP 2 rfl rfl 2 (by decide) (hts (.fieldLink RX0 46 "Ruleengine$Fact" "value" "[I") (by decide +kernel)) (fun _ h9 => h9) rfl dX0_fits_62 ?_
        refine lv_iload_n hx hb dX0_fits_65 rfl (lv_at hl 1 rfl) ?_
        refine va_iald (i := (2)) hx hb hK hP 3 1 rfl rfl (by unfold vp_in; decide) dX0_fits_66 ?_
        refine W.eq (g2 := F0 m 67 _ (.int (v 2) :: [])) rfl ?_
        refine lv_istore (lv' := [(4, .int (v 2)), (3, .int (2)), (0, .ref h0), (1, .ref h1), (2, .ref g)]) hx hb dX0_fits_67 hl (by decide) rfl (fun ls hl => ?_)
        refine lv_iload hx hb dX0_fits_69 (lv_at hl 0 rfl) ?_
        refine lv_aload_n hx hb dX0_fits_71 rfl (lv_at hl 3 rfl) ?_
        refine va_get (D := (dC, dI)) (ci := 2) (v := .ref vl) (C := RX2) (T := TX2) (N := 5) hx hb hts (by decide +kernel) hown hK hP 2 rfl rfl 2 (by decide) (hts (.fieldLink RX0 46 "Ruleengine$Fact" "value" "[I") (by decide +kernel)) (fun _ h9 => h9) rfl dX0_fits_72 ?_
        refine lv_iload_n hx hb dX0_fits_75 rfl (lv_at hl 1 rfl) ?_
        refine va_iald (i := (2)) hx hb hK hP 3 1 rfl rfl (by unfold vp_in; decide) dX0_fits_76 ?_
        refine W.eq (g2 := F0 m 77 _ (.int (v 2) :: [.int (v 2)])) rfl ?_
        refine lv_icmp_eq hx hb dX0_fits_77 rfl (fun q20 => ?_) (fun q20 => ?_)
        · refine lv_iinc (v := (3)) (lv' := [(3, .int (3)), (4, .int (v 2)), (0, .ref h0), (1, .ref h1), (2, .ref g)]) hx hb dX0_fits_82 hl (k := 1) rfl (by decide) (by decide) rfl (fun ls hl => ?_)
          refine lv_goto hx hb dX0_fits_85 rfl ?_
          exact it3 ls hk (lv_sub hl [0, 2, 3, 4] rfl) a0 a1 (by first | (rw [lf_want_var (by assumption) (by assumption)]; assumption) | (rw [lf_want_low (by assumption)]; assumption) | (rw [lf_want_blank (by assumption)]) | (rw [lf_want_high (by assumption) (by assumption)]; assumption))
        · refine lv_iconst (v := (0 : Int32)) hx hb dX0_fits_80 (by decide) ?_
          exact W.zret hx hb hr rfl (fun t ht hW => ⟨⟨_, (), rfl, (by rw [if_neg]; rintro ⟨-, b0, b1, b2, -⟩; first | (rw [lf_want_var (by assumption) (by assumption)] at b2; contradiction) | (rw [lf_want_low (by assumption)] at b2; contradiction) | (rw [lf_want_high (by assumption) (by assumption)] at b2; contradiction) | exact absurd rfl (by assumption)), by rw [ht]; exact hP, va_K.moved hW.alike hK, hD⟩, hS.F ht⟩) hS.2.2 dX0_fits_81
    · refine lv_iload hx hb dX0_fits_35 (lv_at hl 0 rfl) ?_
      refine lv_bipush (v := (22 : Int32)) hx hb dX0_fits_37 (by decide) ?_
      refine lv_icmp_ge hx hb dX0_fits_39 rfl (fun q21 => ?_) (fun q21 => ?_)
      · refine lv_iload hx hb dX0_fits_54 (lv_at hl 0 rfl) ?_
        refine lv_bipush (v := (22 : Int32)) hx hb dX0_fits_56 (by decide) ?_
        refine lv_icmp_ne hx hb dX0_fits_58 rfl (fun q22 => ?_) (fun q22 => ?_)
        · refine lv_iload hx hb dX0_fits_69 (lv_at hl 0 rfl) ?_
          refine lv_aload_n hx hb dX0_fits_71 rfl (lv_at hl 3 rfl) ?_
          refine va_get (D := (dC, dI)) (ci := 2) (v := .ref vl) (C := RX2) (T := TX2) (N := 5) hx hb hts (by decide +kernel) hown hK hP 2 rfl rfl 2 (by decide) (hts (.fieldLink RX0 46 "Ruleengine$Fact" "value" "[I") (by decide +kernel)) (fun _ h9 => h9) rfl dX0_fits_72 ?_
          refine lv_iload_n hx hb dX0_fits_75 rfl (lv_at hl 1 rfl) ?_
          refine va_iald (i := (2)) hx hb hK hP 3 1 rfl rfl (by unfold vp_in; decide) dX0_fits_76 ?_
          refine W.eq (g2 := F0 m 77 _ (.int (v 2) :: [.int (w 2)])) rfl ?_
          refine lv_icmp_eq hx hb dX0_fits_77 rfl (fun q23 => ?_) (fun q23 => ?_)
          · refine lv_iinc (v := (3)) (lv' := [(3, .int (3)), (4, .int (w 2)), (0, .ref h0), (1, .ref h1), (2, .ref g)]) hx hb dX0_fits_82 hl (k := 1) rfl (by decide) (by decide) rfl (fun ls hl => ?_)
            refine lv_goto hx hb dX0_fits_85 rfl ?_
            exact it3 ls hk (lv_sub hl [0, 2, 3, 4] rfl) a0 a1 (by first | (rw [lf_want_var (by assumption) (by assumption)]; assumption) | (rw [lf_want_low (by assumption)]; assumption) | (rw [lf_want_blank (by assumption)]) | (rw [lf_want_high (by assumption) (by assumption)]; assumption))
          · refine lv_iconst (v := (0 : Int32)) hx hb dX0_fits_80 (by decide) ?_
            exact W.zret hx hb hr rfl (fun t ht hW => ⟨⟨_, (), rfl, (by rw [if_neg]; rintro ⟨-, b0, b1, b2, -⟩; first | (rw [lf_want_var (by assumption) (by assumption)] at b2; contradiction) | (rw [lf_want_low (by assumption)] at b2; contradiction) | (rw [lf_want_high (by assumption) (by assumption)] at b2; contradiction) | exact absurd rfl (by assumption)), by rw [ht]; exact hP, va_K.moved hW.alike hK, hD⟩, hS.F ht⟩) hS.2.2 dX0_fits_81
        · refine lv_aload_n hx hb dX0_fits_61 rfl (lv_at hl 3 rfl) ?_
          refine va_get (D := (dC, dI)) (ci := 2) (v := .ref vl) (C := RX2) (T := TX2) (N := 5) hx hb hts (by decide +kernel) hown hK hP 2 rfl rfl 2 (by decide) (hts (.fieldLink RX0 46 "Ruleengine$Fact" "value" "[I") (by decide +kernel)) (fun _ h9 => h9) rfl dX0_fits_62 ?_
          refine lv_iload_n hx hb dX0_fits_65 rfl (lv_at hl 1 rfl) ?_
          refine va_iald (i := (2)) hx hb hK hP 3 1 rfl rfl (by unfold vp_in; decide) dX0_fits_66 ?_
          refine W.eq (g2 := F0 m 67 _ (.int (v 2) :: [])) rfl ?_
          refine lv_istore (lv' := [(4, .int (v 2)), (3, .int (2)), (0, .ref h0), (1, .ref h1), (2, .ref g)]) hx hb dX0_fits_67 hl (by decide) rfl (fun ls hl => ?_)
          refine lv_iload hx hb dX0_fits_69 (lv_at hl 0 rfl) ?_
          refine lv_aload_n hx hb dX0_fits_71 rfl (lv_at hl 3 rfl) ?_
          refine va_get (D := (dC, dI)) (ci := 2) (v := .ref vl) (C := RX2) (T := TX2) (N := 5) hx hb hts (by decide +kernel) hown hK hP 2 rfl rfl 2 (by decide) (hts (.fieldLink RX0 46 "Ruleengine$Fact" "value" "[I") (by decide +kernel)) (fun _ h9 => h9) rfl dX0_fits_72 ?_
          refine lv_iload_n hx hb dX0_fits_75 rfl (lv_at hl 1 rfl) ?_
          refine va_iald (i := (2)) hx hb hK hP 3 1 rfl rfl (by unfold vp_in; decide) dX0_fits_76 ?_
          refine W.eq (g2 := F0 m 77 _ (.int (v 2) :: [.int (v 2)])) rfl ?_
          refine lv_icmp_eq hx hb dX0_fits_77 rfl (fun q24 => ?_) (fun q24 => ?_)
          · refine lv_iinc (v := (3)) (lv' := [(3, .int (3)), (4, .int (v 2)), (0, .ref h0), (1, .ref h1), (2, .ref g)]) hx hb dX0_fits_82 hl (k := 1) rfl (by decide) (by decide) rfl (fun ls hl => ?_)
            refine lv_goto hx hb dX0_fits_85 rfl ?_
            exact it3 ls hk (lv_sub hl [0, 2, 3, 4] rfl) a0 a1 (by first | (rw [lf_want_var (by assumption) (by assumption)]; assumption) | (rw [lf_want_low (by assumption)]; assumption) | (rw [lf_want_blank (by assumption)]) | (rw [lf_want_high (by assumption) (by assumption)]; assumption))
          · refine lv_iconst (v := (0 : Int32)) hx hb dX0_fits_80 (by decide) ?_
            exact W.zret hx hb hr rfl (fun t ht hW => ⟨⟨_, (), rfl, (by rw [if_neg]; rintro ⟨-, b0, b1, b2, -⟩; first | (rw [lf_want_var (by assumption) (by assumption)] at b2; contradiction) | (rw [lf_want_low (by assumption)] at b2; contradiction) | (rw [lf_want_high (by assumption) (by assumption)] at b2; contradiction) | exact absurd rfl (by assumption)), by rw [ht]; exact hP, va_K.moved hW.alike hK, hD⟩, hS.F ht⟩) hS.2.2 dX0_fits_81
      · refine lv_aload_n hx hb dX0_fits_42 rfl (lv_at hl 4 rfl) ?_
        refine lv_iload hx hb dX0_fits_43 (lv_at hl 0 rfl) ?_
        refine lv_bipush (v := (16 : Int32)) hx hb dX0_fits_45 (by decide) ?_
        refine lv_isub hx hb dX0_fits_47 ?_
        refine va_iald (i := ((w 2) - (16))) hx hb hK hP 4 2 rfl rfl (lf_var (by assumption) (by assumption)) dX0_fits_48 ?_
        refine lv_istore (lv' := [(4, .int (vs (((w 2) - (16))).toNatClampNeg)), (3, .int (2)), (0, .ref h0), (1, .ref h1), (2, .ref g)]) hx hb dX0_fits_49 hl (by decide) rfl (fun ls hl => ?_)
        refine lv_goto hx hb dX0_fits_51 rfl ?_
        refine lv_iload hx hb dX0_fits_69 (lv_at hl 0 rfl) ?_
        refine lv_aload_n hx hb dX0_fits_71 rfl (lv_at hl 3 rfl) ?_
        refine va_get (D := (dC, dI)) (ci := 2) (v := .ref vl) (C := RX2) (T := TX2) (N := 5) hx hb hts (by decide +kernel) hown hK hP 2 rfl rfl 2 (by decide) (hts (.fieldLink RX0 46 "Ruleengine$Fact" "value" "[I") (by decide +kernel)) (fun _ h9 => h9) rfl dX0_fits_72 ?_
        refine lv_iload_n hx hb dX0_fits_75 rfl (lv_at hl 1 rfl) ?_
        refine va_iald (i := (2)) hx hb hK hP 3 1 rfl rfl (by unfold vp_in; decide) dX0_fits_76 ?_
        refine W.eq (g2 := F0 m 77 _ (.int (v 2) :: [.int (vs (((w 2) - (16))).toNatClampNeg)])) rfl ?_
        refine lv_icmp_eq hx hb dX0_fits_77 rfl (fun q25 => ?_) (fun q25 => ?_)
        · refine lv_iinc (v := (3)) (lv' := [(3, .int (3)), (4, .int (vs (((w 2) - (16))).toNatClampNeg)), (0, .ref h0), (1, .ref h1), (2, .ref g)]) hx hb dX0_fits_82 hl (k := 1) rfl (by decide) (by decide) rfl (fun ls hl => ?_)
          refine lv_goto hx hb dX0_fits_85 rfl ?_
          exact it3 ls hk (lv_sub hl [0, 2, 3, 4] rfl) a0 a1 (by first | (rw [lf_want_var (by assumption) (by assumption)]; assumption) | (rw [lf_want_low (by assumption)]; assumption) | (rw [lf_want_blank (by assumption)]) | (rw [lf_want_high (by assumption) (by assumption)]; assumption))
        · refine lv_iconst (v := (0 : Int32)) hx hb dX0_fits_80 (by decide) ?_
          exact W.zret hx hb hr rfl (fun t ht hW => ⟨⟨_, (), rfl, (by rw [if_neg]; rintro ⟨-, b0, b1, b2, -⟩; first | (rw [lf_want_var (by assumption) (by assumption)] at b2; contradiction) | (rw [lf_want_low (by assumption)] at b2; contradiction) | (rw [lf_want_high (by assumption) (by assumption)] at b2; contradiction) | exact absurd rfl (by assumption)), by rw [ht]; exact hP, va_K.moved hW.alike hK, hD⟩, hS.F ht⟩) hS.2.2 dX0_fits_81
  have it1 : ∀ ls : Array Slot, fk = kd → lv_has ls 5 [(3, .int (1)), (0, .ref h0), (1, .ref h1), (2, .ref g)] → lf_want w v vs 0 = v 0 → W p l e (headSpec wqX0_fits ({ frames := 0, cells := 0, slots := 0, locals := 0 })).room s m #[.ref h0, .ref h1, .ref g] below meth c s.heap [] 0 0 (MQ below (va_Qi (fun (r : Int32) (_ : Unit) => r = if fk = kd ∧ lf_want w v vs 0 = v 0 ∧ lf_want w v vs 1 = v 1 ∧ lf_want w v vs 2 = v 2 ∧ (e12 = 0 ∨ v 0 = v 1) ∧ (e13 = 0 ∨ v 0 = v 2) ∧ (e23 = 0 ∨ v 1 = v 2) then 1 else 0) (fun _ t => va_P (dC, dI) CL [(h0, .inr (0, [.int kd, .ref sg, .ref wt, .int e12, .int e13, .int e23])), (wt, .inl (cw, 3, .inl w)), (h1, .inr (2, [.int nm, .int fk, .ref vl, .int mi, .int td])), (vl, .inl (cv, 3, .inl v)), (g, .inl (cg, 6, .inl vs))] t.heap ∧ va_K (dC, dI) CL [(cw, .int), (cv, .int), (cg, .int)] t ∧ va_D (fun _ => True) [(h0, .inr (0, [.int kd, .ref sg, .ref wt, .int e12, .int e13, .int e23])), (wt, .inl (cw, 3, .inl w)), (h1, .inr (2, [.int nm, .int fk, .ref vl, .int mi, .int td])), (vl, .inl (cv, 3, .inl v)), (g, .inl (cg, 6, .inl vs))]) (fun _ => False)) #[.ref h0, .ref h1, .ref g] s 0 0 (fun _ => False)) (F0 m 15 ls []) := by
    intro ls hk hl a0
    refine lv_iload_n hx hb dX0_fits_15 rfl (lv_at hl 0 rfl) ?_
    refine lv_iconst (v := (3 : Int32)) hx hb dX0_fits_16 (by decide) ?_
    refine lv_icmp_ge hx hb dX0_fits_17 rfl (fun q => absurd q (by decide)) (fun _ => ?_)
    refine lv_aload_n hx hb dX0_fits_20 rfl (lv_at hl 1 rfl) ?_
    refine va_get (D := (dC, dI)) (ci := 0) (v := .ref wt) (C := RX0) (T := TX0) (N := 6) hx hb hts (by decide +kernel) hown hK hP 0 rfl rfl 2 (by decide) (hts (.fieldLink RX0 15 "Ruleengine$Atom" "want" "[I") (by decide +kernel)) (fun _ h9 => h9) rfl dX0_fits_21 ?_
    refine lv_iload_n hx hb dX0_fits_24 rfl (lv_at hl 0 rfl) ?_
    refine va_iald (i := (1)) hx hb hK hP 1 0 rfl rfl (by unfold vp_in; decide) dX0_fits_25 ?_
    refine W.eq (g2 := F0 m 26 _ (.int (w 1) :: [])) rfl ?_
    refine lv_istore (lv' := [(4, .int (w 1)), (3, .int (1)), (0, .ref h0), (1, .ref h1), (2, .ref g)]) hx hb dX0_fits_26 hl (by decide) rfl (fun ls hl => ?_)
    refine lv_iload hx hb dX0_fits_28 (lv_at hl 0 rfl) ?_
    refine lv_bipush (v := (16 : Int32)) hx hb dX0_fits_30 (by decide) ?_
    refine lv_icmp_lt hx hb dX0_fits_32 rfl (fun q27 => ?_) (fun q27 => ?_)
    · refine lv_iload hx hb dX0_fits_54 (lv_at hl 0 rfl) ?_
      refine lv_bipush (v := (22 : Int32)) hx hb dX0_fits_56 (by decide) ?_
      refine lv_icmp_ne hx hb dX0_fits_58 rfl (fun q28 => ?_) (fun q28 => ?_)
      · refine lv_iload hx hb dX0_fits_69 (lv_at hl 0 rfl) ?_
        refine lv_aload_n hx hb dX0_fits_71 rfl (lv_at hl 3 rfl) ?_
        refine va_get (D := (dC, dI)) (ci := 2) (v := .ref vl) (C := RX2) (T := TX2) (N := 5) hx hb hts (by decide +kernel) hown hK hP 2 rfl rfl 2 (by decide) (hts (.fieldLink RX0 46 "Ruleengine$Fact" "value" "[I") (by decide +kernel)) (fun _ h9 => h9) rfl dX0_fits_72 ?_
        refine lv_iload_n hx hb dX0_fits_75 rfl (lv_at hl 1 rfl) ?_
        refine va_iald (i := (1)) hx hb hK hP 3 1 rfl rfl (by unfold vp_in; decide) dX0_fits_76 ?_
        refine W.eq (g2 := F0 m 77 _ (.int (v 1) :: [.int (w 1)])) rfl ?_
        refine lv_icmp_eq hx hb dX0_fits_77 rfl (fun q29 => ?_) (fun q29 => ?_)
        · refine lv_iinc (v := (2)) (lv' := [(3, .int (2)), (4, .int (w 1)), (0, .ref h0), (1, .ref h1), (2, .ref g)]) hx hb dX0_fits_82 hl (k := 1) rfl (by decide) (by decide) rfl (fun ls hl => ?_)
          refine lv_goto hx hb dX0_fits_85 rfl ?_
          exact it2 ls hk (lv_sub hl [0, 2, 3, 4] rfl) a0 (by first | (rw [lf_want_var (by assumption) (by assumption)]; assumption) | (rw [lf_want_low (by assumption)]; assumption) | (rw [lf_want_blank (by assumption)]) | (rw [lf_want_high (by assumption) (by assumption)]; assumption))
        · refine lv_iconst (v := (0 : Int32)) hx hb dX0_fits_80 (by decide) ?_
          exact W.zret hx hb hr rfl (fun t ht hW => ⟨⟨_, (), rfl, (by rw [if_neg]; rintro ⟨-, b0, b1, b2, -⟩; first | (rw [lf_want_var (by assumption) (by assumption)] at b1; contradiction) | (rw [lf_want_low (by assumption)] at b1; contradiction) | (rw [lf_want_high (by assumption) (by assumption)] at b1; contradiction) | exact absurd rfl (by assumption)), by rw [ht]; exact hP, va_K.moved hW.alike hK, hD⟩, hS.F ht⟩) hS.2.2 dX0_fits_81
      · refine lv_aload_n hx hb dX0_fits_61 rfl (lv_at hl 3 rfl) ?_
        refine va_get (D := (dC, dI)) (ci := 2) (v := .ref vl) (C := RX2) (T := TX2) (N := 5) hx hb hts (by decide +kernel) hown hK hP 2 rfl rfl 2 (by decide) (hts (.fieldLink RX0 46 "Ruleengine$Fact" "value" "[I") (by decide +kernel)) (fun _ h9 => h9) rfl dX0_fits_62 ?_
        refine lv_iload_n hx hb dX0_fits_65 rfl (lv_at hl 1 rfl) ?_
        refine va_iald (i := (1)) hx hb hK hP 3 1 rfl rfl (by unfold vp_in; decide) dX0_fits_66 ?_
        refine W.eq (g2 := F0 m 67 _ (.int (v 1) :: [])) rfl ?_
        refine lv_istore (lv' := [(4, .int (v 1)), (3, .int (1)), (0, .ref h0), (1, .ref h1), (2, .ref g)]) hx hb dX0_fits_67 hl (by decide) rfl (fun ls hl => ?_)
        refine lv_iload hx hb dX0_fits_69 (lv_at hl 0 rfl) ?_
        refine lv_aload_n hx hb dX0_fits_71 rfl (lv_at hl 3 rfl) ?_
        refine va_get (D := (dC, dI)) (ci := 2) (v := .ref vl) (C := RX2) (T := TX2) (N := 5) hx hb hts (by decide +kernel) hown hK hP 2 rfl rfl 2 (by decide) (hts (.fieldLink RX0 46 "Ruleengine$Fact" "value" "[I") (by decide +kernel)) (fun _ h9 => h9) rfl dX0_fits_72 ?_
        refine lv_iload_n hx hb dX0_fits_75 rfl (lv_at hl 1 rfl) ?_
        refine va_iald (i := (1)) hx hb hK hP 3 1 rfl rfl (by unfold vp_in; decide) dX0_fits_76 ?_
        refine W.eq (g2 := F0 m 77 _ (.int (v 1) :: [.int (v 1)])) rfl ?_
        refine lv_icmp_eq hx hb dX0_fits_77 rfl (fun q30 => ?_) (fun q30 => ?_)
        · refine lv_iinc (v := (2)) (lv' := [(3, .int (2)), (4, .int (v 1)), (0, .ref h0), (1, .ref h1), (2, .ref g)]) hx hb dX0_fits_82 hl (k := 1) rfl (by decide) (by decide) rfl (fun ls hl => ?_)
          refine lv_goto hx hb dX0_fits_85 rfl ?_
          exact it2 ls hk (lv_sub hl [0, 2, 3, 4] rfl) a0 (by first | (rw [lf_want_var (by assumption) (by assumption)]; assumption) | (rw [lf_want_low (by assumption)]; assumption) | (rw [lf_want_blank (by assumption)]) | (rw [lf_want_high (by assumption) (by assumption)]; assumption))
        · refine lv_iconst (v := (0 : Int32)) hx hb dX0_fits_80 (by decide) ?_
          exact W.zret hx hb hr rfl (fun t ht hW => ⟨⟨_, (), rfl, (by rw [if_neg]; rintro ⟨-, b0, b1, b2, -⟩; first | (rw [lf_want_var (by assumption) (by assumption)] at b1; contradiction) | (rw [lf_want_low (by assumption)] at b1; contradiction) | (rw [lf_want_high (by assumption) (by assumption)] at b1; contradiction) | exact absurd rfl (by assumption)), by rw [ht]; exact hP, va_K.moved hW.alike hK, hD⟩, hS.F ht⟩) hS.2.2 dX0_fits_81
    · refine lv_iload hx hb dX0_fits_35 (lv_at hl 0 rfl) ?_
      refine lv_bipush (v := (22 : Int32)) hx hb dX0_fits_37 (by decide) ?_
      refine lv_icmp_ge hx hb dX0_fits_39 rfl (fun q31 => ?_) (fun q31 => ?_)
      · refine lv_iload hx hb dX0_fits_54 (lv_at hl 0 rfl) ?_
        refine lv_bipush (v := (22 : Int32)) hx hb dX0_fits_56 (by decide) ?_
        refine lv_icmp_ne hx hb dX0_fits_58 rfl (fun q32 => ?_) (fun q32 => ?_)
        · refine lv_iload hx hb dX0_fits_69 (lv_at hl 0 rfl) ?_
          refine lv_aload_n hx hb dX0_fits_71 rfl (lv_at hl 3 rfl) ?_
          refine va_get (D := (dC, dI)) (ci := 2) (v := .ref vl) (C := RX2) (T := TX2) (N := 5) hx hb hts (by decide +kernel) hown hK hP 2 rfl rfl 2 (by decide) (hts (.fieldLink RX0 46 "Ruleengine$Fact" "value" "[I") (by decide +kernel)) (fun _ h9 => h9) rfl dX0_fits_72 ?_
          refine lv_iload_n hx hb dX0_fits_75 rfl (lv_at hl 1 rfl) ?_
          refine va_iald (i := (1)) hx hb hK hP 3 1 rfl rfl (by unfold vp_in; decide) dX0_fits_76 ?_
          refine W.eq (g2 := F0 m 77 _ (.int (v 1) :: [.int (w 1)])) rfl ?_
          refine lv_icmp_eq hx hb dX0_fits_77 rfl (fun q33 => ?_) (fun q33 => ?_)
          · refine lv_iinc (v := (2)) (lv' := [(3, .int (2)), (4, .int (w 1)), (0, .ref h0), (1, .ref h1), (2, .ref g)]) hx hb dX0_fits_82 hl (k := 1) rfl (by decide) (by decide) rfl (fun ls hl => ?_)
            refine lv_goto hx hb dX0_fits_85 rfl ?_
            exact it2 ls hk (lv_sub hl [0, 2, 3, 4] rfl) a0 (by first | (rw [lf_want_var (by assumption) (by assumption)]; assumption) | (rw [lf_want_low (by assumption)]; assumption) | (rw [lf_want_blank (by assumption)]) | (rw [lf_want_high (by assumption) (by assumption)]; assumption))
          · refine lv_iconst (v := (0 : Int32)) hx hb dX0_fits_80 (by decide) ?_
            exact W.zret hx hb hr rfl (fun t ht hW => ⟨⟨_, (), rfl, (by rw [if_neg]; rintro ⟨-, b0, b1, b2, -⟩; first | (rw [lf_want_var (by assumption) (by assumption)] at b1; contradiction) | (rw [lf_want_low (by assumption)] at b1; contradiction) | (rw [lf_want_high (by assumption) (by assumption)] at b1; contradiction) | exact absurd rfl (by assumption)), by rw [ht]; exact hP, va_K.moved hW.alike hK, hD⟩, hS.F ht⟩) hS.2.2 dX0_fits_81
        · refine lv_aload_n hx hb dX0_fits_61 rfl (lv_at hl 3 rfl) ?_
          refine va_get (D := (dC, dI)) (ci := 2) (v := .ref vl) (C := RX2) (T := TX2) (N := 5) hx hb hts (by decide +kernel) hown hK hP 2 rfl rfl 2 (by decide) (hts (.fieldLink RX0 46 "Ruleengine$Fact" "value" "[I") (by decide +kernel)) (fun _ h9 => h9) rfl dX0_fits_62 ?_
          refine lv_iload_n hx hb dX0_fits_65 rfl (lv_at hl 1 rfl) ?_
          refine va_iald (i := (1)) hx hb hK hP 3 1 rfl rfl (by unfold vp_in; decide) dX0_fits_66 ?_
          refine W.eq (g2 := F0 m 67 _ (.int (v 1) :: [])) rfl ?_
          refine lv_istore (lv' := [(4, .int (v 1)), (3, .int (1)), (0, .ref h0), (1, .ref h1), (2, .ref g)]) hx hb dX0_fits_67 hl (by decide) rfl (fun ls hl => ?_)
          refine lv_iload hx hb dX0_fits_69 (lv_at hl 0 rfl) ?_
          refine lv_aload_n hx hb dX0_fits_71 rfl (lv_at hl 3 rfl) ?_
          refine va_get (D := (dC, dI)) (ci := 2) (v := .ref vl) (C := RX2) (T := TX2) (N := 5) hx hb hts (by decide +kernel) hown hK hP 2 rfl rfl 2 (by decide) (hts (.fieldLink RX0 46 "Ruleengine$Fact" "value" "[I") (by decide +kernel)) (fun _ h9 => h9) rfl dX0_fits_72 ?_
          refine lv_iload_n hx hb dX0_fits_75 rfl (lv_at hl 1 rfl) ?_
          refine va_iald (i := (1)) hx hb hK hP 3 1 rfl rfl (by unfold vp_in; decide) dX0_fits_76 ?_
          refine W.eq (g2 := F0 m 77 _ (.int (v 1) :: [.int (v 1)])) rfl ?_
          refine lv_icmp_eq hx hb dX0_fits_77 rfl (fun q34 => ?_) (fun q34 => ?_)
          · refine lv_iinc (v := (2)) (lv' := [(3, .int (2)), (4, .int (v 1)), (0, .ref h0), (1, .ref h1), (2, .ref g)]) hx hb dX0_fits_82 hl (k := 1) rfl (by decide) (by decide) rfl (fun ls hl => ?_)
            refine lv_goto hx hb dX0_fits_85 rfl ?_
            exact it2 ls hk (lv_sub hl [0, 2, 3, 4] rfl) a0 (by first | (rw [lf_want_var (by assumption) (by assumption)]; assumption) | (rw [lf_want_low (by assumption)]; assumption) | (rw [lf_want_blank (by assumption)]) | (rw [lf_want_high (by assumption) (by assumption)]; assumption))
          · refine lv_iconst (v := (0 : Int32)) hx hb dX0_fits_80 (by decide) ?_
            exact W.zret hx hb hr rfl (fun t ht hW => ⟨⟨_, (), rfl, (by rw [if_neg]; rintro ⟨-, b0, b1, b2, -⟩; first | (rw [lf_want_var (by assumption) (by assumption)] at b1; contradiction) | (rw [lf_want_low (by assumption)] at b1; contradiction) | (rw [lf_want_high (by assumption) (by assumption)] at b1; contradiction) | exact absurd rfl (by assumption)), by rw [ht]; exact hP, va_K.moved hW.alike hK, hD⟩, hS.F ht⟩) hS.2.2 dX0_fits_81
      · refine lv_aload_n hx hb dX0_fits_42 rfl (lv_at hl 4 rfl) ?_
        refine lv_iload hx hb dX0_fits_43 (lv_at hl 0 rfl) ?_
        refine lv_bipush (v := (16 : Int32)) hx hb dX0_fits_45 (by decide) ?_
        refine lv_isub hx hb dX0_fits_47 ?_
        refine va_iald (i := ((w 1) - (16))) hx hb hK hP 4 2 rfl rfl (lf_var (by assumption) (by assumption)) dX0_fits_48 ?_
        refine lv_istore (lv' := [(4, .int (vs (((w 1) - (16))).toNatClampNeg)), (3, .int (1)), (0, .ref h0), (1, .ref h1), (2, .ref g)]) hx hb dX0_fits_49 hl (by decide) rfl (fun ls hl => ?_)
        refine lv_goto hx hb dX0_fits_51 rfl ?_
        refine lv_iload hx hb dX0_fits_69 (lv_at hl 0 rfl) ?_
        refine lv_aload_n hx hb dX0_fits_71 rfl (lv_at hl 3 rfl) ?_
        refine va_get (D := (dC, dI)) (ci := 2) (v := .ref vl) (C := RX2) (T := TX2) (N := 5) hx hb hts (by decide +kernel) hown hK hP 2 rfl rfl 2 (by decide) (hts (.fieldLink RX0 46 "Ruleengine$Fact" "value" "[I") (by decide +kernel)) (fun _ h9 => h9) rfl dX0_fits_72 ?_
        refine lv_iload_n hx hb dX0_fits_75 rfl (lv_at hl 1 rfl) ?_
        refine va_iald (i := (1)) hx hb hK hP 3 1 rfl rfl (by unfold vp_in; decide) dX0_fits_76 ?_
        refine W.eq (g2 := F0 m 77 _ (.int (v 1) :: [.int (vs (((w 1) - (16))).toNatClampNeg)])) rfl ?_
        refine lv_icmp_eq hx hb dX0_fits_77 rfl (fun q35 => ?_) (fun q35 => ?_)
        · refine lv_iinc (v := (2)) (lv' := [(3, .int (2)), (4, .int (vs (((w 1) - (16))).toNatClampNeg)), (0, .ref h0), (1, .ref h1), (2, .ref g)]) hx hb dX0_fits_82 hl (k := 1) rfl (by decide) (by decide) rfl (fun ls hl => ?_)
          refine lv_goto hx hb dX0_fits_85 rfl ?_
          exact it2 ls hk (lv_sub hl [0, 2, 3, 4] rfl) a0 (by first | (rw [lf_want_var (by assumption) (by assumption)]; assumption) | (rw [lf_want_low (by assumption)]; assumption) | (rw [lf_want_blank (by assumption)]) | (rw [lf_want_high (by assumption) (by assumption)]; assumption))
        · refine lv_iconst (v := (0 : Int32)) hx hb dX0_fits_80 (by decide) ?_
          exact W.zret hx hb hr rfl (fun t ht hW => ⟨⟨_, (), rfl, (by rw [if_neg]; rintro ⟨-, b0, b1, b2, -⟩; first | (rw [lf_want_var (by assumption) (by assumption)] at b1; contradiction) | (rw [lf_want_low (by assumption)] at b1; contradiction) | (rw [lf_want_high (by assumption) (by assumption)] at b1; contradiction) | exact absurd rfl (by assumption)), by rw [ht]; exact hP, va_K.moved hW.alike hK, hD⟩, hS.F ht⟩) hS.2.2 dX0_fits_81
  have it0 : ∀ ls : Array Slot, fk = kd → lv_has ls 5 [(3, .int (0)), (0, .ref h0), (1, .ref h1), (2, .ref g)] → W p l e (headSpec wqX0_fits ({ frames := 0, cells := 0, slots := 0, locals := 0 })).room s m #[.ref h0, .ref h1, .ref g] below meth c s.heap [] 0 0 (MQ below (va_Qi (fun (r : Int32) (_ : Unit) => r = if fk = kd ∧ lf_want w v vs 0 = v 0 ∧ lf_want w v vs 1 = v 1 ∧ lf_want w v vs 2 = v 2 ∧ (e12 = 0 ∨ v 0 = v 1) ∧ (e13 = 0 ∨ v 0 = v 2) ∧ (e23 = 0 ∨ v 1 = v 2) then 1 else 0) (fun _ t => va_P (dC, dI) CL [(h0, .inr (0, [.int kd, .ref sg, .ref wt, .int e12, .int e13, .int e23])), (wt, .inl (cw, 3, .inl w)), (h1, .inr (2, [.int nm, .int fk, .ref vl, .int mi, .int td])), (vl, .inl (cv, 3, .inl v)), (g, .inl (cg, 6, .inl vs))] t.heap ∧ va_K (dC, dI) CL [(cw, .int), (cv, .int), (cg, .int)] t ∧ va_D (fun _ => True) [(h0, .inr (0, [.int kd, .ref sg, .ref wt, .int e12, .int e13, .int e23])), (wt, .inl (cw, 3, .inl w)), (h1, .inr (2, [.int nm, .int fk, .ref vl, .int mi, .int td])), (vl, .inl (cv, 3, .inl v)), (g, .inl (cg, 6, .inl vs))]) (fun _ => False)) #[.ref h0, .ref h1, .ref g] s 0 0 (fun _ => False)) (F0 m 15 ls []) := by
    intro ls hk hl 
    refine lv_iload_n hx hb dX0_fits_15 rfl (lv_at hl 0 rfl) ?_
    refine lv_iconst (v := (3 : Int32)) hx hb dX0_fits_16 (by decide) ?_
    refine lv_icmp_ge hx hb dX0_fits_17 rfl (fun q => absurd q (by decide)) (fun _ => ?_)
    refine lv_aload_n hx hb dX0_fits_20 rfl (lv_at hl 1 rfl) ?_
    refine va_get (D := (dC, dI)) (ci := 0) (v := .ref wt) (C := RX0) (T := TX0) (N := 6) hx hb hts (by decide +kernel) hown hK hP 0 rfl rfl 2 (by decide) (hts (.fieldLink RX0 15 "Ruleengine$Atom" "want" "[I") (by decide +kernel)) (fun _ h9 => h9) rfl dX0_fits_21 ?_
    refine lv_iload_n hx hb dX0_fits_24 rfl (lv_at hl 0 rfl) ?_
    refine va_iald (i := (0)) hx hb hK hP 1 0 rfl rfl (by unfold vp_in; decide) dX0_fits_25 ?_
    refine W.eq (g2 := F0 m 26 _ (.int (w 0) :: [])) rfl ?_
    refine lv_istore (lv' := [(4, .int (w 0)), (3, .int (0)), (0, .ref h0), (1, .ref h1), (2, .ref g)]) hx hb dX0_fits_26 hl (by decide) rfl (fun ls hl => ?_)
    refine lv_iload hx hb dX0_fits_28 (lv_at hl 0 rfl) ?_
    refine lv_bipush (v := (16 : Int32)) hx hb dX0_fits_30 (by decide) ?_
    refine lv_icmp_lt hx hb dX0_fits_32 rfl (fun q37 => ?_) (fun q37 => ?_)
    · refine lv_iload hx hb dX0_fits_54 (lv_at hl 0 rfl) ?_
      refine lv_bipush (v := (22 : Int32)) hx hb dX0_fits_56 (by decide) ?_
      refine lv_icmp_ne hx hb dX0_fits_58 rfl (fun q38 => ?_) (fun q38 => ?_)
      · refine lv_iload hx hb dX0_fits_69 (lv_at hl 0 rfl) ?_
        refine lv_aload_n hx hb dX0_fits_71 rfl (lv_at hl 3 rfl) ?_
        refine va_get (D := (dC, dI)) (ci := 2) (v := .ref vl) (C := RX2) (T := TX2) (N := 5) hx hb hts (by decide +kernel) hown hK hP 2 rfl rfl 2 (by decide) (hts (.fieldLink RX0 46 "Ruleengine$Fact" "value" "[I") (by decide +kernel)) (fun _ h9 => h9) rfl dX0_fits_72 ?_
        refine lv_iload_n hx hb dX0_fits_75 rfl (lv_at hl 1 rfl) ?_
        refine va_iald (i := (0)) hx hb hK hP 3 1 rfl rfl (by unfold vp_in; decide) dX0_fits_76 ?_
        refine W.eq (g2 := F0 m 77 _ (.int (v 0) :: [.int (w 0)])) rfl ?_
        refine lv_icmp_eq hx hb dX0_fits_77 rfl (fun q39 => ?_) (fun q39 => ?_)
        · refine lv_iinc (v := (1)) (lv' := [(3, .int (1)), (4, .int (w 0)), (0, .ref h0), (1, .ref h1), (2, .ref g)]) hx hb dX0_fits_82 hl (k := 1) rfl (by decide) (by decide) rfl (fun ls hl => ?_)
          refine lv_goto hx hb dX0_fits_85 rfl ?_
          exact it1 ls hk (lv_sub hl [0, 2, 3, 4] rfl)  (by first | (rw [lf_want_var (by assumption) (by assumption)]; assumption) | (rw [lf_want_low (by assumption)]; assumption) | (rw [lf_want_blank (by assumption)]) | (rw [lf_want_high (by assumption) (by assumption)]; assumption))
        · refine lv_iconst (v := (0 : Int32)) hx hb dX0_fits_80 (by decide) ?_
          exact W.zret hx hb hr rfl (fun t ht hW => ⟨⟨_, (), rfl, (by rw [if_neg]; rintro ⟨-, b0, b1, b2, -⟩; first | (rw [lf_want_var (by assumption) (by assumption)] at b0; contradiction) | (rw [lf_want_low (by assumption)] at b0; contradiction) | (rw [lf_want_high (by assumption) (by assumption)] at b0; contradiction) | exact absurd rfl (by assumption)), by rw [ht]; exact hP, va_K.moved hW.alike hK, hD⟩, hS.F ht⟩) hS.2.2 dX0_fits_81
      · refine lv_aload_n hx hb dX0_fits_61 rfl (lv_at hl 3 rfl) ?_
        refine va_get (D := (dC, dI)) (ci := 2) (v := .ref vl) (C := RX2) (T := TX2) (N := 5) hx hb hts (by decide +kernel) hown hK hP 2 rfl rfl 2 (by decide) (hts (.fieldLink RX0 46 "Ruleengine$Fact" "value" "[I") (by decide +kernel)) (fun _ h9 => h9) rfl dX0_fits_62 ?_
        refine lv_iload_n hx hb dX0_fits_65 rfl (lv_at hl 1 rfl) ?_
        refine va_iald (i := (0)) hx hb hK hP 3 1 rfl rfl (by unfold vp_in; decide) dX0_fits_66 ?_
        refine W.eq (g2 := F0 m 67 _ (.int (v 0) :: [])) rfl ?_
        refine lv_istore (lv' := [(4, .int (v 0)), (3, .int (0)), (0, .ref h0), (1, .ref h1), (2, .ref g)]) hx hb dX0_fits_67 hl (by decide) rfl (fun ls hl => ?_)
        refine lv_iload hx hb dX0_fits_69 (lv_at hl 0 rfl) ?_
        refine lv_aload_n hx hb dX0_fits_71 rfl (lv_at hl 3 rfl) ?_
        refine va_get (D := (dC, dI)) (ci := 2) (v := .ref vl) (C := RX2) (T := TX2) (N := 5) hx hb hts (by decide +kernel) hown hK hP 2 rfl rfl 2 (by decide) (hts (.fieldLink RX0 46 "Ruleengine$Fact" "value" "[I") (by decide +kernel)) (fun _ h9 => h9) rfl dX0_fits_72 ?_
        refine lv_iload_n hx hb dX0_fits_75 rfl (lv_at hl 1 rfl) ?_
        refine va_iald (i := (0)) hx hb hK hP 3 1 rfl rfl (by unfold vp_in; decide) dX0_fits_76 ?_
        refine W.eq (g2 := F0 m 77 _ (.int (v 0) :: [.int (v 0)])) rfl ?_
        refine lv_icmp_eq hx hb dX0_fits_77 rfl (fun q40 => ?_) (fun q40 => ?_)
        · refine lv_iinc (v := (1)) (lv' := [(3, .int (1)), (4, .int (v 0)), (0, .ref h0), (1, .ref h1), (2, .ref g)]) hx hb dX0_fits_82 hl (k := 1) rfl (by decide) (by decide) rfl (fun ls hl => ?_)
          refine lv_goto hx hb dX0_fits_85 rfl ?_
          exact it1 ls hk (lv_sub hl [0, 2, 3, 4] rfl)  (by first | (rw [lf_want_var (by assumption) (by assumption)]; assumption) | (rw [lf_want_low (by assumption)]; assumption) | (rw [lf_want_blank (by assumption)]) | (rw [lf_want_high (by assumption) (by assumption)]; assumption))
        · refine lv_iconst (v := (0 : Int32)) hx hb dX0_fits_80 (by decide) ?_
          exact W.zret hx hb hr rfl (fun t ht hW => ⟨⟨_, (), rfl, (by rw [if_neg]; rintro ⟨-, b0, b1, b2, -⟩; first | (rw [lf_want_var (by assumption) (by assumption)] at b0; contradiction) | (rw [lf_want_low (by assumption)] at b0; contradiction) | (rw [lf_want_high (by assumption) (by assumption)] at b0; contradiction) | exact absurd rfl (by assumption)), by rw [ht]; exact hP, va_K.moved hW.alike hK, hD⟩, hS.F ht⟩) hS.2.2 dX0_fits_81
    · refine lv_iload hx hb dX0_fits_35 (lv_at hl 0 rfl) ?_
      refine lv_bipush (v := (22 : Int32)) hx hb dX0_fits_37 (by decide) ?_
      refine lv_icmp_ge hx hb dX0_fits_39 rfl (fun q41 => ?_) (fun q41 => ?_)
      · refine lv_iload hx hb dX0_fits_54 (lv_at hl 0 rfl) ?_
        refine lv_bipush (v := (22 : Int32)) hx hb dX0_fits_56 (by decide) ?_
        refine lv_icmp_ne hx hb dX0_fits_58 rfl (fun q42 => ?_) (fun q42 => ?_)
        · refine lv_iload hx hb dX0_fits_69 (lv_at hl 0 rfl) ?_
          refine lv_aload_n hx hb dX0_fits_71 rfl (lv_at hl 3 rfl) ?_
          refine va_get (D := (dC, dI)) (ci := 2) (v := .ref vl) (C := RX2) (T := TX2) (N := 5) hx hb hts (by decide +kernel) hown hK hP 2 rfl rfl 2 (by decide) (hts (.fieldLink RX0 46 "Ruleengine$Fact" "value" "[I") (by decide +kernel)) (fun _ h9 => h9) rfl dX0_fits_72 ?_
          refine lv_iload_n hx hb dX0_fits_75 rfl (lv_at hl 1 rfl) ?_
          refine va_iald (i := (0)) hx hb hK hP 3 1 rfl rfl (by unfold vp_in; decide) dX0_fits_76 ?_
          refine W.eq (g2 := F0 m 77 _ (.int (v 0) :: [.int (w 0)])) rfl ?_
          refine lv_icmp_eq hx hb dX0_fits_77 rfl (fun q43 => ?_) (fun q43 => ?_)
          · refine lv_iinc (v := (1)) (lv' := [(3, .int (1)), (4, .int (w 0)), (0, .ref h0), (1, .ref h1), (2, .ref g)]) hx hb dX0_fits_82 hl (k := 1) rfl (by decide) (by decide) rfl (fun ls hl => ?_)
            refine lv_goto hx hb dX0_fits_85 rfl ?_
            exact it1 ls hk (lv_sub hl [0, 2, 3, 4] rfl)  (by first | (rw [lf_want_var (by assumption) (by assumption)]; assumption) | (rw [lf_want_low (by assumption)]; assumption) | (rw [lf_want_blank (by assumption)]) | (rw [lf_want_high (by assumption) (by assumption)]; assumption))
          · refine lv_iconst (v := (0 : Int32)) hx hb dX0_fits_80 (by decide) ?_
            exact W.zret hx hb hr rfl (fun t ht hW => ⟨⟨_, (), rfl, (by rw [if_neg]; rintro ⟨-, b0, b1, b2, -⟩; first | (rw [lf_want_var (by assumption) (by assumption)] at b0; contradiction) | (rw [lf_want_low (by assumption)] at b0; contradiction) | (rw [lf_want_high (by assumption) (by assumption)] at b0; contradiction) | exact absurd rfl (by assumption)), by rw [ht]; exact hP, va_K.moved hW.alike hK, hD⟩, hS.F ht⟩) hS.2.2 dX0_fits_81
        · refine lv_aload_n hx hb dX0_fits_61 rfl (lv_at hl 3 rfl) ?_
          refine va_get (D := (dC, dI)) (ci := 2) (v := .ref vl) (C := RX2) (T := TX2) (N := 5) hx hb hts (by decide +kernel) hown hK hP 2 rfl rfl 2 (by decide) (hts (.fieldLink RX0 46 "Ruleengine$Fact" "value" "[I") (by decide +kernel)) (fun _ h9 => h9) rfl dX0_fits_62 ?_
          refine lv_iload_n hx hb dX0_fits_65 rfl (lv_at hl 1 rfl) ?_
          refine va_iald (i := (0)) hx hb hK hP 3 1 rfl rfl (by unfold vp_in; decide) dX0_fits_66 ?_
          refine W.eq (g2 := F0 m 67 _ (.int (v 0) :: [])) rfl ?_
          refine lv_istore (lv' := [(4, .int (v 0)), (3, .int (0)), (0, .ref h0), (1, .ref h1), (2, .ref g)]) hx hb dX0_fits_67 hl (by decide) rfl (fun ls hl => ?_)
          refine lv_iload hx hb dX0_fits_69 (lv_at hl 0 rfl) ?_
          refine lv_aload_n hx hb dX0_fits_71 rfl (lv_at hl 3 rfl) ?_
          refine va_get (D := (dC, dI)) (ci := 2) (v := .ref vl) (C := RX2) (T := TX2) (N := 5) hx hb hts (by decide +kernel) hown hK hP 2 rfl rfl 2 (by decide) (hts (.fieldLink RX0 46 "Ruleengine$Fact" "value" "[I") (by decide +kernel)) (fun _ h9 => h9) rfl dX0_fits_72 ?_
          refine lv_iload_n hx hb dX0_fits_75 rfl (lv_at hl 1 rfl) ?_
          refine va_iald (i := (0)) hx hb hK hP 3 1 rfl rfl (by unfold vp_in; decide) dX0_fits_76 ?_
          refine W.eq (g2 := F0 m 77 _ (.int (v 0) :: [.int (v 0)])) rfl ?_
          refine lv_icmp_eq hx hb dX0_fits_77 rfl (fun q44 => ?_) (fun q44 => ?_)
          · refine lv_iinc (v := (1)) (lv' := [(3, .int (1)), (4, .int (v 0)), (0, .ref h0), (1, .ref h1), (2, .ref g)]) hx hb dX0_fits_82 hl (k := 1) rfl (by decide) (by decide) rfl (fun ls hl => ?_)
            refine lv_goto hx hb dX0_fits_85 rfl ?_
            exact it1 ls hk (lv_sub hl [0, 2, 3, 4] rfl)  (by first | (rw [lf_want_var (by assumption) (by assumption)]; assumption) | (rw [lf_want_low (by assumption)]; assumption) | (rw [lf_want_blank (by assumption)]) | (rw [lf_want_high (by assumption) (by assumption)]; assumption))
          · refine lv_iconst (v := (0 : Int32)) hx hb dX0_fits_80 (by decide) ?_
            exact W.zret hx hb hr rfl (fun t ht hW => ⟨⟨_, (), rfl, (by rw [if_neg]; rintro ⟨-, b0, b1, b2, -⟩; first | (rw [lf_want_var (by assumption) (by assumption)] at b0; contradiction) | (rw [lf_want_low (by assumption)] at b0; contradiction) | (rw [lf_want_high (by assumption) (by assumption)] at b0; contradiction) | exact absurd rfl (by assumption)), by rw [ht]; exact hP, va_K.moved hW.alike hK, hD⟩, hS.F ht⟩) hS.2.2 dX0_fits_81
      · refine lv_aload_n hx hb dX0_fits_42 rfl (lv_at hl 4 rfl) ?_
        refine lv_iload hx hb dX0_fits_43 (lv_at hl 0 rfl) ?_
        refine lv_bipush (v := (16 : Int32)) hx hb dX0_fits_45 (by decide) ?_
        refine lv_isub hx hb dX0_fits_47 ?_
        refine va_iald (i := ((w 0) - (16))) hx hb hK hP 4 2 rfl rfl (lf_var (by assumption) (by assumption)) dX0_fits_48 ?_
        refine lv_istore (lv' := [(4, .int (vs (((w 0) - (16))).toNatClampNeg)), (3, .int (0)), (0, .ref h0), (1, .ref h1), (2, .ref g)]) hx hb dX0_fits_49 hl (by decide) rfl (fun ls hl => ?_)
        refine lv_goto hx hb dX0_fits_51 rfl ?_
        refine lv_iload hx hb dX0_fits_69 (lv_at hl 0 rfl) ?_
        refine lv_aload_n hx hb dX0_fits_71 rfl (lv_at hl 3 rfl) ?_
        refine va_get (D := (dC, dI)) (ci := 2) (v := .ref vl) (C := RX2) (T := TX2) (N := 5) hx hb hts (by decide +kernel) hown hK hP 2 rfl rfl 2 (by decide) (hts (.fieldLink RX0 46 "Ruleengine$Fact" "value" "[I") (by decide +kernel)) (fun _ h9 => h9) rfl dX0_fits_72 ?_
        refine lv_iload_n hx hb dX0_fits_75 rfl (lv_at hl 1 rfl) ?_
        refine va_iald (i := (0)) hx hb hK hP 3 1 rfl rfl (by unfold vp_in; decide) dX0_fits_76 ?_
        refine W.eq (g2 := F0 m 77 _ (.int (v 0) :: [.int (vs (((w 0) - (16))).toNatClampNeg)])) rfl ?_
        refine lv_icmp_eq hx hb dX0_fits_77 rfl (fun q45 => ?_) (fun q45 => ?_)
        · refine lv_iinc (v := (1)) (lv' := [(3, .int (1)), (4, .int (vs (((w 0) - (16))).toNatClampNeg)), (0, .ref h0), (1, .ref h1), (2, .ref g)]) hx hb dX0_fits_82 hl (k := 1) rfl (by decide) (by decide) rfl (fun ls hl => ?_)
          refine lv_goto hx hb dX0_fits_85 rfl ?_
          exact it1 ls hk (lv_sub hl [0, 2, 3, 4] rfl)  (by first | (rw [lf_want_var (by assumption) (by assumption)]; assumption) | (rw [lf_want_low (by assumption)]; assumption) | (rw [lf_want_blank (by assumption)]) | (rw [lf_want_high (by assumption) (by assumption)]; assumption))
        · refine lv_iconst (v := (0 : Int32)) hx hb dX0_fits_80 (by decide) ?_
          exact W.zret hx hb hr rfl (fun t ht hW => ⟨⟨_, (), rfl, (by rw [if_neg]; rintro ⟨-, b0, b1, b2, -⟩; first | (rw [lf_want_var (by assumption) (by assumption)] at b0; contradiction) | (rw [lf_want_low (by assumption)] at b0; contradiction) | (rw [lf_want_high (by assumption) (by assumption)] at b0; contradiction) | exact absurd rfl (by assumption)), by rw [ht]; exact hP, va_K.moved hW.alike hK, hD⟩, hS.F ht⟩) hS.2.2 dX0_fits_81
  refine lv_aload_n hx hb dX0_fits_0 rfl (lv_at hl 1 rfl) ?_
  refine va_get (D := (dC, dI)) (ci := 2) (v := .int fk) (C := RX2) (T := TX2) (N := 5) hx hb hts (by decide +kernel) hown hK hP 2 rfl rfl 1 (by decide) (hts (.fieldLink RX0 43 "Ruleengine$Fact" "kind" "I") (by decide +kernel)) (fun _ h9 => h9) rfl dX0_fits_1 ?_
  refine lv_aload_n hx hb dX0_fits_4 rfl (lv_at hl 0 rfl) ?_
  refine va_get (D := (dC, dI)) (ci := 0) (v := .int kd) (C := RX0) (T := TX0) (N := 6) hx hb hts (by decide +kernel) hown hK hP 0 rfl rfl 0 (by decide) (hts (.fieldLink RX0 25 "Ruleengine$Atom" "kind" "I") (by decide +kernel)) (fun _ h9 => h9) rfl dX0_fits_5 ?_
  refine lv_icmp_eq hx hb dX0_fits_8 rfl (fun q46 => ?_) (fun q46 => ?_)
  · refine lv_iconst (v := (0 : Int32)) hx hb dX0_fits_13 (by decide) ?_
    refine lv_istore_n (lv' := [(3, .int (0)), (0, .ref h0), (1, .ref h1), (2, .ref g)]) hx hb dX0_fits_14 rfl hl (by decide) rfl (fun ls hl => ?_)
    exact it0 ls (by assumption) (lv_sub hl [0, 1, 2, 3] rfl)
  · refine lv_iconst (v := (0 : Int32)) hx hb dX0_fits_11 (by decide) ?_
    exact W.zret hx hb hr rfl (fun t ht hW => ⟨⟨_, (), rfl, (by rw [if_neg]; rintro ⟨b, -⟩; contradiction), by rw [ht]; exact hP, va_K.moved hW.alike hK, hD⟩, hS.F ht⟩) hS.2.2 dX0_fits_12
