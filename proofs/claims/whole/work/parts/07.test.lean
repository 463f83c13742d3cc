/-! Search.outcome, for a search that is a Matches, and a TEST. Printed by wip/gen/mk6.py. -/
/-- what a digit or a variable stands for -/
abbrev lf_worth (vs : Nat → Int32) (x : Int32) : Int32 := if 16 ≤ x ∧ x < 22 then vs (x - 16).toNatClampNeg else x
def wqX8_test : List Cond := .code yX8_outcome cX8_outcome 7 (some .int) :: ([.static yX11_worthOf, .initialized RX11, .fieldLink RX8 43 "Ruleengine$Part" "sort" "I", .fieldLink RX8 74 "Ruleengine$Part" "left" "I", .fieldLink RX8 9 "Ruleengine$Search" "values" "[I", .fieldLink RX8 81 "Ruleengine$Part" "right" "I", .fieldLink RX8 84 "Ruleengine$Part" "relation" "I", .fieldLink RX8 18 "Ruleengine$Search" "state" "LRuleengine$State;", .fieldLink RX8 87 "Ruleengine$State" "fact" "[LRuleengine$Fact;", .fieldLink RX8 60 "Ruleengine$Part" "atom" "LRuleengine$Atom;", .fieldLink RX8 92 "Ruleengine$Fact" "value" "[I", .fieldLink RX8 97 "Ruleengine$Part" "at" "I", .fieldLink RX8 100 "Ruleengine$Fact" "kind" "I", .fieldLink RX8 103 "Ruleengine$Atom" "kind" "I", .fieldLink RX8 104 "Ruleengine$Part" "isNew" "Z"] ++ wqX11_worthOf ++ wsX50 ++ wsX40)
theorem ggt : GoodIn wqX8_test wqX11_worthOf := goodIn_sub (by decide +kernel) (by decide +kernel)
set_option maxHeartbeats 8000000 in
set_option maxRecDepth 100000 in
/-- Search.outcome on a Matches, for a TEST: both sides equal, unequal, or the first less -/
theorem kX8_test (l : Launch) (dC : Nat → ClassId) (dI : Nat → Nat → Nat) (sz : Nat) (h0 h1 ao st g po : Nat) (mr : List Value) (cg : ClassId) (so le ri rl nw fa_ ps ie : Int32) (vs : Nat → Int32) (hso : so = 6) : Met l yX8_outcome wqX8_test ({ frames := 1, cells := 0, slots := 0, locals := 21 }) (va_Pc [.ref h0, .ref h1] (fun U => U.heap.size = sz ∧ va_Nw (.methodLinkNest RX8 77 yX11_worthOf "Ruleengine") U ∧ va_P (dC, dI) CL [(h0, .inr (4, .ref st :: .ref po :: .int ps :: .int ie :: .ref g :: mr)), (h1, .inr (5, [.int so, .ref ao, .int le, .int ri, .int rl, .int nw, .int fa_])), (g, .inl (cg, 6, .inl vs))] U.heap ∧ va_K (dC, dI) CL [(cg, .int)] U ∧ va_D (fun _ => True) [(h0, .inr (4, .ref st :: .ref po :: .int ps :: .int ie :: .ref g :: mr)), (h1, .inr (5, [.int so, .ref ao, .int le, .int ri, .int rl, .int nw, .int fa_])), (g, .inl (cg, 6, .inl vs))])) (va_Qi (fun (r : Int32) (_ : Unit) => r = if (if rl = 30 then lf_worth vs le < lf_worth vs ri else (lf_worth vs le = lf_worth vs ri ↔ rl = 28)) then 0 else -1) (fun _ t => va_P (dC, dI) CL [(h0, .inr (4, .ref st :: .ref po :: .int ps :: .int ie :: .ref g :: mr)), (h1, .inr (5, [.int so, .ref ao, .int le, .int ri, .int rl, .int nw, .int fa_])), (g, .inl (cg, 6, .inl vs))] t.heap ∧ va_K (dC, dI) CL [(cg, .int)] t ∧ va_D (fun _ => True) [(h0, .inr (4, .ref st :: .ref po :: .int ps :: .int ie :: .ref g :: mr)), (h1, .inr (5, [.int so, .ref ao, .int le, .int ri, .int rl, .int nw, .int fa_])), (g, .inl (cg, 6, .inl vs))]) (fun _ => False)) 0 0 (fun _ => False) := by
  refine Met.ofW (cc := cX8_outcome) (maxL := 7) (ret := (some .int)) (by decide) rfl ?_
  intro p e s m args below meth c s₁ B hml hv
  obtain ⟨rfl, hsz, hNw, hP, hK, hD⟩ := hv
  have hx := B.exec
  have hb := B.bytes
  have hr := B.returns
  have hts := atoms_spec (ws := wqX8_test) B.pre
  have hown : s.vm.findClass RX8 = some m.cls := findClass_of_methodNamed B.named
  have hlocks := B.notSynchronized
  have hS : va_S (fun _ => False) s.heap s.heap [] := va_S.rf
  have hl := lv_entry ([.ref h0, .ref h1]) (n := 7) (Nat.le_of_ble_eq_true rfl)
  rw [lg_entry_eq]
  generalize (lg_sl ([.ref h0, .ref h1]) ++ List.replicate (7 - (lg_sl ([.ref h0, .ref h1])).length) Slot.unset).toArray = ls at hl ⊢
  have hl : lv_has ls 7 [(0, .ref h0), (1, .ref h1)] := hl
  refine lv_aload_n hx hb dX8_outcome_0 rfl (lv_at hl 1 rfl) ?_
  refine va_get (D := (dC, dI)) (ci := 5) (v := .int so) (C := RX5) (T := TX5) (N := 7) hx hb hts (by decide +kernel) hown hK hP 1 rfl rfl 0 (by decide) (hts (.fieldLink RX8 43 "Ruleengine$Part" "sort" "I") (by decide +kernel)) (fun _ h9 => h9) rfl dX8_outcome_1 ?_
  refine lv_bipush (v := (6 : Int32)) hx hb dX8_outcome_4 (by decide) ?_
  refine lv_icmp_ne hx hb dX8_outcome_6 rfl (fun q1 => ?_) (fun q1 => ?_)
  · exact absurd hso (by assumption)
  · refine lv_aload_n hx hb dX8_outcome_9 rfl (lv_at hl 1 rfl) ?_
    refine va_get (D := (dC, dI)) (ci := 5) (v := .int le) (C := RX5) (T := TX5) (N := 7) hx hb hts (by decide +kernel) hown hK hP 1 rfl rfl 2 (by decide) (hts (.fieldLink RX8 74 "Ruleengine$Part" "left" "I") (by decide +kernel)) (fun _ h9 => h9) rfl dX8_outcome_10 ?_
    refine lv_aload_n hx hb dX8_outcome_13 rfl (lv_at hl 0 rfl) ?_
    refine va_get (D := (dC, dI)) (ci := 4) (v := .ref g) (C := RX4) (T := TX4) (N := 17) hx hb hts (by decide +kernel) hown hK hP 0 rfl rfl 4 (by decide) (hts (.fieldLink RX8 9 "Ruleengine$Search" "values" "[I") (by decide +kernel)) (fun _ h9 => h9) rfl dX8_outcome_14 ?_
    have hPc := hP.sub (ws' := [(g, .inl (cg, 6, .inl vs))]) [2] rfl
    have hDc := hD.sub (ws' := [(g, .inl (cg, 6, .inl vs))]) [2] (by decide) rfl
    have hKc := hK.sub (tys' := [(cg, .int)]) [0] rfl
    refine va_calli (va_runSN (As := [.int le, .ref g]) (rest := []) ⟨hx, hb, hml, hown, hts⟩ (kX11_worthOf l dC dI s.heap.size g cg le vs) ⟨va_cnB 2 hts ggt rfl rfl rfl hNw (hts (.initialized RX11) (by decide +kernel)) (by decide +kernel) ⟨Nat.le_of_ble_eq_true rfl, Nat.le_of_ble_eq_true rfl⟩, hts (.static yX11_worthOf) (by decide +kernel), trivial⟩ ⟨fun a U g mk q => by obtain ⟨q0, q1, qP, qK, qD⟩ := q; exact ⟨q0, q1, qP, va_K.moved (u := U) (U := U.calling g mk a) (Vm.Alike.refl U.vm) qK, qD⟩, fun U hU hW => ⟨rfl, by rw [hU], by rw [hU]; exact hPc, va_K.moved hW.alike hKc, hDc⟩⟩ rfl rfl hl.1 rfl (lv_room (Nat.le_of_ble_eq_true rfl)) dX8_outcome_17 ⟨Nat.le_of_ble_eq_true rfl, Nat.le_of_ble_eq_true rfl⟩) hS (fun q _ h => h.elim) (fun q h => h.elim) (fun r1 u1 t1 H1 locs1 ht1 hvm1 hw1 hB1 hz1 hk1 hS => ?_)
    have hP : va_P (dC, dI) CL [(h0, .inr (4, .ref st :: .ref po :: .int ps :: .int ie :: .ref g :: mr)), (h1, .inr (5, [.int so, .ref ao, .int le, .int ri, .int rl, .int nw, .int fa_])), (g, .inl (cg, 6, .inl vs))] H1 := hP.kept (fun k x hx => hk1 x.1 ((hP k x hx).lt) (fun h => h))
    have e1 : r1 = lf_worth vs le := hw1
    refine lv_istore_n (lv' := [(2, .int r1), (0, .ref h0), (1, .ref h1)]) hx hb dX8_outcome_20 rfl hl (by decide) rfl (fun ls hl => ?_)
    refine lv_aload_n hx hb dX8_outcome_21 rfl (lv_at hl 2 rfl) ?_
    refine va_get (D := (dC, dI)) (ci := 5) (v := .int ri) (C := RX5) (T := TX5) (N := 7) hx hb hts (by decide +kernel) hown hK hP 1 rfl rfl 3 (by decide) (hts (.fieldLink RX8 81 "Ruleengine$Part" "right" "I") (by decide +kernel)) (fun _ h9 => h9) rfl dX8_outcome_22 ?_
    refine lv_aload_n hx hb dX8_outcome_25 rfl (lv_at hl 1 rfl) ?_
    refine va_get (D := (dC, dI)) (ci := 4) (v := .ref g) (C := RX4) (T := TX4) (N := 17) hx hb hts (by decide +kernel) hown hK hP 0 rfl rfl 4 (by decide) (hts (.fieldLink RX8 9 "Ruleengine$Search" "values" "[I") (by decide +kernel)) (fun _ h9 => h9) rfl dX8_outcome_26 ?_
    have hPc := hP.sub (ws' := [(g, .inl (cg, 6, .inl vs))]) [2] rfl
    have hDc := hD.sub (ws' := [(g, .inl (cg, 6, .inl vs))]) [2] (by decide) rfl
    have hKc := hK.sub (tys' := [(cg, .int)]) [0] rfl
    refine va_calli (va_runSN (As := [.int ri, .ref g]) (rest := []) ⟨hx, hb, hml, hown, hts⟩ (kX11_worthOf l dC dI H1.size g cg ri vs) ⟨va_cnB 2 hts ggt rfl rfl rfl hNw (hts (.initialized RX11) (by decide +kernel)) (by decide +kernel) ⟨Nat.le_of_ble_eq_true rfl, Nat.le_of_ble_eq_true rfl⟩, hts (.static yX11_worthOf) (by decide +kernel), trivial⟩ ⟨fun a U g mk q => by obtain ⟨q0, q1, qP, qK, qD⟩ := q; exact ⟨q0, q1, qP, va_K.moved (u := U) (U := U.calling g mk a) (Vm.Alike.refl U.vm) qK, qD⟩, fun U hU hW => ⟨rfl, by rw [hU], by rw [hU]; exact hPc, va_K.moved hW.alike hKc, hDc⟩⟩ rfl rfl hl.1 rfl (lv_room (Nat.le_of_ble_eq_true rfl)) dX8_outcome_29 ⟨Nat.le_of_ble_eq_true rfl, Nat.le_of_ble_eq_true rfl⟩) hS (fun q _ h => h.elim) (fun q h => h.elim) (fun r2 u2 t2 H2 locs2 ht2 hvm2 hw2 hB2 hz2 hk2 hS => ?_)
    have hP : va_P (dC, dI) CL [(h0, .inr (4, .ref st :: .ref po :: .int ps :: .int ie :: .ref g :: mr)), (h1, .inr (5, [.int so, .ref ao, .int le, .int ri, .int rl, .int nw, .int fa_])), (g, .inl (cg, 6, .inl vs))] H2 := hP.kept (fun k x hx => hk2 x.1 ((hP k x hx).lt) (fun h => h))
    have e2 : r2 = lf_worth vs ri := hw2
    refine lv_istore_n (lv' := [(3, .int r2), (2, .int r1), (0, .ref h0), (1, .ref h1)]) hx hb dX8_outcome_32 rfl hl (by decide) rfl (fun ls hl => ?_)
    refine lv_aload_n hx hb dX8_outcome_33 rfl (lv_at hl 3 rfl) ?_
    refine va_get (D := (dC, dI)) (ci := 5) (v := .int rl) (C := RX5) (T := TX5) (N := 7) hx hb hts (by decide +kernel) hown hK hP 1 rfl rfl 4 (by decide) (hts (.fieldLink RX8 84 "Ruleengine$Part" "relation" "I") (by decide +kernel)) (fun _ h9 => h9) rfl dX8_outcome_34 ?_
    refine lv_bipush (v := (30 : Int32)) hx hb dX8_outcome_37 (by decide) ?_
    refine lv_icmp_ne hx hb dX8_outcome_39 rfl (fun q2 => ?_) (fun q2 => ?_)
    · refine lv_iload_n hx hb dX8_outcome_55 rfl (lv_at hl 1 rfl) ?_
      refine lv_iload_n hx hb dX8_outcome_56 rfl (lv_at hl 0 rfl) ?_
      refine lv_icmp_ne hx hb dX8_outcome_57 rfl (fun q3 => ?_) (fun q3 => ?_)
      · refine lv_iconst (v := (0 : Int32)) hx hb dX8_outcome_64 (by decide) ?_
        refine lv_aload_n hx hb dX8_outcome_65 rfl (lv_at hl 3 rfl) ?_
        refine va_get (D := (dC, dI)) (ci := 5) (v := .int rl) (C := RX5) (T := TX5) (N := 7) hx hb hts (by decide +kernel) hown hK hP 1 rfl rfl 4 (by decide) (hts (.fieldLink RX8 84 "Ruleengine$Part" "relation" "I") (by decide +kernel)) (fun _ h9 => h9) rfl dX8_outcome_66 ?_
        refine lv_bipush (v := (28 : Int32)) hx hb dX8_outcome_69 (by decide) ?_
        refine lv_icmp_ne hx hb dX8_outcome_71 rfl (fun q4 => ?_) (fun q4 => ?_)
        · refine lv_iconst (v := (0 : Int32)) hx hb dX8_outcome_78 (by decide) ?_
          refine lv_icmp_ne hx hb dX8_outcome_79 rfl (fun q => absurd q (by decide)) (fun _ => ?_)
          refine lv_iconst (v := (1 : Int32)) hx hb dX8_outcome_82 (by decide) ?_
          refine lv_goto hx hb dX8_outcome_83 rfl ?_
          refine lv_istore (lv' := [(4, .int (1)), (3, .int r2), (2, .int r1), (0, .ref h0), (1, .ref h1)]) hx hb dX8_outcome_87 hl (by decide) rfl (fun ls hl => ?_)
          refine lv_iload hx hb dX8_outcome_89 (lv_at hl 0 rfl) ?_
          refine lv_if_eq hx hb dX8_outcome_91 rfl (fun q => absurd q (by decide)) (fun _ => ?_)
          refine lv_iconst (v := (0 : Int32)) hx hb dX8_outcome_94 (by decide) ?_
          refine lv_goto hx hb dX8_outcome_95 rfl ?_
          exact W.iret hx hb hr (fun t ht hW => ⟨⟨_, (), rfl, by rw [← e1, ← e2]; clear hw1 hw2 e1 e2; simp_all, by rw [ht]; exact hP, va_K.moved hW.alike hK, hD⟩, hS.F ht⟩) hS.2.2 dX8_outcome_99
        · refine lv_iconst (v := (1 : Int32)) hx hb dX8_outcome_74 (by decide) ?_
          refine lv_goto hx hb dX8_outcome_75 rfl ?_
          refine lv_icmp_ne hx hb dX8_outcome_79 rfl (fun _ => ?_) (fun q => absurd q (by decide))
          refine lv_iconst (v := (0 : Int32)) hx hb dX8_outcome_86 (by decide) ?_
          refine lv_istore (lv' := [(4, .int (0)), (3, .int r2), (2, .int r1), (0, .ref h0), (1, .ref h1)]) hx hb dX8_outcome_87 hl (by decide) rfl (fun ls hl => ?_)
          refine lv_iload hx hb dX8_outcome_89 (lv_at hl 0 rfl) ?_
          refine lv_if_eq hx hb dX8_outcome_91 rfl (fun _ => ?_) (fun q => absurd (by decide) q)
          refine lv_iconst (v := (-1 : Int32)) hx hb dX8_outcome_98 (by decide) ?_
          exact W.iret hx hb hr (fun t ht hW => ⟨⟨_, (), rfl, by rw [← e1, ← e2]; clear hw1 hw2 e1 e2; simp_all, by rw [ht]; exact hP, va_K.moved hW.alike hK, hD⟩, hS.F ht⟩) hS.2.2 dX8_outcome_99
      · refine lv_iconst (v := (1 : Int32)) hx hb dX8_outcome_60 (by decide) ?_
        refine lv_goto hx hb dX8_outcome_61 rfl ?_
        refine lv_aload_n hx hb dX8_outcome_65 rfl (lv_at hl 3 rfl) ?_
        refine va_get (D := (dC, dI)) (ci := 5) (v := .int rl) (C := RX5) (T := TX5) (N := 7) hx hb hts (by decide +kernel) hown hK hP 1 rfl rfl 4 (by decide) (hts (.fieldLink RX8 84 "Ruleengine$Part" "relation" "I") (by decide +kernel)) (fun _ h9 => h9) rfl dX8_outcome_66 ?_
        refine lv_bipush (v := (28 : Int32)) hx hb dX8_outcome_69 (by decide) ?_
        refine lv_icmp_ne hx hb dX8_outcome_71 rfl (fun q9 => ?_) (fun q9 => ?_)
        · refine lv_iconst (v := (0 : Int32)) hx hb dX8_outcome_78 (by decide) ?_
          refine lv_icmp_ne hx hb dX8_outcome_79 rfl (fun _ => ?_) (fun q => absurd q (by decide))
          refine lv_iconst (v := (0 : Int32)) hx hb dX8_outcome_86 (by decide) ?_
          refine lv_istore (lv' := [(4, .int (0)), (3, .int r2), (2, .int r1), (0, .ref h0), (1, .ref h1)]) hx hb dX8_outcome_87 hl (by decide) rfl (fun ls hl => ?_)
          refine lv_iload hx hb dX8_outcome_89 (lv_at hl 0 rfl) ?_
          refine lv_if_eq hx hb dX8_outcome_91 rfl (fun _ => ?_) (fun q => absurd (by decide) q)
          refine lv_iconst (v := (-1 : Int32)) hx hb dX8_outcome_98 (by decide) ?_
          exact W.iret hx hb hr (fun t ht hW => ⟨⟨_, (), rfl, by rw [← e1, ← e2]; clear hw1 hw2 e1 e2; simp_all, by rw [ht]; exact hP, va_K.moved hW.alike hK, hD⟩, hS.F ht⟩) hS.2.2 dX8_outcome_99
        · refine lv_iconst (v := (1 : Int32)) hx hb dX8_outcome_74 (by decide) ?_
          refine lv_goto hx hb dX8_outcome_75 rfl ?_
          refine lv_icmp_ne hx hb dX8_outcome_79 rfl (fun q => absurd q (by decide)) (fun _ => ?_)
          refine lv_iconst (v := (1 : Int32)) hx hb dX8_outcome_82 (by decide) ?_
          refine lv_goto hx hb dX8_outcome_83 rfl ?_
          refine lv_istore (lv' := [(4, .int (1)), (3, .int r2), (2, .int r1), (0, .ref h0), (1, .ref h1)]) hx hb dX8_outcome_87 hl (by decide) rfl (fun ls hl => ?_)
          refine lv_iload hx hb dX8_outcome_89 (lv_at hl 0 rfl) ?_
          refine lv_if_eq hx hb dX8_outcome_91 rfl (fun q => absurd q (by decide)) (fun _ => ?_)
          refine lv_iconst (v := (0 : Int32)) hx hb dX8_outcome_94 (by decide) ?_
          refine lv_goto hx hb dX8_outcome_95 rfl ?_
          exact W.iret hx hb hr (fun t ht hW => ⟨⟨_, (), rfl, by rw [← e1, ← e2]; clear hw1 hw2 e1 e2; simp_all, by rw [ht]; exact hP, va_K.moved hW.alike hK, hD⟩, hS.F ht⟩) hS.2.2 dX8_outcome_99
    · refine lv_iload_n hx hb dX8_outcome_42 rfl (lv_at hl 1 rfl) ?_
      refine lv_iload_n hx hb dX8_outcome_43 rfl (lv_at hl 0 rfl) ?_
      refine lv_icmp_ge hx hb dX8_outcome_44 rfl (fun q14 => ?_) (fun q14 => ?_)
      · refine lv_iconst (v := (0 : Int32)) hx hb dX8_outcome_51 (by decide) ?_
        refine lv_goto hx hb dX8_outcome_52 rfl ?_
        refine lv_istore (lv' := [(4, .int (0)), (3, .int r2), (2, .int r1), (0, .ref h0), (1, .ref h1)]) hx hb dX8_outcome_87 hl (by decide) rfl (fun ls hl => ?_)
        refine lv_iload hx hb dX8_outcome_89 (lv_at hl 0 rfl) ?_
        refine lv_if_eq hx hb dX8_outcome_91 rfl (fun _ => ?_) (fun q => absurd (by decide) q)
        refine lv_iconst (v := (-1 : Int32)) hx hb dX8_outcome_98 (by decide) ?_
        exact W.iret hx hb hr (fun t ht hW => ⟨⟨_, (), rfl, by rw [← e1, ← e2]; clear hw1 hw2 e1 e2; simp_all, by rw [ht]; exact hP, va_K.moved hW.alike hK, hD⟩, hS.F ht⟩) hS.2.2 dX8_outcome_99
      · refine lv_iconst (v := (1 : Int32)) hx hb dX8_outcome_47 (by decide) ?_
        refine lv_goto hx hb dX8_outcome_48 rfl ?_
        refine lv_istore (lv' := [(4, .int (1)), (3, .int r2), (2, .int r1), (0, .ref h0), (1, .ref h1)]) hx hb dX8_outcome_87 hl (by decide) rfl (fun ls hl => ?_)
        refine lv_iload hx hb dX8_outcome_89 (lv_at hl 0 rfl) ?_
        refine lv_if_eq hx hb dX8_outcome_91 rfl (fun q => absurd q (by decide)) (fun _ => ?_)
        refine lv_iconst (v := (0 : Int32)) hx hb dX8_outcome_94 (by decide) ?_
        refine lv_goto hx hb dX8_outcome_95 rfl ?_
        exact W.iret hx hb hr (fun t ht hW => ⟨⟨_, (), rfl, by rw [← e1, ← e2]; clear hw1 hw2 e1 e2; simp_all, by rw [ht]; exact hP, va_K.moved hW.alike hK, hD⟩, hS.F ht⟩) hS.2.2 dX8_outcome_99
