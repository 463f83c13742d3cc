section
/-! What the printed premise narrow_1_1 asks of a start's table of classes: a class of the name of Throwable's array of stack traces. No start whose table lacks it meets the premise. (No step towards i_vc: it shows why the printed witness doesn't compile.) -/
theorem wz_left {args : Array Value} {s : State} {A B : Cond} (h : (Cond.and A B).before args s = true) : A.before args s = true := by
  rw [Cond.before_and, Bool.and_eq_true] at h
  exact h.1

theorem wz_right {args : Array Value} {s : State} {A B : Cond} (h : (Cond.and A B).before args s = true) : B.before args s = true := by
  rw [Cond.before_and, Bool.and_eq_true] at h
  exact h.2

theorem wz_leaf {args : Array Value} {s : State} (h : narrow_1_1.before args s = true) :
    (Cond.not (Cond.castable "[Ljava/lang/StackTraceElement;" "java/lang/String")).before args s = true :=
  wz_left (wz_left (wz_left (wz_left (wz_left (wz_right (wz_right (wz_right h)))))))

theorem wz_class {args : Array Value} {s : State} (h : narrow_1_1.before args s = true) :
    s.vm.findClass "[Ljava/lang/StackTraceElement;" ≠ none := by
  intro hn
  have h2 := wz_leaf h
  simp [Cond.before, Cond.holds, Cond.value, hn] at h2

theorem wz_table {args : Array Value} {s : State} (hall : ∀ k ∈ s.vm.classes, k.name ≠ "[Ljava/lang/StackTraceElement;") :
    narrow_1_1.before args s = false := by
  refine Bool.eq_false_iff.mpr (fun h => wz_class h ?_)
  unfold Vm.findClass
  rw [Array.findIdx?_eq_none_iff]
  intro k hk
  have h1 : (k.name == "[Ljava/lang/StackTraceElement;") = false := by
    simpa using hall k hk
  simp [h1]

/-! What the frame of the claim allows. -/
theorem wz_room {s : State} {o : Outcome} {t : State} {L : List Loc} (h : Jvm.D.Framed s o t L 601024 7293034) :
    t.heap.size ≤ s.heap.size + 601024 ∧ ((t.heap.toList.drop s.heap.size).map (·.slots.size)).sum ≤ 7293034 :=
  ⟨h.2.2.2.2.1, h.2.2.2.2.2.2.1⟩
end
