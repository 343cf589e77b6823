/-! GLUE: the law out of one a_J -/
theorem ins_B : Cond.instantiable "PolicyText$Bytes" 3 ∈ aTs := mt1 25 (by decide +kernel) rfl
theorem ins_C : Cond.instantiable "PolicyText$Call" 4 ∈ aTs := mt1 173 (by decide +kernel) rfl
theorem ins_P : Cond.instantiable "PolicyText$Policy" 13 ∈ aTs := mt1 45 (by decide +kernel) rfl
theorem ins_W : Cond.instantiable "PolicyText$Printer" 3 ∈ aTs := mt3 114 (by decide +kernel) rfl
theorem ins_R : Cond.instantiable "PolicyText$Reader" 15 ∈ aTs := mt1 92 (by decide +kernel) rfl
theorem ins_T : Cond.instantiable "PolicyText$Tokens" 6 ∈ aTs := mt1 98 (by decide +kernel) rfl
theorem ins_X : Cond.instantiable "PolicyText" 7 ∈ aTs := mt1 17 (by decide +kernel) rfl
theorem ins_M : Cond.instantiable "PolicyTextModel" 53 ∈ aTs := mt4 87 (by decide +kernel) rfl
abbrev m_law : aM := (x, code, 4, ret)
set_option maxRecDepth 100000 in
theorem js_ex : ∀ j, j < nJ → Cond.exactly (.string (jO j).1 (jO j).2.1) "java/lang/String" ∈ flatC (Jvm.Cond.and given_1 narrow_1) := by decide +kernel
set_option maxRecDepth 100000 in
theorem js_co : ∀ j, j < nJ → Cond.eq (.field (.string (jO j).1 (jO j).2.1) "java/lang/String" "coder" "B") (.int 0) ∈ flatC (Jvm.Cond.and given_1 narrow_1) := by decide +kernel
set_option maxRecDepth 100000 in
theorem js_ar : ∀ j, j < nJ → Cond.arrayOf (.field (.string (jO j).1 (jO j).2.1) "java/lang/String" "value" "[B") .byte ∈ flatC (Jvm.Cond.and given_1 narrow_1) := by decide +kernel
set_option maxRecDepth 100000 in
theorem js_le : ∀ j, j < nJ → Cond.eq (.length (.field (.string (jO j).1 (jO j).2.1) "java/lang/String" "value" "[B")) (.int (Int32.ofNat (jS j).length)) ∈ flatC (Jvm.Cond.and given_1 narrow_1) := by decide +kernel
set_option maxRecDepth 100000 in
theorem js_el : ∀ j, j < nJ → ∀ i, i < (jS j).length → Cond.eq (.elem (.field (.string (jO j).1 (jO j).2.1) "java/lang/String" "value" "[B") (.int (Int32.ofNat i))) (.int (nI ((jS j).getD i 0))) ∈ flatC (Jvm.Cond.and given_1 narrow_1) := by decide +kernel
set_option maxRecDepth 100000 in
theorem js_rf : ∀ j, j < nJ → Cond.stringRef (jO j).1 (jO j).2.1 (jO j).2.2 ∈ tables_1 := by decide +kernel
theorem glue_str {args : Array Value} {s : State} {A : Nat → Prop} (hA : ∀ a : Nat, a < s.heap.size → ¬ A a) (hs : ∀ c ∈ flatC (Jvm.Cond.and given_1 narrow_1), c.before args s = true) (hts : ∀ w ∈ lw_tbl, w.before args s = true) (j : Nat) :
    ∃ q : Nat × Nat, j < nJ → vk_R (jO j).1 (jO j).2.1 (jO j).2.2 q.1 s ∧ va_O "java/lang/String" q.1 A s s.heap ∧ va_OF "java/lang/String" "coder" "B" (.int 0) q.1 A s s.heap ∧ va_OF "java/lang/String" "value" "[B" (.ref q.2) q.1 A s s.heap ∧ va_T .byte q.2 (jS j).length (fun i => .int (nI ((jS j).getD i 0))) A s s.heap := by
  by_cases hj : j < nJ
  · have hl := jS_len hj
    obtain ⟨a, c, cA, kA, q1, q2, q3, q4, q5, q6, -⟩ := Cond.exactly_spec (args := args) (first := s) (o := none) (s := s) (idx := []) (t := .string (jO j).1 (jO j).2.1) (cls := "java/lang/String") (hs _ (js_ex j hj))
    obtain ⟨t, ht, hT⟩ := va_Tof (f := fun i => .int (nI ((jS j).getD i 0))) (A := A) (by omega) (hs _ (js_ar j hj)) (va_eqt (hs _ (js_le j hj))) (fun i hi => va_eqt (hs _ (js_el j hj i hi))) hA
    have q1' : (Term.string (jO j).1 (jO j).2.1).eval #[] s none [] s = some (.ref a) := by
      rw [Term.string_eval_of_vm (args := #[]) rfl] <;> exact q1
    exact ⟨(a, t), fun _ => ⟨⟨va_tabs rfl rfl (hts _ (List.mem_append_right _ (js_rf j hj))), q1'⟩, ⟨cA, q3, q5, by rw [q6]; exact q2, hA a (Array.getElem?_eq_some_iff.mp q3).1⟩, vk_OFof q1 (va_eqt (hs _ (js_co j hj))) hA, vk_OFof q1 ht hA, hT⟩⟩
  · exact ⟨(0, 0), fun h => absurd h hj⟩
