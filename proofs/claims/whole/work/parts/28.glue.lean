/-! GLUE: the law out of one a_J -/
theorem ins_B : Cond.instantiable "PolicyText$Bytes" 3 ∈ aTs := mt1 25 (by decide +kernel) rfl
theorem ins_C : Cond.instantiable "PolicyText$Call" 4 ∈ aTs := mt1 173 (by decide +kernel) rfl
theorem ins_P : Cond.instantiable "PolicyText$Policy" 13 ∈ aTs := mt1 45 (by decide +kernel) rfl
theorem ins_W : Cond.instantiable "PolicyText$Printer" 3 ∈ aTs := mt3 110 (by decide +kernel) rfl
theorem ins_R : Cond.instantiable "PolicyText$Reader" 15 ∈ aTs := mt1 92 (by decide +kernel) rfl
theorem ins_T : Cond.instantiable "PolicyText$Tokens" 6 ∈ aTs := mt1 98 (by decide +kernel) rfl
theorem ins_X : Cond.instantiable "PolicyText" 7 ∈ aTs := mt1 17 (by decide +kernel) rfl
theorem ins_M : Cond.instantiable "PolicyTextModel" 53 ∈ aTs := mt4 86 (by decide +kernel) rfl
abbrev m_law : aM := (x, code, 4, ret)
def jOff : List Nat := [9, 17, 28, 40, 46, 54, 63, 69, 76, 85, 92, 99, 107, 115, 123, 130, 137, 146, 154, 162, 170, 180, 193, 198, 207, 218, 227, 237, 248, 257, 267, 277, 287, 292, 296, 302, 312, 321, 334, 342, 352, 362, 370, 379, 390, 399, 409, 418, 427]
def jExp (j : Nat) : List Cond := [Cond.exactly (.string (jO j).1 (jO j).2.1) "java/lang/String", Cond.eq (.field (.string (jO j).1 (jO j).2.1) "java/lang/String" "coder" "B") (.int 0), Cond.arrayOf (.field (.string (jO j).1 (jO j).2.1) "java/lang/String" "value" "[B") .byte, Cond.eq (.length (.field (.string (jO j).1 (jO j).2.1) "java/lang/String" "value" "[B")) (.int (Int32.ofNat (jS j).length))] ++ (List.range (jS j).length).map (fun i => Cond.eq (.elem (.field (.string (jO j).1 (jO j).2.1) "java/lang/String" "value" "[B") (.int (Int32.ofNat i))) (.int (nI ((jS j).getD i 0))))
def jP (j : Nat) : Prop := ((flatC (Jvm.Cond.and given_1 narrow_1)).drop (jOff.getD j 0)).take (4 + (jS j).length) = jExp j
set_option maxRecDepth 100000 in
theorem js_0 : ((flatC (Jvm.Cond.and given_1 narrow_1)).drop 9).take 8 = jExp 0 := by decide +kernel
set_option maxRecDepth 100000 in
theorem js_1 : ((flatC (Jvm.Cond.and given_1 narrow_1)).drop 17).take 11 = jExp 1 := by decide +kernel
set_option maxRecDepth 100000 in
theorem js_2 : ((flatC (Jvm.Cond.and given_1 narrow_1)).drop 28).take 11 = jExp 2 := by decide +kernel
set_option maxRecDepth 100000 in
theorem js_3 : ((flatC (Jvm.Cond.and given_1 narrow_1)).drop 40).take 6 = jExp 3 := by decide +kernel
set_option maxRecDepth 100000 in
theorem js_4 : ((flatC (Jvm.Cond.and given_1 narrow_1)).drop 46).take 8 = jExp 4 := by decide +kernel
set_option maxRecDepth 100000 in
theorem js_5 : ((flatC (Jvm.Cond.and given_1 narrow_1)).drop 54).take 8 = jExp 5 := by decide +kernel
set_option maxRecDepth 100000 in
theorem js_6 : ((flatC (Jvm.Cond.and given_1 narrow_1)).drop 63).take 6 = jExp 6 := by decide +kernel
set_option maxRecDepth 100000 in
theorem js_7 : ((flatC (Jvm.Cond.and given_1 narrow_1)).drop 69).take 7 = jExp 7 := by decide +kernel
set_option maxRecDepth 100000 in
theorem js_8 : ((flatC (Jvm.Cond.and given_1 narrow_1)).drop 76).take 9 = jExp 8 := by decide +kernel
set_option maxRecDepth 100000 in
theorem js_9 : ((flatC (Jvm.Cond.and given_1 narrow_1)).drop 85).take 7 = jExp 9 := by decide +kernel
set_option maxRecDepth 100000 in
theorem js_10 : ((flatC (Jvm.Cond.and given_1 narrow_1)).drop 92).take 7 = jExp 10 := by decide +kernel
set_option maxRecDepth 100000 in
theorem js_11 : ((flatC (Jvm.Cond.and given_1 narrow_1)).drop 99).take 8 = jExp 11 := by decide +kernel
set_option maxRecDepth 100000 in
theorem js_12 : ((flatC (Jvm.Cond.and given_1 narrow_1)).drop 107).take 8 = jExp 12 := by decide +kernel
set_option maxRecDepth 100000 in
theorem js_13 : ((flatC (Jvm.Cond.and given_1 narrow_1)).drop 115).take 8 = jExp 13 := by decide +kernel
set_option maxRecDepth 100000 in
theorem js_14 : ((flatC (Jvm.Cond.and given_1 narrow_1)).drop 123).take 6 = jExp 14 := by decide +kernel
set_option maxRecDepth 100000 in
theorem js_15 : ((flatC (Jvm.Cond.and given_1 narrow_1)).drop 130).take 6 = jExp 15 := by decide +kernel
set_option maxRecDepth 100000 in
theorem js_16 : ((flatC (Jvm.Cond.and given_1 narrow_1)).drop 137).take 8 = jExp 16 := by decide +kernel
set_option maxRecDepth 100000 in
theorem js_17 : ((flatC (Jvm.Cond.and given_1 narrow_1)).drop 146).take 7 = jExp 17 := by decide +kernel
set_option maxRecDepth 100000 in
theorem js_18 : ((flatC (Jvm.Cond.and given_1 narrow_1)).drop 154).take 7 = jExp 18 := by decide +kernel
set_option maxRecDepth 100000 in
theorem js_19 : ((flatC (Jvm.Cond.and given_1 narrow_1)).drop 162).take 7 = jExp 19 := by decide +kernel
set_option maxRecDepth 100000 in
theorem js_20 : ((flatC (Jvm.Cond.and given_1 narrow_1)).drop 170).take 9 = jExp 20 := by decide +kernel
set_option maxRecDepth 100000 in
theorem js_21 : ((flatC (Jvm.Cond.and given_1 narrow_1)).drop 180).take 13 = jExp 21 := by decide +kernel
set_option maxRecDepth 100000 in
theorem js_22 : ((flatC (Jvm.Cond.and given_1 narrow_1)).drop 193).take 5 = jExp 22 := by decide +kernel
set_option maxRecDepth 100000 in
theorem js_23 : ((flatC (Jvm.Cond.and given_1 narrow_1)).drop 198).take 9 = jExp 23 := by decide +kernel
set_option maxRecDepth 100000 in
theorem js_24 : ((flatC (Jvm.Cond.and given_1 narrow_1)).drop 207).take 11 = jExp 24 := by decide +kernel
set_option maxRecDepth 100000 in
theorem js_25 : ((flatC (Jvm.Cond.and given_1 narrow_1)).drop 218).take 7 = jExp 25 := by decide +kernel
set_option maxRecDepth 100000 in
theorem js_26 : ((flatC (Jvm.Cond.and given_1 narrow_1)).drop 227).take 10 = jExp 26 := by decide +kernel
set_option maxRecDepth 100000 in
theorem js_27 : ((flatC (Jvm.Cond.and given_1 narrow_1)).drop 237).take 11 = jExp 27 := by decide +kernel
set_option maxRecDepth 100000 in
theorem js_28 : ((flatC (Jvm.Cond.and given_1 narrow_1)).drop 248).take 9 = jExp 28 := by decide +kernel
set_option maxRecDepth 100000 in
theorem js_29 : ((flatC (Jvm.Cond.and given_1 narrow_1)).drop 257).take 10 = jExp 29 := by decide +kernel
set_option maxRecDepth 100000 in
theorem js_30 : ((flatC (Jvm.Cond.and given_1 narrow_1)).drop 267).take 10 = jExp 30 := by decide +kernel
set_option maxRecDepth 100000 in
theorem js_31 : ((flatC (Jvm.Cond.and given_1 narrow_1)).drop 277).take 10 = jExp 31 := by decide +kernel
set_option maxRecDepth 100000 in
theorem js_32 : ((flatC (Jvm.Cond.and given_1 narrow_1)).drop 287).take 5 = jExp 32 := by decide +kernel
set_option maxRecDepth 100000 in
theorem js_33 : ((flatC (Jvm.Cond.and given_1 narrow_1)).drop 292).take 4 = jExp 33 := by decide +kernel
set_option maxRecDepth 100000 in
theorem js_34 : ((flatC (Jvm.Cond.and given_1 narrow_1)).drop 296).take 6 = jExp 34 := by decide +kernel
set_option maxRecDepth 100000 in
theorem js_35 : ((flatC (Jvm.Cond.and given_1 narrow_1)).drop 302).take 10 = jExp 35 := by decide +kernel
set_option maxRecDepth 100000 in
theorem js_36 : ((flatC (Jvm.Cond.and given_1 narrow_1)).drop 312).take 9 = jExp 36 := by decide +kernel
set_option maxRecDepth 100000 in
theorem js_37 : ((flatC (Jvm.Cond.and given_1 narrow_1)).drop 321).take 11 = jExp 37 := by decide +kernel
set_option maxRecDepth 100000 in
theorem js_38 : ((flatC (Jvm.Cond.and given_1 narrow_1)).drop 334).take 6 = jExp 38 := by decide +kernel
set_option maxRecDepth 100000 in
theorem js_39 : ((flatC (Jvm.Cond.and given_1 narrow_1)).drop 342).take 8 = jExp 39 := by decide +kernel
set_option maxRecDepth 100000 in
theorem js_40 : ((flatC (Jvm.Cond.and given_1 narrow_1)).drop 352).take 8 = jExp 40 := by decide +kernel
set_option maxRecDepth 100000 in
theorem js_41 : ((flatC (Jvm.Cond.and given_1 narrow_1)).drop 362).take 6 = jExp 41 := by decide +kernel
set_option maxRecDepth 100000 in
theorem js_42 : ((flatC (Jvm.Cond.and given_1 narrow_1)).drop 370).take 7 = jExp 42 := by decide +kernel
set_option maxRecDepth 100000 in
theorem js_43 : ((flatC (Jvm.Cond.and given_1 narrow_1)).drop 379).take 9 = jExp 43 := by decide +kernel
set_option maxRecDepth 100000 in
theorem js_44 : ((flatC (Jvm.Cond.and given_1 narrow_1)).drop 390).take 7 = jExp 44 := by decide +kernel
set_option maxRecDepth 100000 in
theorem js_45 : ((flatC (Jvm.Cond.and given_1 narrow_1)).drop 399).take 7 = jExp 45 := by decide +kernel
set_option maxRecDepth 100000 in
theorem js_46 : ((flatC (Jvm.Cond.and given_1 narrow_1)).drop 409).take 8 = jExp 46 := by decide +kernel
set_option maxRecDepth 100000 in
theorem js_47 : ((flatC (Jvm.Cond.and given_1 narrow_1)).drop 418).take 8 = jExp 47 := by decide +kernel
set_option maxRecDepth 100000 in
theorem js_48 : ((flatC (Jvm.Cond.and given_1 narrow_1)).drop 427).take 8 = jExp 48 := by decide +kernel
theorem js_at {j : Nat} (hj : j < nJ) : jP j := by
  match j, hj with
  | 0, _ => exact js_0
  | 1, _ => exact js_1
  | 2, _ => exact js_2
  | 3, _ => exact js_3
  | 4, _ => exact js_4
  | 5, _ => exact js_5
  | 6, _ => exact js_6
  | 7, _ => exact js_7
  | 8, _ => exact js_8
  | 9, _ => exact js_9
  | 10, _ => exact js_10
  | 11, _ => exact js_11
  | 12, _ => exact js_12
  | 13, _ => exact js_13
  | 14, _ => exact js_14
  | 15, _ => exact js_15
  | 16, _ => exact js_16
  | 17, _ => exact js_17
  | 18, _ => exact js_18
  | 19, _ => exact js_19
  | 20, _ => exact js_20
  | 21, _ => exact js_21
  | 22, _ => exact js_22
  | 23, _ => exact js_23
  | 24, _ => exact js_24
  | 25, _ => exact js_25
  | 26, _ => exact js_26
  | 27, _ => exact js_27
  | 28, _ => exact js_28
  | 29, _ => exact js_29
  | 30, _ => exact js_30
  | 31, _ => exact js_31
  | 32, _ => exact js_32
  | 33, _ => exact js_33
  | 34, _ => exact js_34
  | 35, _ => exact js_35
  | 36, _ => exact js_36
  | 37, _ => exact js_37
  | 38, _ => exact js_38
  | 39, _ => exact js_39
  | 40, _ => exact js_40
  | 41, _ => exact js_41
  | 42, _ => exact js_42
  | 43, _ => exact js_43
  | 44, _ => exact js_44
  | 45, _ => exact js_45
  | 46, _ => exact js_46
  | 47, _ => exact js_47
  | 48, _ => exact js_48
  | n + 49, h => exact absurd h (by show ¬ n + 49 < 49; omega)
theorem js_in {j : Nat} (hj : j < nJ) {w : Cond} (hw : w ∈ jExp j) : w ∈ flatC (Jvm.Cond.and given_1 narrow_1) := by
  rw [← (js_at hj : jP j)] at hw
  exact List.mem_of_mem_drop (List.mem_of_mem_take hw)
theorem js_ex (j : Nat) (hj : j < nJ) : Cond.exactly (.string (jO j).1 (jO j).2.1) "java/lang/String" ∈ flatC (Jvm.Cond.and given_1 narrow_1) := js_in hj (by simp [jExp])
theorem js_co (j : Nat) (hj : j < nJ) : Cond.eq (.field (.string (jO j).1 (jO j).2.1) "java/lang/String" "coder" "B") (.int 0) ∈ flatC (Jvm.Cond.and given_1 narrow_1) := js_in hj (by simp [jExp])
theorem js_ar (j : Nat) (hj : j < nJ) : Cond.arrayOf (.field (.string (jO j).1 (jO j).2.1) "java/lang/String" "value" "[B") .byte ∈ flatC (Jvm.Cond.and given_1 narrow_1) := js_in hj (by simp [jExp])
theorem js_le (j : Nat) (hj : j < nJ) : Cond.eq (.length (.field (.string (jO j).1 (jO j).2.1) "java/lang/String" "value" "[B")) (.int (Int32.ofNat (jS j).length)) ∈ flatC (Jvm.Cond.and given_1 narrow_1) := js_in hj (by simp [jExp])
theorem js_el (j : Nat) (hj : j < nJ) (i : Nat) (hi : i < (jS j).length) : Cond.eq (.elem (.field (.string (jO j).1 (jO j).2.1) "java/lang/String" "value" "[B") (.int (Int32.ofNat i))) (.int (nI ((jS j).getD i 0))) ∈ flatC (Jvm.Cond.and given_1 narrow_1) := js_in hj (List.mem_append_right _ (List.mem_map.mpr ⟨i, List.mem_range.mpr hi, rfl⟩))
set_option maxRecDepth 100000 in
theorem js_rf : ∀ j, j < nJ → Cond.stringRef (jO j).1 (jO j).2.1 (jO j).2.2 ∈ tables_1 := by decide +kernel
theorem glue_str {args : Array Value} {s : State} {A : Nat → Prop} (hA : ∀ a : Nat, a < s.heap.size → ¬ A a) (hs : ∀ c ∈ flatC (Jvm.Cond.and given_1 narrow_1), c.before args s = true) (hts : ∀ w ∈ lw_tbl, w.before args s = true) (j : Nat) :
    ∃ q : Nat × Nat, j < nJ → vk_R (jO j).1 (jO j).2.1 (jO j).2.2 q.1 s ∧ va_O "java/lang/String" q.1 A s s.heap ∧ va_OF "java/lang/String" "coder" "B" (.int 0) q.1 A s s.heap ∧ va_OF "java/lang/String" "value" "[B" (.ref q.2) q.1 A s s.heap ∧ va_T .byte q.2 (jS j).length (fun i => .int (nI ((jS j).getD i 0))) A s s.heap := by
  by_cases hj : j < nJ
  · have hl := jS_len hj
    obtain ⟨a, c, cA, kA, q1, q2, q3, q4, q5, q6, -⟩ := Cond.exactly_spec (args := args) (first := s) (o := none) (s := s) (idx := []) (t := .string (jO j).1 (jO j).2.1) (cls := "java/lang/String") (hs _ (js_ex j hj))
    obtain ⟨t, ht, hT⟩ := va_Tof (f := fun i => .int (nI ((jS j).getD i 0))) (A := A) (by omega) (hs _ (js_ar j hj)) (va_eqt (hs _ (js_le j hj))) (fun i hi => va_eqt (hs _ (js_el j hj i hi))) hA
    exact ⟨(a, t), fun _ => ⟨vk_R.same rfl (vk_R.of (hts _ (List.mem_append_right _ (js_rf j hj))) q1), ⟨cA, q3, q5, by rw [q6]; exact q2, hA a (Array.getElem?_eq_some_iff.mp q3).1⟩, vk_OFof q1 (va_eqt (hs _ (js_co j hj))) hA, vk_OFof q1 ht hA, hT⟩⟩
  · exact ⟨(0, 0), fun h => absurd h hj⟩
