/-! POLICYTEXT's constructor -/
theorem RO.of {σ τ : aS} {r p : Nat} {rf tp gp : Nat → Int32} (h : RO σ r p rf tp gp) (e0 : τ.2.2 r = σ.2.2 r) (e2 : τ.2.2 (r + 2) = σ.2.2 (r + 2)) (e3 : τ.2.2 (r + 3) = σ.2.2 (r + 3)) : RO τ r p rf tp gp := ⟨e0.trans h.1, e2.trans h.2.1, e3.trans h.2.2⟩
section ModX5
variable {G : aG} {σ : aS} {K : Option Value → aS → Prop} {X : Nat}
set_option maxHeartbeats 1000000 in
set_option maxRecDepth 100000 in
theorem sp_X_init (h0 : σ.2.2 X = some (.inr (6, [.null, .null, .null, .null, .null, .null, .null]))) (hn0 : σ.1 = X + 1) (hK : ∀ τ : aS, τ.1 = X + 34 → τ.2.1 = σ.2.1 + 8611 → (∀ a, a < X → τ.2.2 a = σ.2.2 a) → XS τ X 0 (fun _ => 0) 0 (fun _ => 0) (ah ((0, 0, 0), (fun _ => 0), (fun _ _ => 0)) 1 1) (0, 0, 0, 0) 0 (-1) → K none τ) : a_C G m_X_init 3 63 [.ref X] σ K := by
  have hs := h0
  have hn : σ.1 = X + 1 := hn0
  have hu : σ.2.1 = σ.2.1 := rfl
  have hout : ∀ a, a < X → σ.2.2 a = σ.2.2 a := fun _ _ => rfl
  refine a_enter rfl (Nat.le_of_ble_eq_true rfl) ?_
  refine a_aload_n d_X_init_0 rfl rfl ?_
  refine a_objinit d_X_init_1 o_X (Nat.le_of_ble_eq_true rfl) ⟨Nat.le_of_ble_eq_true rfl, Nat.le_of_ble_eq_true rfl⟩ ?_
  refine a_aload_n d_X_init_4 rfl rfl ?_
  refine a_newC d_X_init_5 n_X_7 (fun t1 n1 u1 c1 o1 => ?_)
  rw [hn] at c1 o1 ⊢
  have hs := (o1 X (by omega)).trans hs
  have hu : t1.2.1 = _ := u1.trans (congrArg (· + 3) hu)
  have hn : t1.1 = _ := n1.trans (congrArg (· + 1) hn)
  have hout : ∀ a, a < X → t1.2.2 a = σ.2.2 a := fun a ha => (o1 a (by omega)).trans (hout a ha)
  refine a_dup d_X_init_8 rfl ?_
  refine a_sipush (v := 4096) d_X_init_9 (by decide) ?_
  refine a_callI 1 21 [_] _ d_X_init_12 l_X_11 im_B_init rfl rfl rfl (Nat.le_of_ble_eq_true rfl) ⟨Nat.le_of_ble_eq_true rfl, Nat.le_of_ble_eq_true rfl⟩ ?_
  refine sp_B_init (b := X + 1) (cap := 4096) c1 (by omega) (by decide) (fun t2 n2 u2 p2 hB1 => ?_)
  have o2 : ∀ a, a ≠ X + 1 ∧ a ≠ X + 1 + 1 → t2.2.2 a = t1.2.2 a := fun a ha => p2 a (by omega) (by omega)
  have hs := (o2 X (by omega)).trans hs
  have hu : t2.2.1 = _ := u2.trans (congrArg (· + 513) hu)
  have hn : t2.1 = _ := n2.trans (congrArg (· + 1) hn)
  have hout : ∀ a, a < X → t2.2.2 a = σ.2.2 a := fun a ha => (o2 a (by omega)).trans (hout a ha)
  refine a_putC (fs' := [.ref (X + 1), .null, .null, .null, .null, .null, .null]) d_X_init_15 (Or.inr ⟨p_X_14, rfl⟩) hs rfl rfl rfl (Nat.le_of_ble_eq_true rfl) (fun t3 n3 u3 hs3 o3 => ?_)
  have hs := hs3
  have hn : t3.1 = _ := n3.trans hn
  have hu : t3.2.1 = _ := u3.trans hu
  have hout : ∀ a, a < X → t3.2.2 a = σ.2.2 a := fun a ha => (o3 a (by omega)).trans (hout a ha)
  have hB1 := hB1.of (τ := t3) (o3 (X + 1) (by omega)) (o3 (X + 1 + 1) (by omega))
  refine a_aload_n d_X_init_18 rfl rfl ?_
  refine a_newC d_X_init_19 n_X_7 (fun t4 n4 u4 c4 o4 => ?_)
  rw [hn] at c4 o4 ⊢
  have hs := (o4 X (by omega)).trans hs
  have hu : t4.2.1 = _ := u4.trans (congrArg (· + 3) hu)
  have hn : t4.1 = _ := n4.trans (congrArg (· + 1) hn)
  have hout : ∀ a, a < X → t4.2.2 a = σ.2.2 a := fun a ha => (o4 a (by omega)).trans (hout a ha)
  have hB1 := hB1.of (τ := t4) (o4 (X + 1) (by omega)) (o4 (X + 1 + 1) (by omega))
  refine a_dup d_X_init_22 rfl ?_
  refine a_sipush (v := 8192) d_X_init_23 (by decide) ?_
  refine a_callI 1 21 [_] _ d_X_init_26 l_X_11 im_B_init rfl rfl rfl (Nat.le_of_ble_eq_true rfl) ⟨Nat.le_of_ble_eq_true rfl, Nat.le_of_ble_eq_true rfl⟩ ?_
  refine sp_B_init (b := X + 3) (cap := 8192) c4 (by omega) (by decide) (fun t5 n5 u5 p5 hB3 => ?_)
  have o5 : ∀ a, a ≠ X + 3 ∧ a ≠ X + 3 + 1 → t5.2.2 a = t4.2.2 a := fun a ha => p5 a (by omega) (by omega)
  have hs := (o5 X (by omega)).trans hs
  have hu : t5.2.1 = _ := u5.trans (congrArg (· + 1025) hu)
  have hn : t5.1 = _ := n5.trans (congrArg (· + 1) hn)
  have hout : ∀ a, a < X → t5.2.2 a = σ.2.2 a := fun a ha => (o5 a (by omega)).trans (hout a ha)
  have hB1 := hB1.of (τ := t5) (o5 (X + 1) (by omega)) (o5 (X + 1 + 1) (by omega))
  refine a_putC (fs' := [.ref (X + 1), .null, .null, .ref (X + 3), .null, .null, .null]) d_X_init_29 (Or.inl p_X_18) hs rfl rfl rfl (Nat.le_of_ble_eq_true rfl) (fun t6 n6 u6 hs6 o6 => ?_)
  have hs := hs6
  have hn : t6.1 = _ := n6.trans hn
  have hu : t6.2.1 = _ := u6.trans hu
  have hout : ∀ a, a < X → t6.2.2 a = σ.2.2 a := fun a ha => (o6 a (by omega)).trans (hout a ha)
  have hB1 := hB1.of (τ := t6) (o6 (X + 1) (by omega)) (o6 (X + 1 + 1) (by omega))
  have hB3 := hB3.of (τ := t6) (o6 (X + 3) (by omega)) (o6 (X + 3 + 1) (by omega))
  refine a_aload_n d_X_init_32 rfl rfl ?_
  refine a_newC d_X_init_33 n_X_7 (fun t7 n7 u7 c7 o7 => ?_)
  rw [hn] at c7 o7 ⊢
  have hs := (o7 X (by omega)).trans hs
  have hu : t7.2.1 = _ := u7.trans (congrArg (· + 3) hu)
  have hn : t7.1 = _ := n7.trans (congrArg (· + 1) hn)
  have hout : ∀ a, a < X → t7.2.2 a = σ.2.2 a := fun a ha => (o7 a (by omega)).trans (hout a ha)
  have hB1 := hB1.of (τ := t7) (o7 (X + 1) (by omega)) (o7 (X + 1 + 1) (by omega))
  have hB3 := hB3.of (τ := t7) (o7 (X + 3) (by omega)) (o7 (X + 3 + 1) (by omega))
  refine a_dup d_X_init_36 rfl ?_
  refine a_sipush (v := 8192) d_X_init_37 (by decide) ?_
  refine a_callI 1 21 [_] _ d_X_init_40 l_X_11 im_B_init rfl rfl rfl (Nat.le_of_ble_eq_true rfl) ⟨Nat.le_of_ble_eq_true rfl, Nat.le_of_ble_eq_true rfl⟩ ?_
  refine sp_B_init (b := X + 5) (cap := 8192) c7 (by omega) (by decide) (fun t8 n8 u8 p8 hB5 => ?_)
  have o8 : ∀ a, a ≠ X + 5 ∧ a ≠ X + 5 + 1 → t8.2.2 a = t7.2.2 a := fun a ha => p8 a (by omega) (by omega)
  have hs := (o8 X (by omega)).trans hs
  have hu : t8.2.1 = _ := u8.trans (congrArg (· + 1025) hu)
  have hn : t8.1 = _ := n8.trans (congrArg (· + 1) hn)
  have hout : ∀ a, a < X → t8.2.2 a = σ.2.2 a := fun a ha => (o8 a (by omega)).trans (hout a ha)
  have hB1 := hB1.of (τ := t8) (o8 (X + 1) (by omega)) (o8 (X + 1 + 1) (by omega))
  have hB3 := hB3.of (τ := t8) (o8 (X + 3) (by omega)) (o8 (X + 3 + 1) (by omega))
  refine a_putC (fs' := [.ref (X + 1), .null, .null, .ref (X + 3), .ref (X + 5), .null, .null]) d_X_init_43 (Or.inl p_X_21) hs rfl rfl rfl (Nat.le_of_ble_eq_true rfl) (fun t9 n9 u9 hs9 o9 => ?_)
  have hs := hs9
  have hn : t9.1 = _ := n9.trans hn
  have hu : t9.2.1 = _ := u9.trans hu
  have hout : ∀ a, a < X → t9.2.2 a = σ.2.2 a := fun a ha => (o9 a (by omega)).trans (hout a ha)
  have hB1 := hB1.of (τ := t9) (o9 (X + 1) (by omega)) (o9 (X + 1 + 1) (by omega))
  have hB3 := hB3.of (τ := t9) (o9 (X + 3) (by omega)) (o9 (X + 3 + 1) (by omega))
  have hB5 := hB5.of (τ := t9) (o9 (X + 5) (by omega)) (o9 (X + 5 + 1) (by omega))
  refine a_aload_n d_X_init_46 rfl rfl ?_
  refine a_newC d_X_init_47 n_X_24 (fun t10 n10 u10 c10 o10 => ?_)
  rw [hn] at c10 o10 ⊢
  have hs := (o10 X (by omega)).trans hs
  have hu : t10.2.1 = _ := u10.trans (congrArg (· + 13) hu)
  have hn : t10.1 = _ := n10.trans (congrArg (· + 1) hn)
  have hout : ∀ a, a < X → t10.2.2 a = σ.2.2 a := fun a ha => (o10 a (by omega)).trans (hout a ha)
  have hB1 := hB1.of (τ := t10) (o10 (X + 1) (by omega)) (o10 (X + 1 + 1) (by omega))
  have hB3 := hB3.of (τ := t10) (o10 (X + 3) (by omega)) (o10 (X + 3 + 1) (by omega))
  have hB5 := hB5.of (τ := t10) (o10 (X + 5) (by omega)) (o10 (X + 5 + 1) (by omega))
  refine a_dup d_X_init_50 rfl ?_
  refine a_callI 1 20 [] _ d_X_init_51 l_X_26 im_P_init rfl rfl rfl (Nat.le_of_ble_eq_true rfl) ⟨Nat.le_of_ble_eq_true rfl, Nat.le_of_ble_eq_true rfl⟩ ?_
  refine sp_P_init (p := X + 7) c10 (by omega) (fun t11 n11 u11 p11 hP7 => ?_)
  have o11 : ∀ a, (a < X + 7 ∨ X + 7 + 11 ≤ a) → t11.2.2 a = t10.2.2 a := fun a ha => p11 a (by omega)
  have hs := (o11 X (by omega)).trans hs
  have hu : t11.2.1 = _ := u11.trans (congrArg (· + 2454) hu)
  have hn : t11.1 = _ := n11
  have hout : ∀ a, a < X → t11.2.2 a = σ.2.2 a := fun a ha => (o11 a (by omega)).trans (hout a ha)
  have hB1 := hB1.of (τ := t11) (o11 (X + 1) (by omega)) (o11 (X + 1 + 1) (by omega))
  have hB3 := hB3.of (τ := t11) (o11 (X + 3) (by omega)) (o11 (X + 3 + 1) (by omega))
  have hB5 := hB5.of (τ := t11) (o11 (X + 5) (by omega)) (o11 (X + 5 + 1) (by omega))
  refine a_putC (fs' := [.ref (X + 1), .null, .null, .ref (X + 3), .ref (X + 5), .ref (X + 7), .null]) d_X_init_54 (Or.inl p_X_27) hs rfl rfl rfl (Nat.le_of_ble_eq_true rfl) (fun t12 n12 u12 hs12 o12 => ?_)
  have hs := hs12
  have hn : t12.1 = _ := n12.trans hn
  have hu : t12.2.1 = _ := u12.trans hu
  have hout : ∀ a, a < X → t12.2.2 a = σ.2.2 a := fun a ha => (o12 a (by omega)).trans (hout a ha)
  have hB1 := hB1.of (τ := t12) (o12 (X + 1) (by omega)) (o12 (X + 1 + 1) (by omega))
  have hB3 := hB3.of (τ := t12) (o12 (X + 3) (by omega)) (o12 (X + 3 + 1) (by omega))
  have hB5 := hB5.of (τ := t12) (o12 (X + 5) (by omega)) (o12 (X + 5 + 1) (by omega))
  have hP7 := hP7.of (τ := t12) (fun i hi => o12 (X + 7 + i) (by omega))
  refine a_aload_n d_X_init_57 rfl rfl ?_
  refine a_newC d_X_init_58 n_X_24 (fun t13 n13 u13 c13 o13 => ?_)
  rw [hn] at c13 o13 ⊢
  have hs := (o13 X (by omega)).trans hs
  have hu : t13.2.1 = _ := u13.trans (congrArg (· + 13) hu)
  have hn : t13.1 = _ := n13.trans (congrArg (· + 1) hn)
  have hout : ∀ a, a < X → t13.2.2 a = σ.2.2 a := fun a ha => (o13 a (by omega)).trans (hout a ha)
  have hB1 := hB1.of (τ := t13) (o13 (X + 1) (by omega)) (o13 (X + 1 + 1) (by omega))
  have hB3 := hB3.of (τ := t13) (o13 (X + 3) (by omega)) (o13 (X + 3 + 1) (by omega))
  have hB5 := hB5.of (τ := t13) (o13 (X + 5) (by omega)) (o13 (X + 5 + 1) (by omega))
  have hP7 := hP7.of (τ := t13) (fun i hi => o13 (X + 7 + i) (by omega))
  refine a_dup d_X_init_61 rfl ?_
  refine a_callI 1 20 [] _ d_X_init_62 l_X_26 im_P_init rfl rfl rfl (Nat.le_of_ble_eq_true rfl) ⟨Nat.le_of_ble_eq_true rfl, Nat.le_of_ble_eq_true rfl⟩ ?_
  refine sp_P_init (p := X + 18) c13 (by omega) (fun t14 n14 u14 p14 hP18 => ?_)
  have o14 : ∀ a, (a < X + 18 ∨ X + 18 + 11 ≤ a) → t14.2.2 a = t13.2.2 a := fun a ha => p14 a (by omega)
  have hs := (o14 X (by omega)).trans hs
  have hu : t14.2.1 = _ := u14.trans (congrArg (· + 2454) hu)
  have hn : t14.1 = _ := n14
  have hout : ∀ a, a < X → t14.2.2 a = σ.2.2 a := fun a ha => (o14 a (by omega)).trans (hout a ha)
  have hB1 := hB1.of (τ := t14) (o14 (X + 1) (by omega)) (o14 (X + 1 + 1) (by omega))
  have hB3 := hB3.of (τ := t14) (o14 (X + 3) (by omega)) (o14 (X + 3 + 1) (by omega))
  have hB5 := hB5.of (τ := t14) (o14 (X + 5) (by omega)) (o14 (X + 5 + 1) (by omega))
  have hP7 := hP7.of (τ := t14) (fun i hi => o14 (X + 7 + i) (by omega))
  refine a_putC (fs' := [.ref (X + 1), .null, .null, .ref (X + 3), .ref (X + 5), .ref (X + 7), .ref (X + 18)]) d_X_init_65 (Or.inl p_X_31) hs rfl rfl rfl (Nat.le_of_ble_eq_true rfl) (fun t15 n15 u15 hs15 o15 => ?_)
  have hs := hs15
  have hn : t15.1 = _ := n15.trans hn
  have hu : t15.2.1 = _ := u15.trans hu
  have hout : ∀ a, a < X → t15.2.2 a = σ.2.2 a := fun a ha => (o15 a (by omega)).trans (hout a ha)
  have hB1 := hB1.of (τ := t15) (o15 (X + 1) (by omega)) (o15 (X + 1 + 1) (by omega))
  have hB3 := hB3.of (τ := t15) (o15 (X + 3) (by omega)) (o15 (X + 3 + 1) (by omega))
  have hB5 := hB5.of (τ := t15) (o15 (X + 5) (by omega)) (o15 (X + 5 + 1) (by omega))
  have hP7 := hP7.of (τ := t15) (fun i hi => o15 (X + 7 + i) (by omega))
  have hP18 := hP18.of (τ := t15) (fun i hi => o15 (X + 18 + i) (by omega))
  refine a_aload_n d_X_init_68 rfl rfl ?_
  refine a_newC d_X_init_69 n_X_34 (fun t16 n16 u16 c16 o16 => ?_)
  rw [hn] at c16 o16 ⊢
  have hs := (o16 X (by omega)).trans hs
  have hu : t16.2.1 = _ := u16.trans (congrArg (· + 15) hu)
  have hn : t16.1 = _ := n16.trans (congrArg (· + 1) hn)
  have hout : ∀ a, a < X → t16.2.2 a = σ.2.2 a := fun a ha => (o16 a (by omega)).trans (hout a ha)
  have hB1 := hB1.of (τ := t16) (o16 (X + 1) (by omega)) (o16 (X + 1 + 1) (by omega))
  have hB3 := hB3.of (τ := t16) (o16 (X + 3) (by omega)) (o16 (X + 3 + 1) (by omega))
  have hB5 := hB5.of (τ := t16) (o16 (X + 5) (by omega)) (o16 (X + 5 + 1) (by omega))
  have hP7 := hP7.of (τ := t16) (fun i hi => o16 (X + 7 + i) (by omega))
  have hP18 := hP18.of (τ := t16) (fun i hi => o16 (X + 18 + i) (by omega))
  refine a_dup d_X_init_72 rfl ?_
  refine a_aload_n d_X_init_73 rfl rfl ?_
  apply a_getfield d_X_init_74 f_X_14
  · exact hs
  · rfl
  refine a_aload_n d_X_init_77 rfl rfl ?_
  apply a_getfield d_X_init_78 f_X_31
  · exact hs
  · rfl
  refine a_callI 2 41 [_, _] _ d_X_init_81 l_X_36 im_R_init rfl rfl rfl (Nat.le_of_ble_eq_true rfl) ⟨Nat.le_of_ble_eq_true rfl, Nat.le_of_ble_eq_true rfl⟩ ?_
  refine sp_R_init (r := X + 29) (b := X + 1) (p := X + 18) c16 (by omega) (fun t17 n17 u17 p17 hR hT => ?_)
  have o17 : ∀ a, a < X + 29 → t17.2.2 a = t16.2.2 a := fun a ha => p17 a (by omega)
  have hs := (o17 X (by omega)).trans hs
  have hu : t17.2.1 = _ := u17.trans (congrArg (· + 1086) hu)
  have hn : t17.1 = _ := n17
  have hout : ∀ a, a < X → t17.2.2 a = σ.2.2 a := fun a ha => (o17 a (by omega)).trans (hout a ha)
  have hB1 := hB1.of (τ := t17) (o17 (X + 1) (by omega)) (o17 (X + 1 + 1) (by omega))
  have hB3 := hB3.of (τ := t17) (o17 (X + 3) (by omega)) (o17 (X + 3 + 1) (by omega))
  have hB5 := hB5.of (τ := t17) (o17 (X + 5) (by omega)) (o17 (X + 5 + 1) (by omega))
  have hP7 := hP7.of (τ := t17) (fun i hi => o17 (X + 7 + i) (by omega))
  have hP18 := hP18.of (τ := t17) (fun i hi => o17 (X + 18 + i) (by omega))
  refine a_putC (fs' := [.ref (X + 1), .ref (X + 29), .null, .ref (X + 3), .ref (X + 5), .ref (X + 7), .ref (X + 18)]) d_X_init_84 (Or.inr ⟨p_X_39, rfl⟩) hs rfl rfl rfl (Nat.le_of_ble_eq_true rfl) (fun t18 n18 u18 hs18 o18 => ?_)
  have hs := hs18
  have hn : t18.1 = _ := n18.trans hn
  have hu : t18.2.1 = _ := u18.trans hu
  have hout : ∀ a, a < X → t18.2.2 a = σ.2.2 a := fun a ha => (o18 a (by omega)).trans (hout a ha)
  have hB1 := hB1.of (τ := t18) (o18 (X + 1) (by omega)) (o18 (X + 1 + 1) (by omega))
  have hB3 := hB3.of (τ := t18) (o18 (X + 3) (by omega)) (o18 (X + 3 + 1) (by omega))
  have hB5 := hB5.of (τ := t18) (o18 (X + 5) (by omega)) (o18 (X + 5 + 1) (by omega))
  have hP7 := hP7.of (τ := t18) (fun i hi => o18 (X + 7 + i) (by omega))
  have hP18 := hP18.of (τ := t18) (fun i hi => o18 (X + 18 + i) (by omega))
  have hR := hR.of (τ := t18) (o18 _ (by omega)) (o18 _ (by omega)) (o18 _ (by omega))
  have hT : TO t18 (X + 30) (X + 1) _ := (o18 _ (by omega)).trans hT
  refine a_aload_n d_X_init_87 rfl rfl ?_
  refine a_newC d_X_init_88 n_X_43 (fun t19 n19 u19 c19 o19 => ?_)
  rw [hn] at c19 o19 ⊢
  have hs := (o19 X (by omega)).trans hs
  have hu : t19.2.1 = _ := u19.trans (congrArg (· + 4) hu)
  have hn : t19.1 = _ := n19.trans (congrArg (· + 1) hn)
  have hout : ∀ a, a < X → t19.2.2 a = σ.2.2 a := fun a ha => (o19 a (by omega)).trans (hout a ha)
  have hB1 := hB1.of (τ := t19) (o19 (X + 1) (by omega)) (o19 (X + 1 + 1) (by omega))
  have hB3 := hB3.of (τ := t19) (o19 (X + 3) (by omega)) (o19 (X + 3 + 1) (by omega))
  have hB5 := hB5.of (τ := t19) (o19 (X + 5) (by omega)) (o19 (X + 5 + 1) (by omega))
  have hP7 := hP7.of (τ := t19) (fun i hi => o19 (X + 7 + i) (by omega))
  have hP18 := hP18.of (τ := t19) (fun i hi => o19 (X + 18 + i) (by omega))
  have hR := hR.of (τ := t19) (o19 _ (by omega)) (o19 _ (by omega)) (o19 _ (by omega))
  have hT : TO t19 (X + 30) (X + 1) _ := (o19 _ (by omega)).trans hT
  refine a_dup d_X_init_91 rfl ?_
  refine a_callN 1 20 _ rfl d_X_init_92 rfl (Nat.le_of_ble_eq_true rfl) ⟨Nat.le_of_ble_eq_true rfl, Nat.le_of_ble_eq_true rfl⟩ ?_
  refine sp_C_init ?_
  have hC : CO t19 (X + 33) (0, 0, 0, 0) := c19
  refine a_putC (fs' := [.ref (X + 1), .ref (X + 29), .ref (X + 33), .ref (X + 3), .ref (X + 5), .ref (X + 7), .ref (X + 18)]) d_X_init_95 (Or.inr ⟨p_X_46, rfl⟩) hs rfl rfl rfl (Nat.le_of_ble_eq_true rfl) (fun t20 n20 u20 hs20 o20 => ?_)
  have hs := hs20
  have hn : t20.1 = _ := n20.trans hn
  have hu : t20.2.1 = _ := u20.trans hu
  have hout : ∀ a, a < X → t20.2.2 a = σ.2.2 a := fun a ha => (o20 a (by omega)).trans (hout a ha)
  have hB1 := hB1.of (τ := t20) (o20 (X + 1) (by omega)) (o20 (X + 1 + 1) (by omega))
  have hB3 := hB3.of (τ := t20) (o20 (X + 3) (by omega)) (o20 (X + 3 + 1) (by omega))
  have hB5 := hB5.of (τ := t20) (o20 (X + 5) (by omega)) (o20 (X + 5 + 1) (by omega))
  have hP7 := hP7.of (τ := t20) (fun i hi => o20 (X + 7 + i) (by omega))
  have hP18 := hP18.of (τ := t20) (fun i hi => o20 (X + 18 + i) (by omega))
  have hR := hR.of (τ := t20) (o20 _ (by omega)) (o20 _ (by omega)) (o20 _ (by omega))
  have hT : TO t20 (X + 30) (X + 1) _ := (o20 _ (by omega)).trans hT
  have hC : CO t20 (X + 33) _ := (o20 _ (by omega)).trans hC
  refine a_aload_n d_X_init_98 rfl rfl ?_
  apply a_getfield d_X_init_99 f_X_27
  · exact hs
  · rfl
  refine a_iconst (v := 1) d_X_init_102 (by decide) ?_
  refine a_lconst (v := 1) d_X_init_103 (by decide) ?_
  apply a_callV (ci := 2) 1 21 [_, _] _ d_X_init_104 l_X_50 ⟨im_P_addHead, se_P_addHead⟩ rfl rfl rfl rfl (Nat.le_of_ble_eq_true rfl) ⟨Nat.le_of_ble_eq_true rfl, Nat.le_of_ble_eq_true rfl⟩
  · exact hP7.1
  refine sp_P_addHead hP7 (by decide) (fun t21 f21 hPx => ?_)
  have o21 : ∀ a, (a < X + 7 ∨ X + 7 + 11 ≤ a) → t21.2.2 a = t20.2.2 a := fun a ha => f21.2.2 a ha
  have hs := (o21 X (by omega)).trans hs
  have hu : t21.2.1 = _ := f21.2.1.trans hu
  have hn : t21.1 = _ := f21.1.trans hn
  have hout : ∀ a, a < X → t21.2.2 a = σ.2.2 a := fun a ha => (o21 a (by omega)).trans (hout a ha)
  have hB1 := hB1.of (τ := t21) (o21 (X + 1) (by omega)) (o21 (X + 1 + 1) (by omega))
  have hB3 := hB3.of (τ := t21) (o21 (X + 3) (by omega)) (o21 (X + 3 + 1) (by omega))
  have hB5 := hB5.of (τ := t21) (o21 (X + 5) (by omega)) (o21 (X + 5 + 1) (by omega))
  have hP18 := hP18.of (τ := t21) (fun i hi => o21 (X + 18 + i) (by omega))
  have hR := hR.of (τ := t21) (o21 _ (by omega)) (o21 _ (by omega)) (o21 _ (by omega))
  have hT : TO t21 (X + 30) (X + 1) _ := (o21 _ (by omega)).trans hT
  have hC : CO t21 (X + 33) _ := (o21 _ (by omega)).trans hC
  refine a_return d_X_init_107 rfl ?_
  exact hK _ (by omega) (by omega) hout ⟨X + 3, X + 5, X + 7, X + 18, 0, _, _, X + 18, _, _, _, _, Or.inl ⟨rfl, rfl⟩, Or.inl ⟨rfl, rfl⟩, hs, hB1, hB3, hB5, hPx, hP18, hR, hT, hC, ⟨fun _ => ⟨0, by decide, rfl⟩, fun _ => ⟨0, by decide, rfl⟩⟩, rfl, rfl⟩

end ModX5
