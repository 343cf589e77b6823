/-! Constructors: READER's, CALL's, POLICYTEXT's -/
section ModX4
variable {G : aG} {μ : aM} {d lo pc : Nat} {lv : List (Nat × Value)} {st : List Value} {σ : aS} {K : Option Value → aS → Prop} {X n m : Nat} {f g : Nat → Nat} {q : aP} {l : aC} {ft pl : Int32}
theorem a_putC {idx ci k a : Nat} {fs fs' : List Value} {v : Value} {ty : FieldType} (hd : decode μ.2.1 pc = .ok (.putfield idx, 3)) (hL : a_fp μ.1.cls idx ci k ty false ∨ (a_fp μ.1.cls idx ci k ty true ∧ μ.1.name = "<init>")) (hc : σ.2.2 a = some (.inr (ci, fs))) (hs : fs.set k v = fs') (hn : narrow ty v = v) (hf : fits ty v = true) (hl : k < fs.length)
    (kk : ∀ τ : aS, τ.1 = σ.1 → τ.2.1 = σ.2.1 → τ.2.2 a = some (.inr (ci, fs')) → (∀ b, b ≠ a → τ.2.2 b = σ.2.2 b) → a_J G μ d lo (pc + 3) lv st τ K) : a_J G μ d lo pc lv (v :: .ref a :: st) σ K := by
  subst hs
  rcases hL with h | ⟨h, h2⟩
  · exact a_putfield hd h hc hn hf hl (kk _ rfl rfl a_us (fun b hb => a_un hb rfl))
  · exact a_putfinal hd h h2 hc hn hf hl (kk _ rfl rfl a_us (fun b hb => a_un hb rfl))
theorem a_newC {idx ci N : Nat} {fs : List Value} (hd : decode μ.2.1 pc = .ok (.new idx, 3)) (hL : a_nw μ.1.cls idx ci N fs) (kk : ∀ τ : aS, τ.1 = σ.1 + 1 → τ.2.1 = σ.2.1 + N → τ.2.2 σ.1 = some (.inr (ci, fs)) → (∀ b, b ≠ σ.1 → τ.2.2 b = σ.2.2 b) → a_J G μ d lo (pc + 3) lv (.ref σ.1 :: st) τ K) : a_J G μ d lo pc lv st σ K :=
  a_newobj hd hL (kk _ rfl rfl a_ns (fun b hb => a_nn hb rfl))
theorem a_arrC {atype : ArrayType} {ty : FieldType} {t0 N : Nat} {n : Int32} {x : vp_A} (hd : decode μ.2.1 pc = .ok (.newarray atype, 2)) (hty : newarray.typeOf atype = ty) (ht : aTy[t0]? = some ty) (hw : Cond.arrayClass ty ∈ aTs) (ha : ∀ cA : ClassId, vp_cell cA x = arrV cA N (fun _ => defaultValue ty)) (hn : ¬ n < 0) (hN : n.toNatClampNeg = N) (hb : N * componentBytes ty ≤ 536870912)
    (kk : ∀ τ : aS, τ.1 = σ.1 + 1 → τ.2.1 = σ.2.1 + N → τ.2.2 σ.1 = some (.inl (ty, x)) → (∀ b, b ≠ σ.1 → τ.2.2 b = σ.2.2 b) → a_J G μ d lo (pc + 2) lv (.ref σ.1 :: st) τ K) : a_J G μ d lo pc lv (.int n :: st) σ K :=
  a_newarr hd hty ht hw ha hn hN hb (kk _ rfl rfl a_ns (fun b hb => a_nn hb rfl))
set_option maxHeartbeats 1000000 in
set_option maxRecDepth 100000 in
theorem sp_R_init {r b p : Nat} (h0 : σ.2.2 r = some (.inr (4, [.null, .null, .null, .null, .int 0, .int 0, .int 0, .int 0, .int 0, .int 0, .int 0, .int 0, .int 0, .int 0, .int 0]))) (hn0 : σ.1 = r + 1) (hK : ∀ τ : aS, τ.1 = r + 4 → τ.2.1 = σ.2.1 + 1086 → (∀ a, a < r → τ.2.2 a = σ.2.2 a) → RO τ r p (fun i => if i = 5 ∨ i = 7 then -1 else 0) (fun _ => 0) (fun _ => 0) → TO τ (r + 1) b (0, 0, 0, 0, 0) → K none τ) : a_C G m_R_init 2 41 [.ref r, .ref b, .ref p] σ K := by
  have hs := h0
  have hn : σ.1 = r + 1 := hn0
  have hu : σ.2.1 = σ.2.1 := rfl
  have hout : ∀ a, a < r → σ.2.2 a = σ.2.2 a := fun _ _ => rfl
  refine a_enter rfl (Nat.le_of_ble_eq_true rfl) ?_
  refine a_aload_n d_R_init_0 rfl rfl ?_
  refine a_objinit d_R_init_1 o_R (Nat.le_of_ble_eq_true rfl) ⟨Nat.le_of_ble_eq_true rfl, Nat.le_of_ble_eq_true rfl⟩ ?_
  refine a_aload_n d_R_init_4 rfl rfl ?_
  refine a_newC d_R_init_5 n_R_9 (fun t1 n1 u1 c1 o1 => ?_)
  rw [hn] at c1 o1 ⊢
  have hs := (o1 r (by omega)).trans hs
  have hu : t1.2.1 = _ := u1.trans (congrArg (· + 6) hu)
  have hn : t1.1 = _ := n1.trans (congrArg (· + 1) hn)
  have hout : ∀ a, a < r → t1.2.2 a = σ.2.2 a := fun a ha => (o1 a (by omega)).trans (hout a ha)
  refine a_dup d_R_init_8 rfl ?_
  refine a_aload_n d_R_init_9 rfl rfl ?_
  refine a_callI 1 20 [_] _ d_R_init_10 l_R_11 im_T_init rfl rfl rfl (Nat.le_of_ble_eq_true rfl) ⟨Nat.le_of_ble_eq_true rfl, Nat.le_of_ble_eq_true rfl⟩ ?_
  refine sp_T_init (b := b) c1 (fun t2 f2 hT2 => ?_)
  have o2 : ∀ a, a ≠ r + 1 → t2.2.2 a = t1.2.2 a := fun a ha => f2.2.2 a (by omega)
  have hs := (o2 r (by omega)).trans hs
  have hn : t2.1 = _ := f2.1.trans hn
  have hu : t2.2.1 = _ := f2.2.1.trans hu
  have hout : ∀ a, a < r → t2.2.2 a = σ.2.2 a := fun a ha => (o2 a (by omega)).trans (hout a ha)
  have hT : t2.2.2 (r + 1) = _ := hT2
  refine a_putC (fs' := [.ref (r + 1), .null, .null, .null, .int 0, .int 0, .int 0, .int 0, .int 0, .int 0, .int 0, .int 0, .int 0, .int 0, .int 0]) d_R_init_13 (Or.inr ⟨p_R_14, rfl⟩) hs rfl rfl rfl (Nat.le_of_ble_eq_true rfl) (fun t3 n3 u3 hs3 o3 => ?_)
  have hs := hs3
  have hn : t3.1 = _ := n3.trans hn
  have hu : t3.2.1 = _ := u3.trans hu
  have hout : ∀ a, a < r → t3.2.2 a = σ.2.2 a := fun a ha => (o3 a (by omega)).trans (hout a ha)
  have hT := (o3 (r + 1) (by omega)).trans hT
  refine a_aload_n d_R_init_16 rfl rfl ?_
  refine a_sipush (v := 864) d_R_init_17 (by decide) ?_
  refine a_arrC (t0 := 0) (N := 864) (x := (864, .inl (fun _ => 0))) d_R_init_20 rfl rfl ar_int (fun _ => rfl) (by decide) (by decide) (by decide) (fun t4 n4 u4 c4 o4 => ?_)
  rw [hn] at c4 o4 ⊢
  have hs := (o4 r (by omega)).trans hs
  have hu : t4.2.1 = _ := u4.trans (congrArg (· + 864) hu)
  have hn : t4.1 = _ := n4.trans (congrArg (· + 1) hn)
  have hout : ∀ a, a < r → t4.2.2 a = σ.2.2 a := fun a ha => (o4 a (by omega)).trans (hout a ha)
  have hT := (o4 (r + 1) (by omega)).trans hT
  refine a_putC (fs' := [.ref (r + 1), .ref (r + 2), .null, .null, .int 0, .int 0, .int 0, .int 0, .int 0, .int 0, .int 0, .int 0, .int 0, .int 0, .int 0]) d_R_init_22 (Or.inr ⟨p_R_22, rfl⟩) hs rfl rfl rfl (Nat.le_of_ble_eq_true rfl) (fun t5 n5 u5 hs5 o5 => ?_)
  have hs := hs5
  have hn : t5.1 = _ := n5.trans hn
  have hu : t5.2.1 = _ := u5.trans hu
  have hout : ∀ a, a < r → t5.2.2 a = σ.2.2 a := fun a ha => (o5 a (by omega)).trans (hout a ha)
  have hT := (o5 (r + 1) (by omega)).trans hT
  have c4 := (o5 (r + 2) (by omega)).trans c4
  refine a_aload_n d_R_init_25 rfl rfl ?_
  refine a_sipush (v := 216) d_R_init_26 (by decide) ?_
  refine a_arrC (t0 := 0) (N := 216) (x := (216, .inl (fun _ => 0))) d_R_init_29 rfl rfl ar_int (fun _ => rfl) (by decide) (by decide) (by decide) (fun t6 n6 u6 c6 o6 => ?_)
  rw [hn] at c6 o6 ⊢
  have hs := (o6 r (by omega)).trans hs
  have hu : t6.2.1 = _ := u6.trans (congrArg (· + 216) hu)
  have hn : t6.1 = _ := n6.trans (congrArg (· + 1) hn)
  have hout : ∀ a, a < r → t6.2.2 a = σ.2.2 a := fun a ha => (o6 a (by omega)).trans (hout a ha)
  have hT := (o6 (r + 1) (by omega)).trans hT
  have c4 := (o6 (r + 2) (by omega)).trans c4
  refine a_putC (fs' := [.ref (r + 1), .ref (r + 2), .ref (r + 3), .null, .int 0, .int 0, .int 0, .int 0, .int 0, .int 0, .int 0, .int 0, .int 0, .int 0, .int 0]) d_R_init_31 (Or.inr ⟨p_R_26, rfl⟩) hs rfl rfl rfl (Nat.le_of_ble_eq_true rfl) (fun t7 n7 u7 hs7 o7 => ?_)
  have hs := hs7
  have hn : t7.1 = _ := n7.trans hn
  have hu : t7.2.1 = _ := u7.trans hu
  have hout : ∀ a, a < r → t7.2.2 a = σ.2.2 a := fun a ha => (o7 a (by omega)).trans (hout a ha)
  have hT := (o7 (r + 1) (by omega)).trans hT
  have c4 := (o7 (r + 2) (by omega)).trans c4
  have c6 := (o7 (r + 3) (by omega)).trans c6
  refine a_aload_n d_R_init_34 rfl rfl ?_
  refine a_aload_n d_R_init_35 rfl rfl ?_
  refine a_putC (fs' := [.ref (r + 1), .ref (r + 2), .ref (r + 3), .ref p, .int 0, .int 0, .int 0, .int 0, .int 0, .int 0, .int 0, .int 0, .int 0, .int 0, .int 0]) d_R_init_36 (Or.inl p_R_29) hs rfl rfl rfl (Nat.le_of_ble_eq_true rfl) (fun t8 n8 u8 hs8 o8 => ?_)
  have hs := hs8
  have hn : t8.1 = _ := n8.trans hn
  have hu : t8.2.1 = _ := u8.trans hu
  have hout : ∀ a, a < r → t8.2.2 a = σ.2.2 a := fun a ha => (o8 a (by omega)).trans (hout a ha)
  have hT := (o8 (r + 1) (by omega)).trans hT
  have c4 := (o8 (r + 2) (by omega)).trans c4
  have c6 := (o8 (r + 3) (by omega)).trans c6
  refine a_aload_n d_R_init_39 rfl rfl ?_
  refine a_iconst (v := 0) d_R_init_40 (by decide) ?_
  refine a_putC (fs' := [.ref (r + 1), .ref (r + 2), .ref (r + 3), .ref p, .int 0, .int 0, .int 0, .int 0, .int 0, .int 0, .int 0, .int 0, .int 0, .int 0, .int 0]) d_R_init_41 (Or.inl p_R_33) hs rfl rfl rfl (Nat.le_of_ble_eq_true rfl) (fun t9 n9 u9 hs9 o9 => ?_)
  have hs := hs9
  have hn : t9.1 = _ := n9.trans hn
  have hu : t9.2.1 = _ := u9.trans hu
  have hout : ∀ a, a < r → t9.2.2 a = σ.2.2 a := fun a ha => (o9 a (by omega)).trans (hout a ha)
  have hT := (o9 (r + 1) (by omega)).trans hT
  have c4 := (o9 (r + 2) (by omega)).trans c4
  have c6 := (o9 (r + 3) (by omega)).trans c6
  refine a_aload_n d_R_init_44 rfl rfl ?_
  refine a_iconst (v := (-1)) d_R_init_45 (by decide) ?_
  refine a_putC (fs' := [.ref (r + 1), .ref (r + 2), .ref (r + 3), .ref p, .int 0, .int (-1), .int 0, .int 0, .int 0, .int 0, .int 0, .int 0, .int 0, .int 0, .int 0]) d_R_init_46 (Or.inl p_R_37) hs rfl rfl rfl (Nat.le_of_ble_eq_true rfl) (fun t10 n10 u10 hs10 o10 => ?_)
  have hs := hs10
  have hn : t10.1 = _ := n10.trans hn
  have hu : t10.2.1 = _ := u10.trans hu
  have hout : ∀ a, a < r → t10.2.2 a = σ.2.2 a := fun a ha => (o10 a (by omega)).trans (hout a ha)
  have hT := (o10 (r + 1) (by omega)).trans hT
  have c4 := (o10 (r + 2) (by omega)).trans c4
  have c6 := (o10 (r + 3) (by omega)).trans c6
  refine a_aload_n d_R_init_49 rfl rfl ?_
  refine a_iconst (v := (-1)) d_R_init_50 (by decide) ?_
  refine a_putC (fs' := [.ref (r + 1), .ref (r + 2), .ref (r + 3), .ref p, .int 0, .int (-1), .int 0, .int (-1), .int 0, .int 0, .int 0, .int 0, .int 0, .int 0, .int 0]) d_R_init_51 (Or.inl p_R_40) hs rfl rfl rfl (Nat.le_of_ble_eq_true rfl) (fun t11 n11 u11 hs11 o11 => ?_)
  have hs := hs11
  have hn : t11.1 = _ := n11.trans hn
  have hu : t11.2.1 = _ := u11.trans hu
  have hout : ∀ a, a < r → t11.2.2 a = σ.2.2 a := fun a ha => (o11 a (by omega)).trans (hout a ha)
  have hT := (o11 (r + 1) (by omega)).trans hT
  have c4 := (o11 (r + 2) (by omega)).trans c4
  have c6 := (o11 (r + 3) (by omega)).trans c6
  refine a_return d_R_init_54 rfl ?_
  exact hK _ (by omega) (by omega) hout ⟨hs, c4, c6⟩ hT

set_option maxHeartbeats 1000000 in
set_option maxRecDepth 100000 in
theorem sp_C_init {c : Nat} (hK : K none σ) : a_C G m_C_init 1 20 [.ref c] σ K := by
  refine a_enter rfl (Nat.le_of_ble_eq_true rfl) ?_
  refine a_aload_n d_C_init_0 rfl rfl ?_
  refine a_objinit d_C_init_1 o_C (Nat.le_of_ble_eq_true rfl) ⟨Nat.le_of_ble_eq_true rfl, Nat.le_of_ble_eq_true rfl⟩ ?_
  exact a_return d_C_init_4 rfl hK

end ModX4
