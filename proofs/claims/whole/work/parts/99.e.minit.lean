/-! THE MODEL's constructor -/
def x0 : aX := (fun k => if k = 9 then -1 else 0, fun _ => 0, fun _ _ => 0, fun _ _ => 0)
theorem mk_self {τ : aS} {m : Nat} {x : aX} (h0 : τ.2.2 m = some (.inr (7, mO m x))) (h : ∀ a, 1 ≤ a → a ≤ 31 → τ.2.2 (m + a) = some (mC x a)) : mk τ m x = τ := by
  refine Prod.ext rfl (Prod.ext rfl (funext fun a => ?_))
  show (if a = m then some (.inr (7, mO m x)) else if m < a ∧ a ≤ m + 31 then some (mC x (a - m)) else τ.2.2 a) = τ.2.2 a
  by_cases e : a = m
  · rw [if_pos e, e, h0]
  · rw [if_neg e]
    by_cases z : m < a ∧ a ≤ m + 31
    · rw [if_pos z, ← h (a - m) (by omega) (by omega), show m + (a - m) = a by omega]
    · rw [if_neg z]
/-- the object being made: j arrays stand -/
def CI (σ τ : aS) (m j S : Nat) (fs : List Value) : Prop := τ.1 = m + 1 + j ∧ τ.2.1 = σ.2.1 + S ∧ τ.2.2 m = some (.inr (7, fs)) ∧ (∀ a, 1 ≤ a → a ≤ j → τ.2.2 (m + a) = some (mC x0 a)) ∧ ∀ a, a < m → τ.2.2 a = σ.2.2 a
section Ci
variable {G : aG} {μ : aM} {d lo pc : Nat} {lv : List (Nat × Value)} {st : List Value} {σ τ : aS} {K : Option Value → aS → Prop} {m j S : Nat} {fs : List Value}
theorem ci_arr {atype : ArrayType} {ty : FieldType} {t0 N : Nat} {n : Int32} {x : vp_A} (h : CI σ τ m j S fs) (hd : decode μ.2.1 pc = .ok (.newarray atype, 2)) (hty : newarray.typeOf atype = ty) (ht : aTy[t0]? = some ty) (hw : Cond.arrayClass ty ∈ aTs) (ha : ∀ cA : ClassId, vp_cell cA x = arrV cA N (fun _ => defaultValue ty)) (hn : ¬ n < 0) (hN : n.toNatClampNeg = N) (hb : N * componentBytes ty ≤ 536870912) (hx : mC x0 (j + 1) = .inl (ty, x))
    (kk : ∀ τ2 : aS, CI σ τ2 m (j + 1) (S + N) fs → a_J G μ d lo (pc + 2) lv (.ref (m + (j + 1)) :: st) τ2 K) : a_J G μ d lo pc lv (.int n :: st) τ K := by
  refine a_arrC hd hty ht hw ha hn hN hb (fun t n1 u1 c1 o1 => ?_)
  have e : τ.1 = m + (j + 1) := by rw [h.1]; omega
  rw [e] at c1 o1 ⊢
  refine kk t ⟨by rw [n1, e]; omega, by rw [u1, h.2.1]; omega, (o1 m (by omega)).trans h.2.2.1, fun a h1 h2 => ?_, fun a ha => (o1 a (by omega)).trans (h.2.2.2.2 a ha)⟩
  by_cases z : a = j + 1
  · rw [z, c1, hx]
  · exact (o1 (m + a) (by omega)).trans (h.2.2.2.1 a h1 (by omega))
theorem ci_put {idx k : Nat} {fs' : List Value} {v : Value} {ty : FieldType} (h : CI σ τ m j S fs) (hd : decode μ.2.1 pc = .ok (.putfield idx, 3)) (hL : a_fp μ.1.cls idx 7 k ty false ∨ (a_fp μ.1.cls idx 7 k ty true ∧ μ.1.name = "<init>")) (hs : fs.set k v = fs') (hn : narrow ty v = v) (hf : fits ty v = true) (hl : k < fs.length)
    (kk : ∀ τ2 : aS, CI σ τ2 m j S fs' → a_J G μ d lo (pc + 3) lv st τ2 K) : a_J G μ d lo pc lv (v :: .ref m :: st) τ K :=
  a_putC hd hL h.2.2.1 hs hn hf hl (fun t n1 u1 c1 o1 => kk t ⟨n1.trans h.1, u1.trans h.2.1, c1, fun a h1 h2 => (o1 (m + a) (by omega)).trans (h.2.2.2.1 a h1 h2), fun a ha => (o1 a (by omega)).trans (h.2.2.2.2 a ha)⟩)
end Ci
section ModM31
variable {G : aG} {σ : aS} {K : Option Value → aS → Prop} {m : Nat}
set_option maxHeartbeats 4000000 in
set_option maxRecDepth 100000 in
theorem in_274 (h0 : σ.2.2 m = some (.inr (7, [.int 0, .null, .int 0, .null, .int 0, .null, .int 0, .int 0, .int 0, .int 0, .null, .null, .null, .null, .int 0, .null, .null, .null, .int 0, .int 0, .int 0, .int 0, .long 0, .long 0, .int 0, .int 0, .null, .null, .int 0, .null, .null, .null, .null, .null, .int 0, .null, .int 0, .null, .null, .null, .null, .null, .null, .int 0, .null, .null, .null, .null, .null, .null, .int 0, .null, .int 0]))) (hn : σ.1 = m + 1) (hK : ∀ τ : aS, τ.1 = m + 32 → τ.2.1 = σ.2.1 + 48617 → τ.2.2 m = some (.inr (7, mO m x0)) → (∀ a, 1 ≤ a → a ≤ 31 → τ.2.2 (m + a) = some (mC x0 a)) → (∀ a, a < m → τ.2.2 a = σ.2.2 a) → a_J G m_M_init 11 238 274 [(0, .ref m)] [] τ K) : a_C G m_M_init 11 238 [.ref m] σ K := by
  have h0 : CI σ σ m 0 0 [.int 0, .null, .int 0, .null, .int 0, .null, .int 0, .int 0, .int 0, .int 0, .null, .null, .null, .null, .int 0, .null, .null, .null, .int 0, .int 0, .int 0, .int 0, .long 0, .long 0, .int 0, .int 0, .null, .null, .int 0, .null, .null, .null, .null, .null, .int 0, .null, .int 0, .null, .null, .null, .null, .null, .null, .int 0, .null, .null, .null, .null, .null, .null, .int 0, .null, .int 0] := ⟨hn, rfl, h0, fun a h1 h2 => absurd h1 (by omega), fun _ _ => rfl⟩
  refine a_enter rfl (Nat.le_of_ble_eq_true rfl) ?_
  refine a_aload_n d_M_init_0 rfl rfl ?_
  refine a_objinit d_M_init_1 o_M (Nat.le_of_ble_eq_true rfl) ⟨Nat.le_of_ble_eq_true rfl, Nat.le_of_ble_eq_true rfl⟩ ?_
  refine a_aload_n d_M_init_4 rfl rfl ?_
  refine a_sipush (v := 4096) d_M_init_5 (by decide) ?_
  refine ci_arr (t0 := 0) (N := 4096) (x := (4096, .inl (fun _ => 0))) h0 d_M_init_8 rfl rfl ar_int (fun _ => rfl) (by decide) (by decide) (by decide) rfl (fun t1 h1 => ?_)
  refine ci_put (fs' := [.int 0, .ref (m + 1), .int 0, .null, .int 0, .null, .int 0, .int 0, .int 0, .int 0, .null, .null, .null, .null, .int 0, .null, .null, .null, .int 0, .int 0, .int 0, .int 0, .long 0, .long 0, .int 0, .int 0, .null, .null, .int 0, .null, .null, .null, .null, .null, .int 0, .null, .int 0, .null, .null, .null, .null, .null, .null, .int 0, .null, .null, .null, .null, .null, .null, .int 0, .null, .int 0]) h1 d_M_init_10 (Or.inr ⟨p_M_7, rfl⟩) rfl rfl rfl (Nat.le_of_ble_eq_true rfl) (fun t2 h2 => ?_)
  refine a_aload_n d_M_init_13 rfl rfl ?_
  refine a_sipush (v := 8192) d_M_init_14 (by decide) ?_
  refine ci_arr (t0 := 0) (N := 8192) (x := (8192, .inl (fun _ => 0))) h2 d_M_init_17 rfl rfl ar_int (fun _ => rfl) (by decide) (by decide) (by decide) rfl (fun t3 h3 => ?_)
  refine ci_put (fs' := [.int 0, .ref (m + 1), .int 0, .ref (m + 2), .int 0, .null, .int 0, .int 0, .int 0, .int 0, .null, .null, .null, .null, .int 0, .null, .null, .null, .int 0, .int 0, .int 0, .int 0, .long 0, .long 0, .int 0, .int 0, .null, .null, .int 0, .null, .null, .null, .null, .null, .int 0, .null, .int 0, .null, .null, .null, .null, .null, .null, .int 0, .null, .null, .null, .null, .null, .null, .int 0, .null, .int 0]) h3 d_M_init_19 (Or.inr ⟨p_M_13, rfl⟩) rfl rfl rfl (Nat.le_of_ble_eq_true rfl) (fun t4 h4 => ?_)
  refine a_aload_n d_M_init_22 rfl rfl ?_
  refine a_sipush (v := 16384) d_M_init_23 (by decide) ?_
  refine ci_arr (t0 := 0) (N := 16384) (x := (16384, .inl (fun _ => 0))) h4 d_M_init_26 rfl rfl ar_int (fun _ => rfl) (by decide) (by decide) (by decide) rfl (fun t5 h5 => ?_)
  refine ci_put (fs' := [.int 0, .ref (m + 1), .int 0, .ref (m + 2), .int 0, .ref (m + 3), .int 0, .int 0, .int 0, .int 0, .null, .null, .null, .null, .int 0, .null, .null, .null, .int 0, .int 0, .int 0, .int 0, .long 0, .long 0, .int 0, .int 0, .null, .null, .int 0, .null, .null, .null, .null, .null, .int 0, .null, .int 0, .null, .null, .null, .null, .null, .null, .int 0, .null, .null, .null, .null, .null, .null, .int 0, .null, .int 0]) h5 d_M_init_28 (Or.inr ⟨p_M_16, rfl⟩) rfl rfl rfl (Nat.le_of_ble_eq_true rfl) (fun t6 h6 => ?_)
  refine a_aload_n d_M_init_31 rfl rfl ?_
  refine a_iconst (v := (-1)) d_M_init_32 (by decide) ?_
  refine ci_put (fs' := [.int 0, .ref (m + 1), .int 0, .ref (m + 2), .int 0, .ref (m + 3), .int 0, .int 0, .int 0, .int (-1), .null, .null, .null, .null, .int 0, .null, .null, .null, .int 0, .int 0, .int 0, .int 0, .long 0, .long 0, .int 0, .int 0, .null, .null, .int 0, .null, .null, .null, .null, .null, .int 0, .null, .int 0, .null, .null, .null, .null, .null, .null, .int 0, .null, .null, .null, .null, .null, .null, .int 0, .null, .int 0]) h6 d_M_init_33 (Or.inl p_M_19) rfl rfl rfl (Nat.le_of_ble_eq_true rfl) (fun t7 h7 => ?_)
  refine a_aload_n d_M_init_36 rfl rfl ?_
  refine a_sipush (v := 4096) d_M_init_37 (by decide) ?_
  refine ci_arr (t0 := 0) (N := 4096) (x := (4096, .inl (fun _ => 0))) h7 d_M_init_40 rfl rfl ar_int (fun _ => rfl) (by decide) (by decide) (by decide) rfl (fun t8 h8 => ?_)
  refine ci_put (fs' := [.int 0, .ref (m + 1), .int 0, .ref (m + 2), .int 0, .ref (m + 3), .int 0, .int 0, .int 0, .int (-1), .ref (m + 4), .null, .null, .null, .int 0, .null, .null, .null, .int 0, .int 0, .int 0, .int 0, .long 0, .long 0, .int 0, .int 0, .null, .null, .int 0, .null, .null, .null, .null, .null, .int 0, .null, .int 0, .null, .null, .null, .null, .null, .null, .int 0, .null, .null, .null, .null, .null, .null, .int 0, .null, .int 0]) h8 d_M_init_42 (Or.inr ⟨p_M_23, rfl⟩) rfl rfl rfl (Nat.le_of_ble_eq_true rfl) (fun t9 h9 => ?_)
  refine a_aload_n d_M_init_45 rfl rfl ?_
  refine a_bipush (v := 6) d_M_init_46 (by decide) ?_
  refine ci_arr (t0 := 0) (N := 6) (x := (6, .inl (fun _ => 0))) h9 d_M_init_48 rfl rfl ar_int (fun _ => rfl) (by decide) (by decide) (by decide) rfl (fun t10 h10 => ?_)
  refine ci_put (fs' := [.int 0, .ref (m + 1), .int 0, .ref (m + 2), .int 0, .ref (m + 3), .int 0, .int 0, .int 0, .int (-1), .ref (m + 4), .ref (m + 5), .null, .null, .int 0, .null, .null, .null, .int 0, .int 0, .int 0, .int 0, .long 0, .long 0, .int 0, .int 0, .null, .null, .int 0, .null, .null, .null, .null, .null, .int 0, .null, .int 0, .null, .null, .null, .null, .null, .null, .int 0, .null, .null, .null, .null, .null, .null, .int 0, .null, .int 0]) h10 d_M_init_50 (Or.inr ⟨p_M_26, rfl⟩) rfl rfl rfl (Nat.le_of_ble_eq_true rfl) (fun t11 h11 => ?_)
  refine a_aload_n d_M_init_53 rfl rfl ?_
  refine a_bipush (v := 24) d_M_init_54 (by decide) ?_
  refine ci_arr (t0 := 0) (N := 24) (x := (24, .inl (fun _ => 0))) h11 d_M_init_56 rfl rfl ar_int (fun _ => rfl) (by decide) (by decide) (by decide) rfl (fun t12 h12 => ?_)
  refine ci_put (fs' := [.int 0, .ref (m + 1), .int 0, .ref (m + 2), .int 0, .ref (m + 3), .int 0, .int 0, .int 0, .int (-1), .ref (m + 4), .ref (m + 5), .ref (m + 6), .null, .int 0, .null, .null, .null, .int 0, .int 0, .int 0, .int 0, .long 0, .long 0, .int 0, .int 0, .null, .null, .int 0, .null, .null, .null, .null, .null, .int 0, .null, .int 0, .null, .null, .null, .null, .null, .null, .int 0, .null, .null, .null, .null, .null, .null, .int 0, .null, .int 0]) h12 d_M_init_58 (Or.inr ⟨p_M_29, rfl⟩) rfl rfl rfl (Nat.le_of_ble_eq_true rfl) (fun t13 h13 => ?_)
  refine a_aload_n d_M_init_61 rfl rfl ?_
  refine a_bipush (v := 6) d_M_init_62 (by decide) ?_
  refine ci_arr (t0 := 0) (N := 6) (x := (6, .inl (fun _ => 0))) h13 d_M_init_64 rfl rfl ar_int (fun _ => rfl) (by decide) (by decide) (by decide) rfl (fun t14 h14 => ?_)
  refine ci_put (fs' := [.int 0, .ref (m + 1), .int 0, .ref (m + 2), .int 0, .ref (m + 3), .int 0, .int 0, .int 0, .int (-1), .ref (m + 4), .ref (m + 5), .ref (m + 6), .ref (m + 7), .int 0, .null, .null, .null, .int 0, .int 0, .int 0, .int 0, .long 0, .long 0, .int 0, .int 0, .null, .null, .int 0, .null, .null, .null, .null, .null, .int 0, .null, .int 0, .null, .null, .null, .null, .null, .null, .int 0, .null, .null, .null, .null, .null, .null, .int 0, .null, .int 0]) h14 d_M_init_66 (Or.inr ⟨p_M_32, rfl⟩) rfl rfl rfl (Nat.le_of_ble_eq_true rfl) (fun t15 h15 => ?_)
  refine a_aload_n d_M_init_69 rfl rfl ?_
  refine a_iconst (v := 3) d_M_init_70 (by decide) ?_
  refine ci_arr (t0 := 0) (N := 3) (x := (3, .inl (fun _ => 0))) h15 d_M_init_71 rfl rfl ar_int (fun _ => rfl) (by decide) (by decide) (by decide) rfl (fun t16 h16 => ?_)
  refine ci_put (fs' := [.int 0, .ref (m + 1), .int 0, .ref (m + 2), .int 0, .ref (m + 3), .int 0, .int 0, .int 0, .int (-1), .ref (m + 4), .ref (m + 5), .ref (m + 6), .ref (m + 7), .int 0, .ref (m + 8), .null, .null, .int 0, .int 0, .int 0, .int 0, .long 0, .long 0, .int 0, .int 0, .null, .null, .int 0, .null, .null, .null, .null, .null, .int 0, .null, .int 0, .null, .null, .null, .null, .null, .null, .int 0, .null, .null, .null, .null, .null, .null, .int 0, .null, .int 0]) h16 d_M_init_73 (Or.inr ⟨p_M_35, rfl⟩) rfl rfl rfl (Nat.le_of_ble_eq_true rfl) (fun t17 h17 => ?_)
  refine a_aload_n d_M_init_76 rfl rfl ?_
  refine a_bipush (v := 6) d_M_init_77 (by decide) ?_
  refine ci_arr (t0 := 0) (N := 6) (x := (6, .inl (fun _ => 0))) h17 d_M_init_79 rfl rfl ar_int (fun _ => rfl) (by decide) (by decide) (by decide) rfl (fun t18 h18 => ?_)
  refine ci_put (fs' := [.int 0, .ref (m + 1), .int 0, .ref (m + 2), .int 0, .ref (m + 3), .int 0, .int 0, .int 0, .int (-1), .ref (m + 4), .ref (m + 5), .ref (m + 6), .ref (m + 7), .int 0, .ref (m + 8), .ref (m + 9), .null, .int 0, .int 0, .int 0, .int 0, .long 0, .long 0, .int 0, .int 0, .null, .null, .int 0, .null, .null, .null, .null, .null, .int 0, .null, .int 0, .null, .null, .null, .null, .null, .null, .int 0, .null, .null, .null, .null, .null, .null, .int 0, .null, .int 0]) h18 d_M_init_81 (Or.inr ⟨p_M_38, rfl⟩) rfl rfl rfl (Nat.le_of_ble_eq_true rfl) (fun t19 h19 => ?_)
  refine a_aload_n d_M_init_84 rfl rfl ?_
  refine a_sipush (v := 4096) d_M_init_85 (by decide) ?_
  refine ci_arr (t0 := 0) (N := 4096) (x := (4096, .inl (fun _ => 0))) h19 d_M_init_88 rfl rfl ar_int (fun _ => rfl) (by decide) (by decide) (by decide) rfl (fun t20 h20 => ?_)
  refine ci_put (fs' := [.int 0, .ref (m + 1), .int 0, .ref (m + 2), .int 0, .ref (m + 3), .int 0, .int 0, .int 0, .int (-1), .ref (m + 4), .ref (m + 5), .ref (m + 6), .ref (m + 7), .int 0, .ref (m + 8), .ref (m + 9), .ref (m + 10), .int 0, .int 0, .int 0, .int 0, .long 0, .long 0, .int 0, .int 0, .null, .null, .int 0, .null, .null, .null, .null, .null, .int 0, .null, .int 0, .null, .null, .null, .null, .null, .null, .int 0, .null, .null, .null, .null, .null, .null, .int 0, .null, .int 0]) h20 d_M_init_90 (Or.inr ⟨p_M_41, rfl⟩) rfl rfl rfl (Nat.le_of_ble_eq_true rfl) (fun t21 h21 => ?_)
  refine a_aload_n d_M_init_93 rfl rfl ?_
  refine a_bipush (v := 6) d_M_init_94 (by decide) ?_
  refine ci_arr (t0 := 1) (N := 6) (x := (6, .inr (.inl (fun _ => 0)))) h21 d_M_init_96 rfl rfl ar_long (fun _ => rfl) (by decide) (by decide) (by decide) rfl (fun t22 h22 => ?_)
  refine ci_put (fs' := [.int 0, .ref (m + 1), .int 0, .ref (m + 2), .int 0, .ref (m + 3), .int 0, .int 0, .int 0, .int (-1), .ref (m + 4), .ref (m + 5), .ref (m + 6), .ref (m + 7), .int 0, .ref (m + 8), .ref (m + 9), .ref (m + 10), .int 0, .int 0, .int 0, .int 0, .long 0, .long 0, .int 0, .int 0, .ref (m + 11), .null, .int 0, .null, .null, .null, .null, .null, .int 0, .null, .int 0, .null, .null, .null, .null, .null, .null, .int 0, .null, .null, .null, .null, .null, .null, .int 0, .null, .int 0]) h22 d_M_init_98 (Or.inr ⟨p_M_44, rfl⟩) rfl rfl rfl (Nat.le_of_ble_eq_true rfl) (fun t23 h23 => ?_)
  refine a_aload_n d_M_init_101 rfl rfl ?_
  refine a_bipush (v := 6) d_M_init_102 (by decide) ?_
  refine ci_arr (t0 := 0) (N := 6) (x := (6, .inl (fun _ => 0))) h23 d_M_init_104 rfl rfl ar_int (fun _ => rfl) (by decide) (by decide) (by decide) rfl (fun t24 h24 => ?_)
  refine ci_put (fs' := [.int 0, .ref (m + 1), .int 0, .ref (m + 2), .int 0, .ref (m + 3), .int 0, .int 0, .int 0, .int (-1), .ref (m + 4), .ref (m + 5), .ref (m + 6), .ref (m + 7), .int 0, .ref (m + 8), .ref (m + 9), .ref (m + 10), .int 0, .int 0, .int 0, .int 0, .long 0, .long 0, .int 0, .int 0, .ref (m + 11), .ref (m + 12), .int 0, .null, .null, .null, .null, .null, .int 0, .null, .int 0, .null, .null, .null, .null, .null, .null, .int 0, .null, .null, .null, .null, .null, .null, .int 0, .null, .int 0]) h24 d_M_init_106 (Or.inr ⟨p_M_48, rfl⟩) rfl rfl rfl (Nat.le_of_ble_eq_true rfl) (fun t25 h25 => ?_)
  refine a_aload_n d_M_init_109 rfl rfl ?_
  refine a_bipush (v := 24) d_M_init_110 (by decide) ?_
  refine ci_arr (t0 := 0) (N := 24) (x := (24, .inl (fun _ => 0))) h25 d_M_init_112 rfl rfl ar_int (fun _ => rfl) (by decide) (by decide) (by decide) rfl (fun t26 h26 => ?_)
  refine ci_put (fs' := [.int 0, .ref (m + 1), .int 0, .ref (m + 2), .int 0, .ref (m + 3), .int 0, .int 0, .int 0, .int (-1), .ref (m + 4), .ref (m + 5), .ref (m + 6), .ref (m + 7), .int 0, .ref (m + 8), .ref (m + 9), .ref (m + 10), .int 0, .int 0, .int 0, .int 0, .long 0, .long 0, .int 0, .int 0, .ref (m + 11), .ref (m + 12), .int 0, .ref (m + 13), .null, .null, .null, .null, .int 0, .null, .int 0, .null, .null, .null, .null, .null, .null, .int 0, .null, .null, .null, .null, .null, .null, .int 0, .null, .int 0]) h26 d_M_init_114 (Or.inr ⟨p_M_51, rfl⟩) rfl rfl rfl (Nat.le_of_ble_eq_true rfl) (fun t27 h27 => ?_)
  refine a_aload_n d_M_init_117 rfl rfl ?_
  refine a_bipush (v := 24) d_M_init_118 (by decide) ?_
  refine ci_arr (t0 := 2) (N := 24) (x := (24, .inl (fun _ => 0))) h27 d_M_init_120 rfl rfl ar_boolean (fun _ => rfl) (by decide) (by decide) (by decide) rfl (fun t28 h28 => ?_)
  refine ci_put (fs' := [.int 0, .ref (m + 1), .int 0, .ref (m + 2), .int 0, .ref (m + 3), .int 0, .int 0, .int 0, .int (-1), .ref (m + 4), .ref (m + 5), .ref (m + 6), .ref (m + 7), .int 0, .ref (m + 8), .ref (m + 9), .ref (m + 10), .int 0, .int 0, .int 0, .int 0, .long 0, .long 0, .int 0, .int 0, .ref (m + 11), .ref (m + 12), .int 0, .ref (m + 13), .ref (m + 14), .null, .null, .null, .int 0, .null, .int 0, .null, .null, .null, .null, .null, .null, .int 0, .null, .null, .null, .null, .null, .null, .int 0, .null, .int 0]) h28 d_M_init_122 (Or.inr ⟨p_M_54, rfl⟩) rfl rfl rfl (Nat.le_of_ble_eq_true rfl) (fun t29 h29 => ?_)
  refine a_aload_n d_M_init_125 rfl rfl ?_
  refine a_bipush (v := 24) d_M_init_126 (by decide) ?_
  refine ci_arr (t0 := 0) (N := 24) (x := (24, .inl (fun _ => 0))) h29 d_M_init_128 rfl rfl ar_int (fun _ => rfl) (by decide) (by decide) (by decide) rfl (fun t30 h30 => ?_)
  refine ci_put (fs' := [.int 0, .ref (m + 1), .int 0, .ref (m + 2), .int 0, .ref (m + 3), .int 0, .int 0, .int 0, .int (-1), .ref (m + 4), .ref (m + 5), .ref (m + 6), .ref (m + 7), .int 0, .ref (m + 8), .ref (m + 9), .ref (m + 10), .int 0, .int 0, .int 0, .int 0, .long 0, .long 0, .int 0, .int 0, .ref (m + 11), .ref (m + 12), .int 0, .ref (m + 13), .ref (m + 14), .ref (m + 15), .null, .null, .int 0, .null, .int 0, .null, .null, .null, .null, .null, .null, .int 0, .null, .null, .null, .null, .null, .null, .int 0, .null, .int 0]) h30 d_M_init_130 (Or.inr ⟨p_M_58, rfl⟩) rfl rfl rfl (Nat.le_of_ble_eq_true rfl) (fun t31 h31 => ?_)
  refine a_aload_n d_M_init_133 rfl rfl ?_
  refine a_bipush (v := 24) d_M_init_134 (by decide) ?_
  refine ci_arr (t0 := 0) (N := 24) (x := (24, .inl (fun _ => 0))) h31 d_M_init_136 rfl rfl ar_int (fun _ => rfl) (by decide) (by decide) (by decide) rfl (fun t32 h32 => ?_)
  refine ci_put (fs' := [.int 0, .ref (m + 1), .int 0, .ref (m + 2), .int 0, .ref (m + 3), .int 0, .int 0, .int 0, .int (-1), .ref (m + 4), .ref (m + 5), .ref (m + 6), .ref (m + 7), .int 0, .ref (m + 8), .ref (m + 9), .ref (m + 10), .int 0, .int 0, .int 0, .int 0, .long 0, .long 0, .int 0, .int 0, .ref (m + 11), .ref (m + 12), .int 0, .ref (m + 13), .ref (m + 14), .ref (m + 15), .ref (m + 16), .null, .int 0, .null, .int 0, .null, .null, .null, .null, .null, .null, .int 0, .null, .null, .null, .null, .null, .null, .int 0, .null, .int 0]) h32 d_M_init_138 (Or.inr ⟨p_M_61, rfl⟩) rfl rfl rfl (Nat.le_of_ble_eq_true rfl) (fun t33 h33 => ?_)
  refine a_aload_n d_M_init_141 rfl rfl ?_
  refine a_bipush (v := 24) d_M_init_142 (by decide) ?_
  refine ci_arr (t0 := 0) (N := 24) (x := (24, .inl (fun _ => 0))) h33 d_M_init_144 rfl rfl ar_int (fun _ => rfl) (by decide) (by decide) (by decide) rfl (fun t34 h34 => ?_)
  refine ci_put (fs' := [.int 0, .ref (m + 1), .int 0, .ref (m + 2), .int 0, .ref (m + 3), .int 0, .int 0, .int 0, .int (-1), .ref (m + 4), .ref (m + 5), .ref (m + 6), .ref (m + 7), .int 0, .ref (m + 8), .ref (m + 9), .ref (m + 10), .int 0, .int 0, .int 0, .int 0, .long 0, .long 0, .int 0, .int 0, .ref (m + 11), .ref (m + 12), .int 0, .ref (m + 13), .ref (m + 14), .ref (m + 15), .ref (m + 16), .ref (m + 17), .int 0, .null, .int 0, .null, .null, .null, .null, .null, .null, .int 0, .null, .null, .null, .null, .null, .null, .int 0, .null, .int 0]) h34 d_M_init_146 (Or.inr ⟨p_M_64, rfl⟩) rfl rfl rfl (Nat.le_of_ble_eq_true rfl) (fun t35 h35 => ?_)
  refine a_aload_n d_M_init_149 rfl rfl ?_
  refine a_bipush (v := 24) d_M_init_150 (by decide) ?_
  refine ci_arr (t0 := 1) (N := 24) (x := (24, .inr (.inl (fun _ => 0)))) h35 d_M_init_152 rfl rfl ar_long (fun _ => rfl) (by decide) (by decide) (by decide) rfl (fun t36 h36 => ?_)
  refine ci_put (fs' := [.int 0, .ref (m + 1), .int 0, .ref (m + 2), .int 0, .ref (m + 3), .int 0, .int 0, .int 0, .int (-1), .ref (m + 4), .ref (m + 5), .ref (m + 6), .ref (m + 7), .int 0, .ref (m + 8), .ref (m + 9), .ref (m + 10), .int 0, .int 0, .int 0, .int 0, .long 0, .long 0, .int 0, .int 0, .ref (m + 11), .ref (m + 12), .int 0, .ref (m + 13), .ref (m + 14), .ref (m + 15), .ref (m + 16), .ref (m + 17), .int 0, .ref (m + 18), .int 0, .null, .null, .null, .null, .null, .null, .int 0, .null, .null, .null, .null, .null, .null, .int 0, .null, .int 0]) h36 d_M_init_154 (Or.inr ⟨p_M_67, rfl⟩) rfl rfl rfl (Nat.le_of_ble_eq_true rfl) (fun t37 h37 => ?_)
  refine a_aload_n d_M_init_157 rfl rfl ?_
  refine a_sipush (v := 192) d_M_init_158 (by decide) ?_
  refine ci_arr (t0 := 0) (N := 192) (x := (192, .inl (fun _ => 0))) h37 d_M_init_161 rfl rfl ar_int (fun _ => rfl) (by decide) (by decide) (by decide) rfl (fun t38 h38 => ?_)
  refine ci_put (fs' := [.int 0, .ref (m + 1), .int 0, .ref (m + 2), .int 0, .ref (m + 3), .int 0, .int 0, .int 0, .int (-1), .ref (m + 4), .ref (m + 5), .ref (m + 6), .ref (m + 7), .int 0, .ref (m + 8), .ref (m + 9), .ref (m + 10), .int 0, .int 0, .int 0, .int 0, .long 0, .long 0, .int 0, .int 0, .ref (m + 11), .ref (m + 12), .int 0, .ref (m + 13), .ref (m + 14), .ref (m + 15), .ref (m + 16), .ref (m + 17), .int 0, .ref (m + 18), .int 0, .ref (m + 19), .null, .null, .null, .null, .null, .int 0, .null, .null, .null, .null, .null, .null, .int 0, .null, .int 0]) h38 d_M_init_163 (Or.inr ⟨p_M_70, rfl⟩) rfl rfl rfl (Nat.le_of_ble_eq_true rfl) (fun t39 h39 => ?_)
  refine a_aload_n d_M_init_166 rfl rfl ?_
  refine a_sipush (v := 192) d_M_init_167 (by decide) ?_
  refine ci_arr (t0 := 0) (N := 192) (x := (192, .inl (fun _ => 0))) h39 d_M_init_170 rfl rfl ar_int (fun _ => rfl) (by decide) (by decide) (by decide) rfl (fun t40 h40 => ?_)
  refine ci_put (fs' := [.int 0, .ref (m + 1), .int 0, .ref (m + 2), .int 0, .ref (m + 3), .int 0, .int 0, .int 0, .int (-1), .ref (m + 4), .ref (m + 5), .ref (m + 6), .ref (m + 7), .int 0, .ref (m + 8), .ref (m + 9), .ref (m + 10), .int 0, .int 0, .int 0, .int 0, .long 0, .long 0, .int 0, .int 0, .ref (m + 11), .ref (m + 12), .int 0, .ref (m + 13), .ref (m + 14), .ref (m + 15), .ref (m + 16), .ref (m + 17), .int 0, .ref (m + 18), .int 0, .ref (m + 19), .ref (m + 20), .null, .null, .null, .null, .int 0, .null, .null, .null, .null, .null, .null, .int 0, .null, .int 0]) h40 d_M_init_172 (Or.inr ⟨p_M_73, rfl⟩) rfl rfl rfl (Nat.le_of_ble_eq_true rfl) (fun t41 h41 => ?_)
  refine a_aload_n d_M_init_175 rfl rfl ?_
  refine a_sipush (v := 192) d_M_init_176 (by decide) ?_
  refine ci_arr (t0 := 0) (N := 192) (x := (192, .inl (fun _ => 0))) h41 d_M_init_179 rfl rfl ar_int (fun _ => rfl) (by decide) (by decide) (by decide) rfl (fun t42 h42 => ?_)
  refine ci_put (fs' := [.int 0, .ref (m + 1), .int 0, .ref (m + 2), .int 0, .ref (m + 3), .int 0, .int 0, .int 0, .int (-1), .ref (m + 4), .ref (m + 5), .ref (m + 6), .ref (m + 7), .int 0, .ref (m + 8), .ref (m + 9), .ref (m + 10), .int 0, .int 0, .int 0, .int 0, .long 0, .long 0, .int 0, .int 0, .ref (m + 11), .ref (m + 12), .int 0, .ref (m + 13), .ref (m + 14), .ref (m + 15), .ref (m + 16), .ref (m + 17), .int 0, .ref (m + 18), .int 0, .ref (m + 19), .ref (m + 20), .ref (m + 21), .null, .null, .null, .int 0, .null, .null, .null, .null, .null, .null, .int 0, .null, .int 0]) h42 d_M_init_181 (Or.inr ⟨p_M_76, rfl⟩) rfl rfl rfl (Nat.le_of_ble_eq_true rfl) (fun t43 h43 => ?_)
  refine a_aload_n d_M_init_184 rfl rfl ?_
  refine a_sipush (v := 192) d_M_init_185 (by decide) ?_
  refine ci_arr (t0 := 0) (N := 192) (x := (192, .inl (fun _ => 0))) h43 d_M_init_188 rfl rfl ar_int (fun _ => rfl) (by decide) (by decide) (by decide) rfl (fun t44 h44 => ?_)
  refine ci_put (fs' := [.int 0, .ref (m + 1), .int 0, .ref (m + 2), .int 0, .ref (m + 3), .int 0, .int 0, .int 0, .int (-1), .ref (m + 4), .ref (m + 5), .ref (m + 6), .ref (m + 7), .int 0, .ref (m + 8), .ref (m + 9), .ref (m + 10), .int 0, .int 0, .int 0, .int 0, .long 0, .long 0, .int 0, .int 0, .ref (m + 11), .ref (m + 12), .int 0, .ref (m + 13), .ref (m + 14), .ref (m + 15), .ref (m + 16), .ref (m + 17), .int 0, .ref (m + 18), .int 0, .ref (m + 19), .ref (m + 20), .ref (m + 21), .ref (m + 22), .null, .null, .int 0, .null, .null, .null, .null, .null, .null, .int 0, .null, .int 0]) h44 d_M_init_190 (Or.inr ⟨p_M_79, rfl⟩) rfl rfl rfl (Nat.le_of_ble_eq_true rfl) (fun t45 h45 => ?_)
  refine a_aload_n d_M_init_193 rfl rfl ?_
  refine a_sipush (v := 192) d_M_init_194 (by decide) ?_
  refine ci_arr (t0 := 1) (N := 192) (x := (192, .inr (.inl (fun _ => 0)))) h45 d_M_init_197 rfl rfl ar_long (fun _ => rfl) (by decide) (by decide) (by decide) rfl (fun t46 h46 => ?_)
  refine ci_put (fs' := [.int 0, .ref (m + 1), .int 0, .ref (m + 2), .int 0, .ref (m + 3), .int 0, .int 0, .int 0, .int (-1), .ref (m + 4), .ref (m + 5), .ref (m + 6), .ref (m + 7), .int 0, .ref (m + 8), .ref (m + 9), .ref (m + 10), .int 0, .int 0, .int 0, .int 0, .long 0, .long 0, .int 0, .int 0, .ref (m + 11), .ref (m + 12), .int 0, .ref (m + 13), .ref (m + 14), .ref (m + 15), .ref (m + 16), .ref (m + 17), .int 0, .ref (m + 18), .int 0, .ref (m + 19), .ref (m + 20), .ref (m + 21), .ref (m + 22), .ref (m + 23), .null, .int 0, .null, .null, .null, .null, .null, .null, .int 0, .null, .int 0]) h46 d_M_init_199 (Or.inr ⟨p_M_82, rfl⟩) rfl rfl rfl (Nat.le_of_ble_eq_true rfl) (fun t47 h47 => ?_)
  refine a_aload_n d_M_init_202 rfl rfl ?_
  refine a_sipush (v := 192) d_M_init_203 (by decide) ?_
  refine ci_arr (t0 := 0) (N := 192) (x := (192, .inl (fun _ => 0))) h47 d_M_init_206 rfl rfl ar_int (fun _ => rfl) (by decide) (by decide) (by decide) rfl (fun t48 h48 => ?_)
  refine ci_put (fs' := [.int 0, .ref (m + 1), .int 0, .ref (m + 2), .int 0, .ref (m + 3), .int 0, .int 0, .int 0, .int (-1), .ref (m + 4), .ref (m + 5), .ref (m + 6), .ref (m + 7), .int 0, .ref (m + 8), .ref (m + 9), .ref (m + 10), .int 0, .int 0, .int 0, .int 0, .long 0, .long 0, .int 0, .int 0, .ref (m + 11), .ref (m + 12), .int 0, .ref (m + 13), .ref (m + 14), .ref (m + 15), .ref (m + 16), .ref (m + 17), .int 0, .ref (m + 18), .int 0, .ref (m + 19), .ref (m + 20), .ref (m + 21), .ref (m + 22), .ref (m + 23), .ref (m + 24), .int 0, .null, .null, .null, .null, .null, .null, .int 0, .null, .int 0]) h48 d_M_init_208 (Or.inr ⟨p_M_85, rfl⟩) rfl rfl rfl (Nat.le_of_ble_eq_true rfl) (fun t49 h49 => ?_)
  refine a_aload_n d_M_init_211 rfl rfl ?_
  refine a_sipush (v := 900) d_M_init_212 (by decide) ?_
  refine ci_arr (t0 := 2) (N := 900) (x := (900, .inl (fun _ => 0))) h49 d_M_init_215 rfl rfl ar_boolean (fun _ => rfl) (by decide) (by decide) (by decide) rfl (fun t50 h50 => ?_)
  refine ci_put (fs' := [.int 0, .ref (m + 1), .int 0, .ref (m + 2), .int 0, .ref (m + 3), .int 0, .int 0, .int 0, .int (-1), .ref (m + 4), .ref (m + 5), .ref (m + 6), .ref (m + 7), .int 0, .ref (m + 8), .ref (m + 9), .ref (m + 10), .int 0, .int 0, .int 0, .int 0, .long 0, .long 0, .int 0, .int 0, .ref (m + 11), .ref (m + 12), .int 0, .ref (m + 13), .ref (m + 14), .ref (m + 15), .ref (m + 16), .ref (m + 17), .int 0, .ref (m + 18), .int 0, .ref (m + 19), .ref (m + 20), .ref (m + 21), .ref (m + 22), .ref (m + 23), .ref (m + 24), .int 0, .ref (m + 25), .null, .null, .null, .null, .null, .int 0, .null, .int 0]) h50 d_M_init_217 (Or.inr ⟨p_M_88, rfl⟩) rfl rfl rfl (Nat.le_of_ble_eq_true rfl) (fun t51 h51 => ?_)
  refine a_aload_n d_M_init_220 rfl rfl ?_
  refine a_sipush (v := 900) d_M_init_221 (by decide) ?_
  refine ci_arr (t0 := 0) (N := 900) (x := (900, .inl (fun _ => 0))) h51 d_M_init_224 rfl rfl ar_int (fun _ => rfl) (by decide) (by decide) (by decide) rfl (fun t52 h52 => ?_)
  refine ci_put (fs' := [.int 0, .ref (m + 1), .int 0, .ref (m + 2), .int 0, .ref (m + 3), .int 0, .int 0, .int 0, .int (-1), .ref (m + 4), .ref (m + 5), .ref (m + 6), .ref (m + 7), .int 0, .ref (m + 8), .ref (m + 9), .ref (m + 10), .int 0, .int 0, .int 0, .int 0, .long 0, .long 0, .int 0, .int 0, .ref (m + 11), .ref (m + 12), .int 0, .ref (m + 13), .ref (m + 14), .ref (m + 15), .ref (m + 16), .ref (m + 17), .int 0, .ref (m + 18), .int 0, .ref (m + 19), .ref (m + 20), .ref (m + 21), .ref (m + 22), .ref (m + 23), .ref (m + 24), .int 0, .ref (m + 25), .ref (m + 26), .null, .null, .null, .null, .int 0, .null, .int 0]) h52 d_M_init_226 (Or.inr ⟨p_M_91, rfl⟩) rfl rfl rfl (Nat.le_of_ble_eq_true rfl) (fun t53 h53 => ?_)
  refine a_aload_n d_M_init_229 rfl rfl ?_
  refine a_sipush (v := 900) d_M_init_230 (by decide) ?_
  refine ci_arr (t0 := 1) (N := 900) (x := (900, .inr (.inl (fun _ => 0)))) h53 d_M_init_233 rfl rfl ar_long (fun _ => rfl) (by decide) (by decide) (by decide) rfl (fun t54 h54 => ?_)
  refine ci_put (fs' := [.int 0, .ref (m + 1), .int 0, .ref (m + 2), .int 0, .ref (m + 3), .int 0, .int 0, .int 0, .int (-1), .ref (m + 4), .ref (m + 5), .ref (m + 6), .ref (m + 7), .int 0, .ref (m + 8), .ref (m + 9), .ref (m + 10), .int 0, .int 0, .int 0, .int 0, .long 0, .long 0, .int 0, .int 0, .ref (m + 11), .ref (m + 12), .int 0, .ref (m + 13), .ref (m + 14), .ref (m + 15), .ref (m + 16), .ref (m + 17), .int 0, .ref (m + 18), .int 0, .ref (m + 19), .ref (m + 20), .ref (m + 21), .ref (m + 22), .ref (m + 23), .ref (m + 24), .int 0, .ref (m + 25), .ref (m + 26), .ref (m + 27), .null, .null, .null, .int 0, .null, .int 0]) h54 d_M_init_235 (Or.inr ⟨p_M_94, rfl⟩) rfl rfl rfl (Nat.le_of_ble_eq_true rfl) (fun t55 h55 => ?_)
  refine a_aload_n d_M_init_238 rfl rfl ?_
  refine a_sipush (v := 900) d_M_init_239 (by decide) ?_
  refine ci_arr (t0 := 0) (N := 900) (x := (900, .inl (fun _ => 0))) h55 d_M_init_242 rfl rfl ar_int (fun _ => rfl) (by decide) (by decide) (by decide) rfl (fun t56 h56 => ?_)
  refine ci_put (fs' := [.int 0, .ref (m + 1), .int 0, .ref (m + 2), .int 0, .ref (m + 3), .int 0, .int 0, .int 0, .int (-1), .ref (m + 4), .ref (m + 5), .ref (m + 6), .ref (m + 7), .int 0, .ref (m + 8), .ref (m + 9), .ref (m + 10), .int 0, .int 0, .int 0, .int 0, .long 0, .long 0, .int 0, .int 0, .ref (m + 11), .ref (m + 12), .int 0, .ref (m + 13), .ref (m + 14), .ref (m + 15), .ref (m + 16), .ref (m + 17), .int 0, .ref (m + 18), .int 0, .ref (m + 19), .ref (m + 20), .ref (m + 21), .ref (m + 22), .ref (m + 23), .ref (m + 24), .int 0, .ref (m + 25), .ref (m + 26), .ref (m + 27), .ref (m + 28), .null, .null, .int 0, .null, .int 0]) h56 d_M_init_244 (Or.inr ⟨p_M_97, rfl⟩) rfl rfl rfl (Nat.le_of_ble_eq_true rfl) (fun t57 h57 => ?_)
  refine a_aload_n d_M_init_247 rfl rfl ?_
  refine a_sipush (v := 900) d_M_init_248 (by decide) ?_
  refine ci_arr (t0 := 0) (N := 900) (x := (900, .inl (fun _ => 0))) h57 d_M_init_251 rfl rfl ar_int (fun _ => rfl) (by decide) (by decide) (by decide) rfl (fun t58 h58 => ?_)
  refine ci_put (fs' := [.int 0, .ref (m + 1), .int 0, .ref (m + 2), .int 0, .ref (m + 3), .int 0, .int 0, .int 0, .int (-1), .ref (m + 4), .ref (m + 5), .ref (m + 6), .ref (m + 7), .int 0, .ref (m + 8), .ref (m + 9), .ref (m + 10), .int 0, .int 0, .int 0, .int 0, .long 0, .long 0, .int 0, .int 0, .ref (m + 11), .ref (m + 12), .int 0, .ref (m + 13), .ref (m + 14), .ref (m + 15), .ref (m + 16), .ref (m + 17), .int 0, .ref (m + 18), .int 0, .ref (m + 19), .ref (m + 20), .ref (m + 21), .ref (m + 22), .ref (m + 23), .ref (m + 24), .int 0, .ref (m + 25), .ref (m + 26), .ref (m + 27), .ref (m + 28), .ref (m + 29), .null, .int 0, .null, .int 0]) h58 d_M_init_253 (Or.inr ⟨p_M_100, rfl⟩) rfl rfl rfl (Nat.le_of_ble_eq_true rfl) (fun t59 h59 => ?_)
  refine a_aload_n d_M_init_256 rfl rfl ?_
  refine a_sipush (v := 900) d_M_init_257 (by decide) ?_
  refine ci_arr (t0 := 2) (N := 900) (x := (900, .inl (fun _ => 0))) h59 d_M_init_260 rfl rfl ar_boolean (fun _ => rfl) (by decide) (by decide) (by decide) rfl (fun t60 h60 => ?_)
  refine ci_put (fs' := [.int 0, .ref (m + 1), .int 0, .ref (m + 2), .int 0, .ref (m + 3), .int 0, .int 0, .int 0, .int (-1), .ref (m + 4), .ref (m + 5), .ref (m + 6), .ref (m + 7), .int 0, .ref (m + 8), .ref (m + 9), .ref (m + 10), .int 0, .int 0, .int 0, .int 0, .long 0, .long 0, .int 0, .int 0, .ref (m + 11), .ref (m + 12), .int 0, .ref (m + 13), .ref (m + 14), .ref (m + 15), .ref (m + 16), .ref (m + 17), .int 0, .ref (m + 18), .int 0, .ref (m + 19), .ref (m + 20), .ref (m + 21), .ref (m + 22), .ref (m + 23), .ref (m + 24), .int 0, .ref (m + 25), .ref (m + 26), .ref (m + 27), .ref (m + 28), .ref (m + 29), .ref (m + 30), .int 0, .null, .int 0]) h60 d_M_init_262 (Or.inr ⟨p_M_103, rfl⟩) rfl rfl rfl (Nat.le_of_ble_eq_true rfl) (fun t61 h61 => ?_)
  refine a_aload_n d_M_init_265 rfl rfl ?_
  refine a_sipush (v := 5000) d_M_init_266 (by decide) ?_
  refine ci_arr (t0 := 0) (N := 5000) (x := (5000, .inl (fun _ => 0))) h61 d_M_init_269 rfl rfl ar_int (fun _ => rfl) (by decide) (by decide) (by decide) rfl (fun t62 h62 => ?_)
  refine ci_put (fs' := [.int 0, .ref (m + 1), .int 0, .ref (m + 2), .int 0, .ref (m + 3), .int 0, .int 0, .int 0, .int (-1), .ref (m + 4), .ref (m + 5), .ref (m + 6), .ref (m + 7), .int 0, .ref (m + 8), .ref (m + 9), .ref (m + 10), .int 0, .int 0, .int 0, .int 0, .long 0, .long 0, .int 0, .int 0, .ref (m + 11), .ref (m + 12), .int 0, .ref (m + 13), .ref (m + 14), .ref (m + 15), .ref (m + 16), .ref (m + 17), .int 0, .ref (m + 18), .int 0, .ref (m + 19), .ref (m + 20), .ref (m + 21), .ref (m + 22), .ref (m + 23), .ref (m + 24), .int 0, .ref (m + 25), .ref (m + 26), .ref (m + 27), .ref (m + 28), .ref (m + 29), .ref (m + 30), .int 0, .ref (m + 31), .int 0]) h62 d_M_init_271 (Or.inr ⟨p_M_106, rfl⟩) rfl rfl rfl (Nat.le_of_ble_eq_true rfl) (fun t63 h63 => ?_)
  exact hK t63 (h63.1) (by have := h63.2.1; omega) h63.2.2.1 h63.2.2.2.1 h63.2.2.2.2

def f8 (k : Nat) : Nat := [40, 110, 111, 100, 101, 32, 97, 41].getD k 0
/-- the text (node a) stands -/
def x8 : aX := sI (sA (sA (sA (sA (sA (sA (sA (sA x0 10 0 40) 10 6 97) 10 7 41) 10 1 110) 10 2 111) 10 3 100) 10 4 101) 10 5 32) 18 8
theorem x8_k : ∀ k, k < 8 → x8.2.2.1 10 k = nI (f8 k) ∧ f8 k < 256 := by decide +kernel
theorem MX_8 : MX x8 8 f8 := ⟨rfl, by decide, x8_k⟩
set_option maxHeartbeats 1000000 in
set_option maxRecDepth 100000 in
theorem in_end {σ0 : aS} (hK : ∀ z d, PP x8 z → RDN 8 f8 d → LPo d z → K none (mk σ0 m z)) : a_J G m_M_init 11 238 274 [(0, .ref m)] [] (mk σ0 m x0) K := by
  refine a_aload_n d_M_init_274 rfl rfl ?_
  refine m_get d_M_init_275 f_M_41 rfl ?_
  refine a_iconst (v := 0) d_M_init_278 (by decide) ?_
  refine a_bipush (v := 40) d_M_init_279 (by decide) ?_
  refine m_iast d_M_init_281 (by decide) rfl (vp_in_nI (show 0 < 4096 by decide) (by decide)) ?_
  refine a_aload_n d_M_init_282 rfl rfl ?_
  refine m_get d_M_init_283 f_M_41 rfl ?_
  refine a_bipush (v := 6) d_M_init_286 (by decide) ?_
  refine a_bipush (v := 97) d_M_init_288 (by decide) ?_
  refine m_iast d_M_init_290 (by decide) rfl (vp_in_nI (show 6 < 4096 by decide) (by decide)) ?_
  refine a_aload_n d_M_init_291 rfl rfl ?_
  refine m_get d_M_init_292 f_M_41 rfl ?_
  refine a_bipush (v := 7) d_M_init_295 (by decide) ?_
  refine a_bipush (v := 41) d_M_init_297 (by decide) ?_
  refine m_iast d_M_init_299 (by decide) rfl (vp_in_nI (show 7 < 4096 by decide) (by decide)) ?_
  refine a_aload_n d_M_init_300 rfl rfl ?_
  refine m_get d_M_init_301 f_M_41 rfl ?_
  refine a_iconst (v := 1) d_M_init_304 (by decide) ?_
  refine a_bipush (v := 110) d_M_init_305 (by decide) ?_
  refine m_iast d_M_init_307 (by decide) rfl (vp_in_nI (show 1 < 4096 by decide) (by decide)) ?_
  refine a_aload_n d_M_init_308 rfl rfl ?_
  refine m_get d_M_init_309 f_M_41 rfl ?_
  refine a_iconst (v := 2) d_M_init_312 (by decide) ?_
  refine a_bipush (v := 111) d_M_init_313 (by decide) ?_
  refine m_iast d_M_init_315 (by decide) rfl (vp_in_nI (show 2 < 4096 by decide) (by decide)) ?_
  refine a_aload_n d_M_init_316 rfl rfl ?_
  refine m_get d_M_init_317 f_M_41 rfl ?_
  refine a_iconst (v := 3) d_M_init_320 (by decide) ?_
  refine a_bipush (v := 100) d_M_init_321 (by decide) ?_
  refine m_iast d_M_init_323 (by decide) rfl (vp_in_nI (show 3 < 4096 by decide) (by decide)) ?_
  refine a_aload_n d_M_init_324 rfl rfl ?_
  refine m_get d_M_init_325 f_M_41 rfl ?_
  refine a_iconst (v := 4) d_M_init_328 (by decide) ?_
  refine a_bipush (v := 101) d_M_init_329 (by decide) ?_
  refine m_iast d_M_init_331 (by decide) rfl (vp_in_nI (show 4 < 4096 by decide) (by decide)) ?_
  refine a_aload_n d_M_init_332 rfl rfl ?_
  refine m_get d_M_init_333 f_M_41 rfl ?_
  refine a_iconst (v := 5) d_M_init_336 (by decide) ?_
  refine a_bipush (v := 32) d_M_init_337 (by decide) ?_
  refine m_iast d_M_init_339 (by decide) rfl (vp_in_nI (show 5 < 4096 by decide) (by decide)) ?_
  refine a_aload_n d_M_init_340 rfl rfl ?_
  refine a_bipush (v := 8) d_M_init_341 (by decide) ?_
  refine m_putI d_M_init_343 p_M_109 rfl rfl (by decide) ?_
  refine a_aload_n d_M_init_346 rfl rfl ?_
  apply a_callV (ci := 7) 10 217 [] _ d_M_init_347 l_M_112 ⟨im_M_readPolicy, se_M_readPolicy⟩ rfl rfl rfl rfl (Nat.le_of_ble_eq_true rfl) ⟨Nat.le_of_ble_eq_true rfl, Nat.le_of_ble_eq_true rfl⟩
  · (exact mk_O)
  refine sp_M_readPolicy (x := x8) MX_8 (fun z d h1 h2 h3 => ?_)
  exact a_return d_M_init_350 rfl (hK z d h1 h2 h3)

theorem sp_M_init (h0 : σ.2.2 m = some (.inr (7, [.int 0, .null, .int 0, .null, .int 0, .null, .int 0, .int 0, .int 0, .int 0, .null, .null, .null, .null, .int 0, .null, .null, .null, .int 0, .int 0, .int 0, .int 0, .long 0, .long 0, .int 0, .int 0, .null, .null, .int 0, .null, .null, .null, .null, .null, .int 0, .null, .int 0, .null, .null, .null, .null, .null, .null, .int 0, .null, .null, .null, .null, .null, .null, .int 0, .null, .int 0]))) (hn : σ.1 = m + 1) (hK : ∀ (τ : aS) (z : aX) (d : aN), τ.1 = m + 32 → τ.2.1 = σ.2.1 + 48617 → (∀ a, a < m → τ.2.2 a = σ.2.2 a) → PP x8 z → RDN 8 f8 d → LPo d z → K none (mk τ m z)) : a_C G m_M_init 11 238 [.ref m] σ K := by
  refine in_274 h0 hn (fun τ h1 h2 h3 h4 h5 => ?_)
  rw [← mk_self h3 h4]
  exact in_end (fun z d g1 g2 g3 => hK τ z d h1 h2 h5 g1 g2 g3)
/-! the policy of the beginning -/
def c8 : aN := ait 8 f8 5 aC0
theorem c8_s : c8.1 0 0 = 0 ∧ c8.1 2 0 = 0 ∧ c8.1 4 0 = 0 ∧ c8.1 5 0 = 0 ∧ c8.1 6 0 = 1 ∧ c8.1 7 0 = 0 ∧ c8.1 8 0 = 0 ∧ c8.1 9 0 = 0 ∧ c8.1 22 0 = 0 ∧ c8.2.1 1 0 = [97] := by decide +kernel
theorem RDN_8 {d : aN} (h : RDN 8 f8 d) : d = c8 := by
  obtain ⟨c, h1, h2, h3⟩ := h
  have : c = c8 := aRc_end h1 h2 ⟨5, rfl⟩ (Or.inr c8_s.1)
  rw [h3, this]
  unfold aEnd
  rw [if_pos c8_s.2.1, c8_s.2.2.2.2.2.2.2.1]; rfl
theorem PC_8 : PC c8 (ah ((0, 0, 0), fun _ => 0, fun _ _ => 0) 1 1) := by
  obtain ⟨s0, s2, s4, s5, s6, s7, s8, s9, s22, sn⟩ := c8_s
  have e1 : ∀ a k, (ah ((0, 0, 0), fun _ => 0, fun _ _ => 0) 1 1).2.2 a k = 0 := by
    intro a k
    unfold ah
    rw [if_neg (by decide)]
    dsimp only [updA]
    split
    · by_cases e : k = 6 + 0
      · rw [e, pk_us]
      · rw [pk_un e]
    · rfl
  unfold PC PI
  rw [s4, s5, s6, s7, s8]
  refine ⟨⟨by decide, by decide, fun k _ => ⟨0, by decide, e1 4 k⟩, fun k _ => ⟨0, by decide, e1 4 (6 + k)⟩, fun k _ => ⟨0, by decide, e1 10 k⟩⟩, rfl, fun k hk => absurd hk (by omega), fun k hk => ?_, fun k hk => absurd hk (by omega), fun k hk => absurd hk (by omega)⟩
  have : k = 0 := by omega
  subst this
  rw [sn, s22, e1]
  exact ⟨by decide +kernel, rfl⟩
end ModM31
