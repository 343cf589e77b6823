/-! THE MODEL: an object m, its arrays m + 1 .. m + 31; x = (ints, longs, rows of ints, rows of longs); the heap as a function of x -/
abbrev aX : Type := (Nat → Int32) × (Nat → Int64) × (Nat → Nat → Int32) × (Nat → Nat → Int64)
def mT (a : Nat) : Nat := [0, 0, 0, 0, 0, 0, 0, 0, 0, 0, 0, 1, 0, 0, 2, 0, 0, 0, 1, 0, 0, 0, 0, 1, 0, 2, 0, 1, 0, 0, 2, 0].getD a 0
def mN (a : Nat) : Nat := [0, 4096, 8192, 16384, 4096, 6, 24, 6, 3, 6, 4096, 6, 6, 24, 24, 24, 24, 24, 24, 192, 192, 192, 192, 192, 192, 900, 900, 900, 900, 900, 900, 5000].getD a 0
def mO (m : Nat) (x : aX) : List Value := [.int (x.1 0), .ref (m + 1), .int (x.1 2), .ref (m + 2), .int (x.1 4), .ref (m + 3), .int (x.1 6), .int (x.1 7), .int (x.1 8), .int (x.1 9), .ref (m + 4), .ref (m + 5), .ref (m + 6), .ref (m + 7), .int (x.1 14), .ref (m + 8), .ref (m + 9), .ref (m + 10), .int (x.1 18), .int (x.1 19), .int (x.1 20), .int (x.1 21), .long (x.2.1 22), .long (x.2.1 23), .int (x.1 24), .int (x.1 25), .ref (m + 11), .ref (m + 12), .int (x.1 28), .ref (m + 13), .ref (m + 14), .ref (m + 15), .ref (m + 16), .ref (m + 17), .int (x.1 34), .ref (m + 18), .int (x.1 36), .ref (m + 19), .ref (m + 20), .ref (m + 21), .ref (m + 22), .ref (m + 23), .ref (m + 24), .int (x.1 43), .ref (m + 25), .ref (m + 26), .ref (m + 27), .ref (m + 28), .ref (m + 29), .ref (m + 30), .int (x.1 50), .ref (m + 31), .int (x.1 52)]
def mC (x : aX) (a : Nat) : aE := if mT a = 1 then .inl (.long, mN a, .inr (.inl (x.2.2.2 a))) else if mT a = 2 then .inl (.boolean, mN a, .inl (x.2.2.1 a)) else .inl (.int, mN a, .inl (x.2.2.1 a))
def mk (σ0 : aS) (m : Nat) (x : aX) : aS := (σ0.1, σ0.2.1, fun a => if a = m then some (.inr (7, mO m x)) else if m < a ∧ a ≤ m + 31 then some (mC x (a - m)) else σ0.2.2 a)
def updB (A : Nat → Nat → Int64) (i k : Nat) (v : Int64) : Nat → Nat → Int64 := fun a => if a = i then vp_updL (A a) k v else A a
def sI (x : aX) (k : Nat) (v : Int32) : aX := (upd x.1 k v, x.2)
def sJ (x : aX) (k : Nat) (v : Int64) : aX := (x.1, vp_updL x.2.1 k v, x.2.2)
def sA (x : aX) (a i : Nat) (v : Int32) : aX := (x.1, x.2.1, updA x.2.2.1 a i v, x.2.2.2)
def sB (x : aX) (a i : Nat) (v : Int64) : aX := (x.1, x.2.1, x.2.2.1, updB x.2.2.2 a i v)
section ModM
variable {G : aG} {μ : aM} {d lo pc : Nat} {lv : List (Nat × Value)} {st : List Value} {σ0 : aS} {K : Option Value → aS → Prop} {m : Nat} {x : aX}
theorem mk_O : (mk σ0 m x).2.2 m = some (.inr (7, mO m x)) := by dsimp only [mk]; rw [if_pos rfl]
theorem mk_C (a : Nat) (h : 1 ≤ a ∧ a ≤ 31) : (mk σ0 m x).2.2 (m + a) = some (mC x a) := by
  dsimp only [mk]; rw [if_neg (by omega), if_pos (by omega), show m + a - m = a by omega]
theorem mk_out {a : Nat} (h : a < m ∨ m + 31 < a) : (mk σ0 m x).2.2 a = σ0.2.2 a := by
  dsimp only [mk]; rw [if_neg (by omega), if_neg (by omega)]
theorem mk_obj {y : aX} (hA : y.2.2 = x.2.2) : a_upd (mk σ0 m x) m (.inr (7, mO m y)) = mk σ0 m y := by
  refine aS_ext rfl rfl fun a => ?_
  dsimp only [mk, a_upd]
  by_cases e : a = m
  · rw [if_pos e, if_pos e]
  · rw [if_neg e, if_neg e, if_neg e]
    have : ∀ b, mC x b = mC y b := fun b => by unfold mC; rw [hA]
    by_cases h : m < a ∧ a ≤ m + 31
    · rw [if_pos h, if_pos h, this]
    · rw [if_neg h, if_neg h]
theorem mk_arr {y : aX} {a : Nat} (h : 1 ≤ a ∧ a ≤ 31) (h1 : y.1 = x.1) (h2 : y.2.1 = x.2.1) (hA : ∀ b, b ≠ a → mC y b = mC x b) : a_upd (mk σ0 m x) (m + a) (mC y a) = mk σ0 m y := by
  refine aS_ext rfl rfl fun b => ?_
  have hO : mO m y = mO m x := by unfold mO; rw [h1, h2]
  dsimp only [mk, a_upd]
  by_cases e0 : b = m
  · rw [if_neg (by omega), if_pos e0, if_pos e0, hO]
  · by_cases e : b = m + a
    · rw [if_pos e, if_neg e0, if_pos (by omega), show b - m = a by omega]
    · rw [if_neg e, if_neg e0, if_neg e0]
      by_cases g : m < b ∧ b ≤ m + 31
      · rw [if_pos g, if_pos g, hA _ (by omega)]
      · rw [if_neg g, if_neg g]
theorem m_get {idx k : Nat} {v : Value} (hd : decode μ.2.1 pc = .ok (.getfield idx, 3)) (hL : a_fl μ.1.cls idx 7 k) (hv : (mO m x)[k]? = some v) (kk : a_J G μ d lo (pc + 3) lv (v :: st) (mk σ0 m x) K) : a_J G μ d lo pc lv (.ref m :: st) (mk σ0 m x) K := a_getfield hd hL mk_O hv kk
theorem m_putI {idx k : Nat} {v : Int32} (hd : decode μ.2.1 pc = .ok (.putfield idx, 3)) (hL : a_fp μ.1.cls idx 7 k .int false) (hk : (mO m x).set k (.int v) = mO m (sI x k v)) (hn : narrow .int (.int v) = .int v) (hl : k < 53) (kk : a_J G μ d lo (pc + 3) lv st (mk σ0 m (sI x k v)) K) : a_J G μ d lo pc lv (.int v :: .ref m :: st) (mk σ0 m x) K := by
  refine a_putfield hd hL mk_O hn rfl hl ?_
  rw [hk, mk_obj (x := x) (y := sI x k v) rfl]; exact kk
theorem m_putJ {idx k : Nat} {v : Int64} (hd : decode μ.2.1 pc = .ok (.putfield idx, 3)) (hL : a_fp μ.1.cls idx 7 k .long false) (hk : (mO m x).set k (.long v) = mO m (sJ x k v)) (hn : narrow .long (.long v) = .long v) (hl : k < 53) (kk : a_J G μ d lo (pc + 3) lv st (mk σ0 m (sJ x k v)) K) : a_J G μ d lo pc lv (.long v :: .ref m :: st) (mk σ0 m x) K := by
  refine a_putfield hd hL mk_O hn rfl hl ?_
  rw [hk, mk_obj (x := x) (y := sJ x k v) rfl]; exact kk
theorem mC_0 {a : Nat} (ht : mT a = 0) : mC x a = .inl (.int, mN a, .inl (x.2.2.1 a)) := by unfold mC; rw [if_neg (by omega), if_neg (by omega)]
theorem mC_1 {a : Nat} (ht : mT a = 1) : mC x a = .inl (.long, mN a, .inr (.inl (x.2.2.2 a))) := by unfold mC; rw [if_pos ht]
theorem mC_2 {a : Nat} (ht : mT a = 2) : mC x a = .inl (.boolean, mN a, .inl (x.2.2.1 a)) := by unfold mC; rw [if_neg (by omega), if_pos ht]
theorem mC_sA {a i : Nat} {v : Int32} : ∀ b, b ≠ a → mC (sA x a i v) b = mC x b := fun b hb => by
  have : (sA x a i v).2.2.1 b = x.2.2.1 b := updA_ne hb
  unfold mC; rw [this]; rfl
theorem mC_sB {a i : Nat} {v : Int64} : ∀ b, b ≠ a → mC (sB x a i v) b = mC x b := fun b hb => by
  have : (sB x a i v).2.2.2 b = x.2.2.2 b := if_neg hb
  unfold mC; rw [this]; rfl
theorem m_iald {a : Nat} {i : Int32} (hd : decode μ.2.1 pc = .ok (.iaload, 1)) (ha : 1 ≤ a ∧ a ≤ 31) (ht : mT a = 0) (hin : vp_in i (mN a)) (kk : a_J G μ d lo (pc + 1) lv (.int (x.2.2.1 a i.toNatClampNeg) :: st) (mk σ0 m x) K) : a_J G μ d lo pc lv (.int i :: .ref (m + a) :: st) (mk σ0 m x) K :=
  a_iald (t0 := 0) hd rfl ((mk_C a ha).trans (by rw [mC_0 ht])) hin kk
theorem m_zald {a : Nat} {i : Int32} (hd : decode μ.2.1 pc = .ok (.baload, 1)) (ha : 1 ≤ a ∧ a ≤ 31) (ht : mT a = 2) (hin : vp_in i (mN a)) (kk : a_J G μ d lo (pc + 1) lv (.int (x.2.2.1 a i.toNatClampNeg) :: st) (mk σ0 m x) K) : a_J G μ d lo pc lv (.int i :: .ref (m + a) :: st) (mk σ0 m x) K :=
  a_zald (t0 := 2) hd rfl ((mk_C a ha).trans (by rw [mC_2 ht])) hin kk
theorem m_lald {a : Nat} {i : Int32} (hd : decode μ.2.1 pc = .ok (.laload, 1)) (ha : 1 ≤ a ∧ a ≤ 31) (ht : mT a = 1) (hin : vp_in i (mN a)) (kk : a_J G μ d lo (pc + 1) lv (.long (x.2.2.2 a i.toNatClampNeg) :: st) (mk σ0 m x) K) : a_J G μ d lo pc lv (.int i :: .ref (m + a) :: st) (mk σ0 m x) K :=
  a_lald (t0 := 1) hd rfl ((mk_C a ha).trans (by rw [mC_1 ht])) hin kk
theorem m_iast {a : Nat} {i v : Int32} (hd : decode μ.2.1 pc = .ok (.iastore, 1)) (ha : 1 ≤ a ∧ a ≤ 31) (ht : mT a = 0) (hin : vp_in i (mN a)) (kk : a_J G μ d lo (pc + 1) lv st (mk σ0 m (sA x a i.toNatClampNeg v)) K) : a_J G μ d lo pc lv (.int v :: .int i :: .ref (m + a) :: st) (mk σ0 m x) K := by
  refine a_iast (t0 := 0) hd rfl ((mk_C a ha).trans (by rw [mC_0 ht])) hin ?_
  have e : (.inl (.int, mN a, .inl (upd (x.2.2.1 a) i.toNatClampNeg v)) : aE) = mC (sA x a i.toNatClampNeg v) a := by
    rw [mC_0 ht]; show _ = Sum.inl (FieldType.int, mN a, Sum.inl (updA x.2.2.1 a i.toNatClampNeg v a)); rw [updA_eq]
  rw [e, mk_arr (x := x) (y := sA x a i.toNatClampNeg v) ha rfl rfl mC_sA]; exact kk
theorem m_zast {a : Nat} {i v : Int32} (hd : decode μ.2.1 pc = .ok (.bastore, 1)) (ha : 1 ≤ a ∧ a ≤ 31) (ht : mT a = 2) (hin : vp_in i (mN a)) (kk : a_J G μ d lo (pc + 1) lv st (mk σ0 m (sA x a i.toNatClampNeg (vp_nar .boolean v))) K) : a_J G μ d lo pc lv (.int v :: .int i :: .ref (m + a) :: st) (mk σ0 m x) K := by
  refine a_zast (t0 := 2) hd rfl ((mk_C a ha).trans (by rw [mC_2 ht])) hin ?_
  have e : (.inl (.boolean, mN a, .inl (upd (x.2.2.1 a) i.toNatClampNeg (vp_nar .boolean v))) : aE) = mC (sA x a i.toNatClampNeg (vp_nar .boolean v)) a := by
    rw [mC_2 ht]; show _ = Sum.inl (FieldType.boolean, mN a, Sum.inl (updA x.2.2.1 a i.toNatClampNeg (vp_nar .boolean v) a)); rw [updA_eq]
  rw [e, mk_arr (x := x) (y := sA x a i.toNatClampNeg (vp_nar .boolean v)) ha rfl rfl mC_sA]; exact kk
theorem m_last {a : Nat} {i : Int32} {v : Int64} (hd : decode μ.2.1 pc = .ok (.lastore, 1)) (ha : 1 ≤ a ∧ a ≤ 31) (ht : mT a = 1) (hin : vp_in i (mN a)) (kk : a_J G μ d lo (pc + 1) lv st (mk σ0 m (sB x a i.toNatClampNeg v)) K) : a_J G μ d lo pc lv (.long v :: .int i :: .ref (m + a) :: st) (mk σ0 m x) K := by
  refine a_last (t0 := 1) hd rfl ((mk_C a ha).trans (by rw [mC_1 ht])) hin ?_
  have e : (.inl (.long, mN a, .inr (.inl (vp_updL (x.2.2.2 a) i.toNatClampNeg v))) : aE) = mC (sB x a i.toNatClampNeg v) a := by
    rw [mC_1 ht]; show _ = Sum.inl (FieldType.long, mN a, Sum.inr (Sum.inl (updB x.2.2.2 a i.toNatClampNeg v a))); unfold updB; rw [if_pos rfl]
  rw [e, mk_arr (x := x) (y := sB x a i.toNatClampNeg v) ha rfl rfl mC_sB]; exact kk
set_option maxHeartbeats 1000000 in
set_option maxRecDepth 100000 in
theorem sp_M_cut {a : Int32} (hK0 : (a < 0 ∨ x.1 2 < a) → K (some (.int 0)) (mk σ0 m (sI x 0 0))) (hK1 : ¬ a < 0 → a ≤ x.1 2 → K (some (.int 1)) (mk σ0 m (sI (sI x 0 0) 2 a))) : a_C G m_M_cut 0 0 [.ref m, .int a] (mk σ0 m x) K := by
  refine a_enter rfl (Nat.le_of_ble_eq_true rfl) ?_
  refine a_aload_n d_M_cut_0 rfl rfl ?_
  refine a_iconst (v := 0) d_M_cut_1 (by decide) ?_
  refine m_putI d_M_cut_2 p_M_115 rfl rfl (by decide) ?_
  refine a_iload_n d_M_cut_5 rfl rfl ?_
  refine a_if_lt (tgt := 17) d_M_cut_6 (by decide) (fun c_1 => ?_) (fun c_1 => ?_)
  · refine a_iconst (v := 0) d_M_cut_17 (by decide) ?_
    first | exact a_ireturn d_M_cut_18 rfl rfl (hK1 (by assumption) (by first | assumption | exact Int32.not_lt.mp (by assumption))) | exact a_ireturn d_M_cut_18 rfl rfl (hK0 (by first | exact Or.inl (by assumption) | exact Or.inr (by first | assumption | exact Int32.not_le.mp (by assumption))))
  · refine a_iload_n d_M_cut_9 rfl rfl ?_
    refine a_aload_n d_M_cut_10 rfl rfl ?_
    refine m_get d_M_cut_11 f_M_118 rfl ?_
    refine a_icmp_le (tgt := 19) d_M_cut_14 (by decide) (fun c_2 => ?_) (fun c_2 => ?_)
    · refine a_aload_n d_M_cut_19 rfl rfl ?_
      refine a_iload_n d_M_cut_20 rfl rfl ?_
      refine m_putI d_M_cut_21 p_M_118 rfl rfl (by decide) ?_
      refine a_iconst (v := 1) d_M_cut_24 (by decide) ?_
      first | exact a_ireturn d_M_cut_25 rfl rfl (hK1 (by assumption) (by first | assumption | exact Int32.not_lt.mp (by assumption))) | exact a_ireturn d_M_cut_25 rfl rfl (hK0 (by first | exact Or.inl (by assumption) | exact Or.inr (by first | assumption | exact Int32.not_le.mp (by assumption))))
    · refine a_iconst (v := 0) d_M_cut_17 (by decide) ?_
      first | exact a_ireturn d_M_cut_18 rfl rfl (hK1 (by assumption) (by first | assumption | exact Int32.not_lt.mp (by assumption))) | exact a_ireturn d_M_cut_18 rfl rfl (hK0 (by first | exact Or.inl (by assumption) | exact Or.inr (by first | assumption | exact Int32.not_le.mp (by assumption))))

set_option maxHeartbeats 1000000 in
set_option maxRecDepth 100000 in
theorem sp_M_poke {a b : Int32} (hn : x.1 2 ≤ 4096) (hK0 : (a < 0 ∨ x.1 2 ≤ a) → K (some (.int 0)) (mk σ0 m (sI x 0 0))) (hK1 : ¬ a < 0 → a < x.1 2 → K (some (.int 1)) (mk σ0 m (sA (sI x 0 0) 1 a.toNatClampNeg (b &&& 255)))) : a_C G m_M_poke 0 0 [.ref m, .int a, .int b] (mk σ0 m x) K := by
  refine a_enter rfl (Nat.le_of_ble_eq_true rfl) ?_
  refine a_aload_n d_M_poke_0 rfl rfl ?_
  refine a_iconst (v := 0) d_M_poke_1 (by decide) ?_
  refine m_putI d_M_poke_2 p_M_115 rfl rfl (by decide) ?_
  refine a_iload_n d_M_poke_5 rfl rfl ?_
  refine a_if_lt (tgt := 17) d_M_poke_6 (by decide) (fun c_1 => ?_) (fun c_1 => ?_)
  · refine a_iconst (v := 0) d_M_poke_17 (by decide) ?_
    first | exact a_ireturn d_M_poke_18 rfl rfl (hK1 (by assumption) (by first | assumption | exact Int32.not_le.mp (by assumption))) | exact a_ireturn d_M_poke_18 rfl rfl (hK0 (by first | exact Or.inl (by assumption) | exact Or.inr (by first | assumption | exact Int32.not_lt.mp (by assumption))))
  · refine a_iload_n d_M_poke_9 rfl rfl ?_
    refine a_aload_n d_M_poke_10 rfl rfl ?_
    refine m_get d_M_poke_11 f_M_118 rfl ?_
    refine a_icmp_lt (tgt := 19) d_M_poke_14 (by decide) (fun c_2 => ?_) (fun c_2 => ?_)
    · refine a_aload_n d_M_poke_19 rfl rfl ?_
      refine m_get d_M_poke_20 f_M_7 rfl ?_
      refine a_iload_n d_M_poke_23 rfl rfl ?_
      refine a_iload_n d_M_poke_24 rfl rfl ?_
      refine a_sipush (v := 255) d_M_poke_25 (by decide) ?_
      refine a_iand d_M_poke_28 ?_
      refine m_iast d_M_poke_29 (by decide) rfl (vp_lt (M := 4096) (N := 4096) rfl (by decide) (by assumption) (Int32.lt_of_lt_of_le (by first | assumption | exact Int32.not_le.mp (by assumption)) hn)) ?_
      refine a_iconst (v := 1) d_M_poke_30 (by decide) ?_
      first | exact a_ireturn d_M_poke_31 rfl rfl (hK1 (by assumption) (by first | assumption | exact Int32.not_le.mp (by assumption))) | exact a_ireturn d_M_poke_31 rfl rfl (hK0 (by first | exact Or.inl (by assumption) | exact Or.inr (by first | assumption | exact Int32.not_lt.mp (by assumption))))
    · refine a_iconst (v := 0) d_M_poke_17 (by decide) ?_
      first | exact a_ireturn d_M_poke_18 rfl rfl (hK1 (by assumption) (by first | assumption | exact Int32.not_le.mp (by assumption))) | exact a_ireturn d_M_poke_18 rfl rfl (hK0 (by first | exact Or.inl (by assumption) | exact Or.inr (by first | assumption | exact Int32.not_lt.mp (by assumption))))

set_option maxHeartbeats 1000000 in
set_option maxRecDepth 100000 in
theorem sp_M_call {a b e f : Int32} (hK0 : (a < 0 ∨ 15 < a) → K (some (.int 0)) (mk σ0 m (sI x 0 0))) (hK1 : ¬ a < 0 → a ≤ 15 → K (some (.int 1)) (mk σ0 m (sA (sA (sA (sI (sI x 0 0) 14 a) 8 0 b) 8 1 e) 8 2 f))) : a_C G m_M_call 0 0 [.ref m, .int a, .int b, .int e, .int f] (mk σ0 m x) K := by
  refine a_enter rfl (Nat.le_of_ble_eq_true rfl) ?_
  refine a_aload_n d_M_call_0 rfl rfl ?_
  refine a_iconst (v := 0) d_M_call_1 (by decide) ?_
  refine m_putI d_M_call_2 p_M_115 rfl rfl (by decide) ?_
  refine a_iload_n d_M_call_5 rfl rfl ?_
  refine a_if_lt (tgt := 15) d_M_call_6 (by decide) (fun c_1 => ?_) (fun c_1 => ?_)
  · refine a_iconst (v := 0) d_M_call_15 (by decide) ?_
    first | exact a_ireturn d_M_call_16 rfl rfl (hK1 (by assumption) (by first | assumption | exact Int32.not_lt.mp (by assumption))) | exact a_ireturn d_M_call_16 rfl rfl (hK0 (by first | exact Or.inl (by assumption) | exact Or.inr (by first | assumption | exact Int32.not_le.mp (by assumption))))
  · refine a_iload_n d_M_call_9 rfl rfl ?_
    refine a_bipush (v := 15) d_M_call_10 (by decide) ?_
    refine a_icmp_le (tgt := 17) d_M_call_12 (by decide) (fun c_2 => ?_) (fun c_2 => ?_)
    · refine a_aload_n d_M_call_17 rfl rfl ?_
      refine a_iload_n d_M_call_18 rfl rfl ?_
      refine m_putI d_M_call_19 p_M_356 rfl rfl (by decide) ?_
      refine a_aload_n d_M_call_22 rfl rfl ?_
      refine m_get d_M_call_23 f_M_35 rfl ?_
      refine a_iconst (v := 0) d_M_call_26 (by decide) ?_
      refine a_iload_n d_M_call_27 rfl rfl ?_
      refine m_iast d_M_call_28 (by decide) rfl (show vp_in (nI 0) 3 from vp_in_nI (by decide) (by decide)) ?_
      refine a_aload_n d_M_call_29 rfl rfl ?_
      refine m_get d_M_call_30 f_M_35 rfl ?_
      refine a_iconst (v := 1) d_M_call_33 (by decide) ?_
      refine a_iload_n d_M_call_34 rfl rfl ?_
      refine m_iast d_M_call_35 (by decide) rfl (show vp_in (nI 1) 3 from vp_in_nI (by decide) (by decide)) ?_
      refine a_aload_n d_M_call_36 rfl rfl ?_
      refine m_get d_M_call_37 f_M_35 rfl ?_
      refine a_iconst (v := 2) d_M_call_40 (by decide) ?_
      refine a_iload d_M_call_41 rfl ?_
      refine m_iast d_M_call_43 (by decide) rfl (show vp_in (nI 2) 3 from vp_in_nI (by decide) (by decide)) ?_
      refine a_iconst (v := 1) d_M_call_44 (by decide) ?_
      first | exact a_ireturn d_M_call_45 rfl rfl (hK1 (by assumption) (by first | assumption | exact Int32.not_lt.mp (by assumption))) | exact a_ireturn d_M_call_45 rfl rfl (hK0 (by first | exact Or.inl (by assumption) | exact Or.inr (by first | assumption | exact Int32.not_le.mp (by assumption))))
    · refine a_iconst (v := 0) d_M_call_15 (by decide) ?_
      first | exact a_ireturn d_M_call_16 rfl rfl (hK1 (by assumption) (by first | assumption | exact Int32.not_lt.mp (by assumption))) | exact a_ireturn d_M_call_16 rfl rfl (hK0 (by first | exact Or.inl (by assumption) | exact Or.inr (by first | assumption | exact Int32.not_le.mp (by assumption))))

set_option maxHeartbeats 1000000 in
set_option maxRecDepth 100000 in
theorem sp_M_look {a : Int32} (hK : K (some (.int (if a = 0 then x.1 28 else if a = 1 then x.1 36 else if a = 2 then x.1 2 else if a = 3 then x.1 4 else if a = 4 then x.1 8 else if a = 5 then x.1 9 else if a = 6 then x.1 50 else -1))) (mk σ0 m (sI x 0 0))) : a_C G m_M_look 0 0 [.ref m, .int a] (mk σ0 m x) K := by
  refine a_enter rfl (Nat.le_of_ble_eq_true rfl) ?_
  refine a_aload_n d_M_look_0 rfl rfl ?_
  refine a_iconst (v := 0) d_M_look_1 (by decide) ?_
  refine m_putI d_M_look_2 p_M_115 rfl rfl (by decide) ?_
  refine a_iload_n d_M_look_5 rfl rfl ?_
  refine a_tsw7_0 (t0 := 48) (t1 := 53) (t2 := 58) (t3 := 63) (t4 := 68) (t5 := 73) (t6 := 78) (td := 83) d_M_look_6 (by decide) (by decide) (by decide) (by decide) (by decide) (by decide) (by decide) (by decide) (fun c_1 => ?_) (fun c_2 => ?_) (fun c_3 => ?_) (fun c_4 => ?_) (fun c_5 => ?_) (fun c_6 => ?_) (fun c_7 => ?_) (fun c_8 c_9 c_10 c_11 c_12 c_13 c_14 => ?_)
  · refine a_aload_n d_M_look_48 rfl rfl ?_
    refine m_get d_M_look_49 f_M_236 rfl ?_
    refine a_ireturn d_M_look_52 rfl rfl ?_
    simp only [if_pos c_1, if_neg (sw_ne c_1 (show ¬ (0 : Int32) = 1 by decide)), if_neg (sw_ne c_1 (show ¬ (0 : Int32) = 2 by decide)), if_neg (sw_ne c_1 (show ¬ (0 : Int32) = 3 by decide)), if_neg (sw_ne c_1 (show ¬ (0 : Int32) = 4 by decide)), if_neg (sw_ne c_1 (show ¬ (0 : Int32) = 5 by decide)), if_neg (sw_ne c_1 (show ¬ (0 : Int32) = 6 by decide)), if_true] at hK
    exact hK
  · refine a_aload_n d_M_look_53 rfl rfl ?_
    refine m_get d_M_look_54 f_M_242 rfl ?_
    refine a_ireturn d_M_look_57 rfl rfl ?_
    simp only [if_pos c_2, if_neg (sw_ne c_2 (show ¬ (1 : Int32) = 0 by decide)), if_neg (sw_ne c_2 (show ¬ (1 : Int32) = 2 by decide)), if_neg (sw_ne c_2 (show ¬ (1 : Int32) = 3 by decide)), if_neg (sw_ne c_2 (show ¬ (1 : Int32) = 4 by decide)), if_neg (sw_ne c_2 (show ¬ (1 : Int32) = 5 by decide)), if_neg (sw_ne c_2 (show ¬ (1 : Int32) = 6 by decide)), if_true] at hK
    exact hK
  · refine a_aload_n d_M_look_58 rfl rfl ?_
    refine m_get d_M_look_59 f_M_118 rfl ?_
    refine a_ireturn d_M_look_62 rfl rfl ?_
    simp only [if_pos c_3, if_neg (sw_ne c_3 (show ¬ (2 : Int32) = 0 by decide)), if_neg (sw_ne c_3 (show ¬ (2 : Int32) = 1 by decide)), if_neg (sw_ne c_3 (show ¬ (2 : Int32) = 3 by decide)), if_neg (sw_ne c_3 (show ¬ (2 : Int32) = 4 by decide)), if_neg (sw_ne c_3 (show ¬ (2 : Int32) = 5 by decide)), if_neg (sw_ne c_3 (show ¬ (2 : Int32) = 6 by decide)), if_true] at hK
    exact hK
  · refine a_aload_n d_M_look_63 rfl rfl ?_
    refine m_get d_M_look_64 f_M_123 rfl ?_
    refine a_ireturn d_M_look_67 rfl rfl ?_
    simp only [if_pos c_4, if_neg (sw_ne c_4 (show ¬ (3 : Int32) = 0 by decide)), if_neg (sw_ne c_4 (show ¬ (3 : Int32) = 1 by decide)), if_neg (sw_ne c_4 (show ¬ (3 : Int32) = 2 by decide)), if_neg (sw_ne c_4 (show ¬ (3 : Int32) = 4 by decide)), if_neg (sw_ne c_4 (show ¬ (3 : Int32) = 5 by decide)), if_neg (sw_ne c_4 (show ¬ (3 : Int32) = 6 by decide)), if_true] at hK
    exact hK
  · refine a_aload_n d_M_look_68 rfl rfl ?_
    refine m_get d_M_look_69 f_M_295 rfl ?_
    refine a_ireturn d_M_look_72 rfl rfl ?_
    simp only [if_pos c_5, if_neg (sw_ne c_5 (show ¬ (4 : Int32) = 0 by decide)), if_neg (sw_ne c_5 (show ¬ (4 : Int32) = 1 by decide)), if_neg (sw_ne c_5 (show ¬ (4 : Int32) = 2 by decide)), if_neg (sw_ne c_5 (show ¬ (4 : Int32) = 3 by decide)), if_neg (sw_ne c_5 (show ¬ (4 : Int32) = 5 by decide)), if_neg (sw_ne c_5 (show ¬ (4 : Int32) = 6 by decide)), if_true] at hK
    exact hK
  · refine a_aload_n d_M_look_73 rfl rfl ?_
    refine m_get d_M_look_74 f_M_19 rfl ?_
    refine a_ireturn d_M_look_77 rfl rfl ?_
    simp only [if_pos c_6, if_neg (sw_ne c_6 (show ¬ (5 : Int32) = 0 by decide)), if_neg (sw_ne c_6 (show ¬ (5 : Int32) = 1 by decide)), if_neg (sw_ne c_6 (show ¬ (5 : Int32) = 2 by decide)), if_neg (sw_ne c_6 (show ¬ (5 : Int32) = 3 by decide)), if_neg (sw_ne c_6 (show ¬ (5 : Int32) = 4 by decide)), if_neg (sw_ne c_6 (show ¬ (5 : Int32) = 6 by decide)), if_true] at hK
    exact hK
  · refine a_aload_n d_M_look_78 rfl rfl ?_
    refine m_get d_M_look_79 f_M_248 rfl ?_
    refine a_ireturn d_M_look_82 rfl rfl ?_
    simp only [if_pos c_7, if_neg (sw_ne c_7 (show ¬ (6 : Int32) = 0 by decide)), if_neg (sw_ne c_7 (show ¬ (6 : Int32) = 1 by decide)), if_neg (sw_ne c_7 (show ¬ (6 : Int32) = 2 by decide)), if_neg (sw_ne c_7 (show ¬ (6 : Int32) = 3 by decide)), if_neg (sw_ne c_7 (show ¬ (6 : Int32) = 4 by decide)), if_neg (sw_ne c_7 (show ¬ (6 : Int32) = 5 by decide)), if_true] at hK
    exact hK
  · refine a_iconst (v := (-1)) d_M_look_83 (by decide) ?_
    refine a_ireturn d_M_look_84 rfl rfl ?_
    simp only [if_neg c_8, if_neg c_9, if_neg c_10, if_neg c_11, if_neg c_12, if_neg c_13, if_neg c_14, if_true] at hK
    exact hK

set_option maxHeartbeats 1000000 in
set_option maxRecDepth 100000 in
theorem sp_M_stand {a b : Int32} (hc : x.1 28 ≤ 6) (hK0 : (a < 0 ∨ x.1 28 ≤ a ∨ b < 0 ∨ x.2.2.1 12 a.toNatClampNeg < b) → K (some (.int 0)) (mk σ0 m (sI x 0 0))) (hK1 : ¬ a < 0 → a < x.1 28 → ¬ b < 0 → b ≤ x.2.2.1 12 a.toNatClampNeg → K (some (.int 1)) (mk σ0 m (sA (sI x 0 0) 7 a.toNatClampNeg b))) : a_C G m_M_stand 0 0 [.ref m, .int a, .int b] (mk σ0 m x) K := by
  refine a_enter rfl (Nat.le_of_ble_eq_true rfl) ?_
  refine a_aload_n d_M_stand_0 rfl rfl ?_
  refine a_iconst (v := 0) d_M_stand_1 (by decide) ?_
  refine m_putI d_M_stand_2 p_M_115 rfl rfl (by decide) ?_
  refine a_iload_n d_M_stand_5 rfl rfl ?_
  refine a_if_lt (tgt := 31) d_M_stand_6 (by decide) (fun c_1 => ?_) (fun c_1 => ?_)
  · refine a_iconst (v := 0) d_M_stand_31 (by decide) ?_
    first | exact a_ireturn d_M_stand_32 rfl rfl (hK1 (by assumption) (by first | assumption | exact Int32.not_le.mp (by assumption)) (by assumption) (by first | assumption | exact Int32.not_lt.mp (by assumption))) | exact a_ireturn d_M_stand_32 rfl rfl (hK0 (by first | exact Or.inl (by assumption) | exact Or.inr (Or.inl (by assumption)) | exact Or.inr (Or.inr (Or.inl (by assumption))) | exact Or.inr (Or.inr (Or.inr (by first | assumption | exact Int32.not_le.mp (by assumption))))))
  · refine a_iload_n d_M_stand_9 rfl rfl ?_
    refine a_aload_n d_M_stand_10 rfl rfl ?_
    refine m_get d_M_stand_11 f_M_236 rfl ?_
    refine a_icmp_ge (tgt := 31) d_M_stand_14 (by decide) (fun c_2 => ?_) (fun c_2 => ?_)
    · refine a_iconst (v := 0) d_M_stand_31 (by decide) ?_
      first | exact a_ireturn d_M_stand_32 rfl rfl (hK1 (by assumption) (by first | assumption | exact Int32.not_le.mp (by assumption)) (by assumption) (by first | assumption | exact Int32.not_lt.mp (by assumption))) | exact a_ireturn d_M_stand_32 rfl rfl (hK0 (by first | exact Or.inl (by assumption) | exact Or.inr (Or.inl (by assumption)) | exact Or.inr (Or.inr (Or.inl (by assumption))) | exact Or.inr (Or.inr (Or.inr (by first | assumption | exact Int32.not_le.mp (by assumption))))))
    · refine a_iload_n d_M_stand_17 rfl rfl ?_
      refine a_if_lt (tgt := 31) d_M_stand_18 (by decide) (fun c_3 => ?_) (fun c_3 => ?_)
      · refine a_iconst (v := 0) d_M_stand_31 (by decide) ?_
        first | exact a_ireturn d_M_stand_32 rfl rfl (hK1 (by assumption) (by first | assumption | exact Int32.not_le.mp (by assumption)) (by assumption) (by first | assumption | exact Int32.not_lt.mp (by assumption))) | exact a_ireturn d_M_stand_32 rfl rfl (hK0 (by first | exact Or.inl (by assumption) | exact Or.inr (Or.inl (by assumption)) | exact Or.inr (Or.inr (Or.inl (by assumption))) | exact Or.inr (Or.inr (Or.inr (by first | assumption | exact Int32.not_le.mp (by assumption))))))
      · refine a_iload_n d_M_stand_21 rfl rfl ?_
        refine a_aload_n d_M_stand_22 rfl rfl ?_
        refine m_get d_M_stand_23 f_M_48 rfl ?_
        refine a_iload_n d_M_stand_26 rfl rfl ?_
        refine m_iald d_M_stand_27 (by decide) rfl (vp_lt (M := 6) (N := 6) rfl (by decide) (by assumption) (Int32.lt_of_lt_of_le (by first | assumption | exact Int32.not_le.mp (by assumption)) hc)) ?_
        refine a_icmp_le (tgt := 33) d_M_stand_28 (by decide) (fun c_4 => ?_) (fun c_4 => ?_)
        · refine a_aload_n d_M_stand_33 rfl rfl ?_
          refine m_get d_M_stand_34 f_M_32 rfl ?_
          refine a_iload_n d_M_stand_37 rfl rfl ?_
          refine a_iload_n d_M_stand_38 rfl rfl ?_
          refine m_iast d_M_stand_39 (by decide) rfl (vp_lt (M := 6) (N := 6) rfl (by decide) (by assumption) (Int32.lt_of_lt_of_le (by first | assumption | exact Int32.not_le.mp (by assumption)) hc)) ?_
          refine a_iconst (v := 1) d_M_stand_40 (by decide) ?_
          first | exact a_ireturn d_M_stand_41 rfl rfl (hK1 (by assumption) (by first | assumption | exact Int32.not_le.mp (by assumption)) (by assumption) (by first | assumption | exact Int32.not_lt.mp (by assumption))) | exact a_ireturn d_M_stand_41 rfl rfl (hK0 (by first | exact Or.inl (by assumption) | exact Or.inr (Or.inl (by assumption)) | exact Or.inr (Or.inr (Or.inl (by assumption))) | exact Or.inr (Or.inr (Or.inr (by first | assumption | exact Int32.not_le.mp (by assumption))))))
        · refine a_iconst (v := 0) d_M_stand_31 (by decide) ?_
          first | exact a_ireturn d_M_stand_32 rfl rfl (hK1 (by assumption) (by first | assumption | exact Int32.not_le.mp (by assumption)) (by assumption) (by first | assumption | exact Int32.not_lt.mp (by assumption))) | exact a_ireturn d_M_stand_32 rfl rfl (hK0 (by first | exact Or.inl (by assumption) | exact Or.inr (Or.inl (by assumption)) | exact Or.inr (Or.inr (Or.inl (by assumption))) | exact Or.inr (Or.inr (Or.inr (by first | assumption | exact Int32.not_le.mp (by assumption))))))

end ModM
