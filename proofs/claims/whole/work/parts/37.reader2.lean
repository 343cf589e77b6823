/-! READER's whole state as a function: rs σ0 r b p k q rf tp gp: the tokens' k, the policy's q, the reader's fields and places; all else is σ0's -/
def pLen (i : Nat) : Nat := if i = 2 then 30 else if i ≤ 5 then 6 else if i ≤ 8 then 216 else 864
def pC (p : Nat) (q : aP) (i : Nat) : aE := if i = 0 then .inr (2, [.int (nI q.1.1), .int (nI q.1.2.1), .int (nI q.1.2.2), .ref (p + 1), .ref (p + 2), .ref (p + 3), .ref (p + 4), .ref (p + 5), .ref (p + 6), .ref (p + 7), .ref (p + 8), .ref (p + 9), .ref (p + 10)]) else if i = 1 then .inl (.long, 30, .inr (.inl q.2.1)) else .inl (.int, pLen i, .inl (q.2.2 (i + 2)))
def rs (σ0 : aS) (r b p : Nat) (k : aT) (q : aP) (rf tp gp : Nat → Int32) : aS := (σ0.1, σ0.2.1, fun a => if a = r then some (.inr (4, [.ref (r + 1), .ref (r + 2), .ref (r + 3), .ref p, .int (rf 4), .int (rf 5), .int (rf 6), .int (rf 7), .int (rf 8), .int (rf 9), .int (rf 10), .int (rf 11), .int (rf 12), .int (rf 13), .int (rf 14)])) else if a = r + 1 then some (.inr (5, [.ref b, .int (nI k.1), .int k.2.1, .int (nI k.2.2.1), .long k.2.2.2.1, .int k.2.2.2.2])) else if a = r + 2 then some (.inl (.int, 864, .inl tp)) else if a = r + 3 then some (.inl (.int, 216, .inl gp)) else if p ≤ a ∧ a < p + 11 then some (pC p q (a - p)) else σ0.2.2 a)
theorem aS_ext {σ τ : aS} (h1 : σ.1 = τ.1) (h2 : σ.2.1 = τ.2.1) (h3 : ∀ a, σ.2.2 a = τ.2.2 a) : σ = τ := by
  obtain ⟨a, b, f⟩ := σ
  obtain ⟨a', b', f'⟩ := τ
  simp only at h1 h2 h3
  subst h1 h2
  rw [show f = f' from funext h3]
section ModR2
variable {G : aG} {σ0 τ : aS} {K : Option Value → aS → Prop} {r b p cap n : Nat} {f : Nat → Nat} {k k' : aT} {q q' : aP} {rf rf' tp tp' gp gp' : Nat → Int32}
theorem rsR : (rs σ0 r b p k q rf tp gp).2.2 r = some (.inr (4, [.ref (r + 1), .ref (r + 2), .ref (r + 3), .ref p, .int (rf 4), .int (rf 5), .int (rf 6), .int (rf 7), .int (rf 8), .int (rf 9), .int (rf 10), .int (rf 11), .int (rf 12), .int (rf 13), .int (rf 14)])) := by
  dsimp only [rs]; rw [if_pos rfl]
theorem rsT : TO (rs σ0 r b p k q rf tp gp) (r + 1) b k := by
  unfold TO; dsimp only [rs]; rw [if_neg (by omega), if_pos rfl]
theorem rsTp : (rs σ0 r b p k q rf tp gp).2.2 (r + 2) = some (.inl (.int, 864, .inl tp)) := by
  dsimp only [rs]; rw [if_neg (by omega), if_neg (by omega), if_pos rfl]
theorem rsGp : (rs σ0 r b p k q rf tp gp).2.2 (r + 3) = some (.inl (.int, 216, .inl gp)) := by
  dsimp only [rs]; rw [if_neg (by omega), if_neg (by omega), if_neg (by omega), if_pos rfl]
theorem rsC (hd : p + 11 ≤ r) (i : Nat) (hi : i < 11) : (rs σ0 r b p k q rf tp gp).2.2 (p + i) = some (pC p q i) := by
  dsimp only [rs]; rw [if_neg (by omega), if_neg (by omega), if_neg (by omega), if_neg (by omega), if_pos (by omega), show p + i - p = i from by omega]
theorem rsP0 (hd : p + 11 ≤ r) : (rs σ0 r b p k q rf tp gp).2.2 p = some (.inr (2, [.int (nI q.1.1), .int (nI q.1.2.1), .int (nI q.1.2.2), .ref (p + 1), .ref (p + 2), .ref (p + 3), .ref (p + 4), .ref (p + 5), .ref (p + 6), .ref (p + 7), .ref (p + 8), .ref (p + 9), .ref (p + 10)])) := rsC hd 0 (by omega)
theorem rsP (hd : p + 11 ≤ r) (hq : PI q) : PO (rs σ0 r b p k q rf tp gp) p q := ⟨rsC hd 0 (by omega), rsC hd 1 (by omega), rsC hd 2 (by omega), rsC hd 3 (by omega), rsC hd 4 (by omega), rsC hd 5 (by omega), rsC hd 6 (by omega), rsC hd 7 (by omega), rsC hd 8 (by omega), rsC hd 9 (by omega), rsC hd 10 (by omega), hq⟩
theorem rsO (hd : p + 11 ≤ r) : RO (rs σ0 r b p k q rf tp gp) r p rf tp gp := ⟨rsR, rsTp, rsGp⟩
theorem rsB (hd : p + 11 ≤ r) (hb : b + 2 ≤ p) (hB : BY σ0 b cap n f) : BY (rs σ0 r b p k q rf tp gp) b cap n f := by
  obtain ⟨g, h1, h2, h3⟩ := hB
  refine ⟨g, ?_, ?_, h3⟩
  · dsimp only [rs]; rw [if_neg (by omega), if_neg (by omega), if_neg (by omega), if_neg (by omega), if_neg (by omega)]; exact h1
  · dsimp only [rs]; rw [if_neg (by omega), if_neg (by omega), if_neg (by omega), if_neg (by omega), if_neg (by omega)]; exact h2
theorem rs_P (hd : p + 11 ≤ r) (hf : a_fr (rs σ0 r b p k q rf tp gp) τ p (p + 11)) (hP : PO τ p q') : τ = rs σ0 r b p k q' rf tp gp := by
  obtain ⟨h0, h1, h2, h3, h4, h5, h6, h7, h8, h9, h10, -⟩ := hP
  refine aS_ext hf.1 hf.2.1 fun a => ?_
  by_cases ha : p ≤ a ∧ a < p + 11
  · obtain ⟨i, hi, rfl⟩ : ∃ i, i < 11 ∧ a = p + i := ⟨a - p, by omega, by omega⟩
    rw [rsC hd i hi]
    match i, hi with
    | 0, _ => exact h0
    | 1, _ => exact h1
    | 2, _ => exact h2
    | 3, _ => exact h3
    | 4, _ => exact h4
    | 5, _ => exact h5
    | 6, _ => exact h6
    | 7, _ => exact h7
    | 8, _ => exact h8
    | 9, _ => exact h9
    | 10, _ => exact h10
  · rw [hf.2.2 a (by omega)]
    dsimp only [rs]
    rw [if_neg ha, if_neg ha]
theorem rs_T (hf : a_fr (rs σ0 r b p k q rf tp gp) τ (r + 1) (r + 1 + 1)) (hT : TO τ (r + 1) b k') : τ = rs σ0 r b p k' q rf tp gp := by
  refine aS_ext hf.1 hf.2.1 fun a => ?_
  by_cases ha : a = r + 1
  · subst ha
    rw [show τ.2.2 (r + 1) = _ from hT, show (rs σ0 r b p k' q rf tp gp).2.2 (r + 1) = _ from rsT]
  · rw [hf.2.2 a (by omega)]
    dsimp only [rs]
    rw [if_neg ha, if_neg ha]
theorem rs_R : a_upd (rs σ0 r b p k q rf tp gp) r (.inr (4, [.ref (r + 1), .ref (r + 2), .ref (r + 3), .ref p, .int (rf' 4), .int (rf' 5), .int (rf' 6), .int (rf' 7), .int (rf' 8), .int (rf' 9), .int (rf' 10), .int (rf' 11), .int (rf' 12), .int (rf' 13), .int (rf' 14)])) = rs σ0 r b p k q rf' tp gp := by
  refine aS_ext rfl rfl fun a => ?_
  dsimp only [rs, a_upd]
  by_cases ha : a = r
  · rw [if_pos ha, if_pos ha]
  · rw [if_neg ha, if_neg ha, if_neg ha]
theorem rs_tp : a_upd (rs σ0 r b p k q rf tp gp) (r + 2) (.inl (.int, 864, .inl tp')) = rs σ0 r b p k q rf tp' gp := by
  refine aS_ext rfl rfl fun a => ?_
  dsimp only [rs, a_upd]
  by_cases ha : a = r + 2
  · rw [if_pos ha, if_neg (by omega), if_neg (by omega), if_pos ha]
  · rw [if_neg ha, if_neg ha, if_neg ha]
theorem rs_gp : a_upd (rs σ0 r b p k q rf tp gp) (r + 3) (.inl (.int, 216, .inl gp')) = rs σ0 r b p k q rf tp gp' := by
  refine aS_ext rfl rfl fun a => ?_
  dsimp only [rs, a_upd]
  by_cases ha : a = r + 3
  · rw [if_pos ha, if_neg (by omega), if_neg (by omega), if_neg (by omega), if_pos ha]
  · rw [if_neg ha, if_neg ha, if_neg ha]
theorem a_putR {μ : aM} {d lo pc idx i : Nat} {lv : List (Nat × Value)} {st : List Value} {ty : FieldType} {v : Int32} (rf' : Nat → Int32) (hd : decode μ.2.1 pc = .ok (.putfield idx, 3)) (hL : a_fp μ.1.cls idx 4 i ty false) (hk : ([.ref (r + 1), .ref (r + 2), .ref (r + 3), .ref p, .int (rf 4), .int (rf 5), .int (rf 6), .int (rf 7), .int (rf 8), .int (rf 9), .int (rf 10), .int (rf 11), .int (rf 12), .int (rf 13), .int (rf 14)] : List Value).set i (.int v) = [.ref (r + 1), .ref (r + 2), .ref (r + 3), .ref p, .int (rf' 4), .int (rf' 5), .int (rf' 6), .int (rf' 7), .int (rf' 8), .int (rf' 9), .int (rf' 10), .int (rf' 11), .int (rf' 12), .int (rf' 13), .int (rf' 14)]) (hn : narrow ty (.int v) = .int v) (hf : fits ty (.int v) = true) (hl : i < 15) (kk : a_J G μ d lo (pc + 3) lv st (rs σ0 r b p k q rf' tp gp) K) : a_J G μ d lo pc lv (.int v :: .ref r :: st) (rs σ0 r b p k q rf tp gp) K := by
  refine a_putfield hd hL rsR hn hf hl ?_
  rw [hk, rs_R]
  exact kk

set_option maxHeartbeats 4000000 in
set_option maxRecDepth 100000 in
theorem sp_R_failS {a c : Int32} (hK : K none (rs σ0 r b p k q (upd (upd rf 4 a) 5 c) tp gp)) : a_C G m_R_fail 0 0 [.ref r, .int a, .int c] (rs σ0 r b p k q rf tp gp) K := by
  refine a_enter rfl (Nat.le_of_ble_eq_true rfl) ?_
  refine a_aload_n d_R_fail_0 rfl rfl ?_
  refine a_iload_n d_R_fail_1 rfl rfl ?_
  refine a_putR (upd rf 4 a) d_R_fail_2 p_R_33 rfl rfl rfl (by decide) ?_
  refine a_aload_n d_R_fail_5 rfl rfl ?_
  refine a_iload_n d_R_fail_6 rfl rfl ?_
  refine a_putR (upd (upd rf 4 a) 5 c) d_R_fail_7 p_R_37 rfl rfl rfl (by decide) ?_
  exact a_return d_R_fail_10 rfl hK

set_option maxHeartbeats 4000000 in
set_option maxRecDepth 100000 in
theorem sp_R_keepPlace {σ : aS} {a N : Nat} {g : Nat → Int32} {i x : Int32} (hN : N < 2 ^ 31) (hc : σ.2.2 a = some (.inl (.int, N, .inl g))) (hi : vp_in i N) (hK : K none (a_upd σ a (.inl (.int, N, .inl (upd g i.toNatClampNeg x))))) : a_C G m_R_keepPlace 0 0 [.ref a, .int i, .int x] σ K := by
  refine a_enter rfl (Nat.le_of_ble_eq_true rfl) ?_
  refine a_iload_n d_R_keepPlace_0 rfl rfl ?_
  refine a_if_lt (tgt := 14) d_R_keepPlace_1 (by decide) (fun n9 => absurd n9 (fun c => hi (Or.inl c))) (fun c_1 => ?_)
  refine a_iload_n d_R_keepPlace_4 rfl rfl ?_
  refine a_aload_n d_R_keepPlace_5 rfl rfl ?_
  apply a_alen (t0 := 0) d_R_keepPlace_6 rfl
  · (repeat (first | with_reducible assumption | with_reducible exact a_us | with_reducible exact a_ns | refine a_un (by first | with_reducible assumption | omega) ?_ | refine a_nn (by first | with_reducible assumption | omega | (simp only [a_upd_1, a_new_1]; omega)) ?_ | exact a_us | exact a_ns))
  refine a_icmp_ge (tgt := 14) d_R_keepPlace_7 (by decide) (fun n9 => absurd n9 (vp_nle hi hN rfl)) (fun c_2 => ?_)
  refine a_aload_n d_R_keepPlace_10 rfl rfl ?_
  refine a_iload_n d_R_keepPlace_11 rfl rfl ?_
  refine a_iload_n d_R_keepPlace_12 rfl rfl ?_
  apply a_iast (t0 := 0) d_R_keepPlace_13 rfl
  · (repeat (first | with_reducible assumption | with_reducible exact a_us | with_reducible exact a_ns | refine a_un (by first | with_reducible assumption | omega) ?_ | refine a_nn (by first | with_reducible assumption | omega | (simp only [a_upd_1, a_new_1]; omega)) ?_ | exact a_us | exact a_ns))
  · exact hi
  exact a_return d_R_keepPlace_14 rfl hK

set_option maxHeartbeats 4000000 in
set_option maxRecDepth 100000 in
theorem sp_R_placeIn {σ : aS} {a N : Nat} {g : Nat → Int32} {i : Int32} (hN : N < 2 ^ 31) (hc : σ.2.2 a = some (.inl (.int, N, .inl g))) (hi : vp_in i N) (hK : K (some (.int (g i.toNatClampNeg))) σ) : a_C G m_R_placeIn 0 0 [.ref a, .int i] σ K := by
  refine a_enter rfl (Nat.le_of_ble_eq_true rfl) ?_
  refine a_iload_n d_R_placeIn_0 rfl rfl ?_
  refine a_if_lt (tgt := 16) d_R_placeIn_1 (by decide) (fun n9 => absurd n9 (fun c => hi (Or.inl c))) (fun c_1 => ?_)
  refine a_iload_n d_R_placeIn_4 rfl rfl ?_
  refine a_aload_n d_R_placeIn_5 rfl rfl ?_
  apply a_alen (t0 := 0) d_R_placeIn_6 rfl
  · (repeat (first | with_reducible assumption | with_reducible exact a_us | with_reducible exact a_ns | refine a_un (by first | with_reducible assumption | omega) ?_ | refine a_nn (by first | with_reducible assumption | omega | (simp only [a_upd_1, a_new_1]; omega)) ?_ | exact a_us | exact a_ns))
  refine a_icmp_ge (tgt := 16) d_R_placeIn_7 (by decide) (fun n9 => absurd n9 (vp_nle hi hN rfl)) (fun c_2 => ?_)
  refine a_aload_n d_R_placeIn_10 rfl rfl ?_
  refine a_iload_n d_R_placeIn_11 rfl rfl ?_
  apply a_iald (t0 := 0) d_R_placeIn_12 rfl
  · (repeat (first | with_reducible assumption | with_reducible exact a_us | with_reducible exact a_ns | refine a_un (by first | with_reducible assumption | omega) ?_ | refine a_nn (by first | with_reducible assumption | omega | (simp only [a_upd_1, a_new_1]; omega)) ?_ | exact a_us | exact a_ns))
  · exact hi
  refine a_goto (tgt := 17) d_R_placeIn_13 (by decide) ?_
  exact a_ireturn d_R_placeIn_17 rfl rfl hK

def tkTop (n : Nat) (f : Nat → Nat) (k : aT) (q : aP) (rf tp gp : Nat → Int32) : Int32 × aP × (Nat → Int32) × (Nat → Int32) × (Nat → Int32) := if (if k.2.1 = 0 then (1 : Int32) else 0) = 0 then (if (if k.2.1 = 1 then (1 : Int32) else 0) = 0 then (-1, q, rf, tp, gp) else if cah q 1 = 0 then (-1, q, rf, tp, gp) else (2, q, rf, tp, gp)) else if nI (hcnt q 1) = 0 then (0, q, upd (upd rf 4 4) 5 (nI k.2.2.1), tp, gp) else (0, q, rf, tp, gp)
set_option maxHeartbeats 4000000 in
set_option maxRecDepth 100000 in
theorem sp_R_takeTop (hd : b + 2 ≤ p ∧ p + 11 ≤ r) (hB : BY σ0 b cap n f) (hq : PI q) (hK : K (some (.int (tkTop n f k q rf tp gp).1)) (rs σ0 r b p k (tkTop n f k q rf tp gp).2.1 (tkTop n f k q rf tp gp).2.2.1 (tkTop n f k q rf tp gp).2.2.2.1 (tkTop n f k q rf tp gp).2.2.2.2)) : a_C G m_R_takeTop 1 22 [.ref r] (rs σ0 r b p k q rf tp gp) K := by
  refine a_enter rfl (Nat.le_of_ble_eq_true rfl) ?_
  refine a_aload_n d_R_takeTop_0 rfl rfl ?_
  apply a_getfield d_R_takeTop_1 f_R_14
  · first | exact rsR | exact rsT | exact rsTp | exact rsGp | exact rsP0 hd.2
  · rfl
  refine a_iconst (v := 0) d_R_takeTop_4 (by decide) ?_
  apply a_callV (ci := 5) 0 0 [_] _ d_R_takeTop_5 l_R_74 ⟨im_T_isA, se_T_isA⟩ rfl rfl rfl rfl (Nat.le_of_ble_eq_true rfl) ⟨Nat.le_of_ble_eq_true rfl, Nat.le_of_ble_eq_true rfl⟩
  · (first | exact rsR | exact rsT | exact rsTp | exact rsGp | exact rsP0 hd.2)
  refine sp_T_isA rsT ?_
  refine a_if_eq (tgt := 36) d_R_takeTop_8 (by decide) (fun c_1 => ?_) (fun c_1 => ?_)
  · refine a_aload_n d_R_takeTop_36 rfl rfl ?_
    apply a_getfield d_R_takeTop_37 f_R_14
    · first | exact rsR | exact rsT | exact rsTp | exact rsGp | exact rsP0 hd.2
    · rfl
    refine a_iconst (v := 1) d_R_takeTop_40 (by decide) ?_
    apply a_callV (ci := 5) 0 0 [_] _ d_R_takeTop_41 l_R_74 ⟨im_T_isA, se_T_isA⟩ rfl rfl rfl rfl (Nat.le_of_ble_eq_true rfl) ⟨Nat.le_of_ble_eq_true rfl, Nat.le_of_ble_eq_true rfl⟩
    · (first | exact rsR | exact rsT | exact rsTp | exact rsGp | exact rsP0 hd.2)
    refine sp_T_isA rsT ?_
    refine a_if_eq (tgt := 62) d_R_takeTop_44 (by decide) (fun c_2 => ?_) (fun c_2 => ?_)
    · refine a_iconst (v := (-1)) d_R_takeTop_62 (by decide) ?_
      refine a_ireturn d_R_takeTop_63 rfl rfl ?_
      first | (simp only [tkTop, if_pos c_1, if_pos c_2, if_true] at hK; exact hK) | contradiction | (exfalso; revert hK; simp_all [upd]; done)
    · refine a_aload_n d_R_takeTop_47 rfl rfl ?_
      apply a_getfield d_R_takeTop_48 f_R_29
      · first | exact rsR | exact rsT | exact rsTp | exact rsGp | exact rsP0 hd.2
      · rfl
      refine a_iconst (v := 1) d_R_takeTop_51 (by decide) ?_
      apply a_callV (ci := 2) 0 0 [_] _ d_R_takeTop_52 l_R_125 ⟨im_P_canAddHead, se_P_canAddHead⟩ rfl rfl rfl rfl (Nat.le_of_ble_eq_true rfl) ⟨Nat.le_of_ble_eq_true rfl, Nat.le_of_ble_eq_true rfl⟩
      · (first | exact rsR | exact rsT | exact rsTp | exact rsGp | exact rsP0 hd.2)
      refine sp_P_canAddHead (rsP hd.2 hq) ?_
      refine a_if_eq (tgt := 62) d_R_takeTop_55 (by decide) (fun c_3 => ?_) (fun c_3 => ?_)
      · refine a_iconst (v := (-1)) d_R_takeTop_62 (by decide) ?_
        refine a_ireturn d_R_takeTop_63 rfl rfl ?_
        first | (simp only [tkTop, if_pos c_1, if_neg c_2, if_pos c_3, if_true] at hK; exact hK) | contradiction | (exfalso; revert hK; simp_all [upd]; done)
      · refine a_iconst (v := 2) d_R_takeTop_58 (by decide) ?_
        refine a_goto (tgt := 63) d_R_takeTop_59 (by decide) ?_
        refine a_ireturn d_R_takeTop_63 rfl rfl ?_
        first | (simp only [tkTop, if_pos c_1, if_neg c_2, if_neg c_3, if_true] at hK; exact hK) | contradiction | (exfalso; revert hK; simp_all [upd]; done)
  · refine a_aload_n d_R_takeTop_11 rfl rfl ?_
    apply a_getfield d_R_takeTop_12 f_R_29
    · first | exact rsR | exact rsT | exact rsTp | exact rsGp | exact rsP0 hd.2
    · rfl
    refine a_iconst (v := 1) d_R_takeTop_15 (by decide) ?_
    apply a_callV (ci := 2) 0 0 [_] _ d_R_takeTop_16 l_R_121 ⟨im_P_heads, se_P_heads⟩ rfl rfl rfl rfl (Nat.le_of_ble_eq_true rfl) ⟨Nat.le_of_ble_eq_true rfl, Nat.le_of_ble_eq_true rfl⟩
    · (first | exact rsR | exact rsT | exact rsTp | exact rsGp | exact rsP0 hd.2)
    refine sp_P_heads (rsP hd.2 hq) ?_
    refine a_if_ne (tgt := 34) d_R_takeTop_19 (by decide) (fun c_4 => ?_) (fun c_4 => ?_)
    · refine a_iconst (v := 0) d_R_takeTop_34 (by decide) ?_
      refine a_ireturn d_R_takeTop_35 rfl rfl ?_
      first | (simp only [tkTop, if_neg c_1, if_neg c_4, if_true] at hK; exact hK) | contradiction | (exfalso; revert hK; simp_all [upd]; done)
    · refine a_aload_n d_R_takeTop_22 rfl rfl ?_
      refine a_iconst (v := 4) d_R_takeTop_23 (by decide) ?_
      refine a_aload_n d_R_takeTop_24 rfl rfl ?_
      apply a_getfield d_R_takeTop_25 f_R_14
      · first | exact rsR | exact rsT | exact rsTp | exact rsGp | exact rsP0 hd.2
      · rfl
      apply a_callV (ci := 5) 0 0 [] _ d_R_takeTop_28 l_R_58 ⟨im_T_place, se_T_place⟩ rfl rfl rfl rfl (Nat.le_of_ble_eq_true rfl) ⟨Nat.le_of_ble_eq_true rfl, Nat.le_of_ble_eq_true rfl⟩
      · (first | exact rsR | exact rsT | exact rsTp | exact rsGp | exact rsP0 hd.2)
      refine sp_T_place rsT ?_
      apply a_callV (ci := 4) 0 0 [_, _] _ d_R_takeTop_31 l_R_60 ⟨im_R_fail, se_R_fail⟩ rfl rfl rfl rfl (Nat.le_of_ble_eq_true rfl) ⟨Nat.le_of_ble_eq_true rfl, Nat.le_of_ble_eq_true rfl⟩
      · (first | exact rsR | exact rsT | exact rsTp | exact rsGp | exact rsP0 hd.2)
      refine sp_R_failS ?_
      refine a_iconst (v := 0) d_R_takeTop_34 (by decide) ?_
      refine a_ireturn d_R_takeTop_35 rfl rfl ?_
      first | (simp only [tkTop, if_neg c_1, if_pos c_4, if_true] at hK; exact hK) | contradiction | (exfalso; revert hK; simp_all [upd]; done)

def tkHW (n : Nat) (f : Nat → Nat) (k : aT) (q : aP) (rf tp gp : Nat → Int32) : Int32 × aP × (Nat → Int32) × (Nat → Int32) × (Nat → Int32) := if isw n f k 0 = 0 then (if isw n f k 1 = 0 then (-1, q, rf, tp, gp) else if cah q 0 = 0 then (-1, q, rf, tp, gp) else (3, q, rf, tp, gp)) else (5, q, rf, tp, gp)
set_option maxHeartbeats 4000000 in
set_option maxRecDepth 100000 in
theorem sp_R_takeHeadWord (hd : b + 2 ≤ p ∧ p + 11 ≤ r) (hB : BY σ0 b cap n f) (hq : PI q) (hK : K (some (.int (tkHW n f k q rf tp gp).1)) (rs σ0 r b p k (tkHW n f k q rf tp gp).2.1 (tkHW n f k q rf tp gp).2.2.1 (tkHW n f k q rf tp gp).2.2.2.1 (tkHW n f k q rf tp gp).2.2.2.2)) : a_C G m_R_takeHeadWord 5 107 [.ref r] (rs σ0 r b p k q rf tp gp) K := by
  refine a_enter rfl (Nat.le_of_ble_eq_true rfl) ?_
  refine a_aload_n d_R_takeHeadWord_0 rfl rfl ?_
  apply a_getfield d_R_takeHeadWord_1 f_R_14
  · first | exact rsR | exact rsT | exact rsTp | exact rsGp | exact rsP0 hd.2
  · rfl
  refine a_ldcS 0 d_R_takeHeadWord_4 (by decide) rfl rfl ?_
  apply a_callV (ci := 5) 4 85 [_] _ d_R_takeHeadWord_6 l_R_131 ⟨im_T_isWord, se_T_isWord⟩ rfl rfl rfl rfl (Nat.le_of_ble_eq_true rfl) ⟨Nat.le_of_ble_eq_true rfl, Nat.le_of_ble_eq_true rfl⟩
  · (first | exact rsR | exact rsT | exact rsTp | exact rsGp | exact rsP0 hd.2)
  refine sp_T_isWord (by decide) (rsB hd.2 hd.1 hB) rsT ?_
  refine a_if_eq (tgt := 14) d_R_takeHeadWord_9 (by decide) (fun c_1 => ?_) (fun c_1 => ?_)
  · refine a_aload_n d_R_takeHeadWord_14 rfl rfl ?_
    apply a_getfield d_R_takeHeadWord_15 f_R_14
    · first | exact rsR | exact rsT | exact rsTp | exact rsGp | exact rsP0 hd.2
    · rfl
    refine a_ldcS 1 d_R_takeHeadWord_18 (by decide) rfl rfl ?_
    apply a_callV (ci := 5) 4 85 [_] _ d_R_takeHeadWord_20 l_R_131 ⟨im_T_isWord, se_T_isWord⟩ rfl rfl rfl rfl (Nat.le_of_ble_eq_true rfl) ⟨Nat.le_of_ble_eq_true rfl, Nat.le_of_ble_eq_true rfl⟩
    · (first | exact rsR | exact rsT | exact rsTp | exact rsGp | exact rsP0 hd.2)
    refine sp_T_isWord (by decide) (rsB hd.2 hd.1 hB) rsT ?_
    refine a_if_eq (tgt := 41) d_R_takeHeadWord_23 (by decide) (fun c_2 => ?_) (fun c_2 => ?_)
    · refine a_iconst (v := (-1)) d_R_takeHeadWord_41 (by decide) ?_
      refine a_ireturn d_R_takeHeadWord_42 rfl rfl ?_
      first | (simp only [tkHW, if_pos c_1, if_pos c_2, if_true] at hK; exact hK) | contradiction | (exfalso; revert hK; simp_all [upd]; done)
    · refine a_aload_n d_R_takeHeadWord_26 rfl rfl ?_
      apply a_getfield d_R_takeHeadWord_27 f_R_29
      · first | exact rsR | exact rsT | exact rsTp | exact rsGp | exact rsP0 hd.2
      · rfl
      refine a_iconst (v := 0) d_R_takeHeadWord_30 (by decide) ?_
      apply a_callV (ci := 2) 0 0 [_] _ d_R_takeHeadWord_31 l_R_125 ⟨im_P_canAddHead, se_P_canAddHead⟩ rfl rfl rfl rfl (Nat.le_of_ble_eq_true rfl) ⟨Nat.le_of_ble_eq_true rfl, Nat.le_of_ble_eq_true rfl⟩
      · (first | exact rsR | exact rsT | exact rsTp | exact rsGp | exact rsP0 hd.2)
      refine sp_P_canAddHead (rsP hd.2 hq) ?_
      refine a_if_eq (tgt := 41) d_R_takeHeadWord_34 (by decide) (fun c_3 => ?_) (fun c_3 => ?_)
      · refine a_iconst (v := (-1)) d_R_takeHeadWord_41 (by decide) ?_
        refine a_ireturn d_R_takeHeadWord_42 rfl rfl ?_
        first | (simp only [tkHW, if_pos c_1, if_neg c_2, if_pos c_3, if_true] at hK; exact hK) | contradiction | (exfalso; revert hK; simp_all [upd]; done)
      · refine a_iconst (v := 3) d_R_takeHeadWord_37 (by decide) ?_
        refine a_goto (tgt := 42) d_R_takeHeadWord_38 (by decide) ?_
        refine a_ireturn d_R_takeHeadWord_42 rfl rfl ?_
        first | (simp only [tkHW, if_pos c_1, if_neg c_2, if_neg c_3, if_true] at hK; exact hK) | contradiction | (exfalso; revert hK; simp_all [upd]; done)
  · refine a_iconst (v := 5) d_R_takeHeadWord_12 (by decide) ?_
    refine a_ireturn d_R_takeHeadWord_13 rfl rfl ?_
    first | (simp only [tkHW, if_neg c_1, if_true] at hK; exact hK) | contradiction | (exfalso; revert hK; simp_all [upd]; done)

def tkHN (n : Nat) (f : Nat → Nat) (k : aT) (q : aP) (rf tp gp : Nat → Int32) (w nx : Int32) : Int32 × aP × (Nat → Int32) × (Nat → Int32) × (Nat → Int32) := if frF n f k = 0 then (-1, q, rf, tp, gp) else if fnd q w k.2.2.2.1 = -1 then (nx, ah q w k.2.2.2.1, upd rf 6 w, tp, gp) else (-1, q, rf, tp, gp)
set_option maxHeartbeats 4000000 in
set_option maxRecDepth 100000 in
theorem sp_R_takeHeadName {w nx : Int32} (hw : w = 0 ∨ w = 1) (hc : ¬ cah q w = 0) (hd : b + 2 ≤ p ∧ p + 11 ≤ r) (hB : BY σ0 b cap n f) (hq : PI q) (hK : K (some (.int (tkHN n f k q rf tp gp w nx).1)) (rs σ0 r b p k (tkHN n f k q rf tp gp w nx).2.1 (tkHN n f k q rf tp gp w nx).2.2.1 (tkHN n f k q rf tp gp w nx).2.2.2.1 (tkHN n f k q rf tp gp w nx).2.2.2.2)) : a_C G m_R_takeHeadName 6 129 [.ref r, .int w, .int nx] (rs σ0 r b p k q rf tp gp) K := by
  refine a_enter rfl (Nat.le_of_ble_eq_true rfl) ?_
  refine a_aload_n d_R_takeHeadName_0 rfl rfl ?_
  apply a_getfield d_R_takeHeadName_1 f_R_14
  · first | exact rsR | exact rsT | exact rsTp | exact rsGp | exact rsP0 hd.2
  · rfl
  apply a_callV (ci := 5) 5 107 [] _ d_R_takeHeadName_4 l_R_137 ⟨im_T_isFreeName, se_T_isFreeName⟩ rfl rfl rfl rfl (Nat.le_of_ble_eq_true rfl) ⟨Nat.le_of_ble_eq_true rfl, Nat.le_of_ble_eq_true rfl⟩
  · (first | exact rsR | exact rsT | exact rsTp | exact rsGp | exact rsP0 hd.2)
  refine sp_T_isFreeName (rsB hd.2 hd.1 hB) rsT ?_
  refine a_if_eq (tgt := 29) d_R_takeHeadName_7 (by decide) (fun c_1 => ?_) (fun c_1 => ?_)
  · refine a_iconst (v := (-1)) d_R_takeHeadName_29 (by decide) ?_
    refine a_ireturn d_R_takeHeadName_30 rfl rfl ?_
    first | (simp only [tkHN, if_pos c_1, if_true] at hK; exact hK) | contradiction | (exfalso; revert hK; simp_all [upd]; done)
  · refine a_aload_n d_R_takeHeadName_10 rfl rfl ?_
    apply a_getfield d_R_takeHeadName_11 f_R_29
    · first | exact rsR | exact rsT | exact rsTp | exact rsGp | exact rsP0 hd.2
    · rfl
    refine a_iload_n d_R_takeHeadName_14 rfl rfl ?_
    refine a_aload_n d_R_takeHeadName_15 rfl rfl ?_
    apply a_getfield d_R_takeHeadName_16 f_R_14
    · first | exact rsR | exact rsT | exact rsTp | exact rsGp | exact rsP0 hd.2
    · rfl
    apply a_callV (ci := 5) 0 0 [] _ d_R_takeHeadName_19 l_R_141 ⟨im_T_name, se_T_name⟩ rfl rfl rfl rfl (Nat.le_of_ble_eq_true rfl) ⟨Nat.le_of_ble_eq_true rfl, Nat.le_of_ble_eq_true rfl⟩
    · (first | exact rsR | exact rsT | exact rsTp | exact rsGp | exact rsP0 hd.2)
    refine sp_T_name rsT ?_
    apply a_callV (ci := 2) 1 21 [_, _] _ d_R_takeHeadName_22 l_R_145 ⟨im_P_find, se_P_find⟩ rfl rfl rfl rfl (Nat.le_of_ble_eq_true rfl) ⟨Nat.le_of_ble_eq_true rfl, Nat.le_of_ble_eq_true rfl⟩
    · (first | exact rsR | exact rsT | exact rsTp | exact rsGp | exact rsP0 hd.2)
    refine sp_P_find (rsP hd.2 hq) ?_
    refine a_iconst (v := (-1)) d_R_takeHeadName_25 (by decide) ?_
    refine a_icmp_eq (tgt := 31) d_R_takeHeadName_26 (by decide) (fun c_2 => ?_) (fun c_2 => ?_)
    · refine a_aload_n d_R_takeHeadName_31 rfl rfl ?_
      refine a_iload_n d_R_takeHeadName_32 rfl rfl ?_
      refine a_putR (upd rf 6 w) d_R_takeHeadName_33 p_R_149 rfl (by rcases hw with e | e <;> rw [e] <;> rfl) (by rcases hw with e | e <;> rw [e] <;> rfl) (by decide) ?_
      refine a_aload_n d_R_takeHeadName_36 rfl rfl ?_
      apply a_getfield d_R_takeHeadName_37 f_R_29
      · first | exact rsR | exact rsT | exact rsTp | exact rsGp | exact rsP0 hd.2
      · rfl
      refine a_iload_n d_R_takeHeadName_40 rfl rfl ?_
      refine a_aload_n d_R_takeHeadName_41 rfl rfl ?_
      apply a_getfield d_R_takeHeadName_42 f_R_14
      · first | exact rsR | exact rsT | exact rsTp | exact rsGp | exact rsP0 hd.2
      · rfl
      apply a_callV (ci := 5) 0 0 [] _ d_R_takeHeadName_45 l_R_141 ⟨im_T_name, se_T_name⟩ rfl rfl rfl rfl (Nat.le_of_ble_eq_true rfl) ⟨Nat.le_of_ble_eq_true rfl, Nat.le_of_ble_eq_true rfl⟩
      · (first | exact rsR | exact rsT | exact rsTp | exact rsGp | exact rsP0 hd.2)
      refine sp_T_name rsT ?_
      apply a_callV (ci := 2) 1 21 [_, _] _ d_R_takeHeadName_48 l_R_153 ⟨im_P_addHead, se_P_addHead⟩ rfl rfl rfl rfl (Nat.le_of_ble_eq_true rfl) ⟨Nat.le_of_ble_eq_true rfl, Nat.le_of_ble_eq_true rfl⟩
      · (first | exact rsR | exact rsT | exact rsTp | exact rsGp | exact rsP0 hd.2)
      refine sp_P_addHead (rsP hd.2 hq) hc (fun τ hf hP => ?_)
      obtain rfl := rs_P hd.2 hf hP
      refine a_iload_n d_R_takeHeadName_51 rfl rfl ?_
      refine a_ireturn d_R_takeHeadName_52 rfl rfl ?_
      first | (simp only [tkHN, if_neg c_1, if_pos c_2, if_true] at hK; exact hK) | contradiction | (exfalso; revert hK; simp_all [upd]; done)
    · refine a_iconst (v := (-1)) d_R_takeHeadName_29 (by decide) ?_
      refine a_ireturn d_R_takeHeadName_30 rfl rfl ?_
      first | (simp only [tkHN, if_neg c_1, if_neg c_2, if_true] at hK; exact hK) | contradiction | (exfalso; revert hK; simp_all [upd]; done)

def tkCT (n : Nat) (f : Nat → Nat) (k : aT) (q : aP) (rf tp gp : Nat → Int32) : Int32 × aP × (Nat → Int32) × (Nat → Int32) × (Nat → Int32) := if (if k.2.1 = 4 then (if k.2.2.2.2 < 1 then (0 : Int32) else if 15 < k.2.2.2.2 then 0 else 1) else 0) = 0 then (-1, q, rf, tp, gp) else (6, (q.1, q.2.1, updA q.2.2 5 (hrow q 0 (nI q.1.1 - 1)).toNatClampNeg k.2.2.2.2), rf, tp, gp)
set_option maxHeartbeats 4000000 in
set_option maxRecDepth 100000 in
theorem sp_R_takeCounterTop (hr : ¬ hrow q 0 (nI q.1.1 - 1) = -1) (hd : b + 2 ≤ p ∧ p + 11 ≤ r) (hB : BY σ0 b cap n f) (hq : PI q) (hK : K (some (.int (tkCT n f k q rf tp gp).1)) (rs σ0 r b p k (tkCT n f k q rf tp gp).2.1 (tkCT n f k q rf tp gp).2.2.1 (tkCT n f k q rf tp gp).2.2.2.1 (tkCT n f k q rf tp gp).2.2.2.2)) : a_C G m_R_takeCounterTop 2 44 [.ref r] (rs σ0 r b p k q rf tp gp) K := by
  refine a_enter rfl (Nat.le_of_ble_eq_true rfl) ?_
  refine a_aload_n d_R_takeCounterTop_0 rfl rfl ?_
  apply a_getfield d_R_takeCounterTop_1 f_R_14
  · first | exact rsR | exact rsT | exact rsTp | exact rsGp | exact rsP0 hd.2
  · rfl
  refine a_iconst (v := 1) d_R_takeCounterTop_4 (by decide) ?_
  refine a_bipush (v := 15) d_R_takeCounterTop_5 (by decide) ?_
  apply a_callV (ci := 5) 0 0 [_, _] _ d_R_takeCounterTop_7 l_R_157 ⟨im_T_isNumber, se_T_isNumber⟩ rfl rfl rfl rfl (Nat.le_of_ble_eq_true rfl) ⟨Nat.le_of_ble_eq_true rfl, Nat.le_of_ble_eq_true rfl⟩
  · (first | exact rsR | exact rsT | exact rsTp | exact rsGp | exact rsP0 hd.2)
  refine sp_T_isNumber rsT ?_
  refine a_if_ne (tgt := 15) d_R_takeCounterTop_10 (by decide) (fun c_1 => ?_) (fun c_1 => ?_)
  · refine a_aload_n d_R_takeCounterTop_15 rfl rfl ?_
    apply a_getfield d_R_takeCounterTop_16 f_R_29
    · first | exact rsR | exact rsT | exact rsTp | exact rsGp | exact rsP0 hd.2
    · rfl
    refine a_aload_n d_R_takeCounterTop_19 rfl rfl ?_
    apply a_getfield d_R_takeCounterTop_20 f_R_14
    · first | exact rsR | exact rsT | exact rsTp | exact rsGp | exact rsP0 hd.2
    · rfl
    apply a_callV (ci := 5) 0 0 [] _ d_R_takeCounterTop_23 l_R_161 ⟨im_T_number, se_T_number⟩ rfl rfl rfl rfl (Nat.le_of_ble_eq_true rfl) ⟨Nat.le_of_ble_eq_true rfl, Nat.le_of_ble_eq_true rfl⟩
    · (first | exact rsR | exact rsT | exact rsTp | exact rsGp | exact rsP0 hd.2)
    refine sp_T_number rsT ?_
    apply a_callV (ci := 2) 1 22 [_] _ d_R_takeCounterTop_26 l_R_164 ⟨im_P_setTopOfLast, se_P_setTopOfLast⟩ rfl rfl rfl rfl (Nat.le_of_ble_eq_true rfl) ⟨Nat.le_of_ble_eq_true rfl, Nat.le_of_ble_eq_true rfl⟩
    · (first | exact rsR | exact rsT | exact rsTp | exact rsGp | exact rsP0 hd.2)
    refine sp_P_setTopOfLast (rsP hd.2 hq) hr (fun τ hf hP => ?_)
    obtain rfl := rs_P hd.2 hf hP
    refine a_bipush (v := 6) d_R_takeCounterTop_29 (by decide) ?_
    refine a_ireturn d_R_takeCounterTop_31 rfl rfl ?_
    first | (simp only [tkCT, if_neg c_1, if_true] at hK; exact hK) | contradiction | (exfalso; revert hK; simp_all [upd]; done)
  · refine a_iconst (v := (-1)) d_R_takeCounterTop_13 (by decide) ?_
    refine a_ireturn d_R_takeCounterTop_14 rfl rfl ?_
    first | (simp only [tkCT, if_pos c_1, if_true] at hK; exact hK) | contradiction | (exfalso; revert hK; simp_all [upd]; done)

def tkCC (n : Nat) (f : Nat → Nat) (k : aT) (q : aP) (rf tp gp : Nat → Int32) : Int32 × aP × (Nat → Int32) × (Nat → Int32) × (Nat → Int32) := if (if k.2.1 = 2 then (1 : Int32) else 0) = 0 then (if (if k.2.1 = 1 then (1 : Int32) else 0) = 0 then (-1, q, rf, tp, gp) else if cac q (rf 6) = 0 then (-1, q, rf, tp, gp) else (7, q, rf, tp, gp)) else (1, q, rf, tp, gp)
set_option maxHeartbeats 4000000 in
set_option maxRecDepth 100000 in
theorem sp_R_takeClauseOrClose (hd : b + 2 ≤ p ∧ p + 11 ≤ r) (hB : BY σ0 b cap n f) (hq : PI q) (hK : K (some (.int (tkCC n f k q rf tp gp).1)) (rs σ0 r b p k (tkCC n f k q rf tp gp).2.1 (tkCC n f k q rf tp gp).2.2.1 (tkCC n f k q rf tp gp).2.2.2.1 (tkCC n f k q rf tp gp).2.2.2.2)) : a_C G m_R_takeClauseOrClose 2 44 [.ref r] (rs σ0 r b p k q rf tp gp) K := by
  refine a_enter rfl (Nat.le_of_ble_eq_true rfl) ?_
  refine a_aload_n d_R_takeClauseOrClose_0 rfl rfl ?_
  apply a_getfield d_R_takeClauseOrClose_1 f_R_14
  · first | exact rsR | exact rsT | exact rsTp | exact rsGp | exact rsP0 hd.2
  · rfl
  refine a_iconst (v := 2) d_R_takeClauseOrClose_4 (by decide) ?_
  apply a_callV (ci := 5) 0 0 [_] _ d_R_takeClauseOrClose_5 l_R_74 ⟨im_T_isA, se_T_isA⟩ rfl rfl rfl rfl (Nat.le_of_ble_eq_true rfl) ⟨Nat.le_of_ble_eq_true rfl, Nat.le_of_ble_eq_true rfl⟩
  · (first | exact rsR | exact rsT | exact rsTp | exact rsGp | exact rsP0 hd.2)
  refine sp_T_isA rsT ?_
  refine a_if_eq (tgt := 13) d_R_takeClauseOrClose_8 (by decide) (fun c_1 => ?_) (fun c_1 => ?_)
  · refine a_aload_n d_R_takeClauseOrClose_13 rfl rfl ?_
    apply a_getfield d_R_takeClauseOrClose_14 f_R_14
    · first | exact rsR | exact rsT | exact rsTp | exact rsGp | exact rsP0 hd.2
    · rfl
    refine a_iconst (v := 1) d_R_takeClauseOrClose_17 (by decide) ?_
    apply a_callV (ci := 5) 0 0 [_] _ d_R_takeClauseOrClose_18 l_R_74 ⟨im_T_isA, se_T_isA⟩ rfl rfl rfl rfl (Nat.le_of_ble_eq_true rfl) ⟨Nat.le_of_ble_eq_true rfl, Nat.le_of_ble_eq_true rfl⟩
    · (first | exact rsR | exact rsT | exact rsTp | exact rsGp | exact rsP0 hd.2)
    refine sp_T_isA rsT ?_
    refine a_if_eq (tgt := 43) d_R_takeClauseOrClose_21 (by decide) (fun c_2 => ?_) (fun c_2 => ?_)
    · refine a_iconst (v := (-1)) d_R_takeClauseOrClose_43 (by decide) ?_
      refine a_ireturn d_R_takeClauseOrClose_44 rfl rfl ?_
      first | (simp only [tkCC, if_pos c_1, if_pos c_2, if_true] at hK; exact hK) | contradiction | (exfalso; revert hK; simp_all [upd]; done)
    · refine a_aload_n d_R_takeClauseOrClose_24 rfl rfl ?_
      apply a_getfield d_R_takeClauseOrClose_25 f_R_29
      · first | exact rsR | exact rsT | exact rsTp | exact rsGp | exact rsP0 hd.2
      · rfl
      refine a_aload_n d_R_takeClauseOrClose_28 rfl rfl ?_
      apply a_getfield d_R_takeClauseOrClose_29 f_R_149
      · first | exact rsR | exact rsT | exact rsTp | exact rsGp | exact rsP0 hd.2
      · rfl
      apply a_callV (ci := 2) 1 22 [_] _ d_R_takeClauseOrClose_32 l_R_168 ⟨im_P_canAddClause, se_P_canAddClause⟩ rfl rfl rfl rfl (Nat.le_of_ble_eq_true rfl) ⟨Nat.le_of_ble_eq_true rfl, Nat.le_of_ble_eq_true rfl⟩
      · (first | exact rsR | exact rsT | exact rsTp | exact rsGp | exact rsP0 hd.2)
      refine sp_P_canAddClause (rsP hd.2 hq) ?_
      refine a_if_eq (tgt := 43) d_R_takeClauseOrClose_35 (by decide) (fun c_3 => ?_) (fun c_3 => ?_)
      · refine a_iconst (v := (-1)) d_R_takeClauseOrClose_43 (by decide) ?_
        refine a_ireturn d_R_takeClauseOrClose_44 rfl rfl ?_
        first | (simp only [tkCC, if_pos c_1, if_neg c_2, if_pos c_3, if_true] at hK; exact hK) | contradiction | (exfalso; revert hK; simp_all [upd]; done)
      · refine a_bipush (v := 7) d_R_takeClauseOrClose_38 (by decide) ?_
        refine a_goto (tgt := 44) d_R_takeClauseOrClose_40 (by decide) ?_
        refine a_ireturn d_R_takeClauseOrClose_44 rfl rfl ?_
        first | (simp only [tkCC, if_pos c_1, if_neg c_2, if_neg c_3, if_true] at hK; exact hK) | contradiction | (exfalso; revert hK; simp_all [upd]; done)
  · refine a_iconst (v := 1) d_R_takeClauseOrClose_11 (by decide) ?_
    refine a_ireturn d_R_takeClauseOrClose_12 rfl rfl ?_
    first | (simp only [tkCC, if_neg c_1, if_true] at hK; exact hK) | contradiction | (exfalso; revert hK; simp_all [upd]; done)

def tkCW (n : Nat) (f : Nat → Nat) (k : aT) (q : aP) (rf tp gp : Nat → Int32) : Int32 × aP × (Nat → Int32) × (Nat → Int32) × (Nat → Int32) := if rf 6 = 0 then (if isw n f k 15 = 0 then (if isw n f k 16 = 0 then (-1, q, upd rf 8 0, tp, gp) else (8, q, upd rf 8 0, tp, gp)) else (8, q, upd rf 8 1, tp, gp)) else if isw n f k 14 = 0 then (-1, q, upd rf 8 (-1), tp, gp) else (8, q, upd rf 8 (-1), tp, gp)
set_option maxHeartbeats 4000000 in
set_option maxRecDepth 100000 in
theorem sp_R_takeClauseWord (hd : b + 2 ≤ p ∧ p + 11 ≤ r) (hB : BY σ0 b cap n f) (hq : PI q) (hK : K (some (.int (tkCW n f k q rf tp gp).1)) (rs σ0 r b p k (tkCW n f k q rf tp gp).2.1 (tkCW n f k q rf tp gp).2.2.1 (tkCW n f k q rf tp gp).2.2.2.1 (tkCW n f k q rf tp gp).2.2.2.2)) : a_C G m_R_takeClauseWord 5 107 [.ref r] (rs σ0 r b p k q rf tp gp) K := by
  refine a_enter rfl (Nat.le_of_ble_eq_true rfl) ?_
  refine a_aload_n d_R_takeClauseWord_0 rfl rfl ?_
  apply a_getfield d_R_takeClauseWord_1 f_R_149
  · first | exact rsR | exact rsT | exact rsTp | exact rsGp | exact rsP0 hd.2
  · rfl
  refine a_if_eq (tgt := 31) d_R_takeClauseWord_4 (by decide) (fun c_1 => ?_) (fun c_1 => ?_)
  · refine a_aload_n d_R_takeClauseWord_31 rfl rfl ?_
    refine a_aload_n d_R_takeClauseWord_32 rfl rfl ?_
    apply a_getfield d_R_takeClauseWord_33 f_R_14
    · first | exact rsR | exact rsT | exact rsTp | exact rsGp | exact rsP0 hd.2
    · rfl
    refine a_ldcS 15 d_R_takeClauseWord_36 (by decide) rfl rfl ?_
    apply a_callV (ci := 5) 4 85 [_] _ d_R_takeClauseWord_38 l_R_131 ⟨im_T_isWord, se_T_isWord⟩ rfl rfl rfl rfl (Nat.le_of_ble_eq_true rfl) ⟨Nat.le_of_ble_eq_true rfl, Nat.le_of_ble_eq_true rfl⟩
    · (first | exact rsR | exact rsT | exact rsTp | exact rsGp | exact rsP0 hd.2)
    refine sp_T_isWord (by decide) (rsB hd.2 hd.1 hB) rsT ?_
    refine a_if_eq (tgt := 48) d_R_takeClauseWord_41 (by decide) (fun c_2 => ?_) (fun c_2 => ?_)
    · refine a_iconst (v := 0) d_R_takeClauseWord_48 (by decide) ?_
      refine a_putR (upd rf 8 0) d_R_takeClauseWord_49 p_R_171 rfl rfl rfl (by decide) ?_
      refine a_aload_n d_R_takeClauseWord_52 rfl rfl ?_
      apply a_getfield d_R_takeClauseWord_53 f_R_171
      · first | exact rsR | exact rsT | exact rsTp | exact rsGp | exact rsP0 hd.2
      · rfl
      refine a_iconst (v := 1) d_R_takeClauseWord_56 (by decide) ?_
      refine a_icmp_eq (tgt := 72) d_R_takeClauseWord_57 (by decide) (fun c_3 => ?_) (fun c_3 => ?_)
      · refine a_bipush (v := 8) d_R_takeClauseWord_72 (by decide) ?_
        refine a_goto (tgt := 78) d_R_takeClauseWord_74 (by decide) ?_
        refine a_ireturn d_R_takeClauseWord_78 rfl rfl ?_
        first | (simp only [tkCW, if_pos c_1, if_pos c_2, if_pos c_3, if_true] at hK; exact hK) | contradiction | (exfalso; revert hK; simp_all [upd]; done)
      · refine a_aload_n d_R_takeClauseWord_60 rfl rfl ?_
        apply a_getfield d_R_takeClauseWord_61 f_R_14
        · first | exact rsR | exact rsT | exact rsTp | exact rsGp | exact rsP0 hd.2
        · rfl
        refine a_ldcS 16 d_R_takeClauseWord_64 (by decide) rfl rfl ?_
        apply a_callV (ci := 5) 4 85 [_] _ d_R_takeClauseWord_66 l_R_131 ⟨im_T_isWord, se_T_isWord⟩ rfl rfl rfl rfl (Nat.le_of_ble_eq_true rfl) ⟨Nat.le_of_ble_eq_true rfl, Nat.le_of_ble_eq_true rfl⟩
        · (first | exact rsR | exact rsT | exact rsTp | exact rsGp | exact rsP0 hd.2)
        refine sp_T_isWord (by decide) (rsB hd.2 hd.1 hB) rsT ?_
        refine a_if_eq (tgt := 77) d_R_takeClauseWord_69 (by decide) (fun c_4 => ?_) (fun c_4 => ?_)
        · refine a_iconst (v := (-1)) d_R_takeClauseWord_77 (by decide) ?_
          refine a_ireturn d_R_takeClauseWord_78 rfl rfl ?_
          first | (simp only [tkCW, if_pos c_1, if_pos c_2, if_neg c_3, if_pos c_4, if_true] at hK; exact hK) | contradiction | (exfalso; revert hK; simp_all [upd]; done)
        · refine a_bipush (v := 8) d_R_takeClauseWord_72 (by decide) ?_
          refine a_goto (tgt := 78) d_R_takeClauseWord_74 (by decide) ?_
          refine a_ireturn d_R_takeClauseWord_78 rfl rfl ?_
          first | (simp only [tkCW, if_pos c_1, if_pos c_2, if_neg c_3, if_neg c_4, if_true] at hK; exact hK) | contradiction | (exfalso; revert hK; simp_all [upd]; done)
    · refine a_iconst (v := 1) d_R_takeClauseWord_44 (by decide) ?_
      refine a_goto (tgt := 49) d_R_takeClauseWord_45 (by decide) ?_
      refine a_putR (upd rf 8 1) d_R_takeClauseWord_49 p_R_171 rfl rfl rfl (by decide) ?_
      refine a_aload_n d_R_takeClauseWord_52 rfl rfl ?_
      apply a_getfield d_R_takeClauseWord_53 f_R_171
      · first | exact rsR | exact rsT | exact rsTp | exact rsGp | exact rsP0 hd.2
      · rfl
      refine a_iconst (v := 1) d_R_takeClauseWord_56 (by decide) ?_
      refine a_icmp_eq (tgt := 72) d_R_takeClauseWord_57 (by decide) (fun c_5 => ?_) (fun c_5 => ?_)
      · refine a_bipush (v := 8) d_R_takeClauseWord_72 (by decide) ?_
        refine a_goto (tgt := 78) d_R_takeClauseWord_74 (by decide) ?_
        refine a_ireturn d_R_takeClauseWord_78 rfl rfl ?_
        first | (simp only [tkCW, if_pos c_1, if_neg c_2, if_pos c_5, if_true] at hK; exact hK) | contradiction | (exfalso; revert hK; simp_all [upd]; done)
      · refine a_aload_n d_R_takeClauseWord_60 rfl rfl ?_
        apply a_getfield d_R_takeClauseWord_61 f_R_14
        · first | exact rsR | exact rsT | exact rsTp | exact rsGp | exact rsP0 hd.2
        · rfl
        refine a_ldcS 16 d_R_takeClauseWord_64 (by decide) rfl rfl ?_
        apply a_callV (ci := 5) 4 85 [_] _ d_R_takeClauseWord_66 l_R_131 ⟨im_T_isWord, se_T_isWord⟩ rfl rfl rfl rfl (Nat.le_of_ble_eq_true rfl) ⟨Nat.le_of_ble_eq_true rfl, Nat.le_of_ble_eq_true rfl⟩
        · (first | exact rsR | exact rsT | exact rsTp | exact rsGp | exact rsP0 hd.2)
        refine sp_T_isWord (by decide) (rsB hd.2 hd.1 hB) rsT ?_
        refine a_if_eq (tgt := 77) d_R_takeClauseWord_69 (by decide) (fun c_6 => ?_) (fun c_6 => ?_)
        · refine a_iconst (v := (-1)) d_R_takeClauseWord_77 (by decide) ?_
          refine a_ireturn d_R_takeClauseWord_78 rfl rfl ?_
          first | (simp only [tkCW, if_pos c_1, if_neg c_2, if_neg c_5, if_pos c_6, if_true] at hK; exact hK) | contradiction | (exfalso; revert hK; simp_all [upd]; done)
        · refine a_bipush (v := 8) d_R_takeClauseWord_72 (by decide) ?_
          refine a_goto (tgt := 78) d_R_takeClauseWord_74 (by decide) ?_
          refine a_ireturn d_R_takeClauseWord_78 rfl rfl ?_
          first | (simp only [tkCW, if_pos c_1, if_neg c_2, if_neg c_5, if_neg c_6, if_true] at hK; exact hK) | contradiction | (exfalso; revert hK; simp_all [upd]; done)
  · refine a_aload_n d_R_takeClauseWord_7 rfl rfl ?_
    refine a_iconst (v := (-1)) d_R_takeClauseWord_8 (by decide) ?_
    refine a_putR (upd rf 8 (-1)) d_R_takeClauseWord_9 p_R_171 rfl rfl rfl (by decide) ?_
    refine a_aload_n d_R_takeClauseWord_12 rfl rfl ?_
    apply a_getfield d_R_takeClauseWord_13 f_R_14
    · first | exact rsR | exact rsT | exact rsTp | exact rsGp | exact rsP0 hd.2
    · rfl
    refine a_ldcS 14 d_R_takeClauseWord_16 (by decide) rfl rfl ?_
    apply a_callV (ci := 5) 4 85 [_] _ d_R_takeClauseWord_18 l_R_131 ⟨im_T_isWord, se_T_isWord⟩ rfl rfl rfl rfl (Nat.le_of_ble_eq_true rfl) ⟨Nat.le_of_ble_eq_true rfl, Nat.le_of_ble_eq_true rfl⟩
    · (first | exact rsR | exact rsT | exact rsTp | exact rsGp | exact rsP0 hd.2)
    refine sp_T_isWord (by decide) (rsB hd.2 hd.1 hB) rsT ?_
    refine a_if_eq (tgt := 29) d_R_takeClauseWord_21 (by decide) (fun c_7 => ?_) (fun c_7 => ?_)
    · refine a_iconst (v := (-1)) d_R_takeClauseWord_29 (by decide) ?_
      refine a_ireturn d_R_takeClauseWord_30 rfl rfl ?_
      first | (simp only [tkCW, if_neg c_1, if_pos c_7, if_true] at hK; exact hK) | contradiction | (exfalso; revert hK; simp_all [upd]; done)
    · refine a_bipush (v := 8) d_R_takeClauseWord_24 (by decide) ?_
      refine a_goto (tgt := 30) d_R_takeClauseWord_26 (by decide) ?_
      refine a_ireturn d_R_takeClauseWord_30 rfl rfl ?_
      first | (simp only [tkCW, if_neg c_1, if_neg c_7, if_true] at hK; exact hK) | contradiction | (exfalso; revert hK; simp_all [upd]; done)

end ModR2
