/-! THE MODEL's sheet -/
def pX (x : aX) (L : List Nat) (t : Int32) : aX := (upd (upd x.1 6 (nI L.length)) 7 t, x.2.1, fun a => if a = 3 then (fun i => if i < L.length then nI (L.getD i 0) else x.2.2.1 3 i) else x.2.2.1 a, x.2.2.2)
section PX
variable {x : aX} {L : List Nat} {t : Int32}
theorem pX_6 : (pX x L t).1 6 = nI L.length := by
  show upd (upd x.1 6 (nI L.length)) 7 t 6 = _
  rw [pk_un (by decide), pk_us]
theorem pX_t : (pX x L t).1 7 = t := by
  show upd (upd x.1 6 (nI L.length)) 7 t 7 = _
  exact pk_us
theorem pX_k {k : Nat} (h : ¬ k = 6) (h2 : ¬ k = 7) : (pX x L t).1 k = x.1 k := by
  show upd (upd x.1 6 (nI L.length)) 7 t k = _
  rw [pk_un h2, pk_un h]
theorem pX_r {a : Nat} (h : ¬ a = 3) : (pX x L t).2.2.1 a = x.2.2.1 a := by
  show (if a = 3 then _ else x.2.2.1 a) = _
  exact if_neg h
theorem pX_3 {i : Nat} (h : i < L.length) : (pX x L t).2.2.1 3 i = nI (L.getD i 0) := by
  show (if i < L.length then nI (L.getD i 0) else x.2.2.1 3 i) = _
  exact if_pos h
theorem pX_7 (v : Int32) : sI (pX x L t) 7 v = pX x L v := by
  unfold sI pX
  refine congrArg (fun y => (y, _)) (funext fun k => ?_)
  show upd (upd (upd x.1 6 (nI L.length)) 7 t) 7 v k = upd (upd x.1 6 (nI L.length)) 7 v k
  by_cases h : k = 7
  · subst h; rw [pk_us, pk_us]
  · rw [pk_un h, pk_un h, pk_un h]
theorem pX_lay (b : Nat) : sI (sA (pX x L t) 3 L.length (nI b)) 6 (nI (L.length + 1)) = pX x (L ++ [b]) t := by
  have e1 : (sI (sA (pX x L t) 3 L.length (nI b)) 6 (nI (L.length + 1))).1 = (pX x (L ++ [b]) t).1 := by
    show upd (upd (upd x.1 6 (nI L.length)) 7 t) 6 (nI (L.length + 1)) = upd (upd x.1 6 (nI (L ++ [b]).length)) 7 t
    rw [List.length_append]
    refine funext fun k => ?_
    by_cases h : k = 6
    · subst h; rw [pk_us, pk_un (by decide), pk_us]; rfl
    · rw [pk_un h]
      by_cases h7 : k = 7
      · subst h7; rw [pk_us, pk_us]
      · rw [pk_un h7, pk_un h, pk_un h7, pk_un h]
  have e2 : (sI (sA (pX x L t) 3 L.length (nI b)) 6 (nI (L.length + 1))).2.2.1 = (pX x (L ++ [b]) t).2.2.1 := by
    refine funext fun a => ?_
    show updA (fun a => if a = 3 then (fun i => if i < L.length then nI (L.getD i 0) else x.2.2.1 3 i) else x.2.2.1 a) 3 L.length (nI b) a = (if a = 3 then (fun i => if i < (L ++ [b]).length then nI ((L ++ [b]).getD i 0) else x.2.2.1 3 i) else x.2.2.1 a)
    show (if a = 3 then upd (if a = 3 then (fun i => if i < L.length then nI (L.getD i 0) else x.2.2.1 3 i) else x.2.2.1 a) L.length (nI b) else (if a = 3 then (fun i => if i < L.length then nI (L.getD i 0) else x.2.2.1 3 i) else x.2.2.1 a)) = _
    by_cases h : a = 3
    · rw [if_pos h, if_pos h, if_pos h]
      refine funext fun i => ?_
      by_cases hi : i = L.length
      · rw [hi, pk_us, if_pos (by simp)]; simp
      · rw [pk_un hi]
        by_cases hl : i < L.length
        · rw [if_pos hl, if_pos (by simp; omega)]; simp [List.getD, List.getElem?_append_left hl]
        · rw [if_neg hl, if_neg (by simp; omega)]
    · rw [if_neg h, if_neg h, if_neg h]
  exact Prod.ext e1 (Prod.ext rfl (Prod.ext e2 rfl))
theorem pX_0 : sI (sI x 6 0) 7 0 = pX x [] 0 := by
  have e2 : (sI (sI x 6 0) 7 0).2.2.1 = (pX x [] 0).2.2.1 := by
    refine funext fun a => ?_
    show x.2.2.1 a = (if a = 3 then (fun i => if i < 0 then nI (([] : List Nat).getD i 0) else x.2.2.1 3 i) else x.2.2.1 a)
    by_cases h : a = 3
    · rw [if_pos h, h]; exact funext fun i => (if_neg (Nat.not_lt_zero i)).symm
    · rw [if_neg h]
  exact Prod.ext rfl (Prod.ext rfl (Prod.ext e2 rfl))
end PX
section ModM28
variable {G : aG} {σ0 : aS} {K : Option Value → aS → Prop} {m : Nat} {x : aX} {L : List Nat} {t : Int32}
set_option maxHeartbeats 1000000 in
set_option maxRecDepth 100000 in
theorem sp_M_lay {b : Nat} (hB : L.length < 16384) (hK : K none (mk σ0 m (pX x (L ++ [b]) t))) : a_C G m_M_lay 0 0 [.ref m, .int (nI b)] (mk σ0 m (pX x L t)) K := by
  refine a_enter rfl (Nat.le_of_ble_eq_true rfl) ?_
  refine a_aload_n d_M_lay_0 rfl rfl ?_
  refine m_get d_M_lay_1 f_M_16 rfl ?_
  refine a_aload_n d_M_lay_4 rfl rfl ?_
  refine m_get (v := .int (nI L.length)) d_M_lay_5 f_M_298 (congrArg (fun z => some (Value.int z)) (pX_6 (x := x) (L := L) (t := t))) ?_
  refine a_iload_n d_M_lay_8 rfl rfl ?_
  refine m_iast d_M_lay_9 (by decide) rfl (vp_in_nI (show L.length < 16384 by omega) (by decide)) ?_
  rw [nI_clamp (show L.length < 2 ^ 31 by omega)]
  refine a_aload_n d_M_lay_10 rfl rfl ?_
  refine a_dup d_M_lay_11 rfl ?_
  refine m_get (v := .int (nI L.length)) d_M_lay_12 f_M_298 (congrArg (fun z => some (Value.int z)) (pX_6 (x := x) (L := L) (t := t))) ?_
  refine a_iconst (v := 1) d_M_lay_15 (by decide) ?_
  refine a_iadd d_M_lay_16 ?_
  rw [nI_1]
  refine m_putI d_M_lay_17 p_M_298 rfl rfl (by decide) ?_
  rw [pX_lay]
  exact a_return d_M_lay_20 rfl hK

set_option maxHeartbeats 1000000 in
set_option maxRecDepth 100000 in
theorem bl_s (hB : L.length < 16384) (hK : K none (mk σ0 m (pX x (L ++ [32]) 2))) : a_C G m_M_blank 1 21 [.ref m, .int 0] (mk σ0 m (pX x L 2)) K := by
  refine a_enter rfl (Nat.le_of_ble_eq_true rfl) ?_
  refine a_aload_n d_M_blank_0 rfl rfl ?_
  refine m_get d_M_blank_1 f_M_301 rfl ?_
  rw [pX_t]
  refine a_iconst (v := 2) d_M_blank_4 (by decide) ?_
  refine a_icmp_ne (tgt := 18) d_M_blank_5 (by decide) (fun n9 => absurd (rfl) n9) (fun c_1 => ?_)
  refine a_iload_n d_M_blank_8 rfl rfl ?_
  refine a_if_ne (tgt := 18) d_M_blank_9 (by decide) (fun n9 => absurd (rfl) n9) (fun c_2 => ?_)
  refine a_aload_n d_M_blank_12 rfl rfl ?_
  refine a_bipush (v := 32) d_M_blank_13 (by decide) ?_
  apply a_callV (ci := 7) 0 0 [_] _ d_M_blank_15 l_M_304 ⟨im_M_lay, se_M_lay⟩ rfl rfl rfl rfl (Nat.le_of_ble_eq_true rfl) ⟨Nat.le_of_ble_eq_true rfl, Nat.le_of_ble_eq_true rfl⟩
  · (exact mk_O)
  refine sp_M_lay (b := 32) hB ?_
  refine a_aload_n d_M_blank_18 rfl rfl ?_
  refine a_iconst (v := 2) d_M_blank_19 (by decide) ?_
  refine m_putI d_M_blank_20 p_M_301 rfl rfl (by decide) ?_
  rw [pX_7]
  exact a_return d_M_blank_23 rfl hK

set_option maxHeartbeats 1000000 in
set_option maxRecDepth 100000 in
theorem bl_n (hK : K none (mk σ0 m (pX x L 2))) : a_C G m_M_blank 1 21 [.ref m, .int 0] (mk σ0 m (pX x L 0)) K := by
  refine a_enter rfl (Nat.le_of_ble_eq_true rfl) ?_
  refine a_aload_n d_M_blank_0 rfl rfl ?_
  refine m_get d_M_blank_1 f_M_301 rfl ?_
  rw [pX_t]
  refine a_iconst (v := 2) d_M_blank_4 (by decide) ?_
  refine a_icmp_ne (tgt := 18) d_M_blank_5 (by decide) (fun c_1 => ?_) (fun n9 => absurd n9 (by decide))
  refine a_aload_n d_M_blank_18 rfl rfl ?_
  refine a_iconst (v := 2) d_M_blank_19 (by decide) ?_
  refine m_putI d_M_blank_20 p_M_301 rfl rfl (by decide) ?_
  rw [pX_7]
  exact a_return d_M_blank_23 rfl hK

set_option maxHeartbeats 1000000 in
set_option maxRecDepth 100000 in
theorem bl_c (hK : K none (mk σ0 m (pX x L 2))) : a_C G m_M_blank 1 21 [.ref m, .int 1] (mk σ0 m (pX x L 2)) K := by
  refine a_enter rfl (Nat.le_of_ble_eq_true rfl) ?_
  refine a_aload_n d_M_blank_0 rfl rfl ?_
  refine m_get d_M_blank_1 f_M_301 rfl ?_
  rw [pX_t]
  refine a_iconst (v := 2) d_M_blank_4 (by decide) ?_
  refine a_icmp_ne (tgt := 18) d_M_blank_5 (by decide) (fun n9 => absurd (rfl) n9) (fun c_1 => ?_)
  refine a_iload_n d_M_blank_8 rfl rfl ?_
  refine a_if_ne (tgt := 18) d_M_blank_9 (by decide) (fun c_2 => ?_) (fun n9 => absurd n9 (by decide))
  refine a_aload_n d_M_blank_18 rfl rfl ?_
  refine a_iconst (v := 2) d_M_blank_19 (by decide) ?_
  refine m_putI d_M_blank_20 p_M_301 rfl rfl (by decide) ?_
  rw [pX_7]
  exact a_return d_M_blank_23 rfl hK

set_option maxHeartbeats 1000000 in
set_option maxRecDepth 100000 in
theorem oP_s (hB : (L ++ [32] ++ [40]).length ≤ 16384) (hK : K none (mk σ0 m (pX x (L ++ [32] ++ [40]) 0))) : a_C G m_M_open 2 42 [.ref m] (mk σ0 m (pX x L 2)) K := by
  refine a_enter rfl (Nat.le_of_ble_eq_true rfl) ?_
  refine a_aload_n d_M_open_0 rfl rfl ?_
  refine a_iconst (v := 0) d_M_open_1 (by decide) ?_
  apply a_callV (ci := 7) 1 21 [_] _ d_M_open_2 l_M_307 ⟨im_M_blank, se_M_blank⟩ rfl rfl rfl rfl (Nat.le_of_ble_eq_true rfl) ⟨Nat.le_of_ble_eq_true rfl, Nat.le_of_ble_eq_true rfl⟩
  · (exact mk_O)
  refine bl_s (by simp only [List.length_append, List.length_cons, List.length_nil] at hB ⊢; omega) ?_
  refine a_aload_n d_M_open_5 rfl rfl ?_
  refine a_bipush (v := 40) d_M_open_6 (by decide) ?_
  apply a_callV (ci := 7) 0 0 [_] _ d_M_open_8 l_M_304 ⟨im_M_lay, se_M_lay⟩ rfl rfl rfl rfl (Nat.le_of_ble_eq_true rfl) ⟨Nat.le_of_ble_eq_true rfl, Nat.le_of_ble_eq_true rfl⟩
  · (exact mk_O)
  refine sp_M_lay (b := 40) (by simp only [List.length_append, List.length_cons, List.length_nil] at hB ⊢; omega) ?_
  refine a_aload_n d_M_open_11 rfl rfl ?_
  refine a_iconst (v := 0) d_M_open_12 (by decide) ?_
  refine m_putI d_M_open_13 p_M_301 rfl rfl (by decide) ?_
  rw [pX_7]
  exact a_return d_M_open_16 rfl hK

set_option maxHeartbeats 1000000 in
set_option maxRecDepth 100000 in
theorem oP_n (hB : (L ++ [40]).length ≤ 16384) (hK : K none (mk σ0 m (pX x (L ++ [40]) 0))) : a_C G m_M_open 2 42 [.ref m] (mk σ0 m (pX x L 0)) K := by
  refine a_enter rfl (Nat.le_of_ble_eq_true rfl) ?_
  refine a_aload_n d_M_open_0 rfl rfl ?_
  refine a_iconst (v := 0) d_M_open_1 (by decide) ?_
  apply a_callV (ci := 7) 1 21 [_] _ d_M_open_2 l_M_307 ⟨im_M_blank, se_M_blank⟩ rfl rfl rfl rfl (Nat.le_of_ble_eq_true rfl) ⟨Nat.le_of_ble_eq_true rfl, Nat.le_of_ble_eq_true rfl⟩
  · (exact mk_O)
  refine bl_n ?_
  refine a_aload_n d_M_open_5 rfl rfl ?_
  refine a_bipush (v := 40) d_M_open_6 (by decide) ?_
  apply a_callV (ci := 7) 0 0 [_] _ d_M_open_8 l_M_304 ⟨im_M_lay, se_M_lay⟩ rfl rfl rfl rfl (Nat.le_of_ble_eq_true rfl) ⟨Nat.le_of_ble_eq_true rfl, Nat.le_of_ble_eq_true rfl⟩
  · (exact mk_O)
  refine sp_M_lay (b := 40) (by simp only [List.length_append, List.length_cons, List.length_nil] at hB ⊢; omega) ?_
  refine a_aload_n d_M_open_11 rfl rfl ?_
  refine a_iconst (v := 0) d_M_open_12 (by decide) ?_
  refine m_putI d_M_open_13 p_M_301 rfl rfl (by decide) ?_
  rw [pX_7]
  exact a_return d_M_open_16 rfl hK

set_option maxHeartbeats 1000000 in
set_option maxRecDepth 100000 in
theorem cl_o (hB : (L ++ [41]).length ≤ 16384) (hK : K none (mk σ0 m (pX x (L ++ [41]) 2))) : a_C G m_M_close 2 42 [.ref m] (mk σ0 m (pX x L 2)) K := by
  refine a_enter rfl (Nat.le_of_ble_eq_true rfl) ?_
  refine a_aload_n d_M_close_0 rfl rfl ?_
  refine a_iconst (v := 1) d_M_close_1 (by decide) ?_
  apply a_callV (ci := 7) 1 21 [_] _ d_M_close_2 l_M_307 ⟨im_M_blank, se_M_blank⟩ rfl rfl rfl rfl (Nat.le_of_ble_eq_true rfl) ⟨Nat.le_of_ble_eq_true rfl, Nat.le_of_ble_eq_true rfl⟩
  · (exact mk_O)
  refine bl_c ?_
  refine a_aload_n d_M_close_5 rfl rfl ?_
  refine a_bipush (v := 41) d_M_close_6 (by decide) ?_
  apply a_callV (ci := 7) 0 0 [_] _ d_M_close_8 l_M_304 ⟨im_M_lay, se_M_lay⟩ rfl rfl rfl rfl (Nat.le_of_ble_eq_true rfl) ⟨Nat.le_of_ble_eq_true rfl, Nat.le_of_ble_eq_true rfl⟩
  · (exact mk_O)
  refine sp_M_lay (b := 41) (by simp only [List.length_append, List.length_cons, List.length_nil] at hB ⊢; omega) ?_
  exact a_return d_M_close_11 rfl hK

set_option maxHeartbeats 1000000 in
set_option maxRecDepth 100000 in
theorem ln_o (hB : (L ++ [10]).length ≤ 16384) (hK : K none (mk σ0 m (pX x (L ++ [10]) 0))) : a_C G m_M_lineOut 1 21 [.ref m] (mk σ0 m (pX x L t)) K := by
  refine a_enter rfl (Nat.le_of_ble_eq_true rfl) ?_
  refine a_aload_n d_M_lineOut_0 rfl rfl ?_
  refine a_bipush (v := 10) d_M_lineOut_1 (by decide) ?_
  apply a_callV (ci := 7) 0 0 [_] _ d_M_lineOut_3 l_M_304 ⟨im_M_lay, se_M_lay⟩ rfl rfl rfl rfl (Nat.le_of_ble_eq_true rfl) ⟨Nat.le_of_ble_eq_true rfl, Nat.le_of_ble_eq_true rfl⟩
  · (exact mk_O)
  refine sp_M_lay (b := 10) (by simp only [List.length_append, List.length_cons, List.length_nil] at hB ⊢; omega) ?_
  refine a_aload_n d_M_lineOut_6 rfl rfl ?_
  refine a_iconst (v := 0) d_M_lineOut_7 (by decide) ?_
  refine m_putI d_M_lineOut_8 p_M_301 rfl rfl (by decide) ?_
  rw [pX_7]
  exact a_return d_M_lineOut_11 rfl hK

set_option maxHeartbeats 1000000 in
set_option maxRecDepth 100000 in
theorem lp_M_wdo {j : Nat} (hj : j < nJ) : ∀ (k i : Nat) (L : List Nat), i + k = (jS j).length → (L ++ (jS j).drop i).length ≤ 16384 → K none (mk σ0 m (pX x (L ++ (jS j).drop i) 2)) → a_J G m_M_word 4 85 7 [(0, .ref m), (1, .ref (G.2.2.2.2.1 j)), (2, .int (nI i))] [] (mk σ0 m (pX x L 2)) K := by
  have hjl := jS_len hj
  intro k
  induction k with
  | zero =>
    intro i L hk hB hK
    refine a_iload_n d_M_word_7 rfl rfl ?_
    refine a_aload_n d_M_word_8 rfl rfl ?_
    refine a_callVS 1 20 [] _ d_M_word_9 l_M_187 ⟨im_S_length, se_S_length⟩ rfl rfl rfl (Nat.le_of_ble_eq_true rfl) ⟨Nat.le_of_ble_eq_true rfl, Nat.le_of_ble_eq_true rfl⟩ hj ?_
    refine sp_S_length hj ?_
    refine a_icmp_ge (tgt := 30) d_M_word_12 (by decide) (fun c_1 => ?_) (fun n9 => absurd (nI_le (by omega) (by omega)) n9)
    rw [List.drop_eq_nil_of_le (by omega), List.append_nil] at hK
    exact a_return d_M_word_30 rfl hK
  | succ k ih =>
    intro i L hk hB hK
    have hi : i < (jS j).length := by omega
    have hgi : (jS j).getD i 0 = (jS j)[i] := by simp [hi]
    refine a_iload_n d_M_word_7 rfl rfl ?_
    refine a_aload_n d_M_word_8 rfl rfl ?_
    refine a_callVS 1 20 [] _ d_M_word_9 l_M_187 ⟨im_S_length, se_S_length⟩ rfl rfl rfl (Nat.le_of_ble_eq_true rfl) ⟨Nat.le_of_ble_eq_true rfl, Nat.le_of_ble_eq_true rfl⟩ hj ?_
    refine sp_S_length hj ?_
    refine a_icmp_ge (tgt := 30) d_M_word_12 (by decide) (fun n9 => absurd n9 (nI_ge (by omega) (by omega))) (fun c_1 => ?_)
    refine a_aload_n d_M_word_15 rfl rfl ?_
    refine a_aload_n d_M_word_16 rfl rfl ?_
    refine a_iload_n d_M_word_17 rfl rfl ?_
    refine a_callVS 3 64 [_] _ d_M_word_18 l_M_193 ⟨im_S_charAt, se_S_charAt⟩ rfl rfl rfl (Nat.le_of_ble_eq_true rfl) ⟨Nat.le_of_ble_eq_true rfl, Nat.le_of_ble_eq_true rfl⟩ hj ?_
    refine sp_S_charAt hj (by omega) ?_
    apply a_callV (ci := 7) 0 0 [_] _ d_M_word_21 l_M_304 ⟨im_M_lay, se_M_lay⟩ rfl rfl rfl rfl (Nat.le_of_ble_eq_true rfl) ⟨Nat.le_of_ble_eq_true rfl, Nat.le_of_ble_eq_true rfl⟩
    · (exact mk_O)
    refine sp_M_lay (b := (jS j).getD i 0) (by rw [List.drop_eq_getElem_cons hi, List.length_append, List.length_cons] at hB; omega) ?_
    refine a_iinc (c0 := 1) d_M_word_24 rfl (by decide) (by decide) ?_
    refine a_goto (tgt := 7) d_M_word_27 (by decide) ?_
    rw [nI_1]
    refine a_lvk (ih (i + 1) _ (by omega) ?_ ?_) ⟨rfl, rfl, rfl, trivial⟩
    · rw [List.drop_eq_getElem_cons hi, List.append_cons, ← hgi] at hB; exact hB
    · rw [List.drop_eq_getElem_cons hi, List.append_cons, ← hgi] at hK; exact hK

set_option maxHeartbeats 1000000 in
set_option maxRecDepth 100000 in
theorem wD_s {j : Nat} (hj : j < nJ) (hB : (L ++ [32] ++ jS j).length ≤ 16384) (hK : K none (mk σ0 m (pX x (L ++ [32] ++ jS j) 2))) : a_C G m_M_word 4 85 [.ref m, .ref (G.2.2.2.2.1 j)] (mk σ0 m (pX x L 2)) K := by
  refine a_enter rfl (Nat.le_of_ble_eq_true rfl) ?_
  refine a_aload_n d_M_word_0 rfl rfl ?_
  refine a_iconst (v := 0) d_M_word_1 (by decide) ?_
  apply a_callV (ci := 7) 1 21 [_] _ d_M_word_2 l_M_307 ⟨im_M_blank, se_M_blank⟩ rfl rfl rfl rfl (Nat.le_of_ble_eq_true rfl) ⟨Nat.le_of_ble_eq_true rfl, Nat.le_of_ble_eq_true rfl⟩
  · (exact mk_O)
  refine bl_s (by simp only [List.length_append, List.length_cons, List.length_nil] at hB; omega) ?_
  refine a_iconst (v := 0) d_M_word_5 (by decide) ?_
  refine a_istore_n d_M_word_6 rfl (by decide) ?_
  exact a_lvk (lp_M_wdo hj (jS j).length 0 _ (by omega) hB hK) ⟨rfl, rfl, rfl, trivial⟩

set_option maxHeartbeats 1000000 in
set_option maxRecDepth 100000 in
theorem wD_n {j : Nat} (hj : j < nJ) (hB : (L ++ jS j).length ≤ 16384) (hK : K none (mk σ0 m (pX x (L ++ jS j) 2))) : a_C G m_M_word 4 85 [.ref m, .ref (G.2.2.2.2.1 j)] (mk σ0 m (pX x L 0)) K := by
  refine a_enter rfl (Nat.le_of_ble_eq_true rfl) ?_
  refine a_aload_n d_M_word_0 rfl rfl ?_
  refine a_iconst (v := 0) d_M_word_1 (by decide) ?_
  apply a_callV (ci := 7) 1 21 [_] _ d_M_word_2 l_M_307 ⟨im_M_blank, se_M_blank⟩ rfl rfl rfl rfl (Nat.le_of_ble_eq_true rfl) ⟨Nat.le_of_ble_eq_true rfl, Nat.le_of_ble_eq_true rfl⟩
  · (exact mk_O)
  refine bl_n ?_
  refine a_iconst (v := 0) d_M_word_5 (by decide) ?_
  refine a_istore_n d_M_word_6 rfl (by decide) ?_
  exact a_lvk (lp_M_wdo hj (jS j).length 0 _ (by omega) hB hK) ⟨rfl, rfl, rfl, trivial⟩

def u27 : Nat → Int64
  | 0 => 0
  | m + 1 => lN (27 ^ m)
theorem w27_1 : ∀ m, m < 12 → ¬ lN (27 ^ m) ≤ 0 := by decide +kernel
theorem w27_2 : ∀ m, m < 12 → ¬ lN (27 ^ m) = 0 := by decide +kernel
theorem w27_3 : ∀ m, m < 12 → lN (27 ^ m) / 27 = u27 m := by decide +kernel
theorem w27_5 : ∀ m, m < 12 → lN (27 ^ m) * 27 = lN (27 ^ (m + 1)) := by decide +kernel
def mL (N : Nat) : Nat → List Nat
  | 0 => []
  | m + 1 => (96 + N / 27 ^ m % 27) :: mL N m
theorem mL_s (N : Nat) : ∀ m, mL N (m + 1) = mL (N / 27) m ++ [96 + N % 27]
  | 0 => by simp [mL]
  | m + 1 => by
    rw [mL, mL_s N m, mL, Nat.pow_succ, Nat.mul_comm, ← Nat.div_div_eq_div_mul, List.cons_append]
theorem mL_nB : ∀ (l : List Nat), gdL l → mL (nB 27 0 l.reverse) l.length = l.reverse
  | [], _ => rfl
  | y :: l, hg => by
    have hx := hg y (List.mem_cons_self ..)
    rw [List.reverse_cons, nB_snoc, List.length_cons, mL_s]
    have e1 : (nB 27 0 l.reverse * 27 + (y - 96)) % 27 = y - 96 := by omega
    have e2 : (nB 27 0 l.reverse * 27 + (y - 96)) / 27 = nB 27 0 l.reverse := by omega
    rw [e1, e2, mL_nB l (fun z hz => hg z (List.mem_cons_of_mem _ hz)), show 96 + (y - 96) = y by omega]
theorem mL_nm {l : List Nat} (h : nmG l) : mL (nB 27 0 l) l.length = l := by
  have := mL_nB l.reverse (fun y hy => h.1 y (List.mem_reverse.mp hy))
  rw [List.reverse_reverse, List.length_reverse] at this; exact this
theorem ch27 {N m : Nat} (hN : N < 2 ^ 63) (hm : m < 12) : ((96 : Int64) + (lN N / lN (27 ^ m) - lN N / lN (27 ^ m) / 27 * 27)).toInt32 = nI (96 + N / 27 ^ m % 27) := by
  have h1 : 27 ^ m ≤ 27 ^ 12 := Nat.pow_le_pow_right (by omega) (by omega)
  have h2 : (27 : Nat) ^ 12 < 2 ^ 63 := by decide
  have h3 : N / 27 ^ m ≤ N := Nat.div_le_self _ _
  rw [pk_lDiv hN (Nat.pow_pos (by omega)) (by omega), show (27 : Int64) = lN 27 from rfl, pk_lRem (by omega) (by omega) (by omega), show (96 : Int64) = lN 96 from rfl, lN_add, lN_i]
set_option maxHeartbeats 1000000 in
set_option maxRecDepth 100000 in
theorem lp_M_nm1 {v : Int64} {n : Nat} (hn : n ≤ 12) (h1 : 1 ≤ n) {y : aX} (hK : a_J G m_M_nameOut 2 42 31 [(0, .ref m), (1, .long v), (4, .long (lN (27 ^ (n - 1))))] [] (mk σ0 m y) K) : ∀ (k i : Nat), i + k + 1 = n → a_J G m_M_nameOut 2 42 11 [(0, .ref m), (1, .long v), (3, .int (nI n)), (4, .long (lN (27 ^ i))), (6, .int (nI (i + 1)))] [] (mk σ0 m y) K := by
  intro k
  induction k with
  | zero =>
    intro i hk
    refine a_iload d_M_nameOut_11 rfl ?_
    refine a_iload_n d_M_nameOut_13 rfl rfl ?_
    refine a_icmp_ge (tgt := 31) d_M_nameOut_14 (by decide) (fun c_1 => ?_) (fun n9 => absurd (nI_le (by omega) (by omega)) n9)
    rw [show i = n - 1 by omega]
    exact a_lvk hK ⟨rfl, rfl, rfl, trivial⟩
  | succ k ih =>
    intro i hk
    refine a_iload d_M_nameOut_11 rfl ?_
    refine a_iload_n d_M_nameOut_13 rfl rfl ?_
    refine a_icmp_ge (tgt := 31) d_M_nameOut_14 (by decide) (fun n9 => absurd n9 (nI_ge (by omega) (by omega))) (fun c_1 => ?_)
    refine a_lload d_M_nameOut_17 rfl ?_
    refine a_ldc2 d_M_nameOut_19 k_M_170 ?_
    refine a_lmul d_M_nameOut_22 ?_
    rw [w27_5 i (by omega)]
    refine a_lstore d_M_nameOut_23 (by decide) ?_
    refine a_iinc (c0 := 1) d_M_nameOut_25 rfl (by decide) (by decide) ?_
    refine a_goto (tgt := 11) d_M_nameOut_28 (by decide) ?_
    rw [nI_1]
    exact a_lvk (ih (i + 1) (by omega)) ⟨rfl, rfl, rfl, rfl, rfl, trivial⟩

set_option maxHeartbeats 1000000 in
set_option maxRecDepth 100000 in
theorem lp_M_nm2 {N : Nat} (hN : N < 2 ^ 63) : ∀ (j : Nat) (L : List Nat), j ≤ 12 → (L ++ mL N j).length ≤ 16384 → K none (mk σ0 m (pX x (L ++ mL N j) 2)) → a_J G m_M_nameOut 2 42 35 [(0, .ref m), (1, .long (lN N)), (6, .long (u27 j))] [] (mk σ0 m (pX x L 2)) K := by
  intro j
  induction j with
  | zero =>
    intro L hj hB hK
    show a_J G m_M_nameOut 2 42 35 [(0, .ref m), (1, .long (lN N)), (6, .long 0)] [] (mk σ0 m (pX x L 2)) K
    refine a_lload d_M_nameOut_35 rfl ?_
    refine a_lconst (v := 0) d_M_nameOut_37 (by decide) ?_
    refine a_lcmp d_M_nameOut_38 ?_
    refine a_if_le (tgt := 70) d_M_nameOut_39 (by decide) (fun c_1 => ?_) (fun n9 => absurd ((lg_cmp_le _ _).mpr (show (0 : Int64) ≤ 0 by decide)) n9)
    rw [mL, List.append_nil] at hK
    exact a_return d_M_nameOut_70 rfl hK
  | succ j ih =>
    intro L hj hB hK
    show a_J G m_M_nameOut 2 42 35 [(0, .ref m), (1, .long (lN N)), (6, .long (lN (27 ^ j)))] [] (mk σ0 m (pX x L 2)) K
    refine a_lload d_M_nameOut_35 rfl ?_
    refine a_lconst (v := 0) d_M_nameOut_37 (by decide) ?_
    refine a_lcmp d_M_nameOut_38 ?_
    refine a_if_le (tgt := 70) d_M_nameOut_39 (by decide) (fun n9 => absurd n9 (fun h => absurd ((lg_cmp_le _ _).mp h) (w27_1 j (by omega)))) (fun c_1 => ?_)
    refine a_aload_n d_M_nameOut_42 rfl rfl ?_
    refine a_ldc2 d_M_nameOut_43 k_M_172 ?_
    refine a_lload_n d_M_nameOut_46 rfl rfl ?_
    refine a_lload d_M_nameOut_47 rfl ?_
    refine a_ldiv d_M_nameOut_49 (w27_2 j (by omega)) ?_
    refine a_ldc2 d_M_nameOut_50 k_M_170 ?_
    refine a_lrem d_M_nameOut_53 (by decide) ?_
    refine a_ladd d_M_nameOut_54 ?_
    refine a_l2i d_M_nameOut_55 ?_
    rw [ch27 hN (by omega)]
    apply a_callV (ci := 7) 0 0 [_] _ d_M_nameOut_56 l_M_304 ⟨im_M_lay, se_M_lay⟩ rfl rfl rfl rfl (Nat.le_of_ble_eq_true rfl) ⟨Nat.le_of_ble_eq_true rfl, Nat.le_of_ble_eq_true rfl⟩
    · (exact mk_O)
    refine sp_M_lay (b := 96 + N / 27 ^ j % 27) (by rw [mL, List.length_append, List.length_cons] at hB; omega) ?_
    refine a_lload d_M_nameOut_59 rfl ?_
    refine a_ldc2 d_M_nameOut_61 k_M_170 ?_
    refine a_ldiv d_M_nameOut_64 (by decide) ?_
    rw [w27_3 j (by omega)]
    refine a_lstore d_M_nameOut_65 (by decide) ?_
    refine a_goto (tgt := 35) d_M_nameOut_67 (by decide) ?_
    refine a_lvk (ih _ (by omega) ?_ ?_) ⟨rfl, rfl, rfl, trivial⟩
    · rw [mL, List.append_cons] at hB; exact hB
    · rw [mL, List.append_cons] at hK; exact hK

set_option maxHeartbeats 1000000 in
set_option maxRecDepth 100000 in
theorem nm_31 {l : List Nat} (hg : nmG l) (h1 : 1 ≤ l.length) (hB : (L ++ l).length ≤ 16384) (hK : K none (mk σ0 m (pX x (L ++ l) 2))) : a_J G m_M_nameOut 2 42 31 [(0, .ref m), (1, .long (e27 l)), (4, .long (lN (27 ^ (l.length - 1))))] [] (mk σ0 m (pX x L 2)) K := by
  unfold e27
  refine a_lload d_M_nameOut_31 rfl ?_
  refine a_lstore d_M_nameOut_33 (by decide) ?_
  refine a_lvk (lp_M_nm2 (nB27_lt hg) l.length _ hg.2 (by rw [mL_nm hg]; exact hB) (by rw [mL_nm hg]; exact hK)) ⟨rfl, rfl, ?_, trivial⟩
  rw [show u27 l.length = lN (27 ^ (l.length - 1)) from by rw [show l.length = l.length - 1 + 1 by omega]; rfl]
  rfl

set_option maxHeartbeats 1000000 in
set_option maxRecDepth 100000 in
theorem sp_M_nameOut {l : List Nat} (hg : nmG l) (h1 : 1 ≤ l.length) (hB : (L ++ [32] ++ l).length ≤ 16384) (hK : K none (mk σ0 m (pX x (L ++ [32] ++ l) 2))) : a_C G m_M_nameOut 2 42 [.ref m, .long (e27 l), .int (nI l.length)] (mk σ0 m (pX x L 2)) K := by
  refine a_enter rfl (Nat.le_of_ble_eq_true rfl) ?_
  refine a_aload_n d_M_nameOut_0 rfl rfl ?_
  refine a_iconst (v := 0) d_M_nameOut_1 (by decide) ?_
  apply a_callV (ci := 7) 1 21 [_] _ d_M_nameOut_2 l_M_307 ⟨im_M_blank, se_M_blank⟩ rfl rfl rfl rfl (Nat.le_of_ble_eq_true rfl) ⟨Nat.le_of_ble_eq_true rfl, Nat.le_of_ble_eq_true rfl⟩
  · (exact mk_O)
  refine bl_s (by simp only [List.length_append, List.length_cons, List.length_nil] at hB; omega) ?_
  refine a_lconst (v := 1) d_M_nameOut_5 (by decide) ?_
  refine a_lstore d_M_nameOut_6 (by decide) ?_
  refine a_iconst (v := 1) d_M_nameOut_8 (by decide) ?_
  refine a_istore d_M_nameOut_9 (by decide) ?_
  exact a_lvk (lp_M_nm1 hg.2 h1 (nm_31 hg h1 hB hK) (l.length - 1) 0 (by omega)) ⟨rfl, rfl, rfl, rfl, rfl, trivial⟩

theorem wn5b : ∀ e, e < 10 → lN (10 ^ e) * 10 = lN (10 ^ (e + 1)) := by decide +kernel
theorem p10 : ∀ e, e < 10 → 0 < 10 ^ e ∧ 10 ^ e < 2 ^ 62 := by decide +kernel
theorem ue_le {r e : Nat} (hr : r ≤ 2 ^ 31) (he : e < 10) : lN r / lN (10 ^ e) ≤ 9 ↔ r < 10 ^ (e + 1) := by
  have h := p10 e he
  have : r / 10 ^ e ≤ r := Nat.div_le_self _ _
  rw [pk_lDiv (by omega) h.1 (by omega), show (9 : Int64) = lN 9 from rfl, pk_lLE (by omega) (by omega), Nat.pow_succ]
  constructor
  · intro h2
    have z := (Nat.div_lt_iff_lt_mul (k := 10 ^ e) (x := r) (y := 10) h.1).mp (by omega)
    rw [Nat.mul_comm]; exact z
  · intro h2
    have := (Nat.div_lt_iff_lt_mul (k := 10 ^ e) (x := r) (y := 10) h.1).mpr (by rw [Nat.mul_comm]; exact h2)
    omega
theorem ue_lt {r e : Nat} (hr : r ≤ 2 ^ 31) (he : e < 9) : lN r < lN (10 ^ (e + 1)) ↔ r < 10 ^ (e + 1) := pk_lLT (by omega) (by have := (p10 (e + 1) (by omega)).2; omega)
theorem ch10 {r m : Nat} (hr : r ≤ 2 ^ 31) (hm : m < 10) : ((48 : Int64) + (lN r / lN (10 ^ m) - lN r / lN (10 ^ m) / 10 * 10)).toInt32 = nI (dgC (lN r) m) := by
  have h := p10 m hm
  have h3 : r / 10 ^ m ≤ r := Nat.div_le_self _ _
  have h4 : r / 10 ^ m % 10 < 10 := Nat.mod_lt _ (by omega)
  unfold dgC
  rw [pk_lDiv (by omega) h.1 (by omega), show (10 : Int64) = lN 10 from rfl, pk_lRem (by omega) (by omega) (by omega), show (48 : Int64) = lN 48 from rfl, lN_add, lN_i, lN_i, show (48 : Int32) = nI 48 from rfl, nI_add, pk_tn (by omega)]
  congr 1; omega
set_option maxHeartbeats 1000000 in
set_option maxRecDepth 100000 in
theorem lp_M_nu1 {r : Nat} (hr : r ≤ 2 ^ 31) {y : aX} : ∀ (k e : Nat), e + k = 9 → a_J G m_M_numberOut 2 42 55 [(0, .ref m), (3, .long (lN r)), (5, .long (lN (10 ^ ueF (lN r) k e)))] [] (mk σ0 m y) K → a_J G m_M_numberOut 2 42 33 [(0, .ref m), (3, .long (lN r)), (5, .long (lN (10 ^ e)))] [] (mk σ0 m y) K := by
  intro k
  induction k with
  | zero =>
    intro e he hK
    refine a_lload_n d_M_numberOut_33 rfl rfl ?_
    refine a_lload d_M_numberOut_34 rfl ?_
    refine a_ldiv d_M_numberOut_36 (wn3 e (by omega)) ?_
    refine a_ldc2 d_M_numberOut_37 k_M_311 ?_
    refine a_lcmp d_M_numberOut_40 ?_
    refine a_if_le (tgt := 55) d_M_numberOut_41 (by decide) (fun c_1 => ?_) (fun n9 => absurd ((lg_cmp_le _ _).mpr ((ue_le hr (by omega)).mpr (by rw [show e = 9 by omega]; omega))) n9)
    exact a_lvk hK ⟨rfl, rfl, rfl, trivial⟩
  | succ k ih =>
    intro e he hK
    refine a_lload_n d_M_numberOut_33 rfl rfl ?_
    refine a_lload d_M_numberOut_34 rfl ?_
    refine a_ldiv d_M_numberOut_36 (wn3 e (by omega)) ?_
    refine a_ldc2 d_M_numberOut_37 k_M_311 ?_
    refine a_lcmp d_M_numberOut_40 ?_
    refine a_if_le (tgt := 55) d_M_numberOut_41 (by decide) (fun c_1 => ?_) (fun c_1 => ?_)
    · rw [ueF, if_pos ((ue_lt hr (by omega)).mpr ((ue_le hr (by omega)).mp ((lg_cmp_le _ _).mp c_1)))] at hK
      exact a_lvk hK ⟨rfl, rfl, rfl, trivial⟩
    · refine a_lload d_M_numberOut_44 rfl ?_
      refine a_ldc2 d_M_numberOut_46 k_M_176 ?_
      refine a_lmul d_M_numberOut_49 ?_
      rw [wn5b e (by omega)]
      refine a_lstore d_M_numberOut_50 (by decide) ?_
      refine a_goto (tgt := 33) d_M_numberOut_52 (by decide) ?_
      rw [ueF, if_neg (fun z => c_1 ((lg_cmp_le _ _).mpr ((ue_le hr (by omega)).mpr ((ue_lt hr (by omega)).mp z))))] at hK
      exact a_lvk (ih (e + 1) (by omega) hK) ⟨rfl, rfl, rfl, trivial⟩

set_option maxHeartbeats 1000000 in
set_option maxRecDepth 100000 in
theorem lp_M_nu2 {r : Nat} (hr : r ≤ 2 ^ 31) : ∀ (j : Nat) (L : List Nat), j ≤ 10 → (L ++ dgL (lN r) j).length ≤ 16384 → K none (mk σ0 m (pX x (L ++ dgL (lN r) j) 2)) → a_J G m_M_numberOut 2 42 59 [(0, .ref m), (3, .long (lN r)), (7, .long (uF j))] [] (mk σ0 m (pX x L 2)) K := by
  intro j
  induction j with
  | zero =>
    intro L hj hB hK
    show a_J G m_M_numberOut 2 42 59 [(0, .ref m), (3, .long (lN r)), (7, .long 0)] [] (mk σ0 m (pX x L 2)) K
    refine a_lload d_M_numberOut_59 rfl ?_
    refine a_lconst (v := 0) d_M_numberOut_61 (by decide) ?_
    refine a_lcmp d_M_numberOut_62 ?_
    refine a_if_le (tgt := 94) d_M_numberOut_63 (by decide) (fun c_1 => ?_) (fun n9 => absurd ((lg_cmp_le _ _).mpr (show (0 : Int64) ≤ 0 by decide)) n9)
    rw [dgL, List.append_nil] at hK
    exact a_return d_M_numberOut_94 rfl hK
  | succ j ih =>
    intro L hj hB hK
    show a_J G m_M_numberOut 2 42 59 [(0, .ref m), (3, .long (lN r)), (7, .long (lN (10 ^ j)))] [] (mk σ0 m (pX x L 2)) K
    refine a_lload d_M_numberOut_59 rfl ?_
    refine a_lconst (v := 0) d_M_numberOut_61 (by decide) ?_
    refine a_lcmp d_M_numberOut_62 ?_
    refine a_if_le (tgt := 94) d_M_numberOut_63 (by decide) (fun n9 => absurd n9 (fun h => absurd ((lg_cmp_le _ _).mp h) (wn2 j (by omega)))) (fun c_1 => ?_)
    refine a_aload_n d_M_numberOut_66 rfl rfl ?_
    refine a_ldc2 d_M_numberOut_67 k_M_178 ?_
    refine a_lload_n d_M_numberOut_70 rfl rfl ?_
    refine a_lload d_M_numberOut_71 rfl ?_
    refine a_ldiv d_M_numberOut_73 (wn3 j (by omega)) ?_
    refine a_ldc2 d_M_numberOut_74 k_M_176 ?_
    refine a_lrem d_M_numberOut_77 (by decide) ?_
    refine a_ladd d_M_numberOut_78 ?_
    refine a_l2i d_M_numberOut_79 ?_
    rw [ch10 hr (by omega)]
    apply a_callV (ci := 7) 0 0 [_] _ d_M_numberOut_80 l_M_304 ⟨im_M_lay, se_M_lay⟩ rfl rfl rfl rfl (Nat.le_of_ble_eq_true rfl) ⟨Nat.le_of_ble_eq_true rfl, Nat.le_of_ble_eq_true rfl⟩
    · (exact mk_O)
    refine sp_M_lay (b := dgC (lN r) j) (by rw [dgL, List.length_append, List.length_cons] at hB; omega) ?_
    refine a_lload d_M_numberOut_83 rfl ?_
    refine a_ldc2 d_M_numberOut_85 k_M_176 ?_
    refine a_ldiv d_M_numberOut_88 (by decide) ?_
    rw [wn4 j (by omega)]
    refine a_lstore d_M_numberOut_89 (by decide) ?_
    refine a_goto (tgt := 59) d_M_numberOut_91 (by decide) ?_
    refine a_lvk (ih _ (by omega) ?_ ?_) ⟨rfl, rfl, rfl, trivial⟩
    · rw [dgL, List.append_cons] at hB; exact hB
    · rw [dgL, List.append_cons] at hK; exact hK

set_option maxHeartbeats 1000000 in
set_option maxRecDepth 100000 in
theorem nu_55 {r : Nat} (hr : r ≤ 2 ^ 31) (hB : (L ++ dgL (lN r) (ueF (lN r) 9 0 + 1)).length ≤ 16384) (hK : K none (mk σ0 m (pX x (L ++ dgL (lN r) (ueF (lN r) 9 0 + 1)) 2))) : a_J G m_M_numberOut 2 42 55 [(0, .ref m), (3, .long (lN r)), (5, .long (lN (10 ^ ueF (lN r) 9 0)))] [] (mk σ0 m (pX x L 2)) K := by
  refine a_lload d_M_numberOut_55 rfl ?_
  refine a_lstore d_M_numberOut_57 (by decide) ?_
  exact a_lvk (lp_M_nu2 hr (ueF (lN r) 9 0 + 1) _ (by have := ueF_le (lN r) 9 0; omega) hB hK) ⟨rfl, rfl, rfl, trivial⟩

set_option maxHeartbeats 1000000 in
set_option maxRecDepth 100000 in
theorem nu_P {r : Nat} (hr : r ≤ 2 ^ 31) (h0 : 0 ≤ lN r) (hB : (L ++ [32] ++ dgL (lN r) (ueF (lN r) 9 0 + 1)).length ≤ 16384) (hK : K none (mk σ0 m (pX x (L ++ [32] ++ dgL (lN r) (ueF (lN r) 9 0 + 1)) 2))) : a_C G m_M_numberOut 2 42 [.ref m, .long (lN r)] (mk σ0 m (pX x L 2)) K := by
  refine a_enter rfl (Nat.le_of_ble_eq_true rfl) ?_
  refine a_aload_n d_M_numberOut_0 rfl rfl ?_
  refine a_iconst (v := 0) d_M_numberOut_1 (by decide) ?_
  apply a_callV (ci := 7) 1 21 [_] _ d_M_numberOut_2 l_M_307 ⟨im_M_blank, se_M_blank⟩ rfl rfl rfl rfl (Nat.le_of_ble_eq_true rfl) ⟨Nat.le_of_ble_eq_true rfl, Nat.le_of_ble_eq_true rfl⟩
  · (exact mk_O)
  refine bl_s (by simp only [List.length_append, List.length_cons, List.length_nil] at hB; omega) ?_
  refine a_lload_n d_M_numberOut_5 rfl rfl ?_
  refine a_lconst (v := 0) d_M_numberOut_6 (by decide) ?_
  refine a_lcmp d_M_numberOut_7 ?_
  refine a_if_ge (tgt := 16) d_M_numberOut_8 (by decide) (fun c_1 => ?_) (fun n9 => absurd ((lg_cmp_ge _ _).mpr h0) n9)
  refine a_lload_n d_M_numberOut_16 rfl rfl ?_
  refine a_lstore_n d_M_numberOut_17 rfl (by decide) ?_
  refine a_lload_n d_M_numberOut_18 rfl rfl ?_
  refine a_lconst (v := 0) d_M_numberOut_19 (by decide) ?_
  refine a_lcmp d_M_numberOut_20 ?_
  refine a_if_ge (tgt := 30) d_M_numberOut_21 (by decide) (fun c_2 => ?_) (fun n9 => absurd ((lg_cmp_ge _ _).mpr h0) n9)
  refine a_lconst (v := 1) d_M_numberOut_30 (by decide) ?_
  refine a_lstore d_M_numberOut_31 (by decide) ?_
  exact a_lvk (lp_M_nu1 hr 9 0 (by omega) (nu_55 hr hB hK)) ⟨rfl, rfl, rfl, trivial⟩

set_option maxHeartbeats 1000000 in
set_option maxRecDepth 100000 in
theorem nu_N {v : Int64} {r : Nat} (hv : -v = lN r) (hr : r ≤ 2 ^ 31) (h0 : ¬ 0 ≤ v) (hB : (L ++ [32] ++ (45 :: dgL (lN r) (ueF (lN r) 9 0 + 1))).length ≤ 16384) (hK : K none (mk σ0 m (pX x (L ++ [32] ++ (45 :: dgL (lN r) (ueF (lN r) 9 0 + 1))) 2))) : a_C G m_M_numberOut 2 42 [.ref m, .long v] (mk σ0 m (pX x L 2)) K := by
  refine a_enter rfl (Nat.le_of_ble_eq_true rfl) ?_
  refine a_aload_n d_M_numberOut_0 rfl rfl ?_
  refine a_iconst (v := 0) d_M_numberOut_1 (by decide) ?_
  apply a_callV (ci := 7) 1 21 [_] _ d_M_numberOut_2 l_M_307 ⟨im_M_blank, se_M_blank⟩ rfl rfl rfl rfl (Nat.le_of_ble_eq_true rfl) ⟨Nat.le_of_ble_eq_true rfl, Nat.le_of_ble_eq_true rfl⟩
  · (exact mk_O)
  refine bl_s (by simp only [List.length_append, List.length_cons, List.length_nil] at hB; omega) ?_
  refine a_lload_n d_M_numberOut_5 rfl rfl ?_
  refine a_lconst (v := 0) d_M_numberOut_6 (by decide) ?_
  refine a_lcmp d_M_numberOut_7 ?_
  refine a_if_ge (tgt := 16) d_M_numberOut_8 (by decide) (fun n9 => absurd n9 (fun z => h0 ((lg_cmp_ge _ _).mp z))) (fun c_1 => ?_)
  refine a_lload_n d_M_numberOut_11 rfl rfl ?_
  refine a_lneg d_M_numberOut_12 ?_
  rw [hv]
  refine a_goto (tgt := 17) d_M_numberOut_13 (by decide) ?_
  refine a_lstore_n d_M_numberOut_17 rfl (by decide) ?_
  refine a_lload_n d_M_numberOut_18 rfl rfl ?_
  refine a_lconst (v := 0) d_M_numberOut_19 (by decide) ?_
  refine a_lcmp d_M_numberOut_20 ?_
  refine a_if_ge (tgt := 30) d_M_numberOut_21 (by decide) (fun n9 => absurd n9 (fun z => h0 ((lg_cmp_ge _ _).mp z))) (fun c_2 => ?_)
  refine a_aload_n d_M_numberOut_24 rfl rfl ?_
  refine a_bipush (v := 45) d_M_numberOut_25 (by decide) ?_
  apply a_callV (ci := 7) 0 0 [_] _ d_M_numberOut_27 l_M_304 ⟨im_M_lay, se_M_lay⟩ rfl rfl rfl rfl (Nat.le_of_ble_eq_true rfl) ⟨Nat.le_of_ble_eq_true rfl, Nat.le_of_ble_eq_true rfl⟩
  · (exact mk_O)
  refine sp_M_lay (b := 45) (by simp only [List.length_append, List.length_cons, List.length_nil] at hB ⊢; omega) ?_
  refine a_lconst (v := 1) d_M_numberOut_30 (by decide) ?_
  refine a_lstore d_M_numberOut_31 (by decide) ?_
  refine a_lvk (lp_M_nu1 hr 9 0 (by omega) (nu_55 hr ?_ ?_)) ⟨rfl, rfl, rfl, trivial⟩
  · rw [List.append_cons] at hB; exact hB
  · rw [List.append_cons] at hK; exact hK

theorem sp_M_numberOut {v : Int32} (hB : (L ++ [32] ++ numB v).length ≤ 16384) (hK : K none (mk σ0 m (pX x (L ++ [32] ++ numB v) 2))) : a_C G m_M_numberOut 2 42 [.ref m, .long v.toInt64] (mk σ0 m (pX x L 2)) K := by
  unfold numB at hB hK
  have hi := v.toInt_lt
  have hj := v.le_toInt
  by_cases h : 0 ≤ v.toInt64
  · rw [if_pos h] at hB hK
    obtain ⟨k, hk, e⟩ := pk_lOf (Int64.not_lt.mpr h)
    have : (v.toInt64).toInt = (k : Int) := by rw [e]; exact pk_lT hk
    rw [Int32.toInt_toInt64] at this
    rw [e] at h hB hK ⊢
    exact nu_P (by omega) h hB hK
  · rw [if_neg h] at hB hK
    have e0 : (-v.toInt64).toInt = -(v.toInt) := by
      rw [Int64.toInt_neg, Int32.toInt_toInt64]
      exact Int.bmod_eq_of_le (by omega) (by omega)
    have hn : v.toInt < 0 := by
      have := Int64.not_le.mp h
      have := Int64.lt_iff_toInt_lt.mp this
      rw [Int32.toInt_toInt64] at this; exact this
    obtain ⟨k, hk, e⟩ := pk_lOf (x := -v.toInt64) (fun z => by
      have := Int64.lt_iff_toInt_lt.mp z
      rw [e0] at this
      have h00 : (0 : Int64).toInt = 0 := by decide
      omega)
    have : (k : Int) = -v.toInt := by rw [← e0, e]; exact (pk_lT hk).symm
    rw [e] at hB hK
    exact nu_N e (by omega) h hB hK
end ModM28
