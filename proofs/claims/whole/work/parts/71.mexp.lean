/-! THE MODEL's expect, readCall, note, isOld -/
theorem mu_ok {x : aX} {b : Int32} (h : ¬ b = 0) : muX x b = x := by unfold muX; rw [if_neg h]
theorem mu_b {x : aX} {b : Int32} (h : ¬ x.1 24 = 0) : muX x b = x := by
  unfold muX
  by_cases e : b = 0
  · rw [if_pos e, if_neg h]
  · rw [if_neg e]
theorem mu_ne (x : aX) : ¬ (muX x 0).1 24 = 0 := by
  unfold muX
  rw [if_pos rfl]
  by_cases h : x.1 24 = 0
  · rw [if_pos h]
    show ¬ (if x.1 20 = 4 then (3 : Int32) else 2) = 0
    split <;> decide
  · rw [if_neg h]; exact h
def olF (g : Nat → Int64) (v : Int64) : Nat → Nat → Int32 → Int32
  | 0, _, o => o
  | k + 1, i, o => olF g v k (i + 1) (if o = 0 then (if g i = v then 1 else 0) else 1)
def ntX (x : aX) (l : Nat) (w o c : Int32) : aX := sI (sA (sA (sA (sA x 31 (4 * l) w) 31 (4 * l + 1) o) 31 (4 * l + 2) c) 31 (4 * l + 3) (x.1 21)) 52 (nI (l + 1))
section ModM7
variable {G : aG} {σ0 : aS} {K : Option Value → aS → Prop} {m n : Nat} {f : Nat → Nat} {x : aX}
theorem sp_M_mustT {b : Int32} (hb : ¬ b = 0) (h0 : x.1 24 = 0) (hK : K (some (.int 1)) (mk σ0 m x)) : a_C G m_M_must 1 22 [.ref m, .int b] (mk σ0 m x) K := by
  refine sp_M_must ?_
  rw [mu_ok hb, if_pos h0]; exact hK
theorem sp_M_mustF {b : Int32} (hb : b = 0) (hK : K (some (.int 0)) (mk σ0 m (muX x 0))) : a_C G m_M_must 1 22 [.ref m, .int b] (mk σ0 m x) K := by
  refine sp_M_must ?_
  rw [hb, if_neg (mu_ne x)]; exact hK
theorem sp_M_mustB {b : Int32} (h0 : ¬ x.1 24 = 0) (hK : K (some (.int 0)) (mk σ0 m x)) : a_C G m_M_must 1 22 [.ref m, .int b] (mk σ0 m x) K := by
  refine sp_M_must ?_
  rw [mu_b h0, if_neg h0]; exact hK
set_option maxHeartbeats 1000000 in
set_option maxRecDepth 100000 in
theorem sp_M_expectT {w : Int32} (hT : MX x n f) {a : Nat} (hA : x.1 19 = nI a) (ha : a ≤ n) (h0 : x.1 24 = 0) (ht : x.1 20 = w) (hK : ∀ y, NX n f a x y → K none (mk σ0 m y)) : a_C G m_M_expect 3 70 [.ref m, .int w] (mk σ0 m x) K := by
  refine a_enter rfl (Nat.le_of_ble_eq_true rfl) ?_
  refine a_aload_n d_M_expect_0 rfl rfl ?_
  refine a_aload_n d_M_expect_1 rfl rfl ?_
  refine m_get d_M_expect_2 f_M_149 rfl ?_
  refine a_iload_n d_M_expect_5 rfl rfl ?_
  refine a_icmp_ne (tgt := 13) d_M_expect_6 (by decide) (fun n9 => absurd (ht) n9) (fun c_1 => ?_)
  refine a_iconst (v := 1) d_M_expect_9 (by decide) ?_
  refine a_goto (tgt := 14) d_M_expect_10 (by decide) ?_
  apply a_callV (ci := 7) 1 22 [_] _ d_M_expect_14 l_M_229 ⟨im_M_must, se_M_must⟩ rfl rfl rfl rfl (Nat.le_of_ble_eq_true rfl) ⟨Nat.le_of_ble_eq_true rfl, Nat.le_of_ble_eq_true rfl⟩
  · (exact mk_O)
  refine sp_M_mustT (by decide) h0 ?_
  refine a_if_eq (tgt := 24) d_M_expect_17 (by decide) (fun n9 => absurd n9 (by decide)) (fun c_2 => ?_)
  refine a_aload_n d_M_expect_20 rfl rfl ?_
  apply a_callV (ci := 7) 2 48 [] _ d_M_expect_21 l_M_233 ⟨im_M_next, se_M_next⟩ rfl rfl rfl rfl (Nat.le_of_ble_eq_true rfl) ⟨Nat.le_of_ble_eq_true rfl, Nat.le_of_ble_eq_true rfl⟩
  · (exact mk_O)
  refine sp_M_next hT hA ha (fun y hy => ?_)
  exact a_return d_M_expect_24 rfl (hK y hy)

set_option maxHeartbeats 1000000 in
set_option maxRecDepth 100000 in
theorem sp_M_expectF {w : Int32} (ht : ¬ x.1 20 = w) (hK : K none (mk σ0 m (muX x 0))) : a_C G m_M_expect 3 70 [.ref m, .int w] (mk σ0 m x) K := by
  refine a_enter rfl (Nat.le_of_ble_eq_true rfl) ?_
  refine a_aload_n d_M_expect_0 rfl rfl ?_
  refine a_aload_n d_M_expect_1 rfl rfl ?_
  refine m_get d_M_expect_2 f_M_149 rfl ?_
  refine a_iload_n d_M_expect_5 rfl rfl ?_
  refine a_icmp_ne (tgt := 13) d_M_expect_6 (by decide) (fun c_1 => ?_) (fun n9 => absurd n9 (ht))
  refine a_iconst (v := 0) d_M_expect_13 (by decide) ?_
  apply a_callV (ci := 7) 1 22 [_] _ d_M_expect_14 l_M_229 ⟨im_M_must, se_M_must⟩ rfl rfl rfl rfl (Nat.le_of_ble_eq_true rfl) ⟨Nat.le_of_ble_eq_true rfl, Nat.le_of_ble_eq_true rfl⟩
  · (exact mk_O)
  refine sp_M_mustF rfl ?_
  refine a_if_eq (tgt := 24) d_M_expect_17 (by decide) (fun c_2 => ?_) (fun n9 => absurd (rfl) n9)
  exact a_return d_M_expect_24 rfl hK

set_option maxHeartbeats 1000000 in
set_option maxRecDepth 100000 in
theorem sp_M_expectB {w : Int32} (h0 : ¬ x.1 24 = 0) (hK : K none (mk σ0 m x)) : a_C G m_M_expect 3 70 [.ref m, .int w] (mk σ0 m x) K := by
  refine a_enter rfl (Nat.le_of_ble_eq_true rfl) ?_
  refine a_aload_n d_M_expect_0 rfl rfl ?_
  refine a_aload_n d_M_expect_1 rfl rfl ?_
  refine m_get d_M_expect_2 f_M_149 rfl ?_
  refine a_iload_n d_M_expect_5 rfl rfl ?_
  refine a_icmp_ne (tgt := 13) d_M_expect_6 (by decide) (fun c_1 => ?_) (fun c_1 => ?_)
  · refine a_iconst (v := 0) d_M_expect_13 (by decide) ?_
    apply a_callV (ci := 7) 1 22 [_] _ d_M_expect_14 l_M_229 ⟨im_M_must, se_M_must⟩ rfl rfl rfl rfl (Nat.le_of_ble_eq_true rfl) ⟨Nat.le_of_ble_eq_true rfl, Nat.le_of_ble_eq_true rfl⟩
    · (exact mk_O)
    refine sp_M_mustB h0 ?_
    refine a_if_eq (tgt := 24) d_M_expect_17 (by decide) (fun c_2 => ?_) (fun n9 => absurd (rfl) n9)
    exact a_return d_M_expect_24 rfl hK
  · refine a_iconst (v := 1) d_M_expect_9 (by decide) ?_
    refine a_goto (tgt := 14) d_M_expect_10 (by decide) ?_
    apply a_callV (ci := 7) 1 22 [_] _ d_M_expect_14 l_M_229 ⟨im_M_must, se_M_must⟩ rfl rfl rfl rfl (Nat.le_of_ble_eq_true rfl) ⟨Nat.le_of_ble_eq_true rfl, Nat.le_of_ble_eq_true rfl⟩
    · (exact mk_O)
    refine sp_M_mustB h0 ?_
    refine a_if_eq (tgt := 24) d_M_expect_17 (by decide) (fun c_3 => ?_) (fun n9 => absurd (rfl) n9)
    exact a_return d_M_expect_24 rfl hK

set_option maxHeartbeats 1000000 in
set_option maxRecDepth 100000 in
theorem sp_M_expectWordT {j : Nat} (hj : j < nJ) (hg : gdL (jS j)) (hT : MX x n f) {a : Nat} (hA : x.1 19 = nI a) (ha : a ≤ n) (h0 : x.1 24 = 0) (ht : ¬ mW x j = 0) (hK : ∀ y, NX n f a x y → K none (mk σ0 m y)) : a_C G m_M_expectWord 6 129 [.ref m, .ref (G.2.2.2.2.1 j)] (mk σ0 m x) K := by
  refine a_enter rfl (Nat.le_of_ble_eq_true rfl) ?_
  refine a_aload_n d_M_expectWord_0 rfl rfl ?_
  refine a_aload_n d_M_expectWord_1 rfl rfl ?_
  refine a_aload_n d_M_expectWord_2 rfl rfl ?_
  apply a_callV (ci := 7) 5 108 [_] _ d_M_expectWord_3 l_M_203 ⟨im_M_isWord, se_M_isWord⟩ rfl rfl rfl rfl (Nat.le_of_ble_eq_true rfl) ⟨Nat.le_of_ble_eq_true rfl, Nat.le_of_ble_eq_true rfl⟩
  · (exact mk_O)
  refine sp_M_isWord hj hg ?_
  apply a_callV (ci := 7) 1 22 [_] _ d_M_expectWord_6 l_M_229 ⟨im_M_must, se_M_must⟩ rfl rfl rfl rfl (Nat.le_of_ble_eq_true rfl) ⟨Nat.le_of_ble_eq_true rfl, Nat.le_of_ble_eq_true rfl⟩
  · (exact mk_O)
  refine sp_M_mustT ht h0 ?_
  refine a_if_eq (tgt := 16) d_M_expectWord_9 (by decide) (fun n9 => absurd n9 (by decide)) (fun c_1 => ?_)
  refine a_aload_n d_M_expectWord_12 rfl rfl ?_
  apply a_callV (ci := 7) 2 48 [] _ d_M_expectWord_13 l_M_233 ⟨im_M_next, se_M_next⟩ rfl rfl rfl rfl (Nat.le_of_ble_eq_true rfl) ⟨Nat.le_of_ble_eq_true rfl, Nat.le_of_ble_eq_true rfl⟩
  · (exact mk_O)
  refine sp_M_next hT hA ha (fun y hy => ?_)
  exact a_return d_M_expectWord_16 rfl (hK y hy)

set_option maxHeartbeats 1000000 in
set_option maxRecDepth 100000 in
theorem sp_M_expectWordF {j : Nat} (hj : j < nJ) (hg : gdL (jS j)) (ht : mW x j = 0) (hK : K none (mk σ0 m (muX x 0))) : a_C G m_M_expectWord 6 129 [.ref m, .ref (G.2.2.2.2.1 j)] (mk σ0 m x) K := by
  refine a_enter rfl (Nat.le_of_ble_eq_true rfl) ?_
  refine a_aload_n d_M_expectWord_0 rfl rfl ?_
  refine a_aload_n d_M_expectWord_1 rfl rfl ?_
  refine a_aload_n d_M_expectWord_2 rfl rfl ?_
  apply a_callV (ci := 7) 5 108 [_] _ d_M_expectWord_3 l_M_203 ⟨im_M_isWord, se_M_isWord⟩ rfl rfl rfl rfl (Nat.le_of_ble_eq_true rfl) ⟨Nat.le_of_ble_eq_true rfl, Nat.le_of_ble_eq_true rfl⟩
  · (exact mk_O)
  refine sp_M_isWord hj hg ?_
  apply a_callV (ci := 7) 1 22 [_] _ d_M_expectWord_6 l_M_229 ⟨im_M_must, se_M_must⟩ rfl rfl rfl rfl (Nat.le_of_ble_eq_true rfl) ⟨Nat.le_of_ble_eq_true rfl, Nat.le_of_ble_eq_true rfl⟩
  · (exact mk_O)
  refine sp_M_mustF ht ?_
  refine a_if_eq (tgt := 16) d_M_expectWord_9 (by decide) (fun c_1 => ?_) (fun n9 => absurd (rfl) n9)
  exact a_return d_M_expectWord_16 rfl hK

set_option maxHeartbeats 1000000 in
set_option maxRecDepth 100000 in
theorem sp_M_expectWordB {j : Nat} (hj : j < nJ) (hg : gdL (jS j)) (h0 : ¬ x.1 24 = 0) (hK : K none (mk σ0 m x)) : a_C G m_M_expectWord 6 129 [.ref m, .ref (G.2.2.2.2.1 j)] (mk σ0 m x) K := by
  refine a_enter rfl (Nat.le_of_ble_eq_true rfl) ?_
  refine a_aload_n d_M_expectWord_0 rfl rfl ?_
  refine a_aload_n d_M_expectWord_1 rfl rfl ?_
  refine a_aload_n d_M_expectWord_2 rfl rfl ?_
  apply a_callV (ci := 7) 5 108 [_] _ d_M_expectWord_3 l_M_203 ⟨im_M_isWord, se_M_isWord⟩ rfl rfl rfl rfl (Nat.le_of_ble_eq_true rfl) ⟨Nat.le_of_ble_eq_true rfl, Nat.le_of_ble_eq_true rfl⟩
  · (exact mk_O)
  refine sp_M_isWord hj hg ?_
  apply a_callV (ci := 7) 1 22 [_] _ d_M_expectWord_6 l_M_229 ⟨im_M_must, se_M_must⟩ rfl rfl rfl rfl (Nat.le_of_ble_eq_true rfl) ⟨Nat.le_of_ble_eq_true rfl, Nat.le_of_ble_eq_true rfl⟩
  · (exact mk_O)
  refine sp_M_mustB h0 ?_
  refine a_if_eq (tgt := 16) d_M_expectWord_9 (by decide) (fun c_1 => ?_) (fun n9 => absurd (rfl) n9)
  exact a_return d_M_expectWord_16 rfl hK

set_option maxHeartbeats 1000000 in
set_option maxRecDepth 100000 in
theorem lp_M_isOld {A cnt : Nat} (hA1 : 1 ≤ A ∧ A ≤ 31) (hA2 : mT A = 1) (hc : cnt ≤ mN A) (hN : mN A < 2 ^ 31) : ∀ (k i : Nat) (v : Int32), i + k = cnt → (v = 0 ∨ v = 1) → K (some (.int (olF (x.2.2.2 A) (x.2.1 22) k i v))) (mk σ0 m x) → a_J G m_M_isOld 0 0 5 [(0, .ref m), (1, .ref (m + A)), (2, .int (nI cnt)), (3, .int v), (4, .int (nI i))] [] (mk σ0 m x) K := by
  intro k
  induction k with
  | zero =>
    intro i v hk hv hK
    have hnar : narrow .boolean (.int v) = .int v := by rcases hv with e | e <;> rw [e] <;> rfl
    rw [olF] at hK
    refine a_iload d_M_isOld_5 rfl ?_
    refine a_iload_n d_M_isOld_7 rfl rfl ?_
    refine a_icmp_ge (tgt := 39) d_M_isOld_8 (by decide) (fun c_1 => ?_) (fun n9 => absurd (nI_le (by omega) (by omega)) n9)
    refine a_iload_n d_M_isOld_39 rfl rfl ?_
    exact a_ireturn d_M_isOld_40 rfl hnar hK
  | succ k ih =>
    intro i v hk hv hK
    refine a_iload d_M_isOld_5 rfl ?_
    refine a_iload_n d_M_isOld_7 rfl rfl ?_
    refine a_icmp_ge (tgt := 39) d_M_isOld_8 (by decide) (fun n9 => absurd n9 (nI_ge (by omega) (by omega))) (fun c_1 => ?_)
    refine a_iload_n d_M_isOld_11 rfl rfl ?_
    refine a_if_ne (tgt := 27) d_M_isOld_12 (by decide) (fun c_2 => ?_) (fun c_2 => ?_)
    · refine a_iconst (v := 1) d_M_isOld_27 (by decide) ?_
      refine a_goto (tgt := 32) d_M_isOld_28 (by decide) ?_
      refine a_istore_n d_M_isOld_32 rfl (by decide) ?_
      refine a_iinc (c0 := 1) d_M_isOld_33 rfl (by decide) (by decide) ?_
      refine a_goto (tgt := 5) d_M_isOld_36 (by decide) ?_
      rw [nI_1]
      first | (rw [olF, if_neg (by assumption)] at hK; exact a_lvk (ih (i + 1) _ (by omega) (Or.inr rfl) hK) ⟨rfl, rfl, rfl, rfl, rfl, trivial⟩) | (rw [olF, if_pos (by assumption), if_neg (fun e => absurd ((lg_cmp_eq _ _).mpr e) (by assumption))] at hK; exact a_lvk (ih (i + 1) _ (by omega) (Or.inl rfl) hK) ⟨rfl, rfl, rfl, rfl, rfl, trivial⟩) | (rw [olF, if_pos (by assumption), if_pos ((lg_cmp_eq _ _).mp (by assumption))] at hK; exact a_lvk (ih (i + 1) _ (by omega) (Or.inr rfl) hK) ⟨rfl, rfl, rfl, rfl, rfl, trivial⟩)
    · refine a_aload_n d_M_isOld_15 rfl rfl ?_
      refine a_iload d_M_isOld_16 rfl ?_
      refine m_lald d_M_isOld_18 hA1 hA2 (vp_in_nI (show i < mN A by omega) hN) ?_
      rw [nI_clamp (show i < 2 ^ 31 by omega)]
      refine a_aload_n d_M_isOld_19 rfl rfl ?_
      refine m_get d_M_isOld_20 f_M_166 rfl ?_
      refine a_lcmp d_M_isOld_23 ?_
      refine a_if_ne (tgt := 31) d_M_isOld_24 (by decide) (fun c_3 => ?_) (fun c_3 => ?_)
      · refine a_iconst (v := 0) d_M_isOld_31 (by decide) ?_
        refine a_istore_n d_M_isOld_32 rfl (by decide) ?_
        refine a_iinc (c0 := 1) d_M_isOld_33 rfl (by decide) (by decide) ?_
        refine a_goto (tgt := 5) d_M_isOld_36 (by decide) ?_
        rw [nI_1]
        first | (rw [olF, if_neg (by assumption)] at hK; exact a_lvk (ih (i + 1) _ (by omega) (Or.inr rfl) hK) ⟨rfl, rfl, rfl, rfl, rfl, trivial⟩) | (rw [olF, if_pos (by assumption), if_neg (fun e => absurd ((lg_cmp_eq _ _).mpr e) (by assumption))] at hK; exact a_lvk (ih (i + 1) _ (by omega) (Or.inl rfl) hK) ⟨rfl, rfl, rfl, rfl, rfl, trivial⟩) | (rw [olF, if_pos (by assumption), if_pos ((lg_cmp_eq _ _).mp (by assumption))] at hK; exact a_lvk (ih (i + 1) _ (by omega) (Or.inr rfl) hK) ⟨rfl, rfl, rfl, rfl, rfl, trivial⟩)
      · refine a_iconst (v := 1) d_M_isOld_27 (by decide) ?_
        refine a_goto (tgt := 32) d_M_isOld_28 (by decide) ?_
        refine a_istore_n d_M_isOld_32 rfl (by decide) ?_
        refine a_iinc (c0 := 1) d_M_isOld_33 rfl (by decide) (by decide) ?_
        refine a_goto (tgt := 5) d_M_isOld_36 (by decide) ?_
        rw [nI_1]
        first | (rw [olF, if_neg (by assumption)] at hK; exact a_lvk (ih (i + 1) _ (by omega) (Or.inr rfl) hK) ⟨rfl, rfl, rfl, rfl, rfl, trivial⟩) | (rw [olF, if_pos (by assumption), if_neg (fun e => absurd ((lg_cmp_eq _ _).mpr e) (by assumption))] at hK; exact a_lvk (ih (i + 1) _ (by omega) (Or.inl rfl) hK) ⟨rfl, rfl, rfl, rfl, rfl, trivial⟩) | (rw [olF, if_pos (by assumption), if_pos ((lg_cmp_eq _ _).mp (by assumption))] at hK; exact a_lvk (ih (i + 1) _ (by omega) (Or.inr rfl) hK) ⟨rfl, rfl, rfl, rfl, rfl, trivial⟩)

set_option maxHeartbeats 1000000 in
set_option maxRecDepth 100000 in
theorem sp_M_isOld {A cnt : Nat} (hA1 : 1 ≤ A ∧ A ≤ 31) (hA2 : mT A = 1) (hc : cnt ≤ mN A) (hN : mN A < 2 ^ 31) (hK : K (some (.int (olF (x.2.2.2 A) (x.2.1 22) cnt 0 0))) (mk σ0 m x)) : a_C G m_M_isOld 0 0 [.ref m, .ref (m + A), .int (nI cnt)] (mk σ0 m x) K := by
  refine a_enter rfl (Nat.le_of_ble_eq_true rfl) ?_
  refine a_iconst (v := 0) d_M_isOld_0 (by decide) ?_
  refine a_istore_n d_M_isOld_1 rfl (by decide) ?_
  refine a_iconst (v := 0) d_M_isOld_2 (by decide) ?_
  refine a_istore d_M_isOld_3 (by decide) ?_
  exact a_lvk (lp_M_isOld hA1 hA2 hc hN cnt 0 0 (by omega) (Or.inl rfl) hK) ⟨rfl, rfl, rfl, rfl, rfl, trivial⟩

set_option maxHeartbeats 1000000 in
set_option maxRecDepth 100000 in
theorem sp_M_note {w o c : Int32} {l : Nat} (hl : x.1 52 = nI l) (hl2 : l < 1250) (hK : K none (mk σ0 m (ntX x l w o c))) : a_C G m_M_note 0 0 [.ref m, .int w, .int o, .int c] (mk σ0 m x) K := by
  refine a_enter rfl (Nat.le_of_ble_eq_true rfl) ?_
  refine a_aload_n d_M_note_0 rfl rfl ?_
  refine m_get d_M_note_1 f_M_106 rfl ?_
  refine a_iconst (v := 4) d_M_note_4 (by decide) ?_
  refine a_aload_n d_M_note_5 rfl rfl ?_
  refine m_get (v := .int (nI l)) d_M_note_6 f_M_251 (congrArg (fun z => some (Value.int z)) hl) ?_
  refine a_imul d_M_note_9 ?_
  rw [show (4 : Int32) = nI 4 from rfl, pk_mul]
  refine a_iload_n d_M_note_10 rfl rfl ?_
  refine m_iast d_M_note_11 (by decide) rfl (vp_in_nI (show 4 * l < 5000 by omega) (by decide)) ?_
  rw [nI_clamp (show 4 * l < 2 ^ 31 by omega)]
  refine a_aload_n d_M_note_12 rfl rfl ?_
  refine m_get d_M_note_13 f_M_106 rfl ?_
  refine a_iconst (v := 4) d_M_note_16 (by decide) ?_
  refine a_aload_n d_M_note_17 rfl rfl ?_
  refine m_get (v := .int (nI l)) d_M_note_18 f_M_251 (congrArg (fun z => some (Value.int z)) hl) ?_
  refine a_imul d_M_note_21 ?_
  rw [show (4 : Int32) = nI 4 from rfl, pk_mul]
  refine a_iconst (v := 1) d_M_note_22 (by decide) ?_
  refine a_iadd d_M_note_23 ?_
  rw [show (1 : Int32) = nI 1 from rfl, nI_add]
  refine a_iload_n d_M_note_24 rfl rfl ?_
  refine m_iast d_M_note_25 (by decide) rfl (vp_in_nI (show 4 * l + 1 < 5000 by omega) (by decide)) ?_
  rw [nI_clamp (show 4 * l + 1 < 2 ^ 31 by omega)]
  refine a_aload_n d_M_note_26 rfl rfl ?_
  refine m_get d_M_note_27 f_M_106 rfl ?_
  refine a_iconst (v := 4) d_M_note_30 (by decide) ?_
  refine a_aload_n d_M_note_31 rfl rfl ?_
  refine m_get (v := .int (nI l)) d_M_note_32 f_M_251 (congrArg (fun z => some (Value.int z)) hl) ?_
  refine a_imul d_M_note_35 ?_
  rw [show (4 : Int32) = nI 4 from rfl, pk_mul]
  refine a_iconst (v := 2) d_M_note_36 (by decide) ?_
  refine a_iadd d_M_note_37 ?_
  rw [show (2 : Int32) = nI 2 from rfl, nI_add]
  refine a_iload_n d_M_note_38 rfl rfl ?_
  refine m_iast d_M_note_39 (by decide) rfl (vp_in_nI (show 4 * l + 2 < 5000 by omega) (by decide)) ?_
  rw [nI_clamp (show 4 * l + 2 < 2 ^ 31 by omega)]
  refine a_aload_n d_M_note_40 rfl rfl ?_
  refine m_get d_M_note_41 f_M_106 rfl ?_
  refine a_iconst (v := 4) d_M_note_44 (by decide) ?_
  refine a_aload_n d_M_note_45 rfl rfl ?_
  refine m_get (v := .int (nI l)) d_M_note_46 f_M_251 (congrArg (fun z => some (Value.int z)) hl) ?_
  refine a_imul d_M_note_49 ?_
  rw [show (4 : Int32) = nI 4 from rfl, pk_mul]
  refine a_iconst (v := 3) d_M_note_50 (by decide) ?_
  refine a_iadd d_M_note_51 ?_
  rw [show (3 : Int32) = nI 3 from rfl, nI_add]
  refine a_aload_n d_M_note_52 rfl rfl ?_
  refine m_get d_M_note_53 f_M_146 rfl ?_
  refine m_iast d_M_note_56 (by decide) rfl (vp_in_nI (show 4 * l + 3 < 5000 by omega) (by decide)) ?_
  rw [nI_clamp (show 4 * l + 3 < 2 ^ 31 by omega)]
  refine a_aload_n d_M_note_57 rfl rfl ?_
  refine a_dup d_M_note_58 rfl ?_
  refine m_get (v := .int (nI l)) d_M_note_59 f_M_251 (congrArg (fun z => some (Value.int z)) hl) ?_
  refine a_iconst (v := 1) d_M_note_62 (by decide) ?_
  refine a_iadd d_M_note_63 ?_
  rw [nI_1]
  refine m_putI d_M_note_64 p_M_251 rfl rfl (by decide) ?_
  exact a_return d_M_note_67 rfl hK

set_option maxHeartbeats 1000000 in
set_option maxRecDepth 100000 in
theorem sp_M_readCallA (hT : MX x n f) {a : Nat} (hA : x.1 19 = nI a) (ha : a ≤ n) (h0 : x.1 24 = 0) (ht : ¬ mW x 45 = 0) (hK : ∀ y, NX n f a x y → K (some (.int (-1))) (mk σ0 m y)) : a_C G m_M_readCall 6 129 [.ref m] (mk σ0 m x) K := by
  refine a_enter rfl (Nat.le_of_ble_eq_true rfl) ?_
  refine a_aload_n d_M_readCall_0 rfl rfl ?_
  refine a_ldcS 45 d_M_readCall_1 (by decide) rfl rfl ?_
  apply a_callV (ci := 7) 5 108 [_] _ d_M_readCall_3 l_M_203 ⟨im_M_isWord, se_M_isWord⟩ rfl rfl rfl rfl (Nat.le_of_ble_eq_true rfl) ⟨Nat.le_of_ble_eq_true rfl, Nat.le_of_ble_eq_true rfl⟩
  · (exact mk_O)
  refine sp_M_isWord (by decide) (jG _ (by decide) (by decide)) ?_
  refine a_istore_n d_M_readCall_6 rfl (by decide) ?_
  refine a_aload_n d_M_readCall_7 rfl rfl ?_
  refine a_iload_n d_M_readCall_8 rfl rfl ?_
  refine a_if_ne (tgt := 40) d_M_readCall_9 (by decide) (fun c_1 => ?_) (fun n9 => absurd n9 (ht))
  refine a_iconst (v := 1) d_M_readCall_40 (by decide) ?_
  refine a_goto (tgt := 45) d_M_readCall_41 (by decide) ?_
  apply a_callV (ci := 7) 1 22 [_] _ d_M_readCall_45 l_M_229 ⟨im_M_must, se_M_must⟩ rfl rfl rfl rfl (Nat.le_of_ble_eq_true rfl) ⟨Nat.le_of_ble_eq_true rfl, Nat.le_of_ble_eq_true rfl⟩
  · (exact mk_O)
  refine sp_M_mustT (by decide) h0 ?_
  refine a_if_ne (tgt := 53) d_M_readCall_48 (by decide) (fun c_2 => ?_) (fun n9 => absurd n9 (by decide))
  refine a_iload_n d_M_readCall_53 rfl rfl ?_
  refine a_if_eq (tgt := 61) d_M_readCall_54 (by decide) (fun n9 => absurd n9 (ht)) (fun c_3 => ?_)
  refine a_iconst (v := (-1)) d_M_readCall_57 (by decide) ?_
  refine a_goto (tgt := 66) d_M_readCall_58 (by decide) ?_
  refine a_istore_n d_M_readCall_66 rfl (by decide) ?_
  refine a_aload_n d_M_readCall_67 rfl rfl ?_
  apply a_callV (ci := 7) 2 48 [] _ d_M_readCall_68 l_M_233 ⟨im_M_next, se_M_next⟩ rfl rfl rfl rfl (Nat.le_of_ble_eq_true rfl) ⟨Nat.le_of_ble_eq_true rfl, Nat.le_of_ble_eq_true rfl⟩
  · (exact mk_O)
  refine sp_M_next hT hA ha (fun y hy => ?_)
  refine a_iload_n d_M_readCall_71 rfl rfl ?_
  exact a_ireturn d_M_readCall_72 rfl rfl (hK y hy)

set_option maxHeartbeats 1000000 in
set_option maxRecDepth 100000 in
theorem sp_M_readCallN (hT : MX x n f) {a : Nat} (hA : x.1 19 = nI a) (ha : a ≤ n) (h0 : x.1 24 = 0) (ht : mW x 45 = 0) (h3 : x.1 20 = 3 ∧ 0 ≤ x.2.1 23 ∧ x.2.1 23 < 16) (hK : ∀ y, NX n f a x y → K (some (.int (x.2.1 23).toInt32)) (mk σ0 m y)) : a_C G m_M_readCall 6 129 [.ref m] (mk σ0 m x) K := by
  refine a_enter rfl (Nat.le_of_ble_eq_true rfl) ?_
  refine a_aload_n d_M_readCall_0 rfl rfl ?_
  refine a_ldcS 45 d_M_readCall_1 (by decide) rfl rfl ?_
  apply a_callV (ci := 7) 5 108 [_] _ d_M_readCall_3 l_M_203 ⟨im_M_isWord, se_M_isWord⟩ rfl rfl rfl rfl (Nat.le_of_ble_eq_true rfl) ⟨Nat.le_of_ble_eq_true rfl, Nat.le_of_ble_eq_true rfl⟩
  · (exact mk_O)
  refine sp_M_isWord (by decide) (jG _ (by decide) (by decide)) ?_
  refine a_istore_n d_M_readCall_6 rfl (by decide) ?_
  refine a_aload_n d_M_readCall_7 rfl rfl ?_
  refine a_iload_n d_M_readCall_8 rfl rfl ?_
  refine a_if_ne (tgt := 40) d_M_readCall_9 (by decide) (fun n9 => absurd (ht) n9) (fun c_1 => ?_)
  refine a_aload_n d_M_readCall_12 rfl rfl ?_
  refine m_get d_M_readCall_13 f_M_149 rfl ?_
  refine a_iconst (v := 3) d_M_readCall_16 (by decide) ?_
  refine a_icmp_ne (tgt := 44) d_M_readCall_17 (by decide) (fun n9 => absurd (h3.1) n9) (fun c_2 => ?_)
  refine a_aload_n d_M_readCall_20 rfl rfl ?_
  refine m_get d_M_readCall_21 f_M_180 rfl ?_
  refine a_lconst (v := 0) d_M_readCall_24 (by decide) ?_
  refine a_lcmp d_M_readCall_25 ?_
  refine a_if_lt (tgt := 44) d_M_readCall_26 (by decide) (fun n9 => absurd n9 (fun z => absurd ((lg_cmp_lt _ _).mp z) (Int64.not_lt.mpr h3.2.1))) (fun c_3 => ?_)
  refine a_aload_n d_M_readCall_29 rfl rfl ?_
  refine m_get d_M_readCall_30 f_M_180 rfl ?_
  refine a_ldc2 d_M_readCall_33 k_M_271 ?_
  refine a_lcmp d_M_readCall_36 ?_
  refine a_if_ge (tgt := 44) d_M_readCall_37 (by decide) (fun n9 => absurd n9 (fun z => absurd ((lg_cmp_ge _ _).mp z) (Int64.not_le.mpr h3.2.2))) (fun c_4 => ?_)
  refine a_iconst (v := 1) d_M_readCall_40 (by decide) ?_
  refine a_goto (tgt := 45) d_M_readCall_41 (by decide) ?_
  apply a_callV (ci := 7) 1 22 [_] _ d_M_readCall_45 l_M_229 ⟨im_M_must, se_M_must⟩ rfl rfl rfl rfl (Nat.le_of_ble_eq_true rfl) ⟨Nat.le_of_ble_eq_true rfl, Nat.le_of_ble_eq_true rfl⟩
  · (exact mk_O)
  refine sp_M_mustT (by decide) h0 ?_
  refine a_if_ne (tgt := 53) d_M_readCall_48 (by decide) (fun c_5 => ?_) (fun n9 => absurd n9 (by decide))
  refine a_iload_n d_M_readCall_53 rfl rfl ?_
  refine a_if_eq (tgt := 61) d_M_readCall_54 (by decide) (fun c_6 => ?_) (fun n9 => absurd (ht) n9)
  refine a_aload_n d_M_readCall_61 rfl rfl ?_
  refine m_get d_M_readCall_62 f_M_180 rfl ?_
  refine a_l2i d_M_readCall_65 ?_
  refine a_istore_n d_M_readCall_66 rfl (by decide) ?_
  refine a_aload_n d_M_readCall_67 rfl rfl ?_
  apply a_callV (ci := 7) 2 48 [] _ d_M_readCall_68 l_M_233 ⟨im_M_next, se_M_next⟩ rfl rfl rfl rfl (Nat.le_of_ble_eq_true rfl) ⟨Nat.le_of_ble_eq_true rfl, Nat.le_of_ble_eq_true rfl⟩
  · (exact mk_O)
  refine sp_M_next hT hA ha (fun y hy => ?_)
  refine a_iload_n d_M_readCall_71 rfl rfl ?_
  exact a_ireturn d_M_readCall_72 rfl rfl (hK y hy)

set_option maxHeartbeats 1000000 in
set_option maxRecDepth 100000 in
theorem sp_M_readCallF (ht : mW x 45 = 0) (h3 : ¬ (x.1 20 = 3 ∧ 0 ≤ x.2.1 23 ∧ x.2.1 23 < 16)) (hK : K (some (.int 0)) (mk σ0 m (muX x 0))) : a_C G m_M_readCall 6 129 [.ref m] (mk σ0 m x) K := by
  refine a_enter rfl (Nat.le_of_ble_eq_true rfl) ?_
  refine a_aload_n d_M_readCall_0 rfl rfl ?_
  refine a_ldcS 45 d_M_readCall_1 (by decide) rfl rfl ?_
  apply a_callV (ci := 7) 5 108 [_] _ d_M_readCall_3 l_M_203 ⟨im_M_isWord, se_M_isWord⟩ rfl rfl rfl rfl (Nat.le_of_ble_eq_true rfl) ⟨Nat.le_of_ble_eq_true rfl, Nat.le_of_ble_eq_true rfl⟩
  · (exact mk_O)
  refine sp_M_isWord (by decide) (jG _ (by decide) (by decide)) ?_
  refine a_istore_n d_M_readCall_6 rfl (by decide) ?_
  refine a_aload_n d_M_readCall_7 rfl rfl ?_
  refine a_iload_n d_M_readCall_8 rfl rfl ?_
  refine a_if_ne (tgt := 40) d_M_readCall_9 (by decide) (fun n9 => absurd (ht) n9) (fun c_1 => ?_)
  refine a_aload_n d_M_readCall_12 rfl rfl ?_
  refine m_get d_M_readCall_13 f_M_149 rfl ?_
  refine a_iconst (v := 3) d_M_readCall_16 (by decide) ?_
  refine a_icmp_ne (tgt := 44) d_M_readCall_17 (by decide) (fun c_2 => ?_) (fun c_2 => ?_)
  · refine a_iconst (v := 0) d_M_readCall_44 (by decide) ?_
    apply a_callV (ci := 7) 1 22 [_] _ d_M_readCall_45 l_M_229 ⟨im_M_must, se_M_must⟩ rfl rfl rfl rfl (Nat.le_of_ble_eq_true rfl) ⟨Nat.le_of_ble_eq_true rfl, Nat.le_of_ble_eq_true rfl⟩
    · (exact mk_O)
    refine sp_M_mustF rfl ?_
    refine a_if_ne (tgt := 53) d_M_readCall_48 (by decide) (fun n9 => absurd (rfl) n9) (fun c_3 => ?_)
    refine a_iconst (v := 0) d_M_readCall_51 (by decide) ?_
    exact a_ireturn d_M_readCall_52 rfl rfl hK
  · refine a_aload_n d_M_readCall_20 rfl rfl ?_
    refine m_get d_M_readCall_21 f_M_180 rfl ?_
    refine a_lconst (v := 0) d_M_readCall_24 (by decide) ?_
    refine a_lcmp d_M_readCall_25 ?_
    refine a_if_lt (tgt := 44) d_M_readCall_26 (by decide) (fun c_4 => ?_) (fun c_4 => ?_)
    · refine a_iconst (v := 0) d_M_readCall_44 (by decide) ?_
      apply a_callV (ci := 7) 1 22 [_] _ d_M_readCall_45 l_M_229 ⟨im_M_must, se_M_must⟩ rfl rfl rfl rfl (Nat.le_of_ble_eq_true rfl) ⟨Nat.le_of_ble_eq_true rfl, Nat.le_of_ble_eq_true rfl⟩
      · (exact mk_O)
      refine sp_M_mustF rfl ?_
      refine a_if_ne (tgt := 53) d_M_readCall_48 (by decide) (fun n9 => absurd (rfl) n9) (fun c_5 => ?_)
      refine a_iconst (v := 0) d_M_readCall_51 (by decide) ?_
      exact a_ireturn d_M_readCall_52 rfl rfl hK
    · refine a_aload_n d_M_readCall_29 rfl rfl ?_
      refine m_get d_M_readCall_30 f_M_180 rfl ?_
      refine a_ldc2 d_M_readCall_33 k_M_271 ?_
      refine a_lcmp d_M_readCall_36 ?_
      refine a_if_ge (tgt := 44) d_M_readCall_37 (by decide) (fun c_6 => ?_) (fun c_6 => ?_)
      · refine a_iconst (v := 0) d_M_readCall_44 (by decide) ?_
        apply a_callV (ci := 7) 1 22 [_] _ d_M_readCall_45 l_M_229 ⟨im_M_must, se_M_must⟩ rfl rfl rfl rfl (Nat.le_of_ble_eq_true rfl) ⟨Nat.le_of_ble_eq_true rfl, Nat.le_of_ble_eq_true rfl⟩
        · (exact mk_O)
        refine sp_M_mustF rfl ?_
        refine a_if_ne (tgt := 53) d_M_readCall_48 (by decide) (fun n9 => absurd (rfl) n9) (fun c_7 => ?_)
        refine a_iconst (v := 0) d_M_readCall_51 (by decide) ?_
        exact a_ireturn d_M_readCall_52 rfl rfl hK
      · exact absurd ⟨by first | assumption | exact Decidable.not_not.mp (by assumption), Int64.not_lt.mp (fun e => absurd ((lg_cmp_lt _ _).mpr e) (by assumption)), Int64.not_le.mp (fun e => absurd ((lg_cmp_ge _ _).mpr e) (by assumption))⟩ h3

set_option maxHeartbeats 1000000 in
set_option maxRecDepth 100000 in
theorem sp_M_readCallB (h0 : ¬ x.1 24 = 0) (hK : K (some (.int 0)) (mk σ0 m x)) : a_C G m_M_readCall 6 129 [.ref m] (mk σ0 m x) K := by
  refine a_enter rfl (Nat.le_of_ble_eq_true rfl) ?_
  refine a_aload_n d_M_readCall_0 rfl rfl ?_
  refine a_ldcS 45 d_M_readCall_1 (by decide) rfl rfl ?_
  apply a_callV (ci := 7) 5 108 [_] _ d_M_readCall_3 l_M_203 ⟨im_M_isWord, se_M_isWord⟩ rfl rfl rfl rfl (Nat.le_of_ble_eq_true rfl) ⟨Nat.le_of_ble_eq_true rfl, Nat.le_of_ble_eq_true rfl⟩
  · (exact mk_O)
  refine sp_M_isWord (by decide) (jG _ (by decide) (by decide)) ?_
  refine a_istore_n d_M_readCall_6 rfl (by decide) ?_
  refine a_aload_n d_M_readCall_7 rfl rfl ?_
  refine a_iload_n d_M_readCall_8 rfl rfl ?_
  refine a_if_ne (tgt := 40) d_M_readCall_9 (by decide) (fun c_1 => ?_) (fun c_1 => ?_)
  · refine a_iconst (v := 1) d_M_readCall_40 (by decide) ?_
    refine a_goto (tgt := 45) d_M_readCall_41 (by decide) ?_
    apply a_callV (ci := 7) 1 22 [_] _ d_M_readCall_45 l_M_229 ⟨im_M_must, se_M_must⟩ rfl rfl rfl rfl (Nat.le_of_ble_eq_true rfl) ⟨Nat.le_of_ble_eq_true rfl, Nat.le_of_ble_eq_true rfl⟩
    · (exact mk_O)
    refine sp_M_mustB h0 ?_
    refine a_if_ne (tgt := 53) d_M_readCall_48 (by decide) (fun n9 => absurd (rfl) n9) (fun c_2 => ?_)
    refine a_iconst (v := 0) d_M_readCall_51 (by decide) ?_
    exact a_ireturn d_M_readCall_52 rfl rfl hK
  · refine a_aload_n d_M_readCall_12 rfl rfl ?_
    refine m_get d_M_readCall_13 f_M_149 rfl ?_
    refine a_iconst (v := 3) d_M_readCall_16 (by decide) ?_
    refine a_icmp_ne (tgt := 44) d_M_readCall_17 (by decide) (fun c_3 => ?_) (fun c_3 => ?_)
    · refine a_iconst (v := 0) d_M_readCall_44 (by decide) ?_
      apply a_callV (ci := 7) 1 22 [_] _ d_M_readCall_45 l_M_229 ⟨im_M_must, se_M_must⟩ rfl rfl rfl rfl (Nat.le_of_ble_eq_true rfl) ⟨Nat.le_of_ble_eq_true rfl, Nat.le_of_ble_eq_true rfl⟩
      · (exact mk_O)
      refine sp_M_mustB h0 ?_
      refine a_if_ne (tgt := 53) d_M_readCall_48 (by decide) (fun n9 => absurd (rfl) n9) (fun c_4 => ?_)
      refine a_iconst (v := 0) d_M_readCall_51 (by decide) ?_
      exact a_ireturn d_M_readCall_52 rfl rfl hK
    · refine a_aload_n d_M_readCall_20 rfl rfl ?_
      refine m_get d_M_readCall_21 f_M_180 rfl ?_
      refine a_lconst (v := 0) d_M_readCall_24 (by decide) ?_
      refine a_lcmp d_M_readCall_25 ?_
      refine a_if_lt (tgt := 44) d_M_readCall_26 (by decide) (fun c_5 => ?_) (fun c_5 => ?_)
      · refine a_iconst (v := 0) d_M_readCall_44 (by decide) ?_
        apply a_callV (ci := 7) 1 22 [_] _ d_M_readCall_45 l_M_229 ⟨im_M_must, se_M_must⟩ rfl rfl rfl rfl (Nat.le_of_ble_eq_true rfl) ⟨Nat.le_of_ble_eq_true rfl, Nat.le_of_ble_eq_true rfl⟩
        · (exact mk_O)
        refine sp_M_mustB h0 ?_
        refine a_if_ne (tgt := 53) d_M_readCall_48 (by decide) (fun n9 => absurd (rfl) n9) (fun c_6 => ?_)
        refine a_iconst (v := 0) d_M_readCall_51 (by decide) ?_
        exact a_ireturn d_M_readCall_52 rfl rfl hK
      · refine a_aload_n d_M_readCall_29 rfl rfl ?_
        refine m_get d_M_readCall_30 f_M_180 rfl ?_
        refine a_ldc2 d_M_readCall_33 k_M_271 ?_
        refine a_lcmp d_M_readCall_36 ?_
        refine a_if_ge (tgt := 44) d_M_readCall_37 (by decide) (fun c_7 => ?_) (fun c_7 => ?_)
        · refine a_iconst (v := 0) d_M_readCall_44 (by decide) ?_
          apply a_callV (ci := 7) 1 22 [_] _ d_M_readCall_45 l_M_229 ⟨im_M_must, se_M_must⟩ rfl rfl rfl rfl (Nat.le_of_ble_eq_true rfl) ⟨Nat.le_of_ble_eq_true rfl, Nat.le_of_ble_eq_true rfl⟩
          · (exact mk_O)
          refine sp_M_mustB h0 ?_
          refine a_if_ne (tgt := 53) d_M_readCall_48 (by decide) (fun n9 => absurd (rfl) n9) (fun c_8 => ?_)
          refine a_iconst (v := 0) d_M_readCall_51 (by decide) ?_
          exact a_ireturn d_M_readCall_52 rfl rfl hK
        · refine a_iconst (v := 1) d_M_readCall_40 (by decide) ?_
          refine a_goto (tgt := 45) d_M_readCall_41 (by decide) ?_
          apply a_callV (ci := 7) 1 22 [_] _ d_M_readCall_45 l_M_229 ⟨im_M_must, se_M_must⟩ rfl rfl rfl rfl (Nat.le_of_ble_eq_true rfl) ⟨Nat.le_of_ble_eq_true rfl, Nat.le_of_ble_eq_true rfl⟩
          · (exact mk_O)
          refine sp_M_mustB h0 ?_
          refine a_if_ne (tgt := 53) d_M_readCall_48 (by decide) (fun n9 => absurd (rfl) n9) (fun c_9 => ?_)
          refine a_iconst (v := 0) d_M_readCall_51 (by decide) ?_
          exact a_ireturn d_M_readCall_52 rfl rfl hK

end ModM7
