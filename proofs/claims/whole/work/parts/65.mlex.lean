/-! THE MODEL's tokens: letters, words, numbers -/
def wrX (x : aX) (w h : Int32) : aX := if x.1 24 = 0 then sI (sI x 24 w) 25 h else x
/-- the text that is read -/
def MX (x : aX) (n : Nat) (f : Nat → Nat) : Prop := x.1 18 = nI n ∧ n ≤ 4096 ∧ ∀ k, k < n → x.2.2.1 10 k = nI (f k) ∧ f k < 256
theorem sI_sI (x : aX) (k : Nat) (u v : Int32) : sI (sI x k u) k v = sI x k v := by
  show (upd (upd x.1 k u) k v, x.2) = (upd x.1 k v, x.2)
  have : upd (upd x.1 k u) k v = upd x.1 k v := by
    funext j
    unfold upd
    split <;> rfl
  rw [this]
theorem sJ_sJ (x : aX) (k : Nat) (u v : Int64) : sJ (sJ x k u) k v = sJ x k v := by
  show (x.1, vp_updL (vp_updL x.2.1 k u) k v, x.2.2) = (x.1, vp_updL x.2.1 k v, x.2.2)
  have : vp_updL (vp_updL x.2.1 k u) k v = vp_updL x.2.1 k v := by
    funext j
    unfold vp_updL
    split <;> rfl
  rw [this]
def ltF (n : Nat) (f : Nat → Nat) (j : Nat) : Nat := if j < n then f j else 0
/-- saturating value of digits; are they all digits? -/
def dvF (f : Nat → Nat) : Nat → Nat → Nat → Nat
  | 0, _, v => v
  | m + 1, i, v => dvF f m (i + 1) (if v < 100000000000 then 10 * v + (f i - 48) else v)
def alD (f : Nat → Nat) : Nat → Nat → Int32
  | 0, _ => 1
  | m + 1, p => if diF (nI (f p)) = 0 then 0 else alD f m (p + 1)
theorem di_in {x : Nat} (h : x < 2 ^ 31) : ¬ diF (nI x) = 0 ↔ 48 ≤ x ∧ x ≤ 57 := by
  unfold diF
  by_cases h1 : x < 48
  · rw [if_pos (show nI x < 48 from nI_lt (b := 48) h1 (by decide))]
    exact ⟨fun e => absurd rfl e, fun e => absurd e.1 (by omega)⟩
  · rw [if_neg (show ¬ nI x < 48 from nI_nlt (b := 48) (by omega) h)]
    by_cases h2 : 57 < x
    · rw [if_pos (show (57 : Int32) < nI x from nI_lt (a := 57) h2 h)]
      exact ⟨fun e => absurd rfl e, fun e => absurd e.2 (by omega)⟩
    · rw [if_neg (show ¬ (57 : Int32) < nI x from nI_nlt (a := 57) (by omega) (by decide))]
      exact ⟨fun _ => ⟨by omega, by omega⟩, fun _ => by decide⟩
theorem dvF_b {f : Nat → Nat} : ∀ m i v, v < 10000000000000 → (∀ k, k < i + m → f k < 256) → v ≤ dvF f m i v ∧ dvF f m i v < 10000000000000
  | 0, _, v, h, _ => ⟨Nat.le_refl _, h⟩
  | m + 1, i, v, h, hf => by
    have hb := hf i (by omega)
    rw [dvF]
    by_cases e : v < 100000000000
    · rw [if_pos e]
      have := dvF_b m (i + 1) (10 * v + (f i - 48)) (by omega) (fun k hk => hf k (by omega))
      omega
    · rw [if_neg e]
      exact dvF_b m (i + 1) v h (fun k hk => hf k (by omega))
/-- the class's value is the model's -/
theorem nvF_dv {f : Nat → Nat} {M : Nat} (hM : M ≤ 2147483648) : ∀ m i v, v ≤ M → (∀ k, k < i + m → f k < 256) → nvF f (lN M) m i (lN v) = if ¬ alD f m i = 0 ∧ dvF f m i v ≤ M then some (lN (dvF f m i v)) else none
  | 0, i, v, hv, _ => by
    rw [nvF, alD, dvF, if_pos ⟨by decide, hv⟩]
  | m + 1, i, v, hv, hf => by
    have hb := hf i (by omega)
    rw [nvF, alD, dvF]
    by_cases e : diF (nI (f i)) = 0
    · rw [if_pos e, if_pos e, if_neg (fun g => g.1 rfl)]
    · rw [if_neg e, if_neg e, if_pos (show v < 100000000000 by omega)]
      have hd := (di_in (by omega)).mp e
      have ev : lN v * 10 + (nI (f i) - 48).toInt64 = lN (10 * v + (f i - 48)) := by
        rw [show (48 : Int32) = nI 48 from rfl, nI_sub hd.1, nI_l (by omega), show (10 : Int64) = lN 10 from rfl, lN_mul, lN_add, Nat.mul_comm]
      rw [ev]
      by_cases g : M < 10 * v + (f i - 48)
      · rw [if_pos ((pk_lLT (by omega) (by omega)).mpr g), if_neg]
        intro z
        have := dvF_b m (i + 1) (10 * v + (f i - 48)) (by omega) (fun k hk => hf k (by omega))
        omega
      · rw [if_neg (fun z => g ((pk_lLT (by omega) (by omega)).mp z))]
        exact nvF_dv hM m (i + 1) _ (by omega) (fun k hk => hf k (by omega))
section ModM2
variable {G : aG} {σ0 : aS} {K : Option Value → aS → Prop} {m n : Nat} {f : Nat → Nat} {x : aX}
set_option maxHeartbeats 1000000 in
set_option maxRecDepth 100000 in
theorem sp_M_wrong {w h : Int32} (hK : K none (mk σ0 m (wrX x w h))) : a_C G m_M_wrong 0 0 [.ref m, .int w, .int h] (mk σ0 m x) K := by
  refine a_enter rfl (Nat.le_of_ble_eq_true rfl) ?_
  refine a_aload_n d_M_wrong_0 rfl rfl ?_
  refine m_get d_M_wrong_1 f_M_126 rfl ?_
  refine a_if_ne (tgt := 17) d_M_wrong_4 (by decide) (fun c_1 => ?_) (fun c_1 => ?_)
  · refine a_return d_M_wrong_17 rfl ?_
    simp only [wrX, if_neg c_1, if_true] at hK
    exact hK
  · refine a_aload_n d_M_wrong_7 rfl rfl ?_
    refine a_iload_n d_M_wrong_8 rfl rfl ?_
    refine m_putI d_M_wrong_9 p_M_126 rfl rfl (by decide) ?_
    refine a_aload_n d_M_wrong_12 rfl rfl ?_
    refine a_iload_n d_M_wrong_13 rfl rfl ?_
    refine m_putI d_M_wrong_14 p_M_129 rfl rfl (by decide) ?_
    refine a_return d_M_wrong_17 rfl ?_
    simp only [wrX, if_pos c_1, if_true] at hK
    exact hK

set_option maxHeartbeats 1000000 in
set_option maxRecDepth 100000 in
theorem sp_M_letterAt {j : Nat} (hT : MX x n f) (hj : j < 2 ^ 31) (hK : K (some (.int (nI (ltF n f j)))) (mk σ0 m x)) : a_C G m_M_letterAt 0 0 [.ref m, .int (nI j)] (mk σ0 m x) K := by
  have hn := hT.2.1
  refine a_enter rfl (Nat.le_of_ble_eq_true rfl) ?_
  rw [ltF] at hK
  refine a_iload_n d_M_letterAt_0 rfl rfl ?_
  refine a_aload_n d_M_letterAt_1 rfl rfl ?_
  refine m_get d_M_letterAt_2 f_M_109 rfl ?_
  rw [hT.1]
  refine a_icmp_ge (tgt := 17) d_M_letterAt_5 (by decide) (fun c_1 => ?_) (fun c_1 => ?_)
  · refine a_iconst (v := 0) d_M_letterAt_17 (by decide) ?_
    refine a_ireturn d_M_letterAt_18 rfl rfl ?_
    first | (rw [nI_clamp hj, (hT.2.2 j hlt).1]; rw [if_pos hlt] at hK; exact hK) | (rw [if_neg (fun g => absurd (nI_lt g (by omega)) (Int32.not_lt.mpr (by assumption)))] at hK; exact hK)
  · have hlt : j < n := (nI_ltI hj (by omega)).mp (by first | assumption | exact Int32.not_le.mp (by assumption))
    refine a_aload_n d_M_letterAt_8 rfl rfl ?_
    refine m_get d_M_letterAt_9 f_M_41 rfl ?_
    refine a_iload_n d_M_letterAt_12 rfl rfl ?_
    refine m_iald d_M_letterAt_13 (by decide) rfl (vp_in_nI (show j < 4096 by omega) (by decide)) ?_
    refine a_goto (tgt := 18) d_M_letterAt_14 (by decide) ?_
    refine a_ireturn d_M_letterAt_18 rfl rfl ?_
    first | (rw [nI_clamp hj, (hT.2.2 j hlt).1]; rw [if_pos hlt] at hK; exact hK) | (rw [if_neg (fun g => absurd (nI_lt g (by omega)) (Int32.not_lt.mpr (by assumption)))] at hK; exact hK)

set_option maxHeartbeats 1000000 in
set_option maxRecDepth 100000 in
theorem sp_M_isDigit {σ : aS} {b : Int32} (hK : K (some (.int (diF b))) σ) : a_C G m_M_isDigit 0 0 [.int b] σ K := by
  refine a_enter rfl (Nat.le_of_ble_eq_true rfl) ?_
  refine a_iload_n d_M_isDigit_0 rfl rfl ?_
  refine a_bipush (v := 48) d_M_isDigit_1 (by decide) ?_
  refine a_icmp_lt (tgt := 16) d_M_isDigit_3 (by decide) (fun c_1 => ?_) (fun c_1 => ?_)
  · refine a_iconst (v := 0) d_M_isDigit_16 (by decide) ?_
    refine a_ireturn d_M_isDigit_17 rfl rfl ?_
    simp only [diF, if_pos c_1, if_neg (Int32.not_le.mpr c_1), if_true] at hK
    exact hK
  · refine a_iload_n d_M_isDigit_6 rfl rfl ?_
    refine a_bipush (v := 57) d_M_isDigit_7 (by decide) ?_
    refine a_icmp_gt (tgt := 16) d_M_isDigit_9 (by decide) (fun c_2 => ?_) (fun c_2 => ?_)
    · refine a_iconst (v := 0) d_M_isDigit_16 (by decide) ?_
      refine a_ireturn d_M_isDigit_17 rfl rfl ?_
      simp only [diF, if_neg c_1, if_pos (Int32.not_lt.mp c_1), if_pos c_2, if_neg (Int32.not_le.mpr c_2), if_true] at hK
      exact hK
    · refine a_iconst (v := 1) d_M_isDigit_12 (by decide) ?_
      refine a_goto (tgt := 17) d_M_isDigit_13 (by decide) ?_
      refine a_ireturn d_M_isDigit_17 rfl rfl ?_
      simp only [diF, if_neg c_1, if_pos (Int32.not_lt.mp c_1), if_neg c_2, if_pos (Int32.not_lt.mp c_2), if_true] at hK
      exact hK

set_option maxHeartbeats 1000000 in
set_option maxRecDepth 100000 in
theorem sp_M_isSmall {σ : aS} {b : Int32} (hK : K (some (.int (leF b))) σ) : a_C G m_M_isSmall 0 0 [.int b] σ K := by
  refine a_enter rfl (Nat.le_of_ble_eq_true rfl) ?_
  refine a_iload_n d_M_isSmall_0 rfl rfl ?_
  refine a_bipush (v := 97) d_M_isSmall_1 (by decide) ?_
  refine a_icmp_lt (tgt := 16) d_M_isSmall_3 (by decide) (fun c_1 => ?_) (fun c_1 => ?_)
  · refine a_iconst (v := 0) d_M_isSmall_16 (by decide) ?_
    refine a_ireturn d_M_isSmall_17 rfl rfl ?_
    simp only [leF, if_pos c_1, if_neg (Int32.not_le.mpr c_1), if_true] at hK
    exact hK
  · refine a_iload_n d_M_isSmall_6 rfl rfl ?_
    refine a_bipush (v := 122) d_M_isSmall_7 (by decide) ?_
    refine a_icmp_gt (tgt := 16) d_M_isSmall_9 (by decide) (fun c_2 => ?_) (fun c_2 => ?_)
    · refine a_iconst (v := 0) d_M_isSmall_16 (by decide) ?_
      refine a_ireturn d_M_isSmall_17 rfl rfl ?_
      simp only [leF, if_neg c_1, if_pos (Int32.not_lt.mp c_1), if_pos c_2, if_neg (Int32.not_le.mpr c_2), if_true] at hK
      exact hK
    · refine a_iconst (v := 1) d_M_isSmall_12 (by decide) ?_
      refine a_goto (tgt := 17) d_M_isSmall_13 (by decide) ?_
      refine a_ireturn d_M_isSmall_17 rfl rfl ?_
      simp only [leF, if_neg c_1, if_pos (Int32.not_lt.mp c_1), if_neg c_2, if_pos (Int32.not_lt.mp c_2), if_true] at hK
      exact hK

theorem wd_d {b : Int32} (h : ¬ diF b = 0) : wdF b = 1 := by
  unfold wdF
  by_cases e : leF b = 0
  · rw [if_pos e, if_neg h]
  · rw [if_neg e]
theorem wd_s {b : Int32} (h : ¬ leF b = 0) : wdF b = 1 := by unfold wdF; rw [if_neg h]
set_option maxHeartbeats 1000000 in
set_option maxRecDepth 100000 in
theorem sp_M_isOfWord {σ : aS} {b : Int32} (hK : K (some (.int (wdF b))) σ) : a_C G m_M_isOfWord 1 20 [.int b] σ K := by
  refine a_enter rfl (Nat.le_of_ble_eq_true rfl) ?_
  refine a_iload_n d_M_isOfWord_0 rfl rfl ?_
  refine a_callS 0 0 [_] _ d_M_isOfWord_1 l_M_132 is_M_isDigit rfl rfl (Nat.le_of_ble_eq_true rfl) ⟨Nat.le_of_ble_eq_true rfl, Nat.le_of_ble_eq_true rfl⟩ ?_
  refine sp_M_isDigit ?_
  refine a_if_ne (tgt := 20) d_M_isOfWord_4 (by decide) (fun c_1 => ?_) (fun c_1 => ?_)
  · refine a_iconst (v := 1) d_M_isOfWord_20 (by decide) ?_
    refine a_goto (tgt := 25) d_M_isOfWord_21 (by decide) ?_
    refine a_ireturn d_M_isOfWord_25 rfl rfl ?_
    first | (rw [wd_d (by assumption)] at hK; exact hK) | (rw [wd_s (by assumption)] at hK; exact hK) | (simp only [wdF, if_neg c_1, if_true] at hK; exact hK)
  · refine a_iload_n d_M_isOfWord_7 rfl rfl ?_
    refine a_callS 0 0 [_] _ d_M_isOfWord_8 l_M_136 is_M_isSmall rfl rfl (Nat.le_of_ble_eq_true rfl) ⟨Nat.le_of_ble_eq_true rfl, Nat.le_of_ble_eq_true rfl⟩ ?_
    refine sp_M_isSmall ?_
    refine a_if_ne (tgt := 20) d_M_isOfWord_11 (by decide) (fun c_2 => ?_) (fun c_2 => ?_)
    · refine a_iconst (v := 1) d_M_isOfWord_20 (by decide) ?_
      refine a_goto (tgt := 25) d_M_isOfWord_21 (by decide) ?_
      refine a_ireturn d_M_isOfWord_25 rfl rfl ?_
      first | (rw [wd_d (by assumption)] at hK; exact hK) | (rw [wd_s (by assumption)] at hK; exact hK) | (simp only [wdF, if_pos c_1, if_neg c_2, if_true] at hK; exact hK)
    · refine a_iload_n d_M_isOfWord_14 rfl rfl ?_
      refine a_bipush (v := 45) d_M_isOfWord_15 (by decide) ?_
      refine a_icmp_ne (tgt := 24) d_M_isOfWord_17 (by decide) (fun c_3 => ?_) (fun c_3 => ?_)
      · refine a_iconst (v := 0) d_M_isOfWord_24 (by decide) ?_
        refine a_ireturn d_M_isOfWord_25 rfl rfl ?_
        first | (rw [wd_d (by assumption)] at hK; exact hK) | (rw [wd_s (by assumption)] at hK; exact hK) | (simp only [wdF, if_pos c_1, if_pos c_2, if_neg c_3, if_true] at hK; exact hK)
      · refine a_iconst (v := 1) d_M_isOfWord_20 (by decide) ?_
        refine a_goto (tgt := 25) d_M_isOfWord_21 (by decide) ?_
        refine a_ireturn d_M_isOfWord_25 rfl rfl ?_
        first | (rw [wd_d (by assumption)] at hK; exact hK) | (rw [wd_s (by assumption)] at hK; exact hK) | (simp only [wdF, if_pos c_1, if_pos c_2, if_pos c_3, if_true] at hK; exact hK)

set_option maxHeartbeats 1000000 in
set_option maxRecDepth 100000 in
theorem tl_M_name1 {e : Int32} (hK : K none (mk σ0 m x)) : a_J G m_M_takeName 1 22 81 [(0, .ref m), (1, .int e), (2, .int 1)] [] (mk σ0 m x) K := by
  refine a_iload_n d_M_takeName_81 rfl rfl ?_
  refine a_if_ne (tgt := 94) d_M_takeName_82 (by decide) (fun c_1 => ?_) (fun n9 => absurd n9 (by decide))
  exact a_return d_M_takeName_94 rfl hK

set_option maxHeartbeats 1000000 in
set_option maxRecDepth 100000 in
theorem tl_M_name0 {e : Int32} (hK : K none (mk σ0 m (wrX x 1 (x.1 19)))) : a_J G m_M_takeName 1 22 81 [(0, .ref m), (1, .int e), (2, .int 0)] [] (mk σ0 m x) K := by
  refine a_iload_n d_M_takeName_81 rfl rfl ?_
  refine a_if_ne (tgt := 94) d_M_takeName_82 (by decide) (fun n9 => absurd (by decide) n9) (fun c_1 => ?_)
  refine a_aload_n d_M_takeName_85 rfl rfl ?_
  refine a_iconst (v := 1) d_M_takeName_86 (by decide) ?_
  refine a_aload_n d_M_takeName_87 rfl rfl ?_
  refine m_get d_M_takeName_88 f_M_139 rfl ?_
  apply a_callV (ci := 7) 0 0 [_, _] _ d_M_takeName_91 l_M_155 ⟨im_M_wrong, se_M_wrong⟩ rfl rfl rfl rfl (Nat.le_of_ble_eq_true rfl) ⟨Nat.le_of_ble_eq_true rfl, Nat.le_of_ble_eq_true rfl⟩
  · (exact mk_O)
  refine sp_M_wrong ?_
  exact a_return d_M_takeName_94 rfl hK

set_option maxHeartbeats 1000000 in
set_option maxRecDepth 100000 in
theorem lp_M_name0 {e i : Int32} (hK : K none (mk σ0 m (wrX x 1 (x.1 19)))) : a_J G m_M_takeName 1 22 32 [(0, .ref m), (1, .int e), (2, .int 0), (3, .int i)] [] (mk σ0 m x) K := by
  refine a_iload_n d_M_takeName_32 rfl rfl ?_
  refine a_iload_n d_M_takeName_33 rfl rfl ?_
  refine a_icmp_ge (tgt := 81) d_M_takeName_34 (by decide) (fun c_1 => ?_) (fun c_1 => ?_)
  · exact a_lvk (tl_M_name0 hK) ⟨rfl, rfl, rfl, trivial⟩
  · refine a_iload_n d_M_takeName_37 rfl rfl ?_
    refine a_if_eq (tgt := 81) d_M_takeName_38 (by decide) (fun c_2 => ?_) (fun n9 => absurd (rfl) n9)
    exact a_lvk (tl_M_name0 hK) ⟨rfl, rfl, rfl, trivial⟩

set_option maxHeartbeats 1000000 in
set_option maxRecDepth 100000 in
theorem lp_M_name {E : Nat} (hT : MX x n f) (hE : E ≤ n) : ∀ (k i v : Nat), i + k = E → (¬ alL f k i = 0 → K none (mk σ0 m (sJ x 22 (lN (nB 27 v (seg f i k)))))) → (alL f k i = 0 → ∀ u : Int64, K none (mk σ0 m (wrX (sJ x 22 u) 1 (x.1 19)))) → a_J G m_M_takeName 1 22 32 [(0, .ref m), (1, .int (nI E)), (2, .int 1), (3, .int (nI i))] [] (mk σ0 m (sJ x 22 (lN v))) K := by
  have hn := hT.2.1
  intro k
  induction k with
  | zero =>
    intro i v hi hK1 hK0
    refine a_iload_n d_M_takeName_32 rfl rfl ?_
    refine a_iload_n d_M_takeName_33 rfl rfl ?_
    refine a_icmp_ge (tgt := 81) d_M_takeName_34 (by decide) (fun c_1 => ?_) (fun n9 => absurd (nI_le (by omega) (by omega)) n9)
    exact a_lvk (tl_M_name1 (hK1 (show ¬ (1 : Int32) = 0 by decide))) ⟨rfl, rfl, rfl, trivial⟩
  | succ k ih =>
    intro i v hi hK1 hK0
    have hfb := (hT.2.2 i (by omega)).2
    refine a_iload_n d_M_takeName_32 rfl rfl ?_
    refine a_iload_n d_M_takeName_33 rfl rfl ?_
    refine a_icmp_ge (tgt := 81) d_M_takeName_34 (by decide) (fun n9 => absurd n9 (nI_ge (by omega) (by omega))) (fun c_1 => ?_)
    refine a_iload_n d_M_takeName_37 rfl rfl ?_
    refine a_if_eq (tgt := 81) d_M_takeName_38 (by decide) (fun n9 => absurd n9 (by decide)) (fun c_2 => ?_)
    refine a_aload_n d_M_takeName_41 rfl rfl ?_
    refine m_get d_M_takeName_42 f_M_41 rfl ?_
    refine a_iload_n d_M_takeName_45 rfl rfl ?_
    refine m_iald d_M_takeName_46 (by decide) rfl (vp_in_nI (show i < 4096 by omega) (by decide)) ?_
    refine a_callS 0 0 [_] _ d_M_takeName_47 l_M_136 is_M_isSmall rfl rfl (Nat.le_of_ble_eq_true rfl) ⟨Nat.le_of_ble_eq_true rfl, Nat.le_of_ble_eq_true rfl⟩ ?_
    rw [nI_clamp (show i < 2 ^ 31 by omega), show (sJ x 22 (lN v)).2.2.1 10 i = nI (f i) from (hT.2.2 i (by omega)).1]
    refine sp_M_isSmall ?_
    refine a_istore_n d_M_takeName_50 rfl (by decide) ?_
    refine a_aload_n d_M_takeName_51 rfl rfl ?_
    refine a_ldc2 d_M_takeName_52 k_M_170 ?_
    refine a_aload_n d_M_takeName_55 rfl rfl ?_
    refine m_get d_M_takeName_56 f_M_166 rfl ?_
    refine a_lmul d_M_takeName_59 ?_
    refine a_aload_n d_M_takeName_60 rfl rfl ?_
    refine m_get d_M_takeName_61 f_M_41 rfl ?_
    refine a_iload_n d_M_takeName_64 rfl rfl ?_
    refine m_iald d_M_takeName_65 (by decide) rfl (vp_in_nI (show i < 4096 by omega) (by decide)) ?_
    rw [nI_clamp (show i < 2 ^ 31 by omega), show (sJ x 22 (lN v)).2.2.1 10 i = nI (f i) from (hT.2.2 i (by omega)).1]
    refine a_i2l d_M_takeName_66 ?_
    refine a_ladd d_M_takeName_67 ?_
    refine a_ldc2 d_M_takeName_68 k_M_172 ?_
    refine a_lsub d_M_takeName_71 ?_
    refine m_putJ d_M_takeName_72 p_M_166 rfl rfl (by decide) ?_
    refine a_iinc (c0 := 1) d_M_takeName_75 rfl (by decide) (by decide) ?_
    refine a_goto (tgt := 32) d_M_takeName_78 (by decide) ?_
    rw [sJ_sJ, nI_1]
    by_cases hl : leF (nI (f i)) = 0
    · refine a_lvk (l := [(0, .ref m), (1, .int (nI E)), (2, .int 0), (3, .int (nI (i + 1)))]) (lp_M_name0 ?_) ⟨rfl, rfl, by rw [hl]; rfl, rfl, trivial⟩
      exact hK0 (by rw [alL, if_pos hl]) _
    · have hd := (le_in (by omega)).mp hl
      have h1 : leF (nI (f i)) = 1 := by unfold leF at hl ⊢; split at hl; exact absurd rfl hl; split at hl; exact absurd rfl hl; rename_i u w; rw [if_neg u, if_neg w]
      have ev : (27 : Int64) * (sJ x 22 (lN v)).2.1 22 + (nI (f i)).toInt64 - 96 = lN (v * 27 + (f i - 96)) := by
        rw [show (sJ x 22 (lN v)).2.1 22 = lN v from rfl, nI_l (by omega), show (27 : Int64) = lN 27 from rfl, lN_mul, lN_add, show (96 : Int64) = lN 96 from rfl, lN_sub (by omega)]
        congr 1; omega
      rw [ev]
      refine a_lvk (l := [(0, .ref m), (1, .int (nI E)), (2, .int 1), (3, .int (nI (i + 1)))]) (ih (i + 1) _ (by omega) (fun z => ?_) (fun z => ?_)) ⟨rfl, rfl, by rw [h1]; rfl, rfl, trivial⟩
      · have := hK1 (by rw [alL, if_neg hl]; exact z)
        rw [seg, nB_cons] at this; exact this
      · exact hK0 (by rw [alL, if_neg hl]; exact z)

set_option maxHeartbeats 1000000 in
set_option maxRecDepth 100000 in
theorem sp_M_takeName {P E : Nat} (hT : MX x n f) (hP : x.1 19 = nI P) (hPE : P < E) (hE : E ≤ n) (hK1 : (E - P < 13 ∧ ¬ alL f (E - P) P = 0) → K none (mk σ0 m (sJ (sI x 20 2) 22 (e27 (seg f P (E - P)))))) (hK0 : ¬ (E - P < 13 ∧ ¬ alL f (E - P) P = 0) → ∀ u : Int64, K none (mk σ0 m (wrX (sJ (sI x 20 2) 22 u) 1 (nI P)))) : a_C G m_M_takeName 1 22 [.ref m, .int (nI E)] (mk σ0 m x) K := by
  have hn := hT.2.1
  refine a_enter rfl (Nat.le_of_ble_eq_true rfl) ?_
  refine a_aload_n d_M_takeName_0 rfl rfl ?_
  refine a_iconst (v := 2) d_M_takeName_1 (by decide) ?_
  refine m_putI d_M_takeName_2 p_M_149 rfl rfl (by decide) ?_
  refine a_aload_n d_M_takeName_5 rfl rfl ?_
  refine a_lconst (v := 0) d_M_takeName_6 (by decide) ?_
  refine m_putJ d_M_takeName_7 p_M_166 rfl rfl (by decide) ?_
  refine a_iload_n d_M_takeName_10 rfl rfl ?_
  refine a_aload_n d_M_takeName_11 rfl rfl ?_
  refine m_get d_M_takeName_12 f_M_139 rfl ?_
  rw [show (sJ (sI x 20 2) 22 0).1 19 = nI P from hP]
  refine a_isub d_M_takeName_15 ?_
  rw [nI_sub (show P ≤ E by omega)]
  refine a_bipush (v := 13) d_M_takeName_16 (by decide) ?_
  refine a_icmp_ge (tgt := 25) d_M_takeName_18 (by decide) (fun c_1 => ?_) (fun c_1 => ?_)
  · refine a_iconst (v := 0) d_M_takeName_25 (by decide) ?_
    refine a_istore_n d_M_takeName_26 rfl (by decide) ?_
    refine a_aload_n d_M_takeName_27 rfl rfl ?_
    refine m_get d_M_takeName_28 f_M_139 rfl ?_
    rw [show (sJ (sI x 20 2) 22 0).1 19 = nI P from hP]
    refine a_istore_n d_M_takeName_31 rfl (by decide) ?_
    first | exact a_lvk (lp_M_name0 (by rw [show (sJ (sI x 20 2) 22 0).1 19 = nI P from hP]; exact hK0 (fun g => absurd (nI_lt (b := 13) g.1 (by decide)) (Int32.not_lt.mpr (by assumption))) _)) ⟨rfl, rfl, rfl, rfl, trivial⟩ | exact a_lvk (lp_M_name (x := sI x 20 2) hT hE (E - P) P 0 (by omega) (fun z => hK1 ⟨(nI_ltI (b := 13) (by omega) (by decide)).mp (by first | assumption | exact Int32.not_le.mp (by assumption)), z⟩) (fun z u => by rw [show (sI x 20 2).1 19 = nI P from hP]; exact hK0 (fun g => g.2 z) u)) ⟨rfl, rfl, rfl, rfl, trivial⟩
  · refine a_iconst (v := 1) d_M_takeName_21 (by decide) ?_
    refine a_goto (tgt := 26) d_M_takeName_22 (by decide) ?_
    refine a_istore_n d_M_takeName_26 rfl (by decide) ?_
    refine a_aload_n d_M_takeName_27 rfl rfl ?_
    refine m_get d_M_takeName_28 f_M_139 rfl ?_
    rw [show (sJ (sI x 20 2) 22 0).1 19 = nI P from hP]
    refine a_istore_n d_M_takeName_31 rfl (by decide) ?_
    first | exact a_lvk (lp_M_name0 (by rw [show (sJ (sI x 20 2) 22 0).1 19 = nI P from hP]; exact hK0 (fun g => absurd (nI_lt (b := 13) g.1 (by decide)) (Int32.not_lt.mpr (by assumption))) _)) ⟨rfl, rfl, rfl, rfl, trivial⟩ | exact a_lvk (lp_M_name (x := sI x 20 2) hT hE (E - P) P 0 (by omega) (fun z => hK1 ⟨(nI_ltI (b := 13) (by omega) (by decide)).mp (by first | assumption | exact Int32.not_le.mp (by assumption)), z⟩) (fun z u => by rw [show (sI x 20 2).1 19 = nI P from hP]; exact hK0 (fun g => g.2 z) u)) ⟨rfl, rfl, rfl, rfl, trivial⟩

end ModM2
