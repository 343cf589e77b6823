/-! THE MODEL's read, give, turnOver, byteAt -/
def MB (x : aX) (n : Nat) (f : Nat → Nat) : Prop := x.1 2 = nI n ∧ n ≤ 4096 ∧ ∀ k, k < n → x.2.2.1 1 k = nI (f k) ∧ f k < 256
def MP (x : aX) (n : Nat) (f : Nat → Nat) : Prop := x.1 4 = nI n ∧ n ≤ 8192 ∧ ∀ k, k < n → x.2.2.1 2 k = nI (f k) ∧ f k < 256
def CPY (d s : Nat) (x z : aX) (i : Nat) : Prop := z.1 = x.1 ∧ z.2.1 = x.2.1 ∧ z.2.2.2 = x.2.2.2 ∧ (∀ a, ¬ a = d → z.2.2.1 a = x.2.2.1 a) ∧ ∀ j, j < i → z.2.2.1 d j = x.2.2.1 s j
theorem CPY.s {d s : Nat} {x z : aX} {i : Nat} (hds : ¬ s = d) (h : CPY d s x z i) : CPY d s x (sA z d i (z.2.2.1 s i)) (i + 1) := by
  obtain ⟨h1, h2, h3, h4, h5⟩ := h
  refine ⟨h1, h2, h3, fun a ha => (sA_ne ha).trans (h4 a ha), fun j hj => ?_⟩
  by_cases e : j = i
  · rw [e, sA_at, h4 s hds]
  · rw [sA_un e]; exact h5 j (by omega)
theorem CPY.z {d s : Nat} {x : aX} : CPY d s x x 0 := ⟨rfl, rfl, rfl, fun _ _ => rfl, fun _ h => absurd h (Nat.not_lt_zero _)⟩
def KR (x z : aX) : Prop := z.1 2 = x.1 2 ∧ z.1 4 = x.1 4 ∧ z.1 14 = x.1 14 ∧ z.2.2.1 1 = x.2.2.1 1 ∧ z.2.2.1 2 = x.2.2.1 2 ∧ z.2.2.1 8 = x.2.2.1 8
theorem KR.trans {x y z : aX} (h : KR x y) (g : KR y z) : KR x z := ⟨g.1.trans h.1, g.2.1.trans h.2.1, g.2.2.1.trans h.2.2.1, g.2.2.2.1.trans h.2.2.2.1, g.2.2.2.2.1.trans h.2.2.2.2.1, g.2.2.2.2.2.trans h.2.2.2.2.2⟩
theorem KR.pp {x y : aX} (h : PP x y) : KR x y := ⟨h.1 2 (by decide), h.1 4 (by decide), h.1 14 (by decide), h.2 1 (by decide) (by decide) (by decide), h.2 2 (by decide) (by decide) (by decide), h.2 8 (by decide) (by decide) (by decide)⟩
theorem KR.cp {x y : aX} {d s i : Nat} (h : CPY d s x y i) (h1 : ¬ 1 = d) (h2 : ¬ 2 = d) (h8 : ¬ 8 = d) : KR x y := ⟨by rw [h.1], by rw [h.1], by rw [h.1], h.2.2.2.1 1 h1, h.2.2.2.1 2 h2, h.2.2.2.1 8 h8⟩
theorem KR.sI {x : aX} {k : Nat} {v : Int32} (h : ¬ k = 2 ∧ ¬ k = 4 ∧ ¬ k = 14) : KR x (sI x k v) := ⟨pk_un (by omega), pk_un (by omega), pk_un (by omega), rfl, rfl, rfl⟩
theorem shr_byte (V : Int64) {k : Nat} (hk : k < 8) : ((V >>> ((nI (8 * k)).toInt64 &&& 63)) &&& 255).toInt32 = nI (y_ V k) := by
  obtain ⟨n, hn, rfl⟩ := wb_of V
  have e : (lN n >>> ((nI (8 * k)).toInt64 &&& 63)) &&& 255 = lN (n / 2 ^ (8 * k) % 256) := by
    rw [wb_c _ (by omega)]
    apply wb_inj
    show ((BitVec.ofNat 64 n).sshiftRight' ((BitVec.ofNat 64 (8 * k)).smod 64)) &&& BitVec.ofNat 64 255 = BitVec.ofNat 64 _
    rw [wb_sm _ (by omega)]
    apply BitVec.eq_of_getLsbD_eq
    intro i hi
    rw [BitVec.getLsbD_and, BitVec.sshiftRight', BitVec.getLsbD_sshiftRight, BitVec.getLsbD_ofNat, BitVec.getLsbD_ofNat, BitVec.getLsbD_ofNat, BitVec.toNat_ofNat, show (255 : Nat) = 2 ^ 8 - 1 from rfl, Nat.testBit_two_pow_sub_one, show (256 : Nat) = 2 ^ 8 from rfl, Nat.testBit_mod_two_pow, Nat.testBit_div_two_pow, Nat.mod_eq_of_lt (show 8 * k < 2 ^ 64 by omega)]
    by_cases h8 : i < 8
    · have e1 : 8 * k + i < 64 := by omega
      have e2 : ¬ 64 ≤ i := by omega
      have e3 : i + 8 * k < 64 := by omega
      simp [h8, e1, e2, e3, hi, Nat.add_comm]
    · simp [h8]
  rw [e, lN_i, y_lN hn]
section ModM23
variable {G : aG} {σ0 : aS} {K : Option Value → aS → Prop} {m n : Nat} {f : Nat → Nat} {x : aX} {c : aN}
set_option maxHeartbeats 1000000 in
set_option maxRecDepth 100000 in
theorem lp_M_rd12 {x : aX} {N : Nat} {w : Int32} (hN : N ≤ 4096) (hK : ∀ z, CPY 4 10 x z N → a_J G m_M_read 11 238 35 [(0, .ref m), (1, .int (nI N))] [] (mk σ0 m z) K) : ∀ (k i : Nat) (z : aX), i + k = N → CPY 4 10 x z i → a_J G m_M_read 11 238 12 [(0, .ref m), (1, .int (nI N)), (2, .int (nI i))] [] (mk σ0 m z) K := by
  intro k
  induction k with
  | zero =>
    intro i z hk hz
    refine a_iload_n d_M_read_12 rfl rfl ?_
    refine a_iload_n d_M_read_13 rfl rfl ?_
    refine a_icmp_ge (tgt := 35) d_M_read_14 (by decide) (fun c_1 => ?_) (fun n9 => absurd (nI_le (by omega) (by omega)) n9)
    exact a_lvk (hK z (by rw [show N = i by omega]; exact hz)) ⟨rfl, rfl, trivial⟩
  | succ k ih =>
    intro i z hk hz
    refine a_iload_n d_M_read_12 rfl rfl ?_
    refine a_iload_n d_M_read_13 rfl rfl ?_
    refine a_icmp_ge (tgt := 35) d_M_read_14 (by decide) (fun n9 => absurd n9 (nI_ge (by omega) (by omega))) (fun c_1 => ?_)
    refine a_aload_n d_M_read_17 rfl rfl ?_
    refine m_get d_M_read_18 f_M_23 rfl ?_
    refine a_iload_n d_M_read_21 rfl rfl ?_
    refine a_aload_n d_M_read_22 rfl rfl ?_
    refine m_get d_M_read_23 f_M_41 rfl ?_
    refine a_iload_n d_M_read_26 rfl rfl ?_
    refine m_iald d_M_read_27 (by decide) rfl (vp_in_nI (show i < 4096 by omega) (by decide)) ?_
    rw [nI_clamp (show i < 2 ^ 31 by omega)]
    refine m_iast d_M_read_28 (by decide) rfl (vp_in_nI (show i < 4096 by omega) (by decide)) ?_
    rw [nI_clamp (show i < 2 ^ 31 by omega)]
    refine a_iinc (c0 := 1) d_M_read_29 rfl (by decide) (by decide) ?_
    refine a_goto (tgt := 12) d_M_read_32 (by decide) ?_
    rw [nI_1]
    exact a_lvk (ih (i + 1) _ (by omega) (hz.s (by decide))) ⟨rfl, rfl, rfl, trivial⟩

set_option maxHeartbeats 1000000 in
set_option maxRecDepth 100000 in
theorem lp_M_rd37 {x : aX} {N : Nat} {w : Int32} (hN : N ≤ 4096) (hb : x.1 2 = nI N) (hK : ∀ z, CPY 10 1 x z N → a_J G m_M_read 11 238 63 [(0, .ref m), (1, .int w)] [] (mk σ0 m z) K) : ∀ (k i : Nat) (z : aX), i + k = N → CPY 10 1 x z i → a_J G m_M_read 11 238 37 [(0, .ref m), (1, .int w), (2, .int (nI i))] [] (mk σ0 m z) K := by
  intro k
  induction k with
  | zero =>
    intro i z hk hz
    have hz2 : z.1 2 = nI N := by rw [hz.1]; exact hb
    refine a_iload_n d_M_read_37 rfl rfl ?_
    refine a_aload_n d_M_read_38 rfl rfl ?_
    refine m_get d_M_read_39 f_M_118 rfl ?_
    rw [hz2]
    refine a_icmp_ge (tgt := 63) d_M_read_42 (by decide) (fun c_1 => ?_) (fun n9 => absurd (nI_le (by omega) (by omega)) n9)
    exact a_lvk (hK z (by rw [show N = i by omega]; exact hz)) ⟨rfl, rfl, trivial⟩
  | succ k ih =>
    intro i z hk hz
    have hz2 : z.1 2 = nI N := by rw [hz.1]; exact hb
    refine a_iload_n d_M_read_37 rfl rfl ?_
    refine a_aload_n d_M_read_38 rfl rfl ?_
    refine m_get d_M_read_39 f_M_118 rfl ?_
    rw [hz2]
    refine a_icmp_ge (tgt := 63) d_M_read_42 (by decide) (fun n9 => absurd n9 (nI_ge (by omega) (by omega))) (fun c_1 => ?_)
    refine a_aload_n d_M_read_45 rfl rfl ?_
    refine m_get d_M_read_46 f_M_41 rfl ?_
    refine a_iload_n d_M_read_49 rfl rfl ?_
    refine a_aload_n d_M_read_50 rfl rfl ?_
    refine m_get d_M_read_51 f_M_7 rfl ?_
    refine a_iload_n d_M_read_54 rfl rfl ?_
    refine m_iald d_M_read_55 (by decide) rfl (vp_in_nI (show i < 4096 by omega) (by decide)) ?_
    rw [nI_clamp (show i < 2 ^ 31 by omega)]
    refine m_iast d_M_read_56 (by decide) rfl (vp_in_nI (show i < 4096 by omega) (by decide)) ?_
    rw [nI_clamp (show i < 2 ^ 31 by omega)]
    refine a_iinc (c0 := 1) d_M_read_57 rfl (by decide) (by decide) ?_
    refine a_goto (tgt := 37) d_M_read_60 (by decide) ?_
    rw [nI_1]
    exact a_lvk (ih (i + 1) _ (by omega) (hz.s (by decide))) ⟨rfl, rfl, rfl, trivial⟩

set_option maxHeartbeats 1000000 in
set_option maxRecDepth 100000 in
theorem lp_M_rd105 {x : aX} {N : Nat} {w : Int32} (hN : N ≤ 4096) (hK : ∀ z, CPY 10 4 x z N → a_J G m_M_read 11 238 128 [(0, .ref m)] [] (mk σ0 m z) K) : ∀ (k i : Nat) (z : aX), i + k = N → CPY 10 4 x z i → a_J G m_M_read 11 238 105 [(0, .ref m), (1, .int (nI N)), (2, .int (nI i))] [] (mk σ0 m z) K := by
  intro k
  induction k with
  | zero =>
    intro i z hk hz
    refine a_iload_n d_M_read_105 rfl rfl ?_
    refine a_iload_n d_M_read_106 rfl rfl ?_
    refine a_icmp_ge (tgt := 128) d_M_read_107 (by decide) (fun c_1 => ?_) (fun n9 => absurd (nI_le (by omega) (by omega)) n9)
    exact a_lvk (hK z (by rw [show N = i by omega]; exact hz)) ⟨rfl, trivial⟩
  | succ k ih =>
    intro i z hk hz
    refine a_iload_n d_M_read_105 rfl rfl ?_
    refine a_iload_n d_M_read_106 rfl rfl ?_
    refine a_icmp_ge (tgt := 128) d_M_read_107 (by decide) (fun n9 => absurd n9 (nI_ge (by omega) (by omega))) (fun c_1 => ?_)
    refine a_aload_n d_M_read_110 rfl rfl ?_
    refine m_get d_M_read_111 f_M_41 rfl ?_
    refine a_iload_n d_M_read_114 rfl rfl ?_
    refine a_aload_n d_M_read_115 rfl rfl ?_
    refine m_get d_M_read_116 f_M_23 rfl ?_
    refine a_iload_n d_M_read_119 rfl rfl ?_
    refine m_iald d_M_read_120 (by decide) rfl (vp_in_nI (show i < 4096 by omega) (by decide)) ?_
    rw [nI_clamp (show i < 2 ^ 31 by omega)]
    refine m_iast d_M_read_121 (by decide) rfl (vp_in_nI (show i < 4096 by omega) (by decide)) ?_
    rw [nI_clamp (show i < 2 ^ 31 by omega)]
    refine a_iinc (c0 := 1) d_M_read_122 rfl (by decide) (by decide) ?_
    refine a_goto (tgt := 105) d_M_read_125 (by decide) ?_
    rw [nI_1]
    exact a_lvk (ih (i + 1) _ (by omega) (hz.s (by decide))) ⟨rfl, rfl, rfl, trivial⟩

set_option maxHeartbeats 1000000 in
set_option maxRecDepth 100000 in
theorem lp_M_to27 {x : aX} {N : Nat} {w : Int32} (hN : N ≤ 4096) (hb : x.1 2 = nI N) (hK : ∀ z, CPY 1 2 x z N → a_J G m_M_turnOver 0 0 53 [(0, .ref m)] [] (mk σ0 m z) K) : ∀ (k i : Nat) (z : aX), i + k = N → CPY 1 2 x z i → a_J G m_M_turnOver 0 0 27 [(0, .ref m), (1, .int (nI i))] [] (mk σ0 m z) K := by
  intro k
  induction k with
  | zero =>
    intro i z hk hz
    have hz2 : z.1 2 = nI N := by rw [hz.1]; exact hb
    refine a_iload_n d_M_turnOver_27 rfl rfl ?_
    refine a_aload_n d_M_turnOver_28 rfl rfl ?_
    refine m_get d_M_turnOver_29 f_M_118 rfl ?_
    rw [hz2]
    refine a_icmp_ge (tgt := 53) d_M_turnOver_32 (by decide) (fun c_1 => ?_) (fun n9 => absurd (nI_le (by omega) (by omega)) n9)
    exact a_lvk (hK z (by rw [show N = i by omega]; exact hz)) ⟨rfl, trivial⟩
  | succ k ih =>
    intro i z hk hz
    have hz2 : z.1 2 = nI N := by rw [hz.1]; exact hb
    refine a_iload_n d_M_turnOver_27 rfl rfl ?_
    refine a_aload_n d_M_turnOver_28 rfl rfl ?_
    refine m_get d_M_turnOver_29 f_M_118 rfl ?_
    rw [hz2]
    refine a_icmp_ge (tgt := 53) d_M_turnOver_32 (by decide) (fun n9 => absurd n9 (nI_ge (by omega) (by omega))) (fun c_1 => ?_)
    refine a_aload_n d_M_turnOver_35 rfl rfl ?_
    refine m_get d_M_turnOver_36 f_M_7 rfl ?_
    refine a_iload_n d_M_turnOver_39 rfl rfl ?_
    refine a_aload_n d_M_turnOver_40 rfl rfl ?_
    refine m_get d_M_turnOver_41 f_M_13 rfl ?_
    refine a_iload_n d_M_turnOver_44 rfl rfl ?_
    refine m_iald d_M_turnOver_45 (by decide) rfl (vp_in_nI (show i < 8192 by omega) (by decide)) ?_
    rw [nI_clamp (show i < 2 ^ 31 by omega)]
    refine m_iast d_M_turnOver_46 (by decide) rfl (vp_in_nI (show i < 4096 by omega) (by decide)) ?_
    rw [nI_clamp (show i < 2 ^ 31 by omega)]
    refine a_iinc (c0 := 1) d_M_turnOver_47 rfl (by decide) (by decide) ?_
    refine a_goto (tgt := 27) d_M_turnOver_50 (by decide) ?_
    rw [nI_1]
    exact a_lvk (ih (i + 1) _ (by omega) (hz.s (by decide))) ⟨rfl, rfl, trivial⟩

set_option maxHeartbeats 1000000 in
set_option maxRecDepth 100000 in
theorem lp_M_rd139 {x : aX} (hK : ∀ z, (z.1 = x.1 ∧ z.2.1 = x.2.1 ∧ z.2.2.2 = x.2.2.2 ∧ (∀ a, ¬ a = 7 → z.2.2.1 a = x.2.2.1 a) ∧ ∀ j, j < 6 → z.2.2.1 7 j = 0) → K (some (.int 0)) (mk σ0 m z)) : ∀ (k i : Nat) (z : aX), i + k = 6 → (z.1 = x.1 ∧ z.2.1 = x.2.1 ∧ z.2.2.2 = x.2.2.2 ∧ (∀ a, ¬ a = 7 → z.2.2.1 a = x.2.2.1 a) ∧ ∀ j, j < i → z.2.2.1 7 j = 0) → a_J G m_M_read 11 238 139 [(0, .ref m), (2, .int (nI i))] [] (mk σ0 m z) K := by
  intro k
  induction k with
  | zero =>
    intro i z hk hz
    refine a_iload_n d_M_read_139 rfl rfl ?_
    refine a_bipush (v := 6) d_M_read_140 (by decide) ?_
    refine a_icmp_ge (tgt := 158) d_M_read_142 (by decide) (fun c_1 => ?_) (fun n9 => absurd ((show nI 6 ≤ nI i from nI_le (by omega) (by omega))) n9)
    refine a_iconst (v := 0) d_M_read_158 (by decide) ?_
    exact a_ireturn d_M_read_159 rfl rfl (hK z (by rw [show 6 = i by omega]; exact hz))
  | succ k ih =>
    intro i z hk hz
    refine a_iload_n d_M_read_139 rfl rfl ?_
    refine a_bipush (v := 6) d_M_read_140 (by decide) ?_
    refine a_icmp_ge (tgt := 158) d_M_read_142 (by decide) (fun n9 => absurd n9 ((show ¬ nI 6 ≤ nI i from nI_ge (by omega) (by omega)))) (fun c_1 => ?_)
    refine a_aload_n d_M_read_145 rfl rfl ?_
    refine m_get d_M_read_146 f_M_32 rfl ?_
    refine a_iload_n d_M_read_149 rfl rfl ?_
    refine a_iconst (v := 0) d_M_read_150 (by decide) ?_
    refine m_iast d_M_read_151 (by decide) rfl (vp_in_nI (show i < 6 by omega) (by decide)) ?_
    rw [nI_clamp (show i < 2 ^ 31 by omega)]
    refine a_iinc (c0 := 1) d_M_read_152 rfl (by decide) (by decide) ?_
    refine a_goto (tgt := 139) d_M_read_155 (by decide) ?_
    rw [nI_1]
    refine a_lvk (ih (i + 1) _ (by omega) ⟨hz.1, hz.2.1, hz.2.2.1, fun a ha => (sA_ne ha).trans (hz.2.2.2.1 a ha), fun j hj => ?_⟩) ⟨rfl, rfl, trivial⟩
    by_cases e : j = i
    · rw [e, sA_at]
    · rw [sA_un e]; exact hz.2.2.2.2 j (by omega)

set_option maxHeartbeats 1000000 in
set_option maxRecDepth 100000 in
theorem rd_0 (hK : a_J G m_M_read 11 238 12 [(0, .ref m), (1, .int (x.1 18)), (2, .int (nI 0))] [] (mk σ0 m (sI x 0 0)) K) : a_C G m_M_read 11 238 [.ref m] (mk σ0 m x) K := by
  refine a_enter rfl (Nat.le_of_ble_eq_true rfl) ?_
  refine a_aload_n d_M_read_0 rfl rfl ?_
  refine a_iconst (v := 0) d_M_read_1 (by decide) ?_
  refine m_putI d_M_read_2 p_M_115 rfl rfl (by decide) ?_
  refine a_aload_n d_M_read_5 rfl rfl ?_
  refine m_get d_M_read_6 f_M_109 rfl ?_
  refine a_istore_n d_M_read_9 rfl (by decide) ?_
  refine a_iconst (v := 0) d_M_read_10 (by decide) ?_
  refine a_istore_n d_M_read_11 rfl (by decide) ?_
  exact a_lvk hK ⟨rfl, rfl, rfl, trivial⟩

set_option maxHeartbeats 1000000 in
set_option maxRecDepth 100000 in
theorem rd_35 {w : Int32} (hK : a_J G m_M_read 11 238 37 [(0, .ref m), (1, .int w), (2, .int (nI 0))] [] (mk σ0 m x) K) : a_J G m_M_read 11 238 35 [(0, .ref m), (1, .int w)] [] (mk σ0 m x) K := by
  refine a_iconst (v := 0) d_M_read_35 (by decide) ?_
  refine a_istore_n d_M_read_36 rfl (by decide) ?_
  exact a_lvk hK ⟨rfl, rfl, rfl, trivial⟩

set_option maxHeartbeats 1000000 in
set_option maxRecDepth 100000 in
theorem rd_63 {w : Int32} (hT : MX (sI x 18 (x.1 2)) n f) (hK : ∀ z d, PP (sI x 18 (x.1 2)) z → RDN n f d → LPo d z → a_J G m_M_read 11 238 91 [(0, .ref m), (1, .int w)] [] (mk σ0 m (sI (sI z 8 (z.1 24)) 9 (z.1 25))) K) : a_J G m_M_read 11 238 63 [(0, .ref m), (1, .int w)] [] (mk σ0 m x) K := by
  refine a_aload_n d_M_read_63 rfl rfl ?_
  refine a_aload_n d_M_read_64 rfl rfl ?_
  refine m_get d_M_read_65 f_M_118 rfl ?_
  refine m_putI d_M_read_68 p_M_109 rfl rfl (by decide) ?_
  refine a_aload_n d_M_read_71 rfl rfl ?_
  apply a_callV (ci := 7) 10 217 [] _ d_M_read_72 l_M_112 ⟨im_M_readPolicy, se_M_readPolicy⟩ rfl rfl rfl rfl (Nat.le_of_ble_eq_true rfl) ⟨Nat.le_of_ble_eq_true rfl, Nat.le_of_ble_eq_true rfl⟩
  · (exact mk_O)
  refine sp_M_readPolicy hT (fun z d hz hr hq => ?_)
  refine a_aload_n d_M_read_75 rfl rfl ?_
  refine a_aload_n d_M_read_76 rfl rfl ?_
  refine m_get d_M_read_77 f_M_126 rfl ?_
  refine m_putI d_M_read_80 p_M_295 rfl rfl (by decide) ?_
  refine a_aload_n d_M_read_83 rfl rfl ?_
  refine a_aload_n d_M_read_84 rfl rfl ?_
  refine m_get d_M_read_85 f_M_129 rfl ?_
  refine m_putI d_M_read_88 p_M_19 rfl rfl (by decide) ?_
  exact a_lvk (hK z d hz hr hq) ⟨rfl, rfl, trivial⟩

set_option maxHeartbeats 1000000 in
set_option maxRecDepth 100000 in
theorem rd_91T {w : Int32} (h0 : 0 < x.1 8) (hK : a_J G m_M_read 11 238 105 [(0, .ref m), (1, .int w), (2, .int (nI 0))] [] (mk σ0 m (sI x 18 w)) K) : a_J G m_M_read 11 238 91 [(0, .ref m), (1, .int w)] [] (mk σ0 m x) K := by
  refine a_aload_n d_M_read_91 rfl rfl ?_
  refine m_get d_M_read_92 f_M_295 rfl ?_
  refine a_if_le (tgt := 137) d_M_read_95 (by decide) (fun n9 => absurd n9 (Int32.not_le.mpr h0)) (fun c_1 => ?_)
  refine a_aload_n d_M_read_98 rfl rfl ?_
  refine a_iload_n d_M_read_99 rfl rfl ?_
  refine m_putI d_M_read_100 p_M_109 rfl rfl (by decide) ?_
  refine a_iconst (v := 0) d_M_read_103 (by decide) ?_
  refine a_istore_n d_M_read_104 rfl (by decide) ?_
  exact a_lvk hK ⟨rfl, rfl, rfl, trivial⟩

set_option maxHeartbeats 1000000 in
set_option maxRecDepth 100000 in
theorem rd_91F {w : Int32} (h0 : x.1 8 = 0) (hK : a_J G m_M_read 11 238 139 [(0, .ref m), (2, .int (nI 0))] [] (mk σ0 m x) K) : a_J G m_M_read 11 238 91 [(0, .ref m), (1, .int w)] [] (mk σ0 m x) K := by
  refine a_aload_n d_M_read_91 rfl rfl ?_
  refine m_get d_M_read_92 f_M_295 rfl ?_
  refine a_if_le (tgt := 137) d_M_read_95 (by decide) (fun c_1 => ?_) (fun n9 => absurd ((by rw [h0]; decide)) n9)
  refine a_iconst (v := 0) d_M_read_137 (by decide) ?_
  refine a_istore_n d_M_read_138 rfl (by decide) ?_
  exact a_lvk hK ⟨rfl, rfl, trivial⟩

set_option maxHeartbeats 1000000 in
set_option maxRecDepth 100000 in
theorem rd_128 (hT : MX x n f) (hK : ∀ z d, PP x z → RDN n f d → LPo d z → K (some (.int (z.1 8))) (mk σ0 m z)) : a_J G m_M_read 11 238 128 [(0, .ref m)] [] (mk σ0 m x) K := by
  refine a_aload_n d_M_read_128 rfl rfl ?_
  apply a_callV (ci := 7) 10 217 [] _ d_M_read_129 l_M_112 ⟨im_M_readPolicy, se_M_readPolicy⟩ rfl rfl rfl rfl (Nat.le_of_ble_eq_true rfl) ⟨Nat.le_of_ble_eq_true rfl, Nat.le_of_ble_eq_true rfl⟩
  · (exact mk_O)
  refine sp_M_readPolicy hT (fun z d hz hr hq => ?_)
  refine a_aload_n d_M_read_132 rfl rfl ?_
  refine m_get d_M_read_133 f_M_295 rfl ?_
  exact a_ireturn d_M_read_136 rfl rfl (hK z d hz hr hq)

theorem ML_keep {d : aN} {y z : aX} {l : Nat} (h : ML d y l) (h1 : ∀ k, 24 ≤ k → z.1 k = y.1 k) (h2 : ∀ a, 11 ≤ a → z.2.2.1 a = y.2.2.1 a) (h5 : z.2.2.1 5 = y.2.2.1 5) (h6 : z.2.2.1 6 = y.2.2.1 6) (h3 : z.2.2.2 = y.2.2.2) : ML d z l := by
  unfold ML MGd MC MNd MRl MWy gOK lOK at h ⊢
  rw [h1 24 (by decide), h1 25 (by decide), h1 50 (by decide), h1 52 (by decide), h1 28 (by decide), h1 36 (by decide), h1 34 (by decide), h1 43 (by decide), h3, h5, h6, h2 12 (by decide), h2 13 (by decide), h2 14 (by decide), h2 15 (by decide), h2 16 (by decide), h2 17 (by decide), h2 19 (by decide), h2 20 (by decide), h2 21 (by decide), h2 22 (by decide), h2 24 (by decide), h2 25 (by decide), h2 26 (by decide), h2 28 (by decide), h2 29 (by decide), h2 30 (by decide), h2 31 (by decide)]
  exact h
set_option maxHeartbeats 2000000 in
/-- read -/
theorem sp_M_read {nt : Nat} {ft : Nat → Nat} (hT : MX x nt ft) (hB : MB x n f) (hR : RDN nt ft c) (hc : c.1 2 0 = 0) (hK0 : ∀ z d, RDN n f d → ¬ d.1 2 0 = 0 → KR x z → z.2.2.1 7 = x.2.2.1 7 → z.1 8 = nI (d.1 2 0) → z.1 9 = nI (d.1 3 0) → MX z nt ft → ML c z (c.1 9 0) → K (some (.int (nI (d.1 2 0)))) (mk σ0 m z)) (hK1 : ∀ z d, RDN n f d → d.1 2 0 = 0 → KR x z → z.1 8 = 0 → z.1 9 = -1 → MX z n f → ML d z (d.1 9 0) → (∀ k, k < 6 → z.2.2.1 7 k = 0) → K (some (.int 0)) (mk σ0 m z)) : a_C G m_M_read 11 238 [.ref m] (mk σ0 m x) K := by
  refine rd_0 ?_
  rw [hT.1]
  have hT18 : (sI x 0 0).1 18 = nI nt := hT.1
  refine lp_M_rd12 (x := sI x 0 0) (N := nt) (w := 0) hT.2.1 (fun z1 hz1 => rd_35 ?_) nt 0 _ (by omega) CPY.z
  refine lp_M_rd37 (x := z1) (N := n) hB.2.1 (by rw [hz1.1]; exact hB.1) (fun z2 hz2 => ?_) n 0 _ (by omega) CPY.z
  have e2 : z2.1 = (sI x 0 0).1 := hz2.1.trans hz1.1
  have hT3 : MX (sI z2 18 (z2.1 2)) n f := by
    refine ⟨?_, hB.2.1, fun k hk => ⟨?_, (hB.2.2 k hk).2⟩⟩
    · show upd z2.1 18 (z2.1 2) 18 = nI n
      rw [pk_us, e2]; exact hB.1
    · show z2.2.2.1 10 k = nI (f k)
      rw [hz2.2.2.2.2 k hk, hz1.2.2.2.1 1 (by decide)]; exact (hB.2.2 k hk).1
  have hKR2 : KR x (sI z2 18 (z2.1 2)) := (((KR.sI (by decide)).trans (KR.cp hz1 (by decide) (by decide) (by decide))).trans (KR.cp hz2 (by decide) (by decide) (by decide))).trans (KR.sI (by decide))
  refine rd_63 hT3 (fun z3 d hz3 hr3 hq3 => ?_)
  have hKR3 := hKR2.trans (KR.pp hz3)
  have hKR4 : KR x (sI (sI z3 8 (z3.1 24)) 9 (z3.1 25)) := (hKR3.trans (KR.sI (by decide))).trans (KR.sI (by decide))
  have e7 : z3.2.2.1 7 = x.2.2.1 7 := (hz3.2 7 (by decide) (by decide) (by decide)).trans ((hz2.2.2.2.1 7 (by decide)).trans (hz1.2.2.2.1 7 (by decide)))
  have h8 := RDN_FA hr3
  rcases hq3 with ⟨g0, gM⟩ | ⟨g0, g4, g5⟩
  · refine rd_91F (show z3.1 24 = 0 from gM.1) (lp_M_rd139 (x := sI (sI z3 8 (z3.1 24)) 9 (z3.1 25)) (fun z hz => ?_) 6 0 _ (by omega) ⟨rfl, rfl, rfl, fun _ _ => rfl, fun _ h => absurd h (Nat.not_lt_zero _)⟩)
    obtain ⟨a1, a2, a3, a4, a5⟩ := hz
    refine hK1 z d hr3 g0 (hKR4.trans ⟨by rw [a1], by rw [a1], by rw [a1], a4 1 (by decide), a4 2 (by decide), a4 8 (by decide)⟩) ?_ ?_ ?_ ?_ a5
    · rw [a1]; show z3.1 24 = 0; exact gM.1
    · rw [a1]; show z3.1 25 = -1; exact gM.2.1
    · refine ⟨?_, hB.2.1, fun k hk => ⟨?_, (hB.2.2 k hk).2⟩⟩
      · rw [a1]; show z3.1 18 = nI n
        rw [hz3.1 18 (by decide)]; exact hT3.1
      · rw [a4 10 (by decide)]; show z3.2.2.1 10 k = nI (f k)
        rw [hz3.2 10 (by decide) (by decide) (by decide)]; exact (hT3.2.2 k hk).1
    · refine ML_keep gM (fun k hk => ?_) (fun a ha => a4 a (by omega)) (a4 5 (by decide)) (a4 6 (by decide)) a3
      rw [a1]; show upd (upd z3.1 8 _) 9 _ k = z3.1 k
      rw [pk_un (by omega), pk_un (by omega)]
  · refine rd_91T (show 0 < z3.1 24 by rw [g4]; exact nI_lt (a := 0) (by omega) (by omega)) ?_
    refine lp_M_rd105 (x := sI (sI (sI z3 8 (z3.1 24)) 9 (z3.1 25)) 18 (nI nt)) (N := nt) (w := 0) hT.2.1 (fun z6 hz6 => ?_) nt 0 _ (by omega) CPY.z
    have hT6 : MX z6 nt ft := by
      refine ⟨?_, hT.2.1, fun k hk => ⟨?_, (hT.2.2 k hk).2⟩⟩
      · rw [hz6.1]; rfl
      · rw [hz6.2.2.2.2 k hk]; show z3.2.2.1 4 k = nI (ft k)
        rw [hz3.2 4 (by decide) (by decide) (by decide)]; show z2.2.2.1 4 k = nI (ft k)
        rw [hz2.2.2.2.1 4 (by decide), hz1.2.2.2.2 k hk]; exact (hT.2.2 k hk).1
    refine rd_128 hT6 (fun z7 d7 hz7 hr7 hq7 => ?_)
    have ed := RDN_one hr7 hR
    subst ed
    have hKR7 : KR x z7 := ((hKR4.trans (KR.sI (by decide))).trans (KR.cp hz6 (by decide) (by decide) (by decide))).trans (KR.pp hz7)
    have f8 : z7.1 8 = nI (d.1 2 0) := by rw [hz7.1 8 (by decide), hz6.1]; exact g4
    have f9 : z7.1 9 = nI (d.1 3 0) := by rw [hz7.1 9 (by decide), hz6.1]; exact g5
    have f7 : z7.2.2.1 7 = x.2.2.1 7 := by rw [hz7.2 7 (by decide) (by decide) (by decide), hz6.2.2.2.1 7 (by decide)]; exact e7
    have hT7 : MX z7 nt ft := ⟨(hz7.1 18 (by decide)).trans hT6.1, hT.2.1, by rw [hz7.2 10 (by decide) (by decide) (by decide)]; exact hT6.2.2⟩
    rcases hq7 with ⟨-, hM7⟩ | ⟨h7, -⟩
    · rw [f8]
      exact hK0 z7 d hr3 g0 hKR7 f7 f8 f9 hT7 hM7
    · exact absurd hc h7
set_option maxHeartbeats 1000000 in
set_option maxRecDepth 100000 in
theorem to_F (h0 : 4096 < x.1 4) (hK : K (some (.int 0)) (mk σ0 m (sI x 0 0))) : a_C G m_M_turnOver 0 0 [.ref m] (mk σ0 m x) K := by
  refine a_enter rfl (Nat.le_of_ble_eq_true rfl) ?_
  refine a_aload_n d_M_turnOver_0 rfl rfl ?_
  refine a_iconst (v := 0) d_M_turnOver_1 (by decide) ?_
  refine m_putI d_M_turnOver_2 p_M_115 rfl rfl (by decide) ?_
  refine a_aload_n d_M_turnOver_5 rfl rfl ?_
  refine m_get d_M_turnOver_6 f_M_123 rfl ?_
  refine a_sipush (v := 4096) d_M_turnOver_9 (by decide) ?_
  refine a_icmp_le (tgt := 17) d_M_turnOver_12 (by decide) (fun n9 => absurd n9 (Int32.not_le.mpr h0)) (fun c_1 => ?_)
  refine a_iconst (v := 0) d_M_turnOver_15 (by decide) ?_
  exact a_ireturn d_M_turnOver_16 rfl rfl hK

set_option maxHeartbeats 1000000 in
set_option maxRecDepth 100000 in
theorem to_T (h0 : x.1 4 ≤ 4096) (hK : a_J G m_M_turnOver 0 0 27 [(0, .ref m), (1, .int (nI 0))] [] (mk σ0 m (sI (sI x 0 0) 2 (x.1 4))) K) : a_C G m_M_turnOver 0 0 [.ref m] (mk σ0 m x) K := by
  refine a_enter rfl (Nat.le_of_ble_eq_true rfl) ?_
  refine a_aload_n d_M_turnOver_0 rfl rfl ?_
  refine a_iconst (v := 0) d_M_turnOver_1 (by decide) ?_
  refine m_putI d_M_turnOver_2 p_M_115 rfl rfl (by decide) ?_
  refine a_aload_n d_M_turnOver_5 rfl rfl ?_
  refine m_get d_M_turnOver_6 f_M_123 rfl ?_
  refine a_sipush (v := 4096) d_M_turnOver_9 (by decide) ?_
  refine a_icmp_le (tgt := 17) d_M_turnOver_12 (by decide) (fun c_1 => ?_) (fun n9 => absurd (h0) n9)
  refine a_aload_n d_M_turnOver_17 rfl rfl ?_
  refine a_aload_n d_M_turnOver_18 rfl rfl ?_
  refine m_get d_M_turnOver_19 f_M_123 rfl ?_
  refine m_putI d_M_turnOver_22 p_M_118 rfl rfl (by decide) ?_
  refine a_iconst (v := 0) d_M_turnOver_25 (by decide) ?_
  refine a_istore_n d_M_turnOver_26 rfl (by decide) ?_
  exact a_lvk hK ⟨rfl, rfl, trivial⟩

set_option maxHeartbeats 1000000 in
set_option maxRecDepth 100000 in
theorem to_53 (hK : K (some (.int 1)) (mk σ0 m x)) : a_J G m_M_turnOver 0 0 53 [(0, .ref m)] [] (mk σ0 m x) K := by
  refine a_iconst (v := 1) d_M_turnOver_53 (by decide) ?_
  exact a_ireturn d_M_turnOver_54 rfl rfl hK

/-- turnOver -/
theorem sp_M_turnOver {mm : Nat} {g : Nat → Nat} (hP : MP x mm g) (hK0 : 4096 < mm → K (some (.int 0)) (mk σ0 m (sI x 0 0))) (hK1 : mm ≤ 4096 → ∀ z, (∀ k, ¬ k = 0 → ¬ k = 2 → z.1 k = x.1 k) → (∀ a, ¬ a = 1 → z.2.2.1 a = x.2.2.1 a) → z.2.2.2 = x.2.2.2 → MB z mm g → K (some (.int 1)) (mk σ0 m z)) : a_C G m_M_turnOver 0 0 [.ref m] (mk σ0 m x) K := by
  by_cases h : mm ≤ 4096
  · refine to_T (by rw [hP.1]; exact nI_le (b := 4096) h (by decide)) ?_
    refine lp_M_to27 (x := sI (sI x 0 0) 2 (x.1 4)) (N := mm) (w := 0) h hP.1 (fun z hz => to_53 (hK1 h z ?_ ?_ hz.2.2.1 ?_)) mm 0 _ (by omega) CPY.z
    · intro k h0 h2
      rw [hz.1]; show upd (upd x.1 0 0) 2 (x.1 4) k = x.1 k
      rw [pk_un h2, pk_un h0]
    · exact fun a ha => hz.2.2.2.1 a ha
    · refine ⟨by rw [hz.1]; exact hP.1, h, fun k hk => ⟨?_, (hP.2.2 k hk).2⟩⟩
      rw [hz.2.2.2.2 k hk]; exact (hP.2.2 k hk).1
  · refine to_F (by rw [hP.1]; exact nI_lt (a := 4096) (by omega) (by have := hP.2.1; omega)) (hK0 (by omega))
set_option maxHeartbeats 1000000 in
set_option maxRecDepth 100000 in
theorem by_L {a w : Int32} (ha : a < 0) (hK : K (some (.int (-1))) (mk σ0 m (sI x 0 0))) : a_C G m_M_byteAt 0 0 [.ref m, .int a, .int w] (mk σ0 m x) K := by
  refine a_enter rfl (Nat.le_of_ble_eq_true rfl) ?_
  refine a_aload_n d_M_byteAt_0 rfl rfl ?_
  refine a_iconst (v := 0) d_M_byteAt_1 (by decide) ?_
  refine m_putI d_M_byteAt_2 p_M_115 rfl rfl (by decide) ?_
  refine a_iload_n d_M_byteAt_5 rfl rfl ?_
  refine a_if_lt (tgt := 28) d_M_byteAt_6 (by decide) (fun c_1 => ?_) (fun n9 => absurd (ha) n9)
  refine a_iconst (v := (-1)) d_M_byteAt_28 (by decide) ?_
  refine a_goto (tgt := 51) d_M_byteAt_29 (by decide) ?_
  exact a_ireturn d_M_byteAt_51 rfl rfl hK

set_option maxHeartbeats 1000000 in
set_option maxRecDepth 100000 in
theorem by_0H {a w : Int32} (hw : w = 0) (ha : ¬ a < 0) (h : x.1 4 ≤ a) (hK : K (some (.int (-1))) (mk σ0 m (sI x 0 0))) : a_C G m_M_byteAt 0 0 [.ref m, .int a, .int w] (mk σ0 m x) K := by
  refine a_enter rfl (Nat.le_of_ble_eq_true rfl) ?_
  refine a_aload_n d_M_byteAt_0 rfl rfl ?_
  refine a_iconst (v := 0) d_M_byteAt_1 (by decide) ?_
  refine m_putI d_M_byteAt_2 p_M_115 rfl rfl (by decide) ?_
  refine a_iload_n d_M_byteAt_5 rfl rfl ?_
  refine a_if_lt (tgt := 28) d_M_byteAt_6 (by decide) (fun n9 => absurd n9 (ha)) (fun c_1 => ?_)
  refine a_iload_n d_M_byteAt_9 rfl rfl ?_
  refine a_iload_n d_M_byteAt_10 rfl rfl ?_
  refine a_if_eq (tgt := 21) d_M_byteAt_11 (by decide) (fun c_2 => ?_) (fun n9 => absurd (hw) n9)
  refine a_aload_n d_M_byteAt_21 rfl rfl ?_
  refine m_get d_M_byteAt_22 f_M_123 rfl ?_
  refine a_icmp_lt (tgt := 32) d_M_byteAt_25 (by decide) (fun n9 => absurd n9 (Int32.not_lt.mpr h)) (fun c_3 => ?_)
  refine a_iconst (v := (-1)) d_M_byteAt_28 (by decide) ?_
  refine a_goto (tgt := 51) d_M_byteAt_29 (by decide) ?_
  exact a_ireturn d_M_byteAt_51 rfl rfl hK

set_option maxHeartbeats 1000000 in
set_option maxRecDepth 100000 in
theorem by_0I {a w : Int32} (hw : w = 0) (ha : ¬ a < 0) (h : a < x.1 4) (hn : x.1 4 ≤ 8192) (hK : K (some (.int (x.2.2.1 2 a.toNatClampNeg))) (mk σ0 m (sI x 0 0))) : a_C G m_M_byteAt 0 0 [.ref m, .int a, .int w] (mk σ0 m x) K := by
  refine a_enter rfl (Nat.le_of_ble_eq_true rfl) ?_
  refine a_aload_n d_M_byteAt_0 rfl rfl ?_
  refine a_iconst (v := 0) d_M_byteAt_1 (by decide) ?_
  refine m_putI d_M_byteAt_2 p_M_115 rfl rfl (by decide) ?_
  refine a_iload_n d_M_byteAt_5 rfl rfl ?_
  refine a_if_lt (tgt := 28) d_M_byteAt_6 (by decide) (fun n9 => absurd n9 (ha)) (fun c_1 => ?_)
  refine a_iload_n d_M_byteAt_9 rfl rfl ?_
  refine a_iload_n d_M_byteAt_10 rfl rfl ?_
  refine a_if_eq (tgt := 21) d_M_byteAt_11 (by decide) (fun c_2 => ?_) (fun n9 => absurd (hw) n9)
  refine a_aload_n d_M_byteAt_21 rfl rfl ?_
  refine m_get d_M_byteAt_22 f_M_123 rfl ?_
  refine a_icmp_lt (tgt := 32) d_M_byteAt_25 (by decide) (fun c_3 => ?_) (fun n9 => absurd (h) n9)
  refine a_iload_n d_M_byteAt_32 rfl rfl ?_
  refine a_if_eq (tgt := 45) d_M_byteAt_33 (by decide) (fun c_4 => ?_) (fun n9 => absurd (hw) n9)
  refine a_aload_n d_M_byteAt_45 rfl rfl ?_
  refine m_get d_M_byteAt_46 f_M_13 rfl ?_
  refine a_iload_n d_M_byteAt_49 rfl rfl ?_
  refine m_iald d_M_byteAt_50 (by decide) rfl (vp_lt (M := 8192) (N := 8192) rfl (by decide) ha (Int32.lt_of_lt_of_le h hn)) ?_
  exact a_ireturn d_M_byteAt_51 rfl rfl hK

set_option maxHeartbeats 1000000 in
set_option maxRecDepth 100000 in
theorem by_1H {a w : Int32} (hw : ¬ w = 0) (ha : ¬ a < 0) (h : x.1 2 ≤ a) (hK : K (some (.int (-1))) (mk σ0 m (sI x 0 0))) : a_C G m_M_byteAt 0 0 [.ref m, .int a, .int w] (mk σ0 m x) K := by
  refine a_enter rfl (Nat.le_of_ble_eq_true rfl) ?_
  refine a_aload_n d_M_byteAt_0 rfl rfl ?_
  refine a_iconst (v := 0) d_M_byteAt_1 (by decide) ?_
  refine m_putI d_M_byteAt_2 p_M_115 rfl rfl (by decide) ?_
  refine a_iload_n d_M_byteAt_5 rfl rfl ?_
  refine a_if_lt (tgt := 28) d_M_byteAt_6 (by decide) (fun n9 => absurd n9 (ha)) (fun c_1 => ?_)
  refine a_iload_n d_M_byteAt_9 rfl rfl ?_
  refine a_iload_n d_M_byteAt_10 rfl rfl ?_
  refine a_if_eq (tgt := 21) d_M_byteAt_11 (by decide) (fun n9 => absurd n9 (hw)) (fun c_2 => ?_)
  refine a_aload_n d_M_byteAt_14 rfl rfl ?_
  refine m_get d_M_byteAt_15 f_M_118 rfl ?_
  refine a_goto (tgt := 25) d_M_byteAt_18 (by decide) ?_
  refine a_icmp_lt (tgt := 32) d_M_byteAt_25 (by decide) (fun n9 => absurd n9 (Int32.not_lt.mpr h)) (fun c_3 => ?_)
  refine a_iconst (v := (-1)) d_M_byteAt_28 (by decide) ?_
  refine a_goto (tgt := 51) d_M_byteAt_29 (by decide) ?_
  exact a_ireturn d_M_byteAt_51 rfl rfl hK

set_option maxHeartbeats 1000000 in
set_option maxRecDepth 100000 in
theorem by_1I {a w : Int32} (hw : ¬ w = 0) (ha : ¬ a < 0) (h : a < x.1 2) (hn : x.1 2 ≤ 4096) (hK : K (some (.int (x.2.2.1 1 a.toNatClampNeg))) (mk σ0 m (sI x 0 0))) : a_C G m_M_byteAt 0 0 [.ref m, .int a, .int w] (mk σ0 m x) K := by
  refine a_enter rfl (Nat.le_of_ble_eq_true rfl) ?_
  refine a_aload_n d_M_byteAt_0 rfl rfl ?_
  refine a_iconst (v := 0) d_M_byteAt_1 (by decide) ?_
  refine m_putI d_M_byteAt_2 p_M_115 rfl rfl (by decide) ?_
  refine a_iload_n d_M_byteAt_5 rfl rfl ?_
  refine a_if_lt (tgt := 28) d_M_byteAt_6 (by decide) (fun n9 => absurd n9 (ha)) (fun c_1 => ?_)
  refine a_iload_n d_M_byteAt_9 rfl rfl ?_
  refine a_iload_n d_M_byteAt_10 rfl rfl ?_
  refine a_if_eq (tgt := 21) d_M_byteAt_11 (by decide) (fun n9 => absurd n9 (hw)) (fun c_2 => ?_)
  refine a_aload_n d_M_byteAt_14 rfl rfl ?_
  refine m_get d_M_byteAt_15 f_M_118 rfl ?_
  refine a_goto (tgt := 25) d_M_byteAt_18 (by decide) ?_
  refine a_icmp_lt (tgt := 32) d_M_byteAt_25 (by decide) (fun c_3 => ?_) (fun n9 => absurd (h) n9)
  refine a_iload_n d_M_byteAt_32 rfl rfl ?_
  refine a_if_eq (tgt := 45) d_M_byteAt_33 (by decide) (fun n9 => absurd n9 (hw)) (fun c_4 => ?_)
  refine a_aload_n d_M_byteAt_36 rfl rfl ?_
  refine m_get d_M_byteAt_37 f_M_7 rfl ?_
  refine a_iload_n d_M_byteAt_40 rfl rfl ?_
  refine m_iald d_M_byteAt_41 (by decide) rfl (vp_lt (M := 4096) (N := 4096) rfl (by decide) ha (Int32.lt_of_lt_of_le h hn)) ?_
  refine a_goto (tgt := 51) d_M_byteAt_42 (by decide) ?_
  exact a_ireturn d_M_byteAt_51 rfl rfl hK

/-- byteAt -/
theorem sp_M_byteAt {a w : Int32} {mm : Nat} {g : Nat → Nat} (hB : MB x n f) (hP : MP x mm g) (hK : K (some (.int (if w = 0 then atF mm g a else atF n f a))) (mk σ0 m (sI x 0 0))) : a_C G m_M_byteAt 0 0 [.ref m, .int a, .int w] (mk σ0 m x) K := by
  unfold atF at hK
  by_cases ha : a < 0
  · refine by_L ha ?_
    rw [if_pos (Or.inl ha), if_pos (Or.inl ha)] at hK
    by_cases hw : w = 0
    · rw [if_pos hw] at hK; exact hK
    · rw [if_neg hw] at hK; exact hK
  · by_cases hw : w = 0
    · rw [if_pos hw] at hK
      by_cases h : nI mm ≤ a
      · rw [if_pos (Or.inr h)] at hK
        exact by_0H hw ha (by rw [hP.1]; exact h) hK
      · rw [if_neg (fun z => z.elim ha h)] at hK
        have hlt := Int32.not_le.mp h
        obtain ⟨j, hj, rfl⟩ := nI_of ha
        have hjm : j < mm := (nI_ltI (by omega) (by have := hP.2.1; omega)).mp hlt
        refine by_0I hw ha (by rw [hP.1]; exact hlt) (by rw [hP.1]; exact nI_le (b := 8192) hP.2.1 (by decide)) ?_
        rw [nI_clamp (by omega)] at hK ⊢
        rw [(hP.2.2 j hjm).1]; exact hK
    · rw [if_neg hw] at hK
      by_cases h : nI n ≤ a
      · rw [if_pos (Or.inr h)] at hK
        exact by_1H hw ha (by rw [hB.1]; exact h) hK
      · rw [if_neg (fun z => z.elim ha h)] at hK
        have hlt := Int32.not_le.mp h
        obtain ⟨j, hj, rfl⟩ := nI_of ha
        have hjm : j < n := (nI_ltI (by omega) (by have := hB.2.1; omega)).mp hlt
        refine by_1I hw ha (by rw [hB.1]; exact hlt) (by rw [hB.1]; exact nI_le (b := 4096) hB.2.1 (by decide)) ?_
        rw [nI_clamp (by omega)] at hK ⊢
        rw [(hB.2.2 j hjm).1]; exact hK
set_option maxHeartbeats 1000000 in
set_option maxRecDepth 100000 in
theorem gv_F {V : Int64} {a : Int32} (h : a < 1 ∨ 8 < a ∨ 4096 < x.1 2 + a) (hK : K (some (.int 0)) (mk σ0 m (sI x 0 0))) : a_C G m_M_give 0 0 [.ref m, .long V, .int a] (mk σ0 m x) K := by
  refine a_enter rfl (Nat.le_of_ble_eq_true rfl) ?_
  refine a_aload_n d_M_give_0 rfl rfl ?_
  refine a_iconst (v := 0) d_M_give_1 (by decide) ?_
  refine m_putI d_M_give_2 p_M_115 rfl rfl (by decide) ?_
  refine a_iload_n d_M_give_5 rfl rfl ?_
  refine a_iconst (v := 1) d_M_give_6 (by decide) ?_
  refine a_icmp_lt (tgt := 28) d_M_give_7 (by decide) (fun c_1 => ?_) (fun c_1 => ?_)
  · refine a_iconst (v := 0) d_M_give_28 (by decide) ?_
    exact a_ireturn d_M_give_29 rfl rfl hK
  · refine a_iload_n d_M_give_10 rfl rfl ?_
    refine a_bipush (v := 8) d_M_give_11 (by decide) ?_
    refine a_icmp_gt (tgt := 28) d_M_give_13 (by decide) (fun c_2 => ?_) (fun c_2 => ?_)
    · refine a_iconst (v := 0) d_M_give_28 (by decide) ?_
      exact a_ireturn d_M_give_29 rfl rfl hK
    · refine a_aload_n d_M_give_16 rfl rfl ?_
      refine m_get d_M_give_17 f_M_118 rfl ?_
      refine a_iload_n d_M_give_20 rfl rfl ?_
      refine a_iadd d_M_give_21 ?_
      refine a_sipush (v := 4096) d_M_give_22 (by decide) ?_
      refine a_icmp_le (tgt := 30) d_M_give_25 (by decide) (fun c_3 => ?_) (fun c_3 => ?_)
      · exact h.elim (fun z => absurd z (by assumption)) (fun z => z.elim (fun z => absurd z (by assumption)) (fun z => absurd z (Int32.not_lt.mpr (by assumption))))
      · refine a_iconst (v := 0) d_M_give_28 (by decide) ?_
        exact a_ireturn d_M_give_29 rfl rfl hK

set_option maxHeartbeats 1000000 in
set_option maxRecDepth 100000 in
theorem gv_T {V : Int64} {a : Int32} (h1 : ¬ a < 1) (h2 : ¬ 8 < a) (h3 : x.1 2 + a ≤ 4096) (hK : a_J G m_M_give 0 0 35 [(0, .ref m), (1, .long V), (4, .int (a - 1))] [] (mk σ0 m (sI x 0 0)) K) : a_C G m_M_give 0 0 [.ref m, .long V, .int a] (mk σ0 m x) K := by
  refine a_enter rfl (Nat.le_of_ble_eq_true rfl) ?_
  refine a_aload_n d_M_give_0 rfl rfl ?_
  refine a_iconst (v := 0) d_M_give_1 (by decide) ?_
  refine m_putI d_M_give_2 p_M_115 rfl rfl (by decide) ?_
  refine a_iload_n d_M_give_5 rfl rfl ?_
  refine a_iconst (v := 1) d_M_give_6 (by decide) ?_
  refine a_icmp_lt (tgt := 28) d_M_give_7 (by decide) (fun n9 => absurd n9 (h1)) (fun c_1 => ?_)
  refine a_iload_n d_M_give_10 rfl rfl ?_
  refine a_bipush (v := 8) d_M_give_11 (by decide) ?_
  refine a_icmp_gt (tgt := 28) d_M_give_13 (by decide) (fun n9 => absurd n9 (h2)) (fun c_2 => ?_)
  refine a_aload_n d_M_give_16 rfl rfl ?_
  refine m_get d_M_give_17 f_M_118 rfl ?_
  refine a_iload_n d_M_give_20 rfl rfl ?_
  refine a_iadd d_M_give_21 ?_
  refine a_sipush (v := 4096) d_M_give_22 (by decide) ?_
  refine a_icmp_le (tgt := 30) d_M_give_25 (by decide) (fun c_3 => ?_) (fun n9 => absurd (h3) n9)
  refine a_iload_n d_M_give_30 rfl rfl ?_
  refine a_iconst (v := 1) d_M_give_31 (by decide) ?_
  refine a_isub d_M_give_32 ?_
  refine a_istore d_M_give_33 (by decide) ?_
  exact a_lvk hK ⟨rfl, rfl, rfl, trivial⟩

set_option maxHeartbeats 1000000 in
set_option maxRecDepth 100000 in
theorem lp_M_give {V : Int64} : ∀ (i : Nat) {x : aX} {n : Nat} {f : Nat → Nat}, i ≤ 8 → n + i ≤ 4096 → MB x n f → (∀ z, (∀ k, ¬ k = 2 → z.1 k = x.1 k) → (∀ a, ¬ a = 1 → z.2.2.1 a = x.2.2.1 a) → z.2.2.2 = x.2.2.2 → MB z (n + i) (giveF V i n f) → K (some (.int 1)) (mk σ0 m z)) → a_J G m_M_give 0 0 35 [(0, .ref m), (1, .long V), (4, .int (nI i - 1))] [] (mk σ0 m x) K := by
  intro i
  induction i with
  | zero =>
    intro x n f hi hn hB hK
    refine a_iload d_M_give_35 rfl ?_
    refine a_if_lt (tgt := 77) d_M_give_37 (by decide) (fun c_1 => ?_) (fun n9 => absurd (by decide) n9)
    refine a_iconst (v := 1) d_M_give_77 (by decide) ?_
    exact a_ireturn d_M_give_78 rfl rfl (hK x (fun _ _ => rfl) (fun _ _ => rfl) rfl hB)
  | succ i ih =>
    intro x n f hi hn hB hK
    have ei : nI (i + 1) - 1 = nI i := by rw [show (1 : Int32) = nI 1 from rfl, nI_sub (by omega)]; rfl
    refine a_iload d_M_give_35 rfl ?_
    refine a_if_lt (tgt := 77) d_M_give_37 (by decide) (fun n9 => absurd n9 ((by rw [ei]; exact nI_pos (by omega)))) (fun c_1 => ?_)
    refine a_aload_n d_M_give_40 rfl rfl ?_
    refine m_get d_M_give_41 f_M_7 rfl ?_
    refine a_aload_n d_M_give_44 rfl rfl ?_
    refine m_get (v := .int (nI n)) d_M_give_45 f_M_118 (congrArg (fun z => some (Value.int z)) hB.1) ?_
    refine a_lload_n d_M_give_48 rfl rfl ?_
    refine a_bipush (v := 8) d_M_give_49 (by decide) ?_
    refine a_iload d_M_give_51 rfl ?_
    refine a_imul d_M_give_53 ?_
    rw [ei, show (8 : Int32) = nI 8 from rfl, pk_mul]
    refine a_lshr d_M_give_54 ?_
    refine a_ldc2 d_M_give_55 k_M_121 ?_
    refine a_land d_M_give_58 ?_
    refine a_l2i d_M_give_59 ?_
    rw [shr_byte V (show i < 8 by omega)]
    refine m_iast d_M_give_60 (by decide) rfl (vp_in_nI (show n < 4096 by omega) (by decide)) ?_
    rw [nI_clamp (show n < 2 ^ 31 by omega)]
    refine a_aload_n d_M_give_61 rfl rfl ?_
    refine a_dup d_M_give_62 rfl ?_
    refine m_get (v := .int (nI n)) d_M_give_63 f_M_118 (congrArg (fun z => some (Value.int z)) hB.1) ?_
    refine a_iconst (v := 1) d_M_give_66 (by decide) ?_
    refine a_iadd d_M_give_67 ?_
    rw [nI_1]
    refine m_putI d_M_give_68 p_M_118 rfl rfl (by decide) ?_
    refine a_iinc (c0 := -1) d_M_give_71 rfl (by decide) (by decide) ?_
    refine a_goto (tgt := 35) d_M_give_74 (by decide) ?_
    rw [show nI i + -1 = nI i - 1 from (by rw [Int32.sub_eq_add_neg])]
    refine a_lvk (ih (x := sI (sA x 1 n (nI (y_ V i))) 2 (nI (n + 1))) (n := n + 1) (f := updN f n (y_ V i)) (by omega) (by omega) ⟨rfl, by omega, fun k hk => ?_⟩ (fun z z1 z2 z3 z4 => hK z (fun k hk => (z1 k hk).trans (pk_un hk)) (fun a ha => (z2 a ha).trans (sA_ne ha)) z3 (by rw [show n + (i + 1) = n + 1 + i by omega]; exact z4))) ⟨rfl, rfl, rfl, trivial⟩
    show (sA x 1 n (nI (y_ V i))).2.2.1 1 k = nI (updN f n (y_ V i) k) ∧ updN f n (y_ V i) k < 256
    unfold updN
    by_cases e : k = n
    · rw [if_pos e, e, sA_at]; exact ⟨rfl, y_lt _ _⟩
    · rw [if_neg e, sA_un e]; exact hB.2.2 k (by omega)

/-- give -/
theorem sp_M_give {V : Int64} {a : Int32} (hB : MB x n f) (hK0 : (a < 1 ∨ 8 < a ∨ nI (4096 - n) < a) → K (some (.int 0)) (mk σ0 m (sI x 0 0))) (hK1 : ∀ j : Nat, 1 ≤ j → j ≤ 8 → n + j ≤ 4096 → a = nI j → ∀ z, (∀ k, ¬ k = 0 → ¬ k = 2 → z.1 k = x.1 k) → (∀ a, ¬ a = 1 → z.2.2.1 a = x.2.2.1 a) → z.2.2.2 = x.2.2.2 → MB z (n + j) (giveF V j n f) → K (some (.int 1)) (mk σ0 m z)) : a_C G m_M_give 0 0 [.ref m, .long V, .int a] (mk σ0 m x) K := by
  have hn := hB.2.1
  by_cases h1 : a < 1
  · exact gv_F (Or.inl h1) (hK0 (Or.inl h1))
  by_cases h2 : 8 < a
  · exact gv_F (Or.inr (Or.inl h2)) (hK0 (Or.inr (Or.inl h2)))
  have ha0 : ¬ a < 0 := fun z => h1 (Int32.lt_of_lt_of_le z (by decide))
  obtain ⟨j, hj0, rfl⟩ := nI_of ha0
  have hj : j ≤ 8 := Nat.not_lt.mp (fun z => h2 (nI_lt (a := 8) z hj0))
  have hj1 : 1 ≤ j := by
    exact Nat.not_lt.mp (fun z => h1 (nI_lt (b := 1) z (by decide)))
  by_cases h3 : n + j ≤ 4096
  · refine gv_T h1 h2 (by rw [hB.1, nI_add]; exact nI_le (b := 4096) h3 (by decide)) ?_
    exact lp_M_give j (x := sI x 0 0) (by omega) h3 hB (fun z z1 z2 z3 z4 => hK1 j hj1 (by omega) h3 rfl z (fun k k0 k2 => (z1 k k2).trans (pk_un k0)) z2 z3 z4)
  · exact gv_F (Or.inr (Or.inr (by rw [hB.1, nI_add]; exact nI_lt (a := 4096) (by omega) (by omega)))) (hK0 (Or.inr (Or.inr (nI_lt (by omega) (by omega)))))
end ModM23
