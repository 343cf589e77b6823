/-! POLICYTEXT: give, print -/
def giveF (V : Int64) : Nat → Nat → (Nat → Nat) → (Nat → Nat)
  | 0, _, f => f
  | i + 1, n, f => giveF V i (n + 1) (updN f n (y_ V i))
theorem give_byte (V : Int64) {i : Nat} (hi : i < 8) : (((V.toUInt64 >>> ((nI (8 * i)).toInt64.toUInt64 &&& Int64.toUInt64 63)).toInt64).toInt32).toBitVec.toNat % 256 = y_ V i := by
  obtain ⟨a, ha, rfl⟩ := wb_of V
  rw [wb_shr ha (by omega), lN_i, nI_bv, y_lN ha, Nat.mod_mod_of_dvd _ (by decide)]
section ModX3
variable {G : aG} {σ : aS} {K : Option Value → aS → Prop} {X n m : Nat} {f g : Nat → Nat} {q : aP} {l : aC} {ft pl : Int32}
set_option maxHeartbeats 1000000 in
set_option maxRecDepth 100000 in
theorem lp_X_give {V : Int64} : ∀ (i : Nat) {σ : aS} {n : Nat} {f : Nat → Nat}, i ≤ 8 → XS σ X n f m g q l ft pl → n + i ≤ 4096 → (∀ τ, a_fr σ τ X (X + 34) → XS τ X (n + i) (giveF V i n f) m g q l ft pl → K (some (.int 1)) τ) → a_J G m_X_give 2 46 32 [(0, .ref X), (1, .long V), (4, .int (nI (8 * i) - 8))] [] σ K := by
  intro i
  induction i with
  | zero =>
    intro σ n f hi hX hn hK
    obtain ⟨pr, dr, p, sp, n2, g2, q2, p0, k0, rf, tp, gp, h1, h2, h3, h4, h5, h6, h7, h8, h9, h10, h11, h12, h13, h14⟩ := id hX
    obtain ⟨w1, hb1, -⟩ := id h4
    obtain ⟨w2, hb2, -⟩ := id h5
    obtain ⟨w3, hb3, -⟩ := id h6
    have hp0 := h7.1
    have hs0 := h8.1
    have hr0 := h9.1
    have hc0 : σ.2.2 (X + 33) = some (.inr (1, [.int l.1, .int l.2.1, .int l.2.2.1, .int l.2.2.2])) := h11
    refine a_iload d_X_give_32 rfl ?_
    refine a_if_lt (tgt := 56) d_X_give_34 (by decide) (fun c_1 => ?_) (fun n9 => absurd (by decide) n9)
    refine a_iconst (v := 1) d_X_give_56 (by decide) ?_
    exact a_ireturn d_X_give_57 rfl rfl (hK σ a_fr.rf hX)
  | succ i ih =>
    intro σ n f hi hX hn hK
    obtain ⟨pr, dr, p, sp, n2, g2, q2, p0, k0, rf, tp, gp, h1, h2, h3, h4, h5, h6, h7, h8, h9, h10, h11, h12, h13, h14⟩ := id hX
    obtain ⟨w1, hb1, -⟩ := id h4
    obtain ⟨w2, hb2, -⟩ := id h5
    obtain ⟨w3, hb3, -⟩ := id h6
    have hp0 := h7.1
    have hs0 := h8.1
    have hr0 := h9.1
    have hc0 : σ.2.2 (X + 33) = some (.inr (1, [.int l.1, .int l.2.1, .int l.2.2.1, .int l.2.2.2])) := h11
    have ei : nI (8 * (i + 1)) - 8 = nI (8 * i) := by have e8 : 8 * (i + 1) - 8 = 8 * i := (by omega); rw [show (8 : Int32) = nI 8 from rfl, nI_sub (by omega), e8]
    refine a_iload d_X_give_32 rfl ?_
    refine a_if_lt (tgt := 56) d_X_give_34 (by decide) (fun n9 => absurd n9 (by rw [ei]; exact nI_pos (by omega))) (fun c_1 => ?_)
    rw [ei]
    refine a_aload_n d_X_give_37 rfl rfl ?_
    apply a_getfield d_X_give_38 f_X_14
    · (repeat (first | with_reducible assumption | with_reducible exact a_us | with_reducible exact a_ns | refine a_un (by first | with_reducible assumption | omega) ?_ | refine a_nn (by first | with_reducible assumption | omega | (simp only [a_upd_1, a_new_1]; omega)) ?_ | exact a_us | exact a_ns))
    · rfl
    refine a_lload_n d_X_give_41 rfl rfl ?_
    refine a_iload d_X_give_42 rfl ?_
    refine a_lushr d_X_give_44 ?_
    refine a_l2i d_X_give_45 ?_
    apply a_callV (ci := 0) 1 25 [_] _ d_X_give_46 l_X_58 ⟨im_B_add, se_B_add⟩ rfl rfl rfl rfl (Nat.le_of_ble_eq_true rfl) ⟨Nat.le_of_ble_eq_true rfl, Nat.le_of_ble_eq_true rfl⟩
    · (repeat (first | with_reducible assumption | with_reducible exact a_us | with_reducible exact a_ns | refine a_un (by first | with_reducible assumption | omega) ?_ | refine a_nn (by first | with_reducible assumption | omega | (simp only [a_upd_1, a_new_1]; omega)) ?_ | exact a_us | exact a_ns))
    refine sp_B_add h4 (fun e => absurd e (by omega)) (fun _ τ hf2 hB2 => ?_)
    rw [give_byte V (by omega)] at hB2
    refine a_pop d_X_give_49 rfl ?_
    refine a_iinc (c0 := -8) d_X_give_50 rfl (by decide) (by decide) ?_
    refine a_goto (tgt := 32) d_X_give_53 (by decide) ?_
    rw [show nI (8 * i) + -8 = nI (8 * i) - 8 from (by rw [Int32.sub_eq_add_neg])]
    exact a_lvk (ih (by omega) (hX.text hf2 hB2) (by omega) (fun τ2 hf3 hX3 => hK τ2 (a_fr.trans (hf2.wide (by omega) (by omega)) hf3) (by rw [show n + (i + 1) = n + 1 + i by omega]; exact hX3))) ⟨rfl, rfl, rfl, trivial⟩

set_option maxHeartbeats 1000000 in
set_option maxRecDepth 100000 in
theorem sp_X_give {V : Int64} {a : Int32} (hX : XS σ X n f m g q l ft pl) (hK0 : (a < 1 ∨ 8 < a ∨ nI (4096 - n) < a) → K (some (.int 0)) σ) (hK1 : ∀ j : Nat, 1 ≤ j → j ≤ 8 → n + j ≤ 4096 → a = nI j → ∀ τ, a_fr σ τ X (X + 34) → XS τ X (n + j) (giveF V j n f) m g q l ft pl → K (some (.int 1)) τ) : a_C G m_X_give 2 46 [.ref X, .long V, .int a] σ K := by
  obtain ⟨pr, dr, p, sp, n2, g2, q2, p0, k0, rf, tp, gp, h1, h2, h3, h4, h5, h6, h7, h8, h9, h10, h11, h12, h13, h14⟩ := id hX
  obtain ⟨w1, hb1, -⟩ := id h4
  obtain ⟨w2, hb2, -⟩ := id h5
  obtain ⟨w3, hb3, -⟩ := id h6
  have hp0 := h7.1
  have hs0 := h8.1
  have hr0 := h9.1
  have hc0 : σ.2.2 (X + 33) = some (.inr (1, [.int l.1, .int l.2.1, .int l.2.2.1, .int l.2.2.2])) := h11
  refine a_enter rfl (Nat.le_of_ble_eq_true rfl) ?_
  refine a_iload_n d_X_give_0 rfl rfl ?_
  refine a_iconst (v := 1) d_X_give_1 (by decide) ?_
  refine a_icmp_lt (tgt := 22) d_X_give_2 (by decide) (fun c_1 => ?_) (fun c_1 => ?_)
  · refine a_iconst (v := 0) d_X_give_22 (by decide) ?_
    exact a_ireturn d_X_give_23 rfl rfl (hK0 (by first | exact Or.inl (by assumption) | exact Or.inr (Or.inl (by assumption)) | exact Or.inr (Or.inr (Int32.not_le.mp (by assumption)))))
  · refine a_iload_n d_X_give_5 rfl rfl ?_
    refine a_bipush (v := 8) d_X_give_6 (by decide) ?_
    refine a_icmp_gt (tgt := 22) d_X_give_8 (by decide) (fun c_2 => ?_) (fun c_2 => ?_)
    · refine a_iconst (v := 0) d_X_give_22 (by decide) ?_
      exact a_ireturn d_X_give_23 rfl rfl (hK0 (by first | exact Or.inl (by assumption) | exact Or.inr (Or.inl (by assumption)) | exact Or.inr (Or.inr (Int32.not_le.mp (by assumption)))))
    · refine a_iload_n d_X_give_11 rfl rfl ?_
      refine a_aload_n d_X_give_12 rfl rfl ?_
      apply a_getfield d_X_give_13 f_X_14
      · (repeat (first | with_reducible assumption | with_reducible exact a_us | with_reducible exact a_ns | refine a_un (by first | with_reducible assumption | omega) ?_ | refine a_nn (by first | with_reducible assumption | omega | (simp only [a_upd_1, a_new_1]; omega)) ?_ | exact a_us | exact a_ns))
      · rfl
      apply a_callV (ci := 0) 0 0 [] _ d_X_give_16 l_X_54 ⟨im_B_free, se_B_free⟩ rfl rfl rfl rfl (Nat.le_of_ble_eq_true rfl) ⟨Nat.le_of_ble_eq_true rfl, Nat.le_of_ble_eq_true rfl⟩
      · (repeat (first | with_reducible assumption | with_reducible exact a_us | with_reducible exact a_ns | refine a_un (by first | with_reducible assumption | omega) ?_ | refine a_nn (by first | with_reducible assumption | omega | (simp only [a_upd_1, a_new_1]; omega)) ?_ | exact a_us | exact a_ns))
      refine sp_B_free h4 ?_
      refine a_icmp_le (tgt := 24) d_X_give_19 (by decide) (fun c_3 => ?_) (fun c_3 => ?_)
      · refine a_bipush (v := 8) d_X_give_24 (by decide) ?_
        refine a_iload_n d_X_give_26 rfl rfl ?_
        refine a_iconst (v := 1) d_X_give_27 (by decide) ?_
        refine a_isub d_X_give_28 ?_
        refine a_imul d_X_give_29 ?_
        refine a_istore d_X_give_30 (by decide) ?_
        obtain ⟨j, hj8, rfl⟩ := nI_of2 (x := a) (M := 8) (n := 8) rfl (fun e => absurd (Int32.lt_trans e (show (0 : Int32) < 1 by decide)) (by assumption)) (Int32.not_lt.mp (by assumption))
        have hj1 : 1 ≤ j := Nat.pos_of_ne_zero (fun e => by subst e; exact absurd (show nI 0 < 1 by decide) (by assumption))
        have hfr : j ≤ 4096 - n := (nI_leI (by omega) (by omega)).mp (by assumption)
        have hn4 : n ≤ 4096 := by obtain ⟨w9, -, -, h9b, -⟩ := id h4; exact h9b
        have es : (8 : Int32) * (nI j - 1) = nI (8 * j) - 8 := by rw [show (1 : Int32) = nI 1 from rfl, nI_sub hj1, show (8 : Int32) = nI 8 from rfl, pk_mul, nI_sub (by omega)]; congr 1; omega
        rw [es]
        exact a_lvk (lp_X_give (V := V) j hj8 hX (by omega) (fun τ hf2 hX2 => hK1 j hj1 hj8 (by omega) rfl τ hf2 hX2)) ⟨rfl, rfl, rfl, trivial⟩
      · refine a_iconst (v := 0) d_X_give_22 (by decide) ?_
        exact a_ireturn d_X_give_23 rfl rfl (hK0 (by first | exact Or.inl (by assumption) | exact Or.inr (Or.inl (by assumption)) | exact Or.inr (Or.inr (Int32.not_le.mp (by assumption)))))

/-- the lists that counters and nodes print to -/
def cTT (q : aP) (w : Int32) (k i : Nat) : Nat := (clpart q w (nI k) (nI i) 1).toNatClampNeg
def prC (q : aP) : Nat → Nat → List Nat
  | 0, _ => []
  | m + 1, k => coB q (nI k) (cTT q 0 k) (cpart q (nI k) 1).toNatClampNeg ++ prC q m (k + 1)
def prN (q : aP) : Nat → Nat → List Nat
  | 0, _ => []
  | m + 1, k => ndB q (nI k) (cTT q 1 k) (npart q (nI k) 0).toNatClampNeg ++ prN q m (k + 1)
def prA (q : aP) : List Nat := prC q q.1.1 0 ++ prN q q.1.2.1 0
theorem cTT_ok (hq : PI q) {w : Int32} {k i : Nat} (h : ¬ crow q w (nI k) (nI i) = -1) : clpart q w (nI k) (nI i) 1 = nI (cTT q w k i) ∧ cTT q w k i ≤ 4 := by
  obtain ⟨c, hc, e⟩ := crow_in hq h
  obtain ⟨t, ht, et⟩ := hq.2.2.2.2 c hc
  have e2 : clpart q w (nI k) (nI i) 1 = nI t := by
    rw [clpart, if_neg h, if_neg (by decide), if_pos rfl, e, nI_clamp (by omega)]; exact et
  unfold cTT
  rw [e2, nI_clamp (by omega)]; exact ⟨rfl, ht⟩
def FRp (σ τ : aS) (w o : Nat) : Prop := τ.1 = σ.1 + 1 ∧ τ.2.1 = σ.2.1 + 3 ∧ ∀ a, a ≠ w → a ≠ o → a ≠ o + 1 → τ.2.2 a = σ.2.2 a
set_option maxHeartbeats 1000000 in
set_option maxRecDepth 100000 in
theorem lp_X_printC {p dr w X : Nat} {FS : List Value} (hdw : dr + 1 < w ∧ p + 11 ≤ w ∧ X < p ∧ X < dr) (hd2 : dr + 1 < p ∨ p + 11 ≤ dr) (hfs : FS[5]? = some (.ref p)) (hq : PI q) : ∀ (m k : Nat) {τ : aS} (s : aW), k + m = q.1.1 → FRp σ τ w dr → PO τ p q → WR τ w p dr 8192 s → τ.2.2 X = some (.inr (6, FS)) → (∀ τ, FRp σ τ w dr → PO τ p q → WR τ w p dr 8192 (putL 8192 s (prC q m k)) → τ.2.2 X = some (.inr (6, FS)) → a_J G m_X_print 8 181 50 [(0, .ref X), (1, .ref w)] [] τ K) → a_J G m_X_print 8 181 27 [(0, .ref X), (1, .ref w), (2, .int (nI k))] [] τ K := by
  have q6 := hq.1
  have q24 := hq.2.1
  intro m
  induction m with
  | zero =>
    intro k τ s hkm hF hP hW hX0 hJ
    have hp0 := hP.1
    have hw0 := hW.1
    refine a_iload_n d_X_print_27 rfl rfl ?_
    refine a_aload_n d_X_print_28 rfl rfl ?_
    apply a_getfield d_X_print_29 f_X_27
    · (repeat (first | with_reducible assumption | with_reducible exact a_us | with_reducible exact a_ns | refine a_un (by first | with_reducible assumption | omega) ?_ | refine a_nn (by first | with_reducible assumption | omega | (simp only [a_upd_1, a_new_1]; omega)) ?_ | exact a_us | exact a_ns))
    · first | rfl | exact hfs
    refine a_iconst (v := 0) d_X_print_32 (by decide) ?_
    apply a_callV (ci := 2) 0 0 [_] _ d_X_print_33 l_X_78 ⟨im_P_heads, se_P_heads⟩ rfl rfl rfl rfl (Nat.le_of_ble_eq_true rfl) ⟨Nat.le_of_ble_eq_true rfl, Nat.le_of_ble_eq_true rfl⟩
    · (repeat (first | with_reducible assumption | with_reducible exact a_us | with_reducible exact a_ns | refine a_un (by first | with_reducible assumption | omega) ?_ | refine a_nn (by first | with_reducible assumption | omega | (simp only [a_upd_1, a_new_1]; omega)) ?_ | exact a_us | exact a_ns))
    refine sp_P_heads hP ?_
    rw [show hcnt q 0 = q.1.1 from by rw [hcnt, if_pos rfl]]
    refine a_icmp_ge (tgt := 50) d_X_print_36 (by decide) (fun c_1 => ?_) (fun n9 => absurd (nI_le (by omega) (by omega)) n9)
    exact a_lvk (hJ τ hF hP hW hX0) ⟨rfl, rfl, trivial⟩
  | succ m ih =>
    intro k τ s hkm hF hP hW hX0 hJ
    have hp0 := hP.1
    have hw0 := hW.1
    refine a_iload_n d_X_print_27 rfl rfl ?_
    refine a_aload_n d_X_print_28 rfl rfl ?_
    apply a_getfield d_X_print_29 f_X_27
    · (repeat (first | with_reducible assumption | with_reducible exact a_us | with_reducible exact a_ns | refine a_un (by first | with_reducible assumption | omega) ?_ | refine a_nn (by first | with_reducible assumption | omega | (simp only [a_upd_1, a_new_1]; omega)) ?_ | exact a_us | exact a_ns))
    · first | rfl | exact hfs
    refine a_iconst (v := 0) d_X_print_32 (by decide) ?_
    apply a_callV (ci := 2) 0 0 [_] _ d_X_print_33 l_X_78 ⟨im_P_heads, se_P_heads⟩ rfl rfl rfl rfl (Nat.le_of_ble_eq_true rfl) ⟨Nat.le_of_ble_eq_true rfl, Nat.le_of_ble_eq_true rfl⟩
    · (repeat (first | with_reducible assumption | with_reducible exact a_us | with_reducible exact a_ns | refine a_un (by first | with_reducible assumption | omega) ?_ | refine a_nn (by first | with_reducible assumption | omega | (simp only [a_upd_1, a_new_1]; omega)) ?_ | exact a_us | exact a_ns))
    refine sp_P_heads hP ?_
    rw [show hcnt q 0 = q.1.1 from by rw [hcnt, if_pos rfl]]
    refine a_icmp_ge (tgt := 50) d_X_print_36 (by decide) (fun n9 => absurd n9 (nI_ge (by omega) (by omega))) (fun c_1 => ?_)
    refine a_aload_n d_X_print_39 rfl rfl ?_
    refine a_iload_n d_X_print_40 rfl rfl ?_
    apply a_callV (ci := 3) 7 158 [_] _ d_X_print_41 l_X_82 ⟨im_W_writeCounter, se_W_writeCounter⟩ rfl rfl rfl rfl (Nat.le_of_ble_eq_true rfl) ⟨Nat.le_of_ble_eq_true rfl, Nat.le_of_ble_eq_true rfl⟩
    · (repeat (first | with_reducible assumption | with_reducible exact a_us | with_reducible exact a_ns | refine a_un (by first | with_reducible assumption | omega) ?_ | refine a_nn (by first | with_reducible assumption | omega | (simp only [a_upd_1, a_new_1]; omega)) ?_ | exact a_us | exact a_ns))
    have hk : k < q.1.1 := by omega
    obtain ⟨c, hc4, hc⟩ := hq.2.2.1 k (by omega)
    have hct : cpart q (nI k) 1 = nI c := (cpart_c hq hk).2.1.trans hc
    refine sp_W_writeCounter (T := cTT q 0 k) (c := c) (by omega) (by omega) (by omega) hct (by omega) (fun i hi => cTT_ok hq (by rw [crow_c hq hk hc hi (by omega)]; exact nI_m1 (by omega))) hP hW (fun υ hf2 hW2 => ?_)
    have hP2 : PO υ p q := hP.of (fun i hi => hf2.2.2 _ (by omega) (by omega) (by omega))
    have hX2 : υ.2.2 X = some (.inr (6, FS)) := (hf2.2.2 X (by omega) (by omega) (by omega)).trans hX0
    have hF2 : FRp σ υ w dr := ⟨hf2.1.trans hF.1, hf2.2.1.trans hF.2.1, fun a h1 h2 h3 => (hf2.2.2 a h1 h2 h3).trans (hF.2.2 a h1 h2 h3)⟩
    refine a_iinc (c0 := 1) d_X_print_44 rfl (by decide) (by decide) ?_
    refine a_goto (tgt := 27) d_X_print_47 (by decide) ?_
    rw [nI_1]
    refine a_lvk (l := [(0, .ref X), (1, .ref w), (2, .int (nI (k + 1)))]) (ih (k + 1) _ (by omega) hF2 hP2 hW2 hX2 (fun τ2 hF3 hP3 hW3 hX3 => hJ τ2 hF3 hP3 ?_ hX3)) ⟨rfl, rfl, rfl, trivial⟩
    rw [prC, putL_app, hct, nI_clamp (by omega)]
    exact hW3

set_option maxHeartbeats 1000000 in
set_option maxRecDepth 100000 in
theorem lp_X_printN {p dr w X : Nat} {FS : List Value} (hdw : dr + 1 < w ∧ p + 11 ≤ w ∧ X < p ∧ X < dr) (hd2 : dr + 1 < p ∨ p + 11 ≤ dr) (hfs : FS[5]? = some (.ref p)) (hq : PI q) : ∀ (m k : Nat) {τ : aS} (s : aW), k + m = q.1.2.1 → FRp σ τ w dr → PO τ p q → WR τ w p dr 8192 s → τ.2.2 X = some (.inr (6, FS)) → (∀ τ, FRp σ τ w dr → PO τ p q → WR τ w p dr 8192 (putL 8192 s (prN q m k)) → τ.2.2 X = some (.inr (6, FS)) → a_J G m_X_print 8 181 75 [(0, .ref X), (1, .ref w)] [] τ K) → a_J G m_X_print 8 181 52 [(0, .ref X), (1, .ref w), (2, .int (nI k))] [] τ K := by
  have q6 := hq.1
  have q24 := hq.2.1
  intro m
  induction m with
  | zero =>
    intro k τ s hkm hF hP hW hX0 hJ
    have hp0 := hP.1
    have hw0 := hW.1
    refine a_iload_n d_X_print_52 rfl rfl ?_
    refine a_aload_n d_X_print_53 rfl rfl ?_
    apply a_getfield d_X_print_54 f_X_27
    · (repeat (first | with_reducible assumption | with_reducible exact a_us | with_reducible exact a_ns | refine a_un (by first | with_reducible assumption | omega) ?_ | refine a_nn (by first | with_reducible assumption | omega | (simp only [a_upd_1, a_new_1]; omega)) ?_ | exact a_us | exact a_ns))
    · first | rfl | exact hfs
    refine a_iconst (v := 1) d_X_print_57 (by decide) ?_
    apply a_callV (ci := 2) 0 0 [_] _ d_X_print_58 l_X_78 ⟨im_P_heads, se_P_heads⟩ rfl rfl rfl rfl (Nat.le_of_ble_eq_true rfl) ⟨Nat.le_of_ble_eq_true rfl, Nat.le_of_ble_eq_true rfl⟩
    · (repeat (first | with_reducible assumption | with_reducible exact a_us | with_reducible exact a_ns | refine a_un (by first | with_reducible assumption | omega) ?_ | refine a_nn (by first | with_reducible assumption | omega | (simp only [a_upd_1, a_new_1]; omega)) ?_ | exact a_us | exact a_ns))
    refine sp_P_heads hP ?_
    rw [show hcnt q 1 = q.1.2.1 from by rw [hcnt, if_neg (by decide)]]
    refine a_icmp_ge (tgt := 75) d_X_print_61 (by decide) (fun c_1 => ?_) (fun n9 => absurd (nI_le (by omega) (by omega)) n9)
    exact a_lvk (hJ τ hF hP hW hX0) ⟨rfl, rfl, trivial⟩
  | succ m ih =>
    intro k τ s hkm hF hP hW hX0 hJ
    have hp0 := hP.1
    have hw0 := hW.1
    refine a_iload_n d_X_print_52 rfl rfl ?_
    refine a_aload_n d_X_print_53 rfl rfl ?_
    apply a_getfield d_X_print_54 f_X_27
    · (repeat (first | with_reducible assumption | with_reducible exact a_us | with_reducible exact a_ns | refine a_un (by first | with_reducible assumption | omega) ?_ | refine a_nn (by first | with_reducible assumption | omega | (simp only [a_upd_1, a_new_1]; omega)) ?_ | exact a_us | exact a_ns))
    · first | rfl | exact hfs
    refine a_iconst (v := 1) d_X_print_57 (by decide) ?_
    apply a_callV (ci := 2) 0 0 [_] _ d_X_print_58 l_X_78 ⟨im_P_heads, se_P_heads⟩ rfl rfl rfl rfl (Nat.le_of_ble_eq_true rfl) ⟨Nat.le_of_ble_eq_true rfl, Nat.le_of_ble_eq_true rfl⟩
    · (repeat (first | with_reducible assumption | with_reducible exact a_us | with_reducible exact a_ns | refine a_un (by first | with_reducible assumption | omega) ?_ | refine a_nn (by first | with_reducible assumption | omega | (simp only [a_upd_1, a_new_1]; omega)) ?_ | exact a_us | exact a_ns))
    refine sp_P_heads hP ?_
    rw [show hcnt q 1 = q.1.2.1 from by rw [hcnt, if_neg (by decide)]]
    refine a_icmp_ge (tgt := 75) d_X_print_61 (by decide) (fun n9 => absurd n9 (nI_ge (by omega) (by omega))) (fun c_1 => ?_)
    refine a_aload_n d_X_print_64 rfl rfl ?_
    refine a_iload_n d_X_print_65 rfl rfl ?_
    apply a_callV (ci := 3) 7 158 [_] _ d_X_print_66 l_X_85 ⟨im_W_writeNode, se_W_writeNode⟩ rfl rfl rfl rfl (Nat.le_of_ble_eq_true rfl) ⟨Nat.le_of_ble_eq_true rfl, Nat.le_of_ble_eq_true rfl⟩
    · (repeat (first | with_reducible assumption | with_reducible exact a_us | with_reducible exact a_ns | refine a_un (by first | with_reducible assumption | omega) ?_ | refine a_nn (by first | with_reducible assumption | omega | (simp only [a_upd_1, a_new_1]; omega)) ?_ | exact a_us | exact a_ns))
    have hk : k < q.1.2.1 := by omega
    obtain ⟨c, hc4, hc⟩ := hq.2.2.2.1 k (by omega)
    have hct : npart q (nI k) 0 = nI c := (npart_n hq hk).trans hc
    refine sp_W_writeNode (T := cTT q 1 k) (c := c) (by omega) (by omega) (by omega) hct (by omega) (fun i hi => cTT_ok hq (by rw [crow_n (by decide) hq hk hc hi (by omega)]; exact nI_m1 (by omega))) hP hW (fun υ hf2 hW2 => ?_)
    have hP2 : PO υ p q := hP.of (fun i hi => hf2.2.2 _ (by omega) (by omega) (by omega))
    have hX2 : υ.2.2 X = some (.inr (6, FS)) := (hf2.2.2 X (by omega) (by omega) (by omega)).trans hX0
    have hF2 : FRp σ υ w dr := ⟨hf2.1.trans hF.1, hf2.2.1.trans hF.2.1, fun a h1 h2 h3 => (hf2.2.2 a h1 h2 h3).trans (hF.2.2 a h1 h2 h3)⟩
    refine a_iinc (c0 := 1) d_X_print_69 rfl (by decide) (by decide) ?_
    refine a_goto (tgt := 52) d_X_print_72 (by decide) ?_
    rw [nI_1]
    refine a_lvk (l := [(0, .ref X), (1, .ref w), (2, .int (nI (k + 1)))]) (ih (k + 1) _ (by omega) hF2 hP2 hW2 hX2 (fun τ2 hF3 hP3 hW3 hX3 => hJ τ2 hF3 hP3 ?_ hX3)) ⟨rfl, rfl, rfl, trivial⟩
    rw [prN, putL_app, hct, nI_clamp (by omega)]
    exact hW3

set_option maxHeartbeats 1000000 in
set_option maxRecDepth 100000 in
theorem sp_X_print (hX : XS σ X n f m g q l ft pl) (hXs : X + 34 ≤ σ.1) (hK0 : ∀ (g2 : Nat → Nat), (putL 8192 (0, g2, true) (prA q)).2.2 = false → ∀ τ, τ.1 = σ.1 + 1 → τ.2.1 = σ.2.1 + 3 → (∀ a, (a < X ∨ X + 34 ≤ a) → a ≠ σ.1 → τ.2.2 a = σ.2.2 a) → XS τ X n f m g q l ft pl → K (some (.int (-1))) τ) (hK1 : ∀ (g2 : Nat → Nat), (putL 8192 (0, g2, true) (prA q)).2.2 = true → ∀ τ, τ.1 = σ.1 + 1 → τ.2.1 = σ.2.1 + 3 → (∀ a, (a < X ∨ X + 34 ≤ a) → a ≠ σ.1 → τ.2.2 a = σ.2.2 a) → XS τ X n f (putL 8192 (0, g2, true) (prA q)).1 (putL 8192 (0, g2, true) (prA q)).2.1 q l ft pl → K (some (.int (nI (putL 8192 (0, g2, true) (prA q)).1))) τ) : a_C G m_X_print 8 181 [.ref X] σ K := by
  obtain ⟨pr, dr, p, sp, n2, g2, q2, p0, k0, rf, tp, gp, h1, h2, h3, h4, h5, h6, h7, h8, h9, h10, h11, h12, h13, h14⟩ := id hX
  obtain ⟨w1, hb1, -⟩ := id h4
  obtain ⟨w2, hb2, -⟩ := id h5
  obtain ⟨w3, hb3, -⟩ := id h6
  have hp0 := h7.1
  have hs0 := h8.1
  have hr0 := h9.1
  have hc0 : σ.2.2 (X + 33) = some (.inr (1, [.int l.1, .int l.2.1, .int l.2.2.1, .int l.2.2.2])) := h11
  have hn2 : n2 < 2 ^ 31 := by obtain ⟨w9, -, -, h9b, -⟩ := id h6; omega
  have hK0 := hK0 g2
  have hK1 := hK1 g2
  refine a_enter rfl (Nat.le_of_ble_eq_true rfl) ?_
  refine a_aload_n d_X_print_0 rfl rfl ?_
  apply a_getfield d_X_print_1 f_X_21
  · (repeat (first | with_reducible assumption | with_reducible exact a_us | with_reducible exact a_ns | refine a_un (by first | with_reducible assumption | omega) ?_ | refine a_nn (by first | with_reducible assumption | omega | (simp only [a_upd_1, a_new_1]; omega)) ?_ | exact a_us | exact a_ns))
  · rfl
  refine a_iconst (v := 0) d_X_print_4 (by decide) ?_
  apply a_callV (ci := 0) 0 0 [_] _ d_X_print_5 l_X_62 ⟨im_B_shorten, se_B_shorten⟩ rfl rfl rfl rfl (Nat.le_of_ble_eq_true rfl) ⟨Nat.le_of_ble_eq_true rfl, Nat.le_of_ble_eq_true rfl⟩
  · (repeat (first | with_reducible assumption | with_reducible exact a_us | with_reducible exact a_ns | refine a_un (by first | with_reducible assumption | omega) ?_ | refine a_nn (by first | with_reducible assumption | omega | (simp only [a_upd_1, a_new_1]; omega)) ?_ | exact a_us | exact a_ns))
  refine sp_B_shorten h6 (fun e => absurd e (by rintro (e | e); exact absurd e (by decide); exact absurd e (nI_nlt (b := 0) (Nat.zero_le _) hn2))) (fun j hj e τ hf2 hB2 => ?_)
  obtain rfl : j = 0 := (nI_eq (by omega) (by decide)).mp (e.symm.trans rfl)
  have e1 : τ.1 = σ.1 := hf2.1
  have hX0 : τ.2.2 X = some (.inr (6, [.ref (X + 1), .ref (X + 29), .ref (X + 33), .ref pr, .ref dr, .ref p, .ref sp])) := (hf2.2.2 X (by omega)).trans h3
  refine a_pop d_X_print_8 rfl ?_
  refine a_newobj d_X_print_9 n_X_73 ?_
  have hX1 := hX0
  refine a_dup d_X_print_12 rfl ?_
  refine a_aload_n d_X_print_13 rfl rfl ?_
  apply a_getfield d_X_print_14 f_X_27
  · (repeat (first | with_reducible assumption | with_reducible exact a_us | with_reducible exact a_ns | refine a_un (by first | with_reducible assumption | omega) ?_ | refine a_nn (by first | with_reducible assumption | omega | (simp only [a_upd_1, a_new_1]; omega)) ?_ | exact a_us | exact a_ns))
  · rfl
  refine a_aload_n d_X_print_17 rfl rfl ?_
  apply a_getfield d_X_print_18 f_X_21
  · (repeat (first | with_reducible assumption | with_reducible exact a_us | with_reducible exact a_ns | refine a_un (by first | with_reducible assumption | omega) ?_ | refine a_nn (by first | with_reducible assumption | omega | (simp only [a_upd_1, a_new_1]; omega)) ?_ | exact a_us | exact a_ns))
  · rfl
  refine a_callI 1 20 [_, _] _ d_X_print_21 l_X_75 im_W_init rfl rfl rfl (Nat.le_of_ble_eq_true rfl) ⟨Nat.le_of_ble_eq_true rfl, Nat.le_of_ble_eq_true rfl⟩ ?_
  refine sp_W_init (w := τ.1) (p := p) (o := dr) a_ns (fun υ hf3 hw3 => ?_)
  have hoth : ∀ a, a ≠ τ.1 → υ.2.2 a = τ.2.2 a := fun a ha => (hf3.2.2 a (by omega)).trans (a_nn ha rfl)
  have hF : FRp σ υ τ.1 dr := ⟨hf3.1.trans (by show τ.1 + 1 = σ.1 + 1; omega), hf3.2.1.trans (by show τ.2.1 + 3 = σ.2.1 + 3; rw [hf2.2.1]), fun a g1 g2 g3 => (hoth a g1).trans (hf2.2.2 a (by omega))⟩
  have hX2 : υ.2.2 X = some (.inr (6, [.ref (X + 1), .ref (X + 29), .ref (X + 33), .ref pr, .ref dr, .ref p, .ref sp])) := (hoth X (by omega)).trans hX0
  have hP2 : PO υ p q := (h7.fr hf2 (by omega)).of (fun i hi => hoth _ (by omega))
  have hW2 : WR υ τ.1 p dr 8192 (0, g2, true) := ⟨hw3, hB2.of (hoth _ (by omega)) (hoth _ (by omega))⟩
  refine a_astore_n d_X_print_24 rfl (by decide) ?_
  refine a_iconst (v := 0) d_X_print_25 (by decide) ?_
  refine a_istore_n d_X_print_26 rfl (by decide) ?_
  refine a_lvk (l := [(0, .ref X), (1, .ref τ.1), (2, .int (nI 0))]) (lp_X_printC (p := p) (dr := dr) (w := τ.1) (X := X) (by omega) (by omega) rfl h7.2.2.2.2.2.2.2.2.2.2.2 q.1.1 0 _ (by omega) hF hP2 hW2 hX2 (fun τ3 hF3 hP3 hW3 hX3 => ?_)) ⟨rfl, rfl, rfl, trivial⟩
  refine a_iconst (v := 0) d_X_print_50 (by decide) ?_
  refine a_istore_n d_X_print_51 rfl (by decide) ?_
  refine a_lvk (l := [(0, .ref X), (1, .ref τ.1), (2, .int (nI 0))]) (lp_X_printN (p := p) (dr := dr) (w := τ.1) (X := X) (by omega) (by omega) rfl h7.2.2.2.2.2.2.2.2.2.2.2 q.1.2.1 0 _ (by omega) hF3 hP3 hW3 hX3 (fun τ4 hF4 hP4 hW4 hX4 => ?_)) ⟨rfl, rfl, rfl, trivial⟩
  rw [← putL_app] at hW4
  have hW5 : WR τ4 τ.1 p dr 8192 (putL 8192 (0, g2, true) (prA q)) := hW4
  have hw50 := hW5.1
  obtain ⟨w5, hb5, -⟩ := id hW5.2
  have hnw : narrow FieldType.boolean (Value.int (bI (putL 8192 (0, g2, true) (prA q)).2.2)) = Value.int (bI (putL 8192 (0, g2, true) (prA q)).2.2) := by cases (putL 8192 (0, g2, true) (prA q)).2.2 <;> rfl
  have hob : ∀ a, a ≠ τ.1 → a ≠ dr → a ≠ dr + 1 → τ4.2.2 a = σ.2.2 a := hF4.2.2
  refine a_aload_n d_X_print_75 rfl rfl ?_
  apply a_callV (ci := 3) 0 0 [] _ d_X_print_76 l_X_88 ⟨im_W_hasFitted, se_W_hasFitted⟩ rfl rfl rfl rfl (Nat.le_of_ble_eq_true rfl) ⟨Nat.le_of_ble_eq_true rfl, Nat.le_of_ble_eq_true rfl⟩
  · (repeat (first | with_reducible assumption | with_reducible exact a_us | with_reducible exact a_ns | refine a_un (by first | with_reducible assumption | omega) ?_ | refine a_nn (by first | with_reducible assumption | omega | (simp only [a_upd_1, a_new_1]; omega)) ?_ | exact a_us | exact a_ns))
  refine a_enter rfl (Nat.le_of_ble_eq_true rfl) ?_
  refine a_aload_n d_W_hasFitted_0 rfl rfl ?_
  apply a_getfield d_W_hasFitted_1 f_W_19
  · (repeat (first | with_reducible assumption | with_reducible exact a_us | with_reducible exact a_ns | refine a_un (by first | with_reducible assumption | omega) ?_ | refine a_nn (by first | with_reducible assumption | omega | (simp only [a_upd_1, a_new_1]; omega)) ?_ | exact a_us | exact a_ns))
  · rfl
  refine a_ireturn d_W_hasFitted_4 rfl (by first | rfl | assumption) ?_
  refine a_if_ne (tgt := 84) d_X_print_79 (by decide) (fun c_1 => ?_) (fun c_1 => ?_)
  · refine a_aload_n d_X_print_84 rfl rfl ?_
    apply a_getfield d_X_print_85 f_X_18
    · (repeat (first | with_reducible assumption | with_reducible exact a_us | with_reducible exact a_ns | refine a_un (by first | with_reducible assumption | omega) ?_ | refine a_nn (by first | with_reducible assumption | omega | (simp only [a_upd_1, a_new_1]; omega)) ?_ | exact a_us | exact a_ns))
    · rfl
    refine a_astore_n d_X_print_88 rfl (by decide) ?_
    refine a_aload_n d_X_print_89 rfl rfl ?_
    refine a_aload_n d_X_print_90 rfl rfl ?_
    apply a_getfield d_X_print_91 f_X_21
    · (repeat (first | with_reducible assumption | with_reducible exact a_us | with_reducible exact a_ns | refine a_un (by first | with_reducible assumption | omega) ?_ | refine a_nn (by first | with_reducible assumption | omega | (simp only [a_upd_1, a_new_1]; omega)) ?_ | exact a_us | exact a_ns))
    · rfl
    apply a_putfield d_X_print_94 p_X_18
    · (repeat (first | with_reducible assumption | with_reducible exact a_us | with_reducible exact a_ns | refine a_un (by first | with_reducible assumption | omega) ?_ | refine a_nn (by first | with_reducible assumption | omega | (simp only [a_upd_1, a_new_1]; omega)) ?_ | exact a_us | exact a_ns))
    · first | rfl | assumption
    · first | rfl | assumption
    · exact Nat.le_of_ble_eq_true rfl
    refine a_aload_n d_X_print_97 rfl rfl ?_
    refine a_aload_n d_X_print_98 rfl rfl ?_
    apply a_putfield d_X_print_99 p_X_21
    · (repeat (first | with_reducible assumption | with_reducible exact a_us | with_reducible exact a_ns | refine a_un (by first | with_reducible assumption | omega) ?_ | refine a_nn (by first | with_reducible assumption | omega | (simp only [a_upd_1, a_new_1]; omega)) ?_ | exact a_us | exact a_ns))
    · first | rfl | assumption
    · first | rfl | assumption
    · exact Nat.le_of_ble_eq_true rfl
    have hf6 : ∀ (o1 o2 : aE), a_fr τ4 (a_upd (a_upd τ4 X o1) X o2) X (X + 1) := fun o1 o2 => (a_fr.rf.upd (Nat.le_refl X) (Nat.lt_succ_self X)).upd (Nat.le_refl X) (Nat.lt_succ_self X)
    have hB6 := fun (o1 o2 : aE) => hW5.2.fr (hf6 o1 o2) (Or.inr (show X + 1 ≤ dr by omega))
    refine a_aload_n d_X_print_102 rfl rfl ?_
    apply a_getfield d_X_print_103 f_X_18
    · (repeat (first | with_reducible assumption | with_reducible exact a_us | with_reducible exact a_ns | refine a_un (by first | with_reducible assumption | omega) ?_ | refine a_nn (by first | with_reducible assumption | omega | (simp only [a_upd_1, a_new_1]; omega)) ?_ | exact a_us | exact a_ns))
    · rfl
    apply a_callV (ci := 0) 0 0 [] _ d_X_print_106 l_X_92 ⟨im_B_size, se_B_size⟩ rfl rfl rfl rfl (Nat.le_of_ble_eq_true rfl) ⟨Nat.le_of_ble_eq_true rfl, Nat.le_of_ble_eq_true rfl⟩
    · (repeat (first | with_reducible assumption | with_reducible exact a_us | with_reducible exact a_ns | refine a_un (by first | with_reducible assumption | omega) ?_ | refine a_nn (by first | with_reducible assumption | omega | (simp only [a_upd_1, a_new_1]; omega)) ?_ | exact a_us | exact a_ns))
    refine sp_B_size (hB6 _ _) ?_
    refine a_ireturn d_X_print_109 rfl rfl ?_
    have FIT1 : (putL 8192 (0, g2, true) (prA q)).2.2 = true := by cases hz : (putL 8192 (0, g2, true) (prA q)).2.2 with | true => rfl | false => exact absurd (show bI false = 0 from rfl) (by rw [← hz]; assumption)
    exact hK1 FIT1 _ hF4.1 hF4.2.1 (fun a ha1 ha2 => ((hf6 _ _).2.2 a (by omega)).trans (hob a (by omega) (by omega) (by omega))) ⟨dr, pr, p, sp, _, _, q2, p0, k0, rf, tp, gp, by omega, h2, a_us, (h4.of (hob _ (by omega) (by omega) (by omega)) (hob _ (by omega) (by omega) (by omega))).fr (hf6 _ _) (by omega), hB6 _ _, (h5.of (hob _ (by omega) (by omega) (by omega)) (hob _ (by omega) (by omega) (by omega))).fr (hf6 _ _) (by omega), hP4.fr (hf6 _ _) (by omega), (h8.of (fun i hi => hob _ (by omega) (by omega) (by omega))).fr (hf6 _ _) (by omega), RO.fr ⟨(hob _ (by omega) (by omega) (by omega)).trans h9.1, (hob _ (by omega) (by omega) (by omega)).trans h9.2.1, (hob _ (by omega) (by omega) (by omega)).trans h9.2.2⟩ (hf6 _ _) (by omega), ((hf6 _ _).2.2 _ (by omega)).trans ((hob _ (by omega) (by omega) (by omega)).trans h10), ((hf6 _ _).2.2 _ (by omega)).trans ((hob _ (by omega) (by omega) (by omega)).trans h11), h12, h13, h14⟩
  · refine a_iconst (v := (-1)) d_X_print_82 (by decide) ?_
    refine a_ireturn d_X_print_83 rfl rfl ?_
    have FIT0 : (putL 8192 (0, g2, true) (prA q)).2.2 = false := by cases hz : (putL 8192 (0, g2, true) (prA q)).2.2 with | false => rfl | true => exact absurd (show bI true = 0 from by rw [← hz]; assumption) (by decide)
    exact hK0 FIT0 τ4 hF4.1 hF4.2.1 (fun a ha1 ha2 => hob a (by omega) (by omega) (by omega)) ⟨pr, dr, p, sp, _, _, q2, p0, k0, rf, tp, gp, h1, h2, hX4, h4.of (hob _ (by omega) (by omega) (by omega)) (hob _ (by omega) (by omega) (by omega)), h5.of (hob _ (by omega) (by omega) (by omega)) (hob _ (by omega) (by omega) (by omega)), hW5.2, hP4, h8.of (fun i hi => hob _ (by omega) (by omega) (by omega)), ⟨(hob _ (by omega) (by omega) (by omega)).trans h9.1, (hob _ (by omega) (by omega) (by omega)).trans h9.2.1, (hob _ (by omega) (by omega) (by omega)).trans h9.2.2⟩, (hob _ (by omega) (by omega) (by omega)).trans h10, (hob _ (by omega) (by omega) (by omega)).trans h11, h12, h13, h14⟩

end ModX3
