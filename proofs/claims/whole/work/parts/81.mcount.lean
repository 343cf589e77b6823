/-! THE MODEL's readCounter, whole -/
theorem olF_1 (g : Nat → Int64) (v : Int64) : ∀ k i, olF g v k i 1 = 1
  | 0, _ => rfl
  | k + 1, i => by rw [olF, if_neg (by decide), olF_1 g v k (i + 1)]
theorem olF_afd {g : Nat → Int64} {N : Nat → List Nat} {l : List Nat} (hl : nmG l) (hN : ∀ k, nmG (N k)) {K : Nat} (hg : ∀ k, k < K → g k = e27 (N k)) : ∀ k i, i + k = K → (olF g (e27 l) k i 0 = 0 ↔ afd N l i k = none)
  | 0, i, _ => ⟨fun _ => rfl, fun _ => rfl⟩
  | k + 1, i, hi => by
    rw [olF, if_pos rfl, afd, hg i (by omega)]
    by_cases e : N i = l
    · rw [if_pos ((e27_inj (hN i) hl).mpr e), if_pos e, olF_1]
      exact ⟨fun z => absurd z (by decide), fun z => by cases z⟩
    · rw [if_neg (fun z => e ((e27_inj (hN i) hl).mp z)), if_neg e]
      exact olF_afd hl hN hg k (i + 1) (by omega)
section ModM17
variable {G : aG} {σ0 : aS} {K : Option Value → aS → Prop} {m n : Nat} {f : Nat → Nat} {x : aX} {c : aN}
set_option maxHeartbeats 1000000 in
set_option maxRecDepth 100000 in
theorem c_M_82B (h0 : ¬ x.1 24 = 0) (hK : K none (mk σ0 m x)) : a_J G m_M_readCounter 9 194 82 [(0, .ref m)] [] (mk σ0 m x) K := by
  refine a_aload_n d_M_readCounter_82 rfl rfl ?_
  refine a_aload_n d_M_readCounter_83 rfl rfl ?_
  refine m_get d_M_readCounter_84 f_M_149 rfl ?_
  refine a_iconst (v := 3) d_M_readCounter_87 (by decide) ?_
  refine a_icmp_ne (tgt := 115) d_M_readCounter_88 (by decide) (fun c_1 => ?_) (fun c_1 => ?_)
  · refine a_iconst (v := 0) d_M_readCounter_115 (by decide) ?_
    apply a_callV (ci := 7) 1 22 [_] _ d_M_readCounter_116 l_M_229 ⟨im_M_must, se_M_must⟩ rfl rfl rfl rfl (Nat.le_of_ble_eq_true rfl) ⟨Nat.le_of_ble_eq_true rfl, Nat.le_of_ble_eq_true rfl⟩
    · (exact mk_O)
    refine sp_M_mustB h0 ?_
    refine a_if_ne (tgt := 123) d_M_readCounter_119 (by decide) (fun n9 => absurd (rfl) n9) (fun c_2 => ?_)
    exact a_return d_M_readCounter_122 rfl hK
  · refine a_aload_n d_M_readCounter_91 rfl rfl ?_
    refine m_get d_M_readCounter_92 f_M_180 rfl ?_
    refine a_lconst (v := 0) d_M_readCounter_95 (by decide) ?_
    refine a_lcmp d_M_readCounter_96 ?_
    refine a_if_le (tgt := 115) d_M_readCounter_97 (by decide) (fun c_3 => ?_) (fun c_3 => ?_)
    · refine a_iconst (v := 0) d_M_readCounter_115 (by decide) ?_
      apply a_callV (ci := 7) 1 22 [_] _ d_M_readCounter_116 l_M_229 ⟨im_M_must, se_M_must⟩ rfl rfl rfl rfl (Nat.le_of_ble_eq_true rfl) ⟨Nat.le_of_ble_eq_true rfl, Nat.le_of_ble_eq_true rfl⟩
      · (exact mk_O)
      refine sp_M_mustB h0 ?_
      refine a_if_ne (tgt := 123) d_M_readCounter_119 (by decide) (fun n9 => absurd (rfl) n9) (fun c_4 => ?_)
      exact a_return d_M_readCounter_122 rfl hK
    · refine a_aload_n d_M_readCounter_100 rfl rfl ?_
      refine m_get d_M_readCounter_101 f_M_180 rfl ?_
      refine a_ldc2 d_M_readCounter_104 k_M_271 ?_
      refine a_lcmp d_M_readCounter_107 ?_
      refine a_if_ge (tgt := 115) d_M_readCounter_108 (by decide) (fun c_5 => ?_) (fun c_5 => ?_)
      · refine a_iconst (v := 0) d_M_readCounter_115 (by decide) ?_
        apply a_callV (ci := 7) 1 22 [_] _ d_M_readCounter_116 l_M_229 ⟨im_M_must, se_M_must⟩ rfl rfl rfl rfl (Nat.le_of_ble_eq_true rfl) ⟨Nat.le_of_ble_eq_true rfl, Nat.le_of_ble_eq_true rfl⟩
        · (exact mk_O)
        refine sp_M_mustB h0 ?_
        refine a_if_ne (tgt := 123) d_M_readCounter_119 (by decide) (fun n9 => absurd (rfl) n9) (fun c_6 => ?_)
        exact a_return d_M_readCounter_122 rfl hK
      · refine a_iconst (v := 1) d_M_readCounter_111 (by decide) ?_
        refine a_goto (tgt := 116) d_M_readCounter_112 (by decide) ?_
        apply a_callV (ci := 7) 1 22 [_] _ d_M_readCounter_116 l_M_229 ⟨im_M_must, se_M_must⟩ rfl rfl rfl rfl (Nat.le_of_ble_eq_true rfl) ⟨Nat.le_of_ble_eq_true rfl, Nat.le_of_ble_eq_true rfl⟩
        · (exact mk_O)
        refine sp_M_mustB h0 ?_
        refine a_if_ne (tgt := 123) d_M_readCounter_119 (by decide) (fun n9 => absurd (rfl) n9) (fun c_7 => ?_)
        exact a_return d_M_readCounter_122 rfl hK

set_option maxHeartbeats 1000000 in
set_option maxRecDepth 100000 in
theorem c_M_82F (ht : ¬ (x.1 20 = 3 ∧ 0 < x.2.1 23 ∧ x.2.1 23 < 16)) (hK : K none (mk σ0 m (muX x 0))) : a_J G m_M_readCounter 9 194 82 [(0, .ref m)] [] (mk σ0 m x) K := by
  refine a_aload_n d_M_readCounter_82 rfl rfl ?_
  refine a_aload_n d_M_readCounter_83 rfl rfl ?_
  refine m_get d_M_readCounter_84 f_M_149 rfl ?_
  refine a_iconst (v := 3) d_M_readCounter_87 (by decide) ?_
  refine a_icmp_ne (tgt := 115) d_M_readCounter_88 (by decide) (fun c_1 => ?_) (fun c_1 => ?_)
  · refine a_iconst (v := 0) d_M_readCounter_115 (by decide) ?_
    apply a_callV (ci := 7) 1 22 [_] _ d_M_readCounter_116 l_M_229 ⟨im_M_must, se_M_must⟩ rfl rfl rfl rfl (Nat.le_of_ble_eq_true rfl) ⟨Nat.le_of_ble_eq_true rfl, Nat.le_of_ble_eq_true rfl⟩
    · (exact mk_O)
    refine sp_M_mustF rfl ?_
    refine a_if_ne (tgt := 123) d_M_readCounter_119 (by decide) (fun n9 => absurd (rfl) n9) (fun c_2 => ?_)
    exact a_return d_M_readCounter_122 rfl hK
  · refine a_aload_n d_M_readCounter_91 rfl rfl ?_
    refine m_get d_M_readCounter_92 f_M_180 rfl ?_
    refine a_lconst (v := 0) d_M_readCounter_95 (by decide) ?_
    refine a_lcmp d_M_readCounter_96 ?_
    refine a_if_le (tgt := 115) d_M_readCounter_97 (by decide) (fun c_3 => ?_) (fun c_3 => ?_)
    · refine a_iconst (v := 0) d_M_readCounter_115 (by decide) ?_
      apply a_callV (ci := 7) 1 22 [_] _ d_M_readCounter_116 l_M_229 ⟨im_M_must, se_M_must⟩ rfl rfl rfl rfl (Nat.le_of_ble_eq_true rfl) ⟨Nat.le_of_ble_eq_true rfl, Nat.le_of_ble_eq_true rfl⟩
      · (exact mk_O)
      refine sp_M_mustF rfl ?_
      refine a_if_ne (tgt := 123) d_M_readCounter_119 (by decide) (fun n9 => absurd (rfl) n9) (fun c_4 => ?_)
      exact a_return d_M_readCounter_122 rfl hK
    · refine a_aload_n d_M_readCounter_100 rfl rfl ?_
      refine m_get d_M_readCounter_101 f_M_180 rfl ?_
      refine a_ldc2 d_M_readCounter_104 k_M_271 ?_
      refine a_lcmp d_M_readCounter_107 ?_
      refine a_if_ge (tgt := 115) d_M_readCounter_108 (by decide) (fun c_5 => ?_) (fun c_5 => ?_)
      · refine a_iconst (v := 0) d_M_readCounter_115 (by decide) ?_
        apply a_callV (ci := 7) 1 22 [_] _ d_M_readCounter_116 l_M_229 ⟨im_M_must, se_M_must⟩ rfl rfl rfl rfl (Nat.le_of_ble_eq_true rfl) ⟨Nat.le_of_ble_eq_true rfl, Nat.le_of_ble_eq_true rfl⟩
        · (exact mk_O)
        refine sp_M_mustF rfl ?_
        refine a_if_ne (tgt := 123) d_M_readCounter_119 (by decide) (fun n9 => absurd (rfl) n9) (fun c_6 => ?_)
        exact a_return d_M_readCounter_122 rfl hK
      · exact absurd ⟨by first | assumption | exact Decidable.not_not.mp (by assumption), Int64.not_le.mp (fun e => absurd ((lg_cmp_le _ _).mpr e) (by assumption)), Int64.not_le.mp (fun e => absurd ((lg_cmp_ge _ _).mpr e) (by assumption))⟩ ht

set_option maxHeartbeats 1000000 in
set_option maxRecDepth 100000 in
theorem c_M_82T {k0 a : Nat} (hT : MX x n f) (hA : x.1 19 = nI a) (ha : a ≤ n) (h0 : x.1 24 = 0) (ht : (x.1 20 = 3 ∧ 0 < x.2.1 23 ∧ x.2.1 23 < 16)) (hk0 : x.1 28 = nI k0) (hk6 : k0 < 6) (hK : ∀ y, NX n f a (sI (sA x 12 k0 (x.2.1 23).toInt32) 28 (nI (k0 + 1))) y → a_J G m_M_readCounter 9 194 153 [(0, .ref m), (1, .int (nI 0))] [] (mk σ0 m y) K) : a_J G m_M_readCounter 9 194 82 [(0, .ref m)] [] (mk σ0 m x) K := by
  refine a_aload_n d_M_readCounter_82 rfl rfl ?_
  refine a_aload_n d_M_readCounter_83 rfl rfl ?_
  refine m_get d_M_readCounter_84 f_M_149 rfl ?_
  refine a_iconst (v := 3) d_M_readCounter_87 (by decide) ?_
  refine a_icmp_ne (tgt := 115) d_M_readCounter_88 (by decide) (fun n9 => absurd (ht.1) n9) (fun c_1 => ?_)
  refine a_aload_n d_M_readCounter_91 rfl rfl ?_
  refine m_get d_M_readCounter_92 f_M_180 rfl ?_
  refine a_lconst (v := 0) d_M_readCounter_95 (by decide) ?_
  refine a_lcmp d_M_readCounter_96 ?_
  refine a_if_le (tgt := 115) d_M_readCounter_97 (by decide) (fun n9 => absurd n9 (fun z => absurd ((lg_cmp_le _ _).mp z) (Int64.not_le.mpr ht.2.1))) (fun c_2 => ?_)
  refine a_aload_n d_M_readCounter_100 rfl rfl ?_
  refine m_get d_M_readCounter_101 f_M_180 rfl ?_
  refine a_ldc2 d_M_readCounter_104 k_M_271 ?_
  refine a_lcmp d_M_readCounter_107 ?_
  refine a_if_ge (tgt := 115) d_M_readCounter_108 (by decide) (fun n9 => absurd n9 (fun z => absurd ((lg_cmp_ge _ _).mp z) (Int64.not_le.mpr ht.2.2))) (fun c_3 => ?_)
  refine a_iconst (v := 1) d_M_readCounter_111 (by decide) ?_
  refine a_goto (tgt := 116) d_M_readCounter_112 (by decide) ?_
  apply a_callV (ci := 7) 1 22 [_] _ d_M_readCounter_116 l_M_229 ⟨im_M_must, se_M_must⟩ rfl rfl rfl rfl (Nat.le_of_ble_eq_true rfl) ⟨Nat.le_of_ble_eq_true rfl, Nat.le_of_ble_eq_true rfl⟩
  · (exact mk_O)
  refine sp_M_mustT (by decide) h0 ?_
  refine a_if_ne (tgt := 123) d_M_readCounter_119 (by decide) (fun c_4 => ?_) (fun n9 => absurd n9 (by decide))
  refine a_aload_n d_M_readCounter_123 rfl rfl ?_
  refine m_get d_M_readCounter_124 f_M_48 rfl ?_
  refine a_aload_n d_M_readCounter_127 rfl rfl ?_
  refine m_get (v := .int (nI k0)) d_M_readCounter_128 f_M_236 (congrArg (fun z => some (Value.int z)) hk0) ?_
  refine a_aload_n d_M_readCounter_131 rfl rfl ?_
  refine m_get d_M_readCounter_132 f_M_180 rfl ?_
  refine a_l2i d_M_readCounter_135 ?_
  refine m_iast d_M_readCounter_136 (by decide) rfl (vp_in_nI (show k0 < 6 by omega) (by decide)) ?_
  rw [nI_clamp (show k0 < 2 ^ 31 by omega)]
  refine a_aload_n d_M_readCounter_137 rfl rfl ?_
  refine a_dup d_M_readCounter_138 rfl ?_
  refine m_get (v := .int (nI k0)) d_M_readCounter_139 f_M_236 (congrArg (fun z => some (Value.int z)) hk0) ?_
  refine a_iconst (v := 1) d_M_readCounter_142 (by decide) ?_
  refine a_iadd d_M_readCounter_143 ?_
  rw [nI_1]
  refine m_putI d_M_readCounter_144 p_M_236 rfl rfl (by decide) ?_
  refine a_aload_n d_M_readCounter_147 rfl rfl ?_
  apply a_callV (ci := 7) 2 48 [] _ d_M_readCounter_148 l_M_233 ⟨im_M_next, se_M_next⟩ rfl rfl rfl rfl (Nat.le_of_ble_eq_true rfl) ⟨Nat.le_of_ble_eq_true rfl, Nat.le_of_ble_eq_true rfl⟩
  · (exact mk_O)
  refine sp_M_next (a := a) hT hA ha (fun y hy => ?_)
  refine a_iconst (v := 0) d_M_readCounter_151 (by decide) ?_
  refine a_istore_n d_M_readCounter_152 rfl (by decide) ?_
  exact a_lvk (hK y hy) ⟨rfl, rfl, trivial⟩

set_option maxHeartbeats 2000000 in
theorem c_M_82 (hx : LKA n f (c.1 1 0) x) (h0 : (c.1 2 0) = 0) (hs : (c.1 0 0) = 4) (hrc : c.1 21 ((c.1 4 0) - 1) = 0) (hA : AI c) (hJ : AJ n c) (hL : AL c) (hM : MGd c x) (hMC : MC c x ((c.1 4 0) - 1)) (hnm : x.2.2.2 11 ((c.1 4 0) - 1) = e27 (c.2.1 0 ((c.1 4 0) - 1)) ∧ x.2.2.1 5 ((c.1 4 0) - 1) = nI (c.2.1 0 ((c.1 4 0) - 1)).length) (hMN : MNd c x) (hMR : MRl c x (c.1 5 0)) (hMW : MWy c x (c.1 7 0)) (hK : ∀ z, PP x z → HP n f c z → K none (mk σ0 m z)) : a_J G m_M_readCounter 9 194 82 [(0, .ref m)] [] (mk σ0 m x) K := by
  have hle := lx_le n f hx.2.1
  have h5 : Q5c c 4 := by have := hA.2.2.2.2.1; unfold Q5 at this; rw [hs] at this; exact this
  unfold Q5c at h5
  have hwy : (c.1 10 0) = 0 := h5.2.2.2.2.1 rfl
  have hNC : 1 ≤ (c.1 4 0) ∧ (c.1 4 0) ≤ 6 := by have := hA.1.1; omega
  have h4 := stT_4 (tok n f (c.1 1 0)) hs
  have hnum : (x.1 20 = 3 ∧ 0 < x.2.1 23 ∧ x.2.1 23 < 16) ↔ ((tok n f (c.1 1 0)).1 = 4 ∧ 1 ≤ (tok n f (c.1 1 0)).2.2.2.2 ∧ (tok n f (c.1 1 0)).2.2.2.2 ≤ 15) := by
    rw [tk_3 hx]
    have e16 : (16 : Int32).toInt = 16 := by decide
    have e15 : (15 : Int32).toInt = 15 := by decide
    have e0 : (0 : Int32).toInt = 0 := by decide
    have e1 : (1 : Int32).toInt = 1 := by decide
    constructor
    · intro g
      have e := hx.2.2.2.2.2.2.2.2.1 g.1
      rw [e] at g
      have g1 : 0 < tkV n f (c.1 1 0) := (i64_lt 0 _).mp g.2.1
      have g2 : tkV n f (c.1 1 0) < 16 := (i64_lt _ 16).mp g.2.2
      refine ⟨g.1, ?_, ?_⟩
      · show 1 ≤ tkV n f (c.1 1 0)
        rw [Int32.lt_iff_toInt_lt] at g1
        rw [Int32.le_iff_toInt_le]
        omega
      · show tkV n f (c.1 1 0) ≤ 15
        rw [Int32.lt_iff_toInt_lt] at g2
        rw [Int32.le_iff_toInt_le]
        omega
    · intro g
      have e := hx.2.2.2.2.2.2.2.2.1 g.1
      rw [e]
      have g1 : 1 ≤ tkV n f (c.1 1 0) := g.2.1
      have g2 : tkV n f (c.1 1 0) ≤ 15 := g.2.2
      rw [Int32.le_iff_toInt_le] at g1 g2
      refine ⟨g.1, (i64_lt 0 _).mpr ?_, (i64_lt _ 16).mpr ?_⟩
      · rw [Int32.lt_iff_toInt_lt]; omega
      · rw [Int32.lt_iff_toInt_lt]; omega
  by_cases w1 : (tok n f (c.1 1 0)).1 = 4 ∧ 1 ≤ (tok n f (c.1 1 0)).2.2.2.2 ∧ (tok n f (c.1 1 0)).2.2.2.2 ≤ 15
  · have hd : stT (tok n f (c.1 1 0)) c = (gt (tok n f (c.1 1 0)) ((xN c.1 20 ((c.1 4 0) - 1) ((tok n f (c.1 1 0)).2.2.2.2.toNatClampNeg)), c.2.1, c.2.2) 6) := by rw [h4]; unfold a4; rw [if_pos w1]
    obtain ⟨j, hj, ej⟩ := nI_of2 (x := (tok n f (c.1 1 0)).2.2.2.2) (M := 15) (n := 15) rfl (fun g => absurd (Int32.lt_of_le_of_lt w1.2.1 g) (by decide)) w1.2.2
    have ev : (x.2.1 23).toInt32 = nI j := by rw [hx.2.2.2.2.2.2.2.2.1 w1.1, i32_64]; exact ej
    have ec : (tok n f (c.1 1 0)).2.2.2.2.toNatClampNeg = j := by rw [ej, nI_clamp (by omega)]
    refine c_M_82T (k0 := (c.1 4 0) - 1) hx.1 hx.2.2.2.2.1 hle.2.2.2 hx.2.2.1 (hnum.mpr w1) hMC.1 (by omega) (fun y hy => ?_)
    have hx3 : LKA n f (c.1 1 0) (sI (sA x 12 ((c.1 4 0) - 1) (x.2.1 23).toInt32) 28 (nI ((c.1 4 0) - 1 + 1))) := hx.keep (fun k h1 h2 => by show upd x.1 28 _ k = x.1 k; rw [pk_un (by omega)]) rfl rfl
    obtain ⟨hr, hl⟩ := step_LKA hx3 h0 (by omega) hd h0 (by show 1 ≤ 6; decide) (by show 6 ≤ 17; decide) rfl hy
    have hPP3 : PP x (sI (sA x 12 ((c.1 4 0) - 1) (x.2.1 23).toInt32) 28 (nI ((c.1 4 0) - 1 + 1))) := ⟨fun k hk => by show upd x.1 28 _ k = x.1 k; rw [pk_un (by omega)], fun a ha _ _ => updA_ne (by omega)⟩
    have hPPy := hPP3.trans hy.pt.pg.pp
    rcases hl with hl | ⟨hl1, hl2⟩
    · have hMG : MGd (gt (tok n f (c.1 1 0)) ((xN c.1 20 ((c.1 4 0) - 1) ((tok n f (c.1 1 0)).2.2.2.2.toNatClampNeg)), c.2.1, c.2.2) 6) y := MGd_PT (x := (sI (sA x 12 ((c.1 4 0) - 1) (x.2.1 23).toInt32) 28 (nI ((c.1 4 0) - 1 + 1)))) (show MGd (gt (tok n f (c.1 1 0)) ((xN c.1 20 ((c.1 4 0) - 1) ((tok n f (c.1 1 0)).2.2.2.2.toNatClampNeg)), c.2.1, c.2.2) 6) (sI (sA x 12 ((c.1 4 0) - 1) (x.2.1 23).toInt32) 28 (nI ((c.1 4 0) - 1 + 1))) from hM) hy.pt
      have hC6 : MC (gt (tok n f (c.1 1 0)) ((xN c.1 20 ((c.1 4 0) - 1) ((tok n f (c.1 1 0)).2.2.2.2.toNatClampNeg)), c.2.1, c.2.2) 6) y (c.1 4 0) := by
        refine MC.pg (x := (sI (sA x 12 ((c.1 4 0) - 1) (x.2.1 23).toInt32) 28 (nI ((c.1 4 0) - 1 + 1)))) ⟨by show nI ((c.1 4 0) - 1 + 1) = nI (c.1 4 0); rw [show (c.1 4 0) - 1 + 1 = (c.1 4 0) by omega], fun k hk => ?_⟩ hy.pt.pg
        show x.2.2.2 11 k = e27 (c.2.1 0 (k)) ∧ x.2.2.1 5 k = nI (c.2.1 0 (k)).length ∧ upd (x.2.2.1 12) ((c.1 4 0) - 1) (x.2.1 23).toInt32 k = nI (if k = (c.1 4 0) - 1 then (tok n f (c.1 1 0)).2.2.2.2.toNatClampNeg else c.1 20 (k))
        by_cases e : k = (c.1 4 0) - 1
        · rw [if_pos e, e, pk_us, ev, ec]; exact ⟨hnm.1, hnm.2, rfl⟩
        · rw [if_neg e, pk_un e]; exact hMC.2 k (by omega)
      have hN6 : MNd (gt (tok n f (c.1 1 0)) ((xN c.1 20 ((c.1 4 0) - 1) ((tok n f (c.1 1 0)).2.2.2.2.toNatClampNeg)), c.2.1, c.2.2) 6) y := MNd.pg (x := (sI (sA x 12 ((c.1 4 0) - 1) (x.2.1 23).toInt32) 28 (nI ((c.1 4 0) - 1 + 1)))) (show MNd (gt (tok n f (c.1 1 0)) ((xN c.1 20 ((c.1 4 0) - 1) ((tok n f (c.1 1 0)).2.2.2.2.toNatClampNeg)), c.2.1, c.2.2) 6) (sI (sA x 12 ((c.1 4 0) - 1) (x.2.1 23).toInt32) 28 (nI ((c.1 4 0) - 1 + 1))) from hMN) hy.pt.pg
      have hR6 : MRl (gt (tok n f (c.1 1 0)) ((xN c.1 20 ((c.1 4 0) - 1) ((tok n f (c.1 1 0)).2.2.2.2.toNatClampNeg)), c.2.1, c.2.2) 6) y (c.1 5 0) := MRl.pg (x := (sI (sA x 12 ((c.1 4 0) - 1) (x.2.1 23).toInt32) 28 (nI ((c.1 4 0) - 1 + 1)))) (show MRl (gt (tok n f (c.1 1 0)) ((xN c.1 20 ((c.1 4 0) - 1) ((tok n f (c.1 1 0)).2.2.2.2.toNatClampNeg)), c.2.1, c.2.2) 6) (sI (sA x 12 ((c.1 4 0) - 1) (x.2.1 23).toInt32) 28 (nI ((c.1 4 0) - 1 + 1))) (c.1 5 0) from hMR) hy.pt.pg
      have hW6 : MWy (gt (tok n f (c.1 1 0)) ((xN c.1 20 ((c.1 4 0) - 1) ((tok n f (c.1 1 0)).2.2.2.2.toNatClampNeg)), c.2.1, c.2.2) 6) y (c.1 7 0) := MWy.pg (x := (sI (sA x 12 ((c.1 4 0) - 1) (x.2.1 23).toInt32) 28 (nI ((c.1 4 0) - 1 + 1)))) (show MWy (gt (tok n f (c.1 1 0)) ((xN c.1 20 ((c.1 4 0) - 1) ((tok n f (c.1 1 0)).2.2.2.2.toNatClampNeg)), c.2.1, c.2.2) 6) (sI (sA x 12 ((c.1 4 0) - 1) (x.2.1 23).toInt32) 28 (nI ((c.1 4 0) - 1 + 1))) (c.1 7 0) from hMW) hy.pt.pg
      have := lp_M_rules (G := G) (σ0 := σ0) (m := m) (K := K) 5 (gt (tok n f (c.1 1 0)) ((xN c.1 20 ((c.1 4 0) - 1) ((tok n f (c.1 1 0)).2.2.2.2.toNatClampNeg)), c.2.1, c.2.2) 6) hl h0 rfl hwy (by show c.1 21 ((c.1 4 0) - 1) + 5 = 5; omega) (AI_Rc hA hr) (AJ_Rc hx.hf.1 hx.hf.2 hJ hr) (AL_Rc hA hL hr) hMG hC6 hN6 hR6 hW6 (fun z hz hq => hK z (hPPy.trans hz) (hq.of hr))
      rw [show ((gt (tok n f (c.1 1 0)) ((xN c.1 20 ((c.1 4 0) - 1) ((tok n f (c.1 1 0)).2.2.2.2.toNatClampNeg)), c.2.1, c.2.2) 6)).1 21 (((gt (tok n f (c.1 1 0)) ((xN c.1 20 ((c.1 4 0) - 1) ((tok n f (c.1 1 0)).2.2.2.2.toNatClampNeg)), c.2.1, c.2.2) 6)).1 4 0 - 1) = 0 from hrc] at this
      exact this
    · exact c_M_153B hl1.ne (hK y hPPy (Or.inr ⟨hl1, hl2⟩))
  · have hd : stT (tok n f (c.1 1 0)) c = wr (tok n f (c.1 1 0)) c := by rw [h4]; unfold a4; rw [if_neg w1]
    exact c_M_82F (fun z => w1 (hnum.mp z)) (hK _ (PT.mu x).pg.pp (Or.inr ⟨BAD_must hx h0 (by omega) hd, (PT.mu x).mx hx.1⟩))
set_option maxHeartbeats 1000000 in
set_option maxRecDepth 100000 in
theorem c_M_4B {k0 : Nat} (hk0 : x.1 28 = nI k0) (hk6 : k0 ≤ 6) (h0 : ¬ x.1 24 = 0) (hK : K none (mk σ0 m x)) : a_J G m_M_readCounter 9 194 4 [(0, .ref m)] [] (mk σ0 m x) K := by
  refine a_aload_n d_M_readCounter_4 rfl rfl ?_
  refine a_aload_n d_M_readCounter_5 rfl rfl ?_
  refine m_get d_M_readCounter_6 f_M_149 rfl ?_
  refine a_iconst (v := 2) d_M_readCounter_9 (by decide) ?_
  refine a_icmp_ne (tgt := 39) d_M_readCounter_10 (by decide) (fun c_1 => ?_) (fun c_1 => ?_)
  · refine a_iconst (v := 0) d_M_readCounter_39 (by decide) ?_
    apply a_callV (ci := 7) 1 22 [_] _ d_M_readCounter_40 l_M_229 ⟨im_M_must, se_M_must⟩ rfl rfl rfl rfl (Nat.le_of_ble_eq_true rfl) ⟨Nat.le_of_ble_eq_true rfl, Nat.le_of_ble_eq_true rfl⟩
    · (exact mk_O)
    refine sp_M_mustB h0 ?_
    refine a_if_ne (tgt := 47) d_M_readCounter_43 (by decide) (fun n9 => absurd (rfl) n9) (fun c_2 => ?_)
    exact a_return d_M_readCounter_46 rfl hK
  · refine a_aload_n d_M_readCounter_13 rfl rfl ?_
    apply a_callV (ci := 7) 6 129 [] _ d_M_readCounter_14 l_M_263 ⟨im_M_isReserved, se_M_isReserved⟩ rfl rfl rfl rfl (Nat.le_of_ble_eq_true rfl) ⟨Nat.le_of_ble_eq_true rfl, Nat.le_of_ble_eq_true rfl⟩
    · (exact mk_O)
    refine sp_M_isReserved ?_
    refine a_if_ne (tgt := 39) d_M_readCounter_17 (by decide) (fun c_3 => ?_) (fun c_3 => ?_)
    · refine a_iconst (v := 0) d_M_readCounter_39 (by decide) ?_
      apply a_callV (ci := 7) 1 22 [_] _ d_M_readCounter_40 l_M_229 ⟨im_M_must, se_M_must⟩ rfl rfl rfl rfl (Nat.le_of_ble_eq_true rfl) ⟨Nat.le_of_ble_eq_true rfl, Nat.le_of_ble_eq_true rfl⟩
      · (exact mk_O)
      refine sp_M_mustB h0 ?_
      refine a_if_ne (tgt := 47) d_M_readCounter_43 (by decide) (fun n9 => absurd (rfl) n9) (fun c_4 => ?_)
      exact a_return d_M_readCounter_46 rfl hK
    · refine a_aload_n d_M_readCounter_20 rfl rfl ?_
      refine a_aload_n d_M_readCounter_21 rfl rfl ?_
      refine m_get d_M_readCounter_22 f_M_44 rfl ?_
      refine a_aload_n d_M_readCounter_25 rfl rfl ?_
      refine m_get (v := .int (nI k0)) d_M_readCounter_26 f_M_236 (congrArg (fun z => some (Value.int z)) hk0) ?_
      apply a_callV (ci := 7) 0 0 [_, _] _ d_M_readCounter_29 l_M_267 ⟨im_M_isOld, se_M_isOld⟩ rfl rfl rfl rfl (Nat.le_of_ble_eq_true rfl) ⟨Nat.le_of_ble_eq_true rfl, Nat.le_of_ble_eq_true rfl⟩
      · (exact mk_O)
      refine sp_M_isOld (A := 11) (cnt := k0) (by decide) rfl (show k0 ≤ 6 by omega) (by decide) ?_
      refine a_if_ne (tgt := 39) d_M_readCounter_32 (by decide) (fun c_5 => ?_) (fun c_5 => ?_)
      · refine a_iconst (v := 0) d_M_readCounter_39 (by decide) ?_
        apply a_callV (ci := 7) 1 22 [_] _ d_M_readCounter_40 l_M_229 ⟨im_M_must, se_M_must⟩ rfl rfl rfl rfl (Nat.le_of_ble_eq_true rfl) ⟨Nat.le_of_ble_eq_true rfl, Nat.le_of_ble_eq_true rfl⟩
        · (exact mk_O)
        refine sp_M_mustB h0 ?_
        refine a_if_ne (tgt := 47) d_M_readCounter_43 (by decide) (fun n9 => absurd (rfl) n9) (fun c_6 => ?_)
        exact a_return d_M_readCounter_46 rfl hK
      · refine a_iconst (v := 1) d_M_readCounter_35 (by decide) ?_
        refine a_goto (tgt := 40) d_M_readCounter_36 (by decide) ?_
        apply a_callV (ci := 7) 1 22 [_] _ d_M_readCounter_40 l_M_229 ⟨im_M_must, se_M_must⟩ rfl rfl rfl rfl (Nat.le_of_ble_eq_true rfl) ⟨Nat.le_of_ble_eq_true rfl, Nat.le_of_ble_eq_true rfl⟩
        · (exact mk_O)
        refine sp_M_mustB h0 ?_
        refine a_if_ne (tgt := 47) d_M_readCounter_43 (by decide) (fun n9 => absurd (rfl) n9) (fun c_7 => ?_)
        exact a_return d_M_readCounter_46 rfl hK

set_option maxHeartbeats 1000000 in
set_option maxRecDepth 100000 in
theorem c_M_4F {k0 : Nat} (hk0 : x.1 28 = nI k0) (hk6 : k0 ≤ 6) (ht : ¬ (x.1 20 = 2 ∧ mR x = 0 ∧ olF (x.2.2.2 11) (x.2.1 22) k0 0 0 = 0)) (hK : K none (mk σ0 m (muX x 0))) : a_J G m_M_readCounter 9 194 4 [(0, .ref m)] [] (mk σ0 m x) K := by
  refine a_aload_n d_M_readCounter_4 rfl rfl ?_
  refine a_aload_n d_M_readCounter_5 rfl rfl ?_
  refine m_get d_M_readCounter_6 f_M_149 rfl ?_
  refine a_iconst (v := 2) d_M_readCounter_9 (by decide) ?_
  refine a_icmp_ne (tgt := 39) d_M_readCounter_10 (by decide) (fun c_1 => ?_) (fun c_1 => ?_)
  · refine a_iconst (v := 0) d_M_readCounter_39 (by decide) ?_
    apply a_callV (ci := 7) 1 22 [_] _ d_M_readCounter_40 l_M_229 ⟨im_M_must, se_M_must⟩ rfl rfl rfl rfl (Nat.le_of_ble_eq_true rfl) ⟨Nat.le_of_ble_eq_true rfl, Nat.le_of_ble_eq_true rfl⟩
    · (exact mk_O)
    refine sp_M_mustF rfl ?_
    refine a_if_ne (tgt := 47) d_M_readCounter_43 (by decide) (fun n9 => absurd (rfl) n9) (fun c_2 => ?_)
    exact a_return d_M_readCounter_46 rfl hK
  · refine a_aload_n d_M_readCounter_13 rfl rfl ?_
    apply a_callV (ci := 7) 6 129 [] _ d_M_readCounter_14 l_M_263 ⟨im_M_isReserved, se_M_isReserved⟩ rfl rfl rfl rfl (Nat.le_of_ble_eq_true rfl) ⟨Nat.le_of_ble_eq_true rfl, Nat.le_of_ble_eq_true rfl⟩
    · (exact mk_O)
    refine sp_M_isReserved ?_
    refine a_if_ne (tgt := 39) d_M_readCounter_17 (by decide) (fun c_3 => ?_) (fun c_3 => ?_)
    · refine a_iconst (v := 0) d_M_readCounter_39 (by decide) ?_
      apply a_callV (ci := 7) 1 22 [_] _ d_M_readCounter_40 l_M_229 ⟨im_M_must, se_M_must⟩ rfl rfl rfl rfl (Nat.le_of_ble_eq_true rfl) ⟨Nat.le_of_ble_eq_true rfl, Nat.le_of_ble_eq_true rfl⟩
      · (exact mk_O)
      refine sp_M_mustF rfl ?_
      refine a_if_ne (tgt := 47) d_M_readCounter_43 (by decide) (fun n9 => absurd (rfl) n9) (fun c_4 => ?_)
      exact a_return d_M_readCounter_46 rfl hK
    · refine a_aload_n d_M_readCounter_20 rfl rfl ?_
      refine a_aload_n d_M_readCounter_21 rfl rfl ?_
      refine m_get d_M_readCounter_22 f_M_44 rfl ?_
      refine a_aload_n d_M_readCounter_25 rfl rfl ?_
      refine m_get (v := .int (nI k0)) d_M_readCounter_26 f_M_236 (congrArg (fun z => some (Value.int z)) hk0) ?_
      apply a_callV (ci := 7) 0 0 [_, _] _ d_M_readCounter_29 l_M_267 ⟨im_M_isOld, se_M_isOld⟩ rfl rfl rfl rfl (Nat.le_of_ble_eq_true rfl) ⟨Nat.le_of_ble_eq_true rfl, Nat.le_of_ble_eq_true rfl⟩
      · (exact mk_O)
      refine sp_M_isOld (A := 11) (cnt := k0) (by decide) rfl (show k0 ≤ 6 by omega) (by decide) ?_
      refine a_if_ne (tgt := 39) d_M_readCounter_32 (by decide) (fun c_5 => ?_) (fun c_5 => ?_)
      · refine a_iconst (v := 0) d_M_readCounter_39 (by decide) ?_
        apply a_callV (ci := 7) 1 22 [_] _ d_M_readCounter_40 l_M_229 ⟨im_M_must, se_M_must⟩ rfl rfl rfl rfl (Nat.le_of_ble_eq_true rfl) ⟨Nat.le_of_ble_eq_true rfl, Nat.le_of_ble_eq_true rfl⟩
        · (exact mk_O)
        refine sp_M_mustF rfl ?_
        refine a_if_ne (tgt := 47) d_M_readCounter_43 (by decide) (fun n9 => absurd (rfl) n9) (fun c_6 => ?_)
        exact a_return d_M_readCounter_46 rfl hK
      · exact absurd ⟨by first | assumption | exact Decidable.not_not.mp (by assumption), by first | assumption | exact Decidable.not_not.mp (by assumption), by first | assumption | exact Decidable.not_not.mp (by assumption)⟩ ht

set_option maxHeartbeats 1000000 in
set_option maxRecDepth 100000 in
theorem c_M_4T {k0 a : Nat} (hT : MX x n f) (hA : x.1 19 = nI a) (ha : a ≤ n) (h0 : x.1 24 = 0) (hk0 : x.1 28 = nI k0) (hk6 : k0 < 6) (ht : (x.1 20 = 2 ∧ mR x = 0 ∧ olF (x.2.2.2 11) (x.2.1 22) k0 0 0 = 0)) (hK : ∀ y, NX n f a (sA (sB x 11 k0 (x.2.1 22)) 5 k0 (x.1 19 - x.1 21)) y → a_J G m_M_readCounter 9 194 82 [(0, .ref m)] [] (mk σ0 m y) K) : a_J G m_M_readCounter 9 194 4 [(0, .ref m)] [] (mk σ0 m x) K := by
  refine a_aload_n d_M_readCounter_4 rfl rfl ?_
  refine a_aload_n d_M_readCounter_5 rfl rfl ?_
  refine m_get d_M_readCounter_6 f_M_149 rfl ?_
  refine a_iconst (v := 2) d_M_readCounter_9 (by decide) ?_
  refine a_icmp_ne (tgt := 39) d_M_readCounter_10 (by decide) (fun n9 => absurd (ht.1) n9) (fun c_1 => ?_)
  refine a_aload_n d_M_readCounter_13 rfl rfl ?_
  apply a_callV (ci := 7) 6 129 [] _ d_M_readCounter_14 l_M_263 ⟨im_M_isReserved, se_M_isReserved⟩ rfl rfl rfl rfl (Nat.le_of_ble_eq_true rfl) ⟨Nat.le_of_ble_eq_true rfl, Nat.le_of_ble_eq_true rfl⟩
  · (exact mk_O)
  refine sp_M_isReserved ?_
  refine a_if_ne (tgt := 39) d_M_readCounter_17 (by decide) (fun n9 => absurd (ht.2.1) n9) (fun c_2 => ?_)
  refine a_aload_n d_M_readCounter_20 rfl rfl ?_
  refine a_aload_n d_M_readCounter_21 rfl rfl ?_
  refine m_get d_M_readCounter_22 f_M_44 rfl ?_
  refine a_aload_n d_M_readCounter_25 rfl rfl ?_
  refine m_get (v := .int (nI k0)) d_M_readCounter_26 f_M_236 (congrArg (fun z => some (Value.int z)) hk0) ?_
  apply a_callV (ci := 7) 0 0 [_, _] _ d_M_readCounter_29 l_M_267 ⟨im_M_isOld, se_M_isOld⟩ rfl rfl rfl rfl (Nat.le_of_ble_eq_true rfl) ⟨Nat.le_of_ble_eq_true rfl, Nat.le_of_ble_eq_true rfl⟩
  · (exact mk_O)
  refine sp_M_isOld (A := 11) (cnt := k0) (by decide) rfl (show k0 ≤ 6 by omega) (by decide) ?_
  refine a_if_ne (tgt := 39) d_M_readCounter_32 (by decide) (fun n9 => absurd (ht.2.2) n9) (fun c_3 => ?_)
  refine a_iconst (v := 1) d_M_readCounter_35 (by decide) ?_
  refine a_goto (tgt := 40) d_M_readCounter_36 (by decide) ?_
  apply a_callV (ci := 7) 1 22 [_] _ d_M_readCounter_40 l_M_229 ⟨im_M_must, se_M_must⟩ rfl rfl rfl rfl (Nat.le_of_ble_eq_true rfl) ⟨Nat.le_of_ble_eq_true rfl, Nat.le_of_ble_eq_true rfl⟩
  · (exact mk_O)
  refine sp_M_mustT (by decide) h0 ?_
  refine a_if_ne (tgt := 47) d_M_readCounter_43 (by decide) (fun c_4 => ?_) (fun n9 => absurd n9 (by decide))
  refine a_aload_n d_M_readCounter_47 rfl rfl ?_
  refine m_get d_M_readCounter_48 f_M_44 rfl ?_
  refine a_aload_n d_M_readCounter_51 rfl rfl ?_
  refine m_get (v := .int (nI k0)) d_M_readCounter_52 f_M_236 (congrArg (fun z => some (Value.int z)) hk0) ?_
  refine a_aload_n d_M_readCounter_55 rfl rfl ?_
  refine m_get d_M_readCounter_56 f_M_166 rfl ?_
  refine m_last d_M_readCounter_59 (by decide) rfl (vp_in_nI (show k0 < 6 by omega) (by decide)) ?_
  rw [nI_clamp (show k0 < 2 ^ 31 by omega)]
  refine a_aload_n d_M_readCounter_60 rfl rfl ?_
  refine m_get d_M_readCounter_61 f_M_26 rfl ?_
  refine a_aload_n d_M_readCounter_64 rfl rfl ?_
  refine m_get (v := .int (nI k0)) d_M_readCounter_65 f_M_236 (congrArg (fun z => some (Value.int z)) hk0) ?_
  refine a_aload_n d_M_readCounter_68 rfl rfl ?_
  refine m_get d_M_readCounter_69 f_M_139 rfl ?_
  refine a_aload_n d_M_readCounter_72 rfl rfl ?_
  refine m_get d_M_readCounter_73 f_M_146 rfl ?_
  refine a_isub d_M_readCounter_76 ?_
  refine m_iast d_M_readCounter_77 (by decide) rfl (vp_in_nI (show k0 < 6 by omega) (by decide)) ?_
  rw [nI_clamp (show k0 < 2 ^ 31 by omega)]
  refine a_aload_n d_M_readCounter_78 rfl rfl ?_
  apply a_callV (ci := 7) 2 48 [] _ d_M_readCounter_79 l_M_233 ⟨im_M_next, se_M_next⟩ rfl rfl rfl rfl (Nat.le_of_ble_eq_true rfl) ⟨Nat.le_of_ble_eq_true rfl, Nat.le_of_ble_eq_true rfl⟩
  · (exact mk_O)
  refine sp_M_next (a := a) hT hA ha (fun y hy => ?_)
  exact a_lvk (hK y hy) ⟨rfl, trivial⟩

set_option maxHeartbeats 2000000 in
theorem c_M_4 (hx : LKA n f (c.1 1 0) x) (h0 : (c.1 2 0) = 0) (hs : (c.1 0 0) = 3) (hA : AI c) (hJ : AJ n c) (hL : AL c) (hM : MGd c x) (hMC : MC c x (c.1 4 0)) (hMN : MNd c x) (hMR : MRl c x (c.1 5 0)) (hMW : MWy c x (c.1 7 0)) (hK : ∀ z, PP x z → HP n f c z → K none (mk σ0 m z)) : a_J G m_M_readCounter 9 194 4 [(0, .ref m)] [] (mk σ0 m x) K := by
  have hle := lx_le n f hx.2.1
  have hn4 := hx.1.2.1
  have h5 : Q5c c 3 := by have := hA.2.2.2.2.1; unfold Q5 at this; rw [hs] at this; exact this
  unfold Q5c at h5
  have h6 := (h5.2.2.1 rfl).2
  have h3 := stT_3 (tok n f (c.1 1 0)) hs
  have hgl : nmG (tok n f (c.1 1 0)).2.2.2.1 := (TF_tok hx.hf.1 hx.hf.2 hJ).2.2.2.2
  have hcond : (x.1 20 = 2 ∧ mR x = 0 ∧ olF (x.2.2.2 11) (x.2.1 22) (c.1 4 0) 0 0 = 0) ↔ (fre (tok n f (c.1 1 0)) ∧ afd (c.2.1 0) (tok n f (c.1 1 0)).2.2.2.1 0 (c.1 4 0) = none) := by
    rw [← and_assoc, F_iff hx]
    refine and_congr_right fun hf => ?_
    rw [hx.2.2.2.2.2.2.2.1 hf.1]
    exact olF_afd hgl (hJ.2.2 0) (fun k hk => (hMC.2 k hk).1) (c.1 4 0) 0 (by omega)
  by_cases w1 : fre (tok n f (c.1 1 0)) ∧ afd (c.2.1 0) (tok n f (c.1 1 0)).2.2.2.1 0 (c.1 4 0) = none
  · have hd : stT (tok n f (c.1 1 0)) c = (gt (tok n f (c.1 1 0)) (ahc c (tok n f (c.1 1 0)).2.2.2.1) 4) := by rw [h3]; unfold a3; rw [if_pos w1]
    refine c_M_4T hx.1 hx.2.2.2.2.1 hle.2.2.2 hx.2.2.1 hMC.1 h6 (hcond.mpr w1) (fun y hy => ?_)
    have hx3 : LKA n f (c.1 1 0) (sA (sB x 11 (c.1 4 0) (x.2.1 22)) 5 (c.1 4 0) (x.1 19 - x.1 21)) := hx.keep (fun _ _ _ => rfl) rfl rfl
    obtain ⟨hr, hl⟩ := step_LKA hx3 h0 (by omega) hd h0 (by show 1 ≤ 4; decide) (by show 4 ≤ 17; decide) rfl hy
    have hPP3 : PP x (sA (sB x 11 (c.1 4 0) (x.2.1 22)) 5 (c.1 4 0) (x.1 19 - x.1 21)) := ⟨fun _ _ => rfl, fun a ha g1 g2 => by show updA x.2.2.1 5 _ _ a = _; rw [updA_ne (by omega)]⟩
    have hPPy := hPP3.trans hy.pt.pg.pp
    rcases hl with hl | ⟨hl1, hl2⟩
    · have eN : ((gt (tok n f (c.1 1 0)) (ahc c (tok n f (c.1 1 0)).2.2.2.1) 4)).1 4 0 - 1 = (c.1 4 0) := by show (c.1 4 0) + 1 - 1 = (c.1 4 0); omega
      have hlen : x.1 19 - x.1 21 = nI (tok n f (c.1 1 0)).2.2.2.1.length := by
        rw [hx.2.2.2.2.1, hx.2.2.2.2.2.1, nI_sub hle.2.2.1]
        have := lx_3 hx.hf.1 hx.2.1 w1.1.1
        rw [show (tok n f (c.1 1 0)).2.2.2.1 = nl n f (lxP n f (c.1 1 0)) from rfl, this.2.2, seg_len]
      have hMG : MGd (gt (tok n f (c.1 1 0)) (ahc c (tok n f (c.1 1 0)).2.2.2.1) 4) y := MGd_PT (x := (sA (sB x 11 (c.1 4 0) (x.2.1 22)) 5 (c.1 4 0) (x.1 19 - x.1 21))) (show MGd (gt (tok n f (c.1 1 0)) (ahc c (tok n f (c.1 1 0)).2.2.2.1) 4) (sA (sB x 11 (c.1 4 0) (x.2.1 22)) 5 (c.1 4 0) (x.1 19 - x.1 21)) from hM) hy.pt
      have ey := hy.pt.1
      refine c_M_82 (c := (gt (tok n f (c.1 1 0)) (ahc c (tok n f (c.1 1 0)).2.2.2.1) 4)) hl h0 rfl ?_ (AI_Rc hA hr) (AJ_Rc hx.hf.1 hx.hf.2 hJ hr) (AL_Rc hA hL hr) hMG ?_ ?_ ?_ ?_ ?_ (fun z hz hq => hK z (hPPy.trans hz) (hq.of hr))
      · rw [eN]; show (if (c.1 4 0) = (c.1 4 0) then 0 else c.1 21 ((c.1 4 0))) = 0; rw [if_pos rfl]
      · rw [eN]
        refine MC.pg (x := (sA (sB x 11 (c.1 4 0) (x.2.1 22)) 5 (c.1 4 0) (x.1 19 - x.1 21))) ⟨hMC.1, fun k hk => ?_⟩ hy.pt.pg
        show vp_updL (x.2.2.2 11) (c.1 4 0) (x.2.1 22) k = e27 (if k = (c.1 4 0) then (tok n f (c.1 1 0)).2.2.2.1 else c.2.1 0 (k)) ∧ upd (x.2.2.1 5) (c.1 4 0) (x.1 19 - x.1 21) k = nI (if k = (c.1 4 0) then (tok n f (c.1 1 0)).2.2.2.1 else c.2.1 0 (k)).length ∧ x.2.2.1 12 k = nI (if k = (c.1 4 0) then 0 else c.1 20 (k))
        have en : ¬ k = (c.1 4 0) := by omega
        rw [if_neg en, if_neg en, pk_uLn en, pk_un en]; exact hMC.2 k hk
      · rw [eN, ey]
        show vp_updL (x.2.2.2 11) (c.1 4 0) (x.2.1 22) (c.1 4 0) = e27 (if (c.1 4 0) = (c.1 4 0) then (tok n f (c.1 1 0)).2.2.2.1 else c.2.1 0 ((c.1 4 0))) ∧ upd (x.2.2.1 5) (c.1 4 0) (x.1 19 - x.1 21) (c.1 4 0) = nI (if (c.1 4 0) = (c.1 4 0) then (tok n f (c.1 1 0)).2.2.2.1 else c.2.1 0 ((c.1 4 0))).length
        rw [if_pos rfl, pk_uLs, pk_us]
        exact ⟨hx.2.2.2.2.2.2.2.1 w1.1.1, hlen⟩
      · exact MNd.pg (x := (sA (sB x 11 (c.1 4 0) (x.2.1 22)) 5 (c.1 4 0) (x.1 19 - x.1 21))) (show MNd (gt (tok n f (c.1 1 0)) (ahc c (tok n f (c.1 1 0)).2.2.2.1) 4) (sA (sB x 11 (c.1 4 0) (x.2.1 22)) 5 (c.1 4 0) (x.1 19 - x.1 21)) from hMN) hy.pt.pg
      · exact MRl.pg (x := (sA (sB x 11 (c.1 4 0) (x.2.1 22)) 5 (c.1 4 0) (x.1 19 - x.1 21))) (show MRl (gt (tok n f (c.1 1 0)) (ahc c (tok n f (c.1 1 0)).2.2.2.1) 4) (sA (sB x 11 (c.1 4 0) (x.2.1 22)) 5 (c.1 4 0) (x.1 19 - x.1 21)) (c.1 5 0) from hMR) hy.pt.pg
      · exact MWy.pg (x := (sA (sB x 11 (c.1 4 0) (x.2.1 22)) 5 (c.1 4 0) (x.1 19 - x.1 21))) (show MWy (gt (tok n f (c.1 1 0)) (ahc c (tok n f (c.1 1 0)).2.2.2.1) 4) (sA (sB x 11 (c.1 4 0) (x.2.1 22)) 5 (c.1 4 0) (x.1 19 - x.1 21)) (c.1 7 0) from hMW) hy.pt.pg
    · exact c_M_82B hl1.ne (hK y hPPy (Or.inr ⟨hl1, hl2⟩))
  · have hd : stT (tok n f (c.1 1 0)) c = wr (tok n f (c.1 1 0)) c := by rw [h3]; unfold a3; rw [if_neg w1]
    exact c_M_4F hMC.1 (by omega) (fun z => w1 (hcond.mp z)) (hK _ (PT.mu x).pg.pp (Or.inr ⟨BAD_must hx h0 (by omega) hd, (PT.mu x).mx hx.1⟩))
set_option maxHeartbeats 1000000 in
set_option maxRecDepth 100000 in
theorem c_M_0 {a : Nat} (hT : MX x n f) (hA : x.1 19 = nI a) (ha : a ≤ n) (hK : ∀ y, NX n f a x y → a_J G m_M_readCounter 9 194 4 [(0, .ref m)] [] (mk σ0 m y) K) : a_C G m_M_readCounter 9 194 [.ref m] (mk σ0 m x) K := by
  refine a_enter rfl (Nat.le_of_ble_eq_true rfl) ?_
  refine a_aload_n d_M_readCounter_0 rfl rfl ?_
  apply a_callV (ci := 7) 2 48 [] _ d_M_readCounter_1 l_M_233 ⟨im_M_next, se_M_next⟩ rfl rfl rfl rfl (Nat.le_of_ble_eq_true rfl) ⟨Nat.le_of_ble_eq_true rfl, Nat.le_of_ble_eq_true rfl⟩
  · (exact mk_O)
  refine sp_M_next (a := a) hT hA ha (fun y hy => ?_)
  exact a_lvk (hK y hy) ⟨rfl, trivial⟩

/-- readCounter, from its word on -/
theorem sp_M_readCounter (hx : LKA n f (c.1 1 0) x) (h0 : (c.1 2 0) = 0) (hs : (c.1 0 0) = 2) (hd : stT (tok n f (c.1 1 0)) c = (gt (tok n f (c.1 1 0)) c 3)) (hA : AI c) (hJ : AJ n c) (hL : AL c) (hM : MGd c x) (hMC : MC c x (c.1 4 0)) (hMN : MNd c x) (hMR : MRl c x (c.1 5 0)) (hMW : MWy c x (c.1 7 0)) (hK : ∀ z, PP x z → HP n f c z → K none (mk σ0 m z)) : a_C G m_M_readCounter 9 194 [.ref m] (mk σ0 m x) K := by
  have hle := lx_le n f hx.2.1
  have hNC := hA.1.1
  refine c_M_0 hx.1 hx.2.2.2.2.1 hle.2.2.2 (fun y hy => ?_)
  obtain ⟨hr, hl⟩ := step_LKA hx h0 (by omega) hd h0 (by show 1 ≤ 3; decide) (by show 3 ≤ 17; decide) rfl hy
  have hPPy := hy.pt.pg.pp
  rcases hl with hl | ⟨hl1, hl2⟩
  · have hSM : SM c (gt (tok n f (c.1 1 0)) c 3) := ⟨fun a h1 h2 _ _ _ _ => by show xN (xN c.1 0 0 3) 1 0 _ a = c.1 a; rw [xN_ne h2, xN_ne h1], rfl⟩
    exact c_M_4 (c := (gt (tok n f (c.1 1 0)) c 3)) hl h0 rfl (AI_Rc hA hr) (AJ_Rc hx.hf.1 hx.hf.2 hJ hr) (AL_Rc hA hL hr) (MGd_PT (MGd_SM hM hSM) hy.pt) ((hMC.sm hSM).pg hy.pt.pg) ((hMN.cg hSM.cg).pg hy.pt.pg) ((hMR.sm hSM).pg hy.pt.pg) ((hMW.sm hSM).pg hy.pt.pg) (fun z hz hq => hK z (hPPy.trans hz) (hq.of hr))
  · exact c_M_4B ((hy.pt.2 28 (by decide) (by decide) (by decide) (by decide) (by decide)).trans hMC.1) (by omega) hl1.ne (hK y hPPy (Or.inr ⟨hl1, hl2⟩))
/-- with something wrong already, it does nothing -/
theorem sp_M_readCounterB {a k0 : Nat} (hT : MX x n f) (hA : x.1 19 = nI a) (ha : a ≤ n) (hk0 : x.1 28 = nI k0) (hk6 : k0 ≤ 6) (h0 : ¬ x.1 24 = 0) (hK : ∀ y, PP x y → y.1 24 = x.1 24 → y.1 25 = x.1 25 → K none (mk σ0 m y)) : a_C G m_M_readCounter 9 194 [.ref m] (mk σ0 m x) K := by
  refine c_M_0 hT hA ha (fun y hy => ?_)
  have e := hy.2.2.2.1 h0
  exact c_M_4B ((hy.pt.2 28 (by decide) (by decide) (by decide) (by decide) (by decide)).trans hk0) hk6 (by rw [e.1]; exact h0) (hK y hy.pt.pg.pp e.1 e.2)
end ModM17
