/-! TOKENS, fourth part: advance, words -/
theorem BY.lt {σ : aS} {b cap n : Nat} {f : Nat → Nat} (h : BY σ b cap n f) {k : Nat} (hk : k < n) : f k < 256 := by
  obtain ⟨g, -, -, h3, -, h5⟩ := h
  rw [← h5 k (by omega)]
  exact y_lt _ _
theorem wen_gt {f : Nat → Nat} {m p : Nat} (h : ¬ wdF (nI (f p)) = 0) (hm : 0 < m) : p < wen f m p := by
  cases m with
  | zero => omega
  | succ m =>
    rw [wen, if_neg h]
    have := (wen_le f m (p + 1)).1
    omega
/-- are the m bytes from p + i those of the literal j from i? -/
def eqB (n : Nat) (f : Nat → Nat) (p j : Nat) : Nat → Nat → Int32
  | 0, _ => 1
  | m + 1, i => if atF n f (nI (p + i)) = nI ((jS j).getD i 0) then eqB n f p j m (i + 1) else 0
def isw (n : Nat) (f : Nat → Nat) (k : aT) (j : Nat) : Int32 := if k.2.1 = 3 then (if nI k.1 - nI k.2.2.1 = nI (jS j).length then eqB n f k.2.2.1 j (jS j).length 0 else 0) else 0
section ModT4
variable {G : aG} {σ : aS} {K : Option Value → aS → Prop} {t b cap n : Nat} {f : Nat → Nat} {k : aT}
set_option maxHeartbeats 4000000 in
set_option maxRecDepth 100000 in
theorem lp_T_isWord {j : Nat} (hj : j < nJ) (hB : BY σ b cap n f) (hT : TO σ t b k) : ∀ m i : Nat, i + m = (jS j).length → K (some (.int (eqB n f k.2.2.1 j m i))) σ → a_J G m_T_isWord 4 85 28 [(0, .ref t), (1, .ref (G.2.2.2.2.1 j)), (2, .int (nI i))] [] σ K := by
  obtain ⟨g, hB0, hB1, -⟩ := id hB
  have hT0 : σ.2.2 t = some (.inr (5, [.ref b, .int (nI k.1), .int k.2.1, .int (nI k.2.2.1), .long k.2.2.2.1, .int k.2.2.2.2])) := hT
  have hl := jS_len hj
  intro m
  induction m with
  | zero =>
    intro i hi hK
    refine a_iload_n d_T_isWord_28 rfl rfl ?_
    refine a_aload_n d_T_isWord_29 rfl rfl ?_
    refine a_callVS 1 20 [] _ d_T_isWord_30 l_T_35 ⟨im_S_length, se_S_length⟩ rfl rfl rfl (Nat.le_of_ble_eq_true rfl) ⟨Nat.le_of_ble_eq_true rfl, Nat.le_of_ble_eq_true rfl⟩ hj ?_
    refine sp_S_length hj ?_
    refine a_icmp_ge (tgt := 65) d_T_isWord_33 (by decide) (fun c_1 => ?_) (fun n9 => absurd (by rw [show i = (jS j).length by omega]; exact Int32.le_refl _) n9)
    refine a_iconst (v := 1) d_T_isWord_65 (by decide) ?_
    exact a_ireturn d_T_isWord_66 rfl rfl hK
  | succ m ih =>
    intro i hi hK
    refine a_iload_n d_T_isWord_28 rfl rfl ?_
    refine a_aload_n d_T_isWord_29 rfl rfl ?_
    refine a_callVS 1 20 [] _ d_T_isWord_30 l_T_35 ⟨im_S_length, se_S_length⟩ rfl rfl rfl (Nat.le_of_ble_eq_true rfl) ⟨Nat.le_of_ble_eq_true rfl, Nat.le_of_ble_eq_true rfl⟩ hj ?_
    refine sp_S_length hj ?_
    refine a_icmp_ge (tgt := 65) d_T_isWord_33 (by decide) (fun n9 => absurd n9 (nI_ge (show i < (jS j).length by omega) (by omega))) (fun c_1 => ?_)
    refine a_aload_n d_T_isWord_36 rfl rfl ?_
    apply a_getfield d_T_isWord_37 f_T_9
    · (repeat (first | with_reducible assumption | with_reducible exact a_us | with_reducible exact a_ns | refine a_un (by first | with_reducible assumption | omega) ?_ | refine a_nn (by first | with_reducible assumption | omega | (simp only [a_upd_1, a_new_1]; omega)) ?_ | exact a_us | exact a_ns))
    · rfl
    refine a_aload_n d_T_isWord_40 rfl rfl ?_
    apply a_getfield d_T_isWord_41 f_T_25
    · (repeat (first | with_reducible assumption | with_reducible exact a_us | with_reducible exact a_ns | refine a_un (by first | with_reducible assumption | omega) ?_ | refine a_nn (by first | with_reducible assumption | omega | (simp only [a_upd_1, a_new_1]; omega)) ?_ | exact a_us | exact a_ns))
    · rfl
    refine a_iload_n d_T_isWord_44 rfl rfl ?_
    refine a_iadd d_T_isWord_45 ?_
    rw [nI_add]
    apply a_callV (ci := 0) 0 0 [_] _ d_T_isWord_46 l_T_41 ⟨im_B_at, se_B_at⟩ rfl rfl rfl rfl (Nat.le_of_ble_eq_true rfl) ⟨Nat.le_of_ble_eq_true rfl, Nat.le_of_ble_eq_true rfl⟩
    · (repeat (first | with_reducible assumption | with_reducible exact a_us | with_reducible exact a_ns | refine a_un (by first | with_reducible assumption | omega) ?_ | refine a_nn (by first | with_reducible assumption | omega | (simp only [a_upd_1, a_new_1]; omega)) ?_ | exact a_us | exact a_ns))
    refine sp_B_at hB ?_
    refine a_aload_n d_T_isWord_49 rfl rfl ?_
    refine a_iload_n d_T_isWord_50 rfl rfl ?_
    refine a_callVS 3 64 [_] _ d_T_isWord_51 l_T_46 ⟨im_S_charAt, se_S_charAt⟩ rfl rfl rfl (Nat.le_of_ble_eq_true rfl) ⟨Nat.le_of_ble_eq_true rfl, Nat.le_of_ble_eq_true rfl⟩ hj ?_
    refine sp_S_charAt hj (show i < (jS j).length by omega) ?_
    refine a_icmp_eq (tgt := 59) d_T_isWord_54 (by decide) (fun c_2 => ?_) (fun c_2 => ?_)
    · refine a_iinc (c0 := 1) d_T_isWord_59 rfl (by decide) (by decide) ?_
      refine a_goto (tgt := 28) d_T_isWord_62 (by decide) ?_
      rw [eqB, if_pos c_2] at hK
      exact a_lvk (ih (i + 1) (by omega) hK) ⟨rfl, rfl, by rw [← nI_1]; rfl, trivial⟩
    · refine a_iconst (v := 0) d_T_isWord_57 (by decide) ?_
      refine a_ireturn d_T_isWord_58 rfl rfl ?_
      rw [eqB, if_neg c_2] at hK
      exact hK

set_option maxHeartbeats 4000000 in
set_option maxRecDepth 100000 in
theorem sp_T_isWord {j : Nat} (hj : j < nJ) (hB : BY σ b cap n f) (hT : TO σ t b k) (hK : K (some (.int (isw n f k j))) σ) : a_C G m_T_isWord 4 85 [.ref t, .ref (G.2.2.2.2.1 j)] σ K := by
  obtain ⟨g, hB0, hB1, -⟩ := id hB
  have hT0 : σ.2.2 t = some (.inr (5, [.ref b, .int (nI k.1), .int k.2.1, .int (nI k.2.2.1), .long k.2.2.2.1, .int k.2.2.2.2])) := hT
  have hl := jS_len hj
  refine a_enter rfl (Nat.le_of_ble_eq_true rfl) ?_
  refine a_aload_n d_T_isWord_0 rfl rfl ?_
  apply a_getfield d_T_isWord_1 f_T_22
  · (repeat (first | with_reducible assumption | with_reducible exact a_us | with_reducible exact a_ns | refine a_un (by first | with_reducible assumption | omega) ?_ | refine a_nn (by first | with_reducible assumption | omega | (simp only [a_upd_1, a_new_1]; omega)) ?_ | exact a_us | exact a_ns))
  · rfl
  refine a_iconst (v := 3) d_T_isWord_4 (by decide) ?_
  refine a_icmp_ne (tgt := 24) d_T_isWord_5 (by decide) (fun c_1 => ?_) (fun c_1 => ?_)
  · refine a_iconst (v := 0) d_T_isWord_24 (by decide) ?_
    refine a_ireturn d_T_isWord_25 rfl rfl ?_
    simp only [isw, if_neg c_1, if_true] at hK
    exact hK
  · refine a_aload_n d_T_isWord_8 rfl rfl ?_
    apply a_getfield d_T_isWord_9 f_T_18
    · (repeat (first | with_reducible assumption | with_reducible exact a_us | with_reducible exact a_ns | refine a_un (by first | with_reducible assumption | omega) ?_ | refine a_nn (by first | with_reducible assumption | omega | (simp only [a_upd_1, a_new_1]; omega)) ?_ | exact a_us | exact a_ns))
    · rfl
    refine a_aload_n d_T_isWord_12 rfl rfl ?_
    apply a_getfield d_T_isWord_13 f_T_25
    · (repeat (first | with_reducible assumption | with_reducible exact a_us | with_reducible exact a_ns | refine a_un (by first | with_reducible assumption | omega) ?_ | refine a_nn (by first | with_reducible assumption | omega | (simp only [a_upd_1, a_new_1]; omega)) ?_ | exact a_us | exact a_ns))
    · rfl
    refine a_isub d_T_isWord_16 ?_
    refine a_aload_n d_T_isWord_17 rfl rfl ?_
    refine a_callVS 1 20 [] _ d_T_isWord_18 l_T_35 ⟨im_S_length, se_S_length⟩ rfl rfl rfl (Nat.le_of_ble_eq_true rfl) ⟨Nat.le_of_ble_eq_true rfl, Nat.le_of_ble_eq_true rfl⟩ hj ?_
    refine sp_S_length hj ?_
    refine a_icmp_eq (tgt := 26) d_T_isWord_21 (by decide) (fun c_2 => ?_) (fun c_2 => ?_)
    · refine a_iconst (v := 0) d_T_isWord_26 (by decide) ?_
      refine a_istore_n d_T_isWord_27 rfl (by decide) ?_
      simp only [isw, if_pos c_1, if_pos c_2, if_true] at hK
      exact a_lvk (lp_T_isWord hj hB hT (jS j).length 0 (by omega) hK) ⟨rfl, rfl, rfl, trivial⟩
    · refine a_iconst (v := 0) d_T_isWord_24 (by decide) ?_
      refine a_ireturn d_T_isWord_25 rfl rfl ?_
      simp only [isw, if_pos c_1, if_neg c_2, if_true] at hK
      exact hK

set_option maxHeartbeats 4000000 in
set_option maxRecDepth 100000 in
theorem sp_T_advance (hB : BY σ b cap n f) (hT : TO σ t b k) (hd : t < b ∨ b + 1 < t) (h2 : k.1 ≤ n) (hK : ∀ (τ : aS) (nm : Int64) (nu : Int32), a_fr σ τ t (t + 1) → TO τ t b (lxE n f k.1, lxK n f k.1, lxP n f k.1, nm, nu) → (lxK n f k.1 = 3 → nm = nm32 n f (lxP n f k.1)) → (∀ x, lxK n f k.1 = 4 → nvW f (lxP n f k.1) (lxE n f k.1) = some x → nu = sgF f (lxP n f k.1) x) → K none τ) : a_C G m_T_advance 4 86 [.ref t] σ K := by
  have hcap : n ≤ cap ∧ cap < 65536 := by obtain ⟨g, h1, h2, h3, h4, h5⟩ := hB; exact ⟨h3, h4⟩
  have hT0 : σ.2.2 t = some (.inr (5, [.ref b, .int (nI k.1), .int k.2.1, .int (nI k.2.2.1), .long k.2.2.2.1, .int k.2.2.2.2])) := hT
  refine a_enter rfl (Nat.le_of_ble_eq_true rfl) ?_
  have hp := skp_le f (n - k.1) k.1
  refine a_lvk (lp_T_advance (cap := cap) hd (n - k.1) hB hT (by omega) (fun σ2 hf2 hT2 => ?_)) ⟨rfl, trivial⟩
  have ep : lxP n f k.1 = skp f (n - k.1) k.1 := rfl
  rw [← ep] at hT2 hp
  generalize hpe : lxP n f k.1 = p at hK hT2 hp
  have hB2 := hB.fr hf2 (by omega)
  obtain ⟨g, hB0, hB1, -⟩ := id hB2
  have hT0 : σ2.2.2 t = some (.inr (5, [.ref b, .int (nI p), .int k.2.1, .int (nI k.2.2.1), .long k.2.2.2.1, .int k.2.2.2.2])) := hT2
  have hB3 : ∀ e, BY (a_upd σ2 t e) b cap n f := fun e => hB2.fr (a_fr.rf.upd (Nat.le_refl t) (Nat.lt_succ_self t)) (by omega)
  by_cases hpn : n ≤ p
  · refine a_aload_n d_T_advance_44 rfl rfl ?_
    refine a_aload_n d_T_advance_45 rfl rfl ?_
    apply a_getfield d_T_advance_46 f_T_18
    · (repeat (first | with_reducible assumption | with_reducible exact a_us | with_reducible exact a_ns | refine a_un (by first | with_reducible assumption | omega) ?_ | refine a_nn (by first | with_reducible assumption | omega | (simp only [a_upd_1, a_new_1]; omega)) ?_ | exact a_us | exact a_ns))
    · rfl
    apply a_putfield d_T_advance_49 p_T_25
    · (repeat (first | with_reducible assumption | with_reducible exact a_us | with_reducible exact a_ns | refine a_un (by first | with_reducible assumption | omega) ?_ | refine a_nn (by first | with_reducible assumption | omega | (simp only [a_upd_1, a_new_1]; omega)) ?_ | exact a_us | exact a_ns))
    · first | rfl | assumption
    · first | rfl | assumption
    · exact Nat.le_of_ble_eq_true rfl
    refine a_aload_n d_T_advance_52 rfl rfl ?_
    apply a_getfield d_T_advance_53 f_T_9
    · (repeat (first | with_reducible assumption | with_reducible exact a_us | with_reducible exact a_ns | refine a_un (by first | with_reducible assumption | omega) ?_ | refine a_nn (by first | with_reducible assumption | omega | (simp only [a_upd_1, a_new_1]; omega)) ?_ | exact a_us | exact a_ns))
    · rfl
    refine a_aload_n d_T_advance_56 rfl rfl ?_
    apply a_getfield d_T_advance_57 f_T_18
    · (repeat (first | with_reducible assumption | with_reducible exact a_us | with_reducible exact a_ns | refine a_un (by first | with_reducible assumption | omega) ?_ | refine a_nn (by first | with_reducible assumption | omega | (simp only [a_upd_1, a_new_1]; omega)) ?_ | exact a_us | exact a_ns))
    · rfl
    apply a_callV (ci := 0) 0 0 [_] _ d_T_advance_60 l_T_41 ⟨im_B_at, se_B_at⟩ rfl rfl rfl rfl (Nat.le_of_ble_eq_true rfl) ⟨Nat.le_of_ble_eq_true rfl, Nat.le_of_ble_eq_true rfl⟩
    · (repeat (first | with_reducible assumption | with_reducible exact a_us | with_reducible exact a_ns | refine a_un (by first | with_reducible assumption | omega) ?_ | refine a_nn (by first | with_reducible assumption | omega | (simp only [a_upd_1, a_new_1]; omega)) ?_ | exact a_us | exact a_ns))
    refine sp_B_at (hB3 _) ?_
    rw [atF_out hpn (by omega)]
    refine a_istore_n d_T_advance_63 rfl (by decide) ?_
    refine a_iload_n d_T_advance_64 rfl rfl ?_
    refine a_iconst (v := (-1)) d_T_advance_65 (by decide) ?_
    refine a_icmp_ne (tgt := 77) d_T_advance_66 (by decide) (fun n9 => absurd (rfl) n9) (fun c_1 => ?_)
    refine a_aload_n d_T_advance_69 rfl rfl ?_
    refine a_iconst (v := 0) d_T_advance_70 (by decide) ?_
    apply a_putfield d_T_advance_71 p_T_22
    · (repeat (first | with_reducible assumption | with_reducible exact a_us | with_reducible exact a_ns | refine a_un (by first | with_reducible assumption | omega) ?_ | refine a_nn (by first | with_reducible assumption | omega | (simp only [a_upd_1, a_new_1]; omega)) ?_ | exact a_us | exact a_ns))
    · first | rfl | assumption
    · first | rfl | assumption
    · exact Nat.le_of_ble_eq_true rfl
    refine a_goto (tgt := 126) d_T_advance_74 (by decide) ?_
    refine a_return d_T_advance_126 rfl ?_
    have ek : lxK n f k.1 = 0 := by rw [lxK, hpe, if_pos hpn]
    have ee : lxE n f k.1 = p := by rw [lxE, hpe, if_pos hpn]
    refine hK _ k.2.2.2.1 k.2.2.2.2 (hf2.trans (by repeat (first | exact a_fr.rf | refine a_fr.upd ?_ (Nat.le_refl t) (Nat.lt_succ_self t)))) (by rw [ek, ee]; exact a_us) (fun z => ?_) (fun x z => ?_)
    · rw [ek] at z; exact absurd z (by decide)
    · rw [ek] at z; exact absurd z (by decide)
  · replace hpn := Nat.not_le.mp hpn
    have hfp := hB2.lt hpn
    by_cases hw : wdF (nI (f p)) = 0
    · refine a_aload_n d_T_advance_44 rfl rfl ?_
      refine a_aload_n d_T_advance_45 rfl rfl ?_
      apply a_getfield d_T_advance_46 f_T_18
      · (repeat (first | with_reducible assumption | with_reducible exact a_us | with_reducible exact a_ns | refine a_un (by first | with_reducible assumption | omega) ?_ | refine a_nn (by first | with_reducible assumption | omega | (simp only [a_upd_1, a_new_1]; omega)) ?_ | exact a_us | exact a_ns))
      · rfl
      apply a_putfield d_T_advance_49 p_T_25
      · (repeat (first | with_reducible assumption | with_reducible exact a_us | with_reducible exact a_ns | refine a_un (by first | with_reducible assumption | omega) ?_ | refine a_nn (by first | with_reducible assumption | omega | (simp only [a_upd_1, a_new_1]; omega)) ?_ | exact a_us | exact a_ns))
      · first | rfl | assumption
      · first | rfl | assumption
      · exact Nat.le_of_ble_eq_true rfl
      refine a_aload_n d_T_advance_52 rfl rfl ?_
      apply a_getfield d_T_advance_53 f_T_9
      · (repeat (first | with_reducible assumption | with_reducible exact a_us | with_reducible exact a_ns | refine a_un (by first | with_reducible assumption | omega) ?_ | refine a_nn (by first | with_reducible assumption | omega | (simp only [a_upd_1, a_new_1]; omega)) ?_ | exact a_us | exact a_ns))
      · rfl
      refine a_aload_n d_T_advance_56 rfl rfl ?_
      apply a_getfield d_T_advance_57 f_T_18
      · (repeat (first | with_reducible assumption | with_reducible exact a_us | with_reducible exact a_ns | refine a_un (by first | with_reducible assumption | omega) ?_ | refine a_nn (by first | with_reducible assumption | omega | (simp only [a_upd_1, a_new_1]; omega)) ?_ | exact a_us | exact a_ns))
      · rfl
      apply a_callV (ci := 0) 0 0 [_] _ d_T_advance_60 l_T_41 ⟨im_B_at, se_B_at⟩ rfl rfl rfl rfl (Nat.le_of_ble_eq_true rfl) ⟨Nat.le_of_ble_eq_true rfl, Nat.le_of_ble_eq_true rfl⟩
      · (repeat (first | with_reducible assumption | with_reducible exact a_us | with_reducible exact a_ns | refine a_un (by first | with_reducible assumption | omega) ?_ | refine a_nn (by first | with_reducible assumption | omega | (simp only [a_upd_1, a_new_1]; omega)) ?_ | exact a_us | exact a_ns))
      refine sp_B_at (hB3 _) ?_
      rw [atF_in hpn (by omega)]
      refine a_istore_n d_T_advance_63 rfl (by decide) ?_
      refine a_iload_n d_T_advance_64 rfl rfl ?_
      refine a_iconst (v := (-1)) d_T_advance_65 (by decide) ?_
      refine a_icmp_ne (tgt := 77) d_T_advance_66 (by decide) (fun c_1 => ?_) (fun n9 => absurd n9 (nI_m1 (by omega)))
      refine a_iload_n d_T_advance_77 rfl rfl ?_
      refine a_callS 1 20 [_] _ d_T_advance_78 l_T_85 is_T_inWord rfl rfl (Nat.le_of_ble_eq_true rfl) ⟨Nat.le_of_ble_eq_true rfl, Nat.le_of_ble_eq_true rfl⟩ ?_
      refine sp_T_inWord ?_
      refine a_if_eq (tgt := 91) d_T_advance_81 (by decide) (fun c_2 => ?_) (fun n9 => absurd (hw) n9)
      refine a_aload_n d_T_advance_91 rfl rfl ?_
      refine a_dup d_T_advance_92 rfl ?_
      apply a_getfield d_T_advance_93 f_T_18
      · (repeat (first | with_reducible assumption | with_reducible exact a_us | with_reducible exact a_ns | refine a_un (by first | with_reducible assumption | omega) ?_ | refine a_nn (by first | with_reducible assumption | omega | (simp only [a_upd_1, a_new_1]; omega)) ?_ | exact a_us | exact a_ns))
      · rfl
      refine a_iconst (v := 1) d_T_advance_96 (by decide) ?_
      refine a_iadd d_T_advance_97 ?_
      rw [nI_1]
      apply a_putfield d_T_advance_98 p_T_18
      · (repeat (first | with_reducible assumption | with_reducible exact a_us | with_reducible exact a_ns | refine a_un (by first | with_reducible assumption | omega) ?_ | refine a_nn (by first | with_reducible assumption | omega | (simp only [a_upd_1, a_new_1]; omega)) ?_ | exact a_us | exact a_ns))
      · first | rfl | assumption
      · first | rfl | assumption
      · exact Nat.le_of_ble_eq_true rfl
      refine a_aload_n d_T_advance_101 rfl rfl ?_
      refine a_iload_n d_T_advance_102 rfl rfl ?_
      refine a_bipush (v := 40) d_T_advance_103 (by decide) ?_
      refine a_icmp_ne (tgt := 112) d_T_advance_105 (by decide) (fun c_3 => ?_) (fun c_3 => ?_)
      · refine a_iload_n d_T_advance_112 rfl rfl ?_
        refine a_bipush (v := 41) d_T_advance_113 (by decide) ?_
        refine a_icmp_ne (tgt := 122) d_T_advance_115 (by decide) (fun c_4 => ?_) (fun c_4 => ?_)
        · refine a_iconst (v := 5) d_T_advance_122 (by decide) ?_
          apply a_putfield d_T_advance_123 p_T_22
          · (repeat (first | with_reducible assumption | with_reducible exact a_us | with_reducible exact a_ns | refine a_un (by first | with_reducible assumption | omega) ?_ | refine a_nn (by first | with_reducible assumption | omega | (simp only [a_upd_1, a_new_1]; omega)) ?_ | exact a_us | exact a_ns))
          · first | rfl | assumption
          · first | rfl | assumption
          · exact Nat.le_of_ble_eq_true rfl
          refine a_return d_T_advance_126 rfl ?_
          have ee : lxE n f k.1 = p + 1 := by rw [lxE, hpe, if_neg (Nat.not_le.mpr hpn), if_pos hw]
          have e1 : lxK n f k.1 = (if nI (f p) = 40 then 1 else if nI (f p) = 41 then 2 else 5) := by rw [lxK, hpe, if_neg (Nat.not_le.mpr hpn), if_pos hw]
          simp only [if_neg c_1, if_pos c_2, if_neg c_3, if_neg c_4, if_true] at e1
          refine hK _ k.2.2.2.1 k.2.2.2.2 (hf2.trans (by repeat (first | exact a_fr.rf | refine a_fr.upd ?_ (Nat.le_refl t) (Nat.lt_succ_self t)))) (by rw [e1, ee]; exact a_us) (fun z => ?_) (fun x z => ?_)
          · rw [e1] at z; exact absurd z (by decide)
          · rw [e1] at z; exact absurd z (by decide)
        · refine a_iconst (v := 2) d_T_advance_118 (by decide) ?_
          refine a_goto (tgt := 123) d_T_advance_119 (by decide) ?_
          apply a_putfield d_T_advance_123 p_T_22
          · (repeat (first | with_reducible assumption | with_reducible exact a_us | with_reducible exact a_ns | refine a_un (by first | with_reducible assumption | omega) ?_ | refine a_nn (by first | with_reducible assumption | omega | (simp only [a_upd_1, a_new_1]; omega)) ?_ | exact a_us | exact a_ns))
          · first | rfl | assumption
          · first | rfl | assumption
          · exact Nat.le_of_ble_eq_true rfl
          refine a_return d_T_advance_126 rfl ?_
          have ee : lxE n f k.1 = p + 1 := by rw [lxE, hpe, if_neg (Nat.not_le.mpr hpn), if_pos hw]
          have e1 : lxK n f k.1 = (if nI (f p) = 40 then 1 else if nI (f p) = 41 then 2 else 5) := by rw [lxK, hpe, if_neg (Nat.not_le.mpr hpn), if_pos hw]
          simp only [if_neg c_1, if_pos c_2, if_neg c_3, if_pos c_4, if_true] at e1
          refine hK _ k.2.2.2.1 k.2.2.2.2 (hf2.trans (by repeat (first | exact a_fr.rf | refine a_fr.upd ?_ (Nat.le_refl t) (Nat.lt_succ_self t)))) (by rw [e1, ee]; exact a_us) (fun z => ?_) (fun x z => ?_)
          · rw [e1] at z; exact absurd z (by decide)
          · rw [e1] at z; exact absurd z (by decide)
      · refine a_iconst (v := 1) d_T_advance_108 (by decide) ?_
        refine a_goto (tgt := 123) d_T_advance_109 (by decide) ?_
        apply a_putfield d_T_advance_123 p_T_22
        · (repeat (first | with_reducible assumption | with_reducible exact a_us | with_reducible exact a_ns | refine a_un (by first | with_reducible assumption | omega) ?_ | refine a_nn (by first | with_reducible assumption | omega | (simp only [a_upd_1, a_new_1]; omega)) ?_ | exact a_us | exact a_ns))
        · first | rfl | assumption
        · first | rfl | assumption
        · exact Nat.le_of_ble_eq_true rfl
        refine a_return d_T_advance_126 rfl ?_
        have ee : lxE n f k.1 = p + 1 := by rw [lxE, hpe, if_neg (Nat.not_le.mpr hpn), if_pos hw]
        have e1 : lxK n f k.1 = (if nI (f p) = 40 then 1 else if nI (f p) = 41 then 2 else 5) := by rw [lxK, hpe, if_neg (Nat.not_le.mpr hpn), if_pos hw]
        simp only [if_neg c_1, if_pos c_2, if_pos c_3, if_true] at e1
        refine hK _ k.2.2.2.1 k.2.2.2.2 (hf2.trans (by repeat (first | exact a_fr.rf | refine a_fr.upd ?_ (Nat.le_refl t) (Nat.lt_succ_self t)))) (by rw [e1, ee]; exact a_us) (fun z => ?_) (fun x z => ?_)
        · rw [e1] at z; exact absurd z (by decide)
        · rw [e1] at z; exact absurd z (by decide)
    · refine a_aload_n d_T_advance_44 rfl rfl ?_
      refine a_aload_n d_T_advance_45 rfl rfl ?_
      apply a_getfield d_T_advance_46 f_T_18
      · (repeat (first | with_reducible assumption | with_reducible exact a_us | with_reducible exact a_ns | refine a_un (by first | with_reducible assumption | omega) ?_ | refine a_nn (by first | with_reducible assumption | omega | (simp only [a_upd_1, a_new_1]; omega)) ?_ | exact a_us | exact a_ns))
      · rfl
      apply a_putfield d_T_advance_49 p_T_25
      · (repeat (first | with_reducible assumption | with_reducible exact a_us | with_reducible exact a_ns | refine a_un (by first | with_reducible assumption | omega) ?_ | refine a_nn (by first | with_reducible assumption | omega | (simp only [a_upd_1, a_new_1]; omega)) ?_ | exact a_us | exact a_ns))
      · first | rfl | assumption
      · first | rfl | assumption
      · exact Nat.le_of_ble_eq_true rfl
      refine a_aload_n d_T_advance_52 rfl rfl ?_
      apply a_getfield d_T_advance_53 f_T_9
      · (repeat (first | with_reducible assumption | with_reducible exact a_us | with_reducible exact a_ns | refine a_un (by first | with_reducible assumption | omega) ?_ | refine a_nn (by first | with_reducible assumption | omega | (simp only [a_upd_1, a_new_1]; omega)) ?_ | exact a_us | exact a_ns))
      · rfl
      refine a_aload_n d_T_advance_56 rfl rfl ?_
      apply a_getfield d_T_advance_57 f_T_18
      · (repeat (first | with_reducible assumption | with_reducible exact a_us | with_reducible exact a_ns | refine a_un (by first | with_reducible assumption | omega) ?_ | refine a_nn (by first | with_reducible assumption | omega | (simp only [a_upd_1, a_new_1]; omega)) ?_ | exact a_us | exact a_ns))
      · rfl
      apply a_callV (ci := 0) 0 0 [_] _ d_T_advance_60 l_T_41 ⟨im_B_at, se_B_at⟩ rfl rfl rfl rfl (Nat.le_of_ble_eq_true rfl) ⟨Nat.le_of_ble_eq_true rfl, Nat.le_of_ble_eq_true rfl⟩
      · (repeat (first | with_reducible assumption | with_reducible exact a_us | with_reducible exact a_ns | refine a_un (by first | with_reducible assumption | omega) ?_ | refine a_nn (by first | with_reducible assumption | omega | (simp only [a_upd_1, a_new_1]; omega)) ?_ | exact a_us | exact a_ns))
      refine sp_B_at (hB3 _) ?_
      rw [atF_in hpn (by omega)]
      refine a_istore_n d_T_advance_63 rfl (by decide) ?_
      refine a_iload_n d_T_advance_64 rfl rfl ?_
      refine a_iconst (v := (-1)) d_T_advance_65 (by decide) ?_
      refine a_icmp_ne (tgt := 77) d_T_advance_66 (by decide) (fun c_1 => ?_) (fun n9 => absurd n9 (nI_m1 (by omega)))
      refine a_iload_n d_T_advance_77 rfl rfl ?_
      refine a_callS 1 20 [_] _ d_T_advance_78 l_T_85 is_T_inWord rfl rfl (Nat.le_of_ble_eq_true rfl) ⟨Nat.le_of_ble_eq_true rfl, Nat.le_of_ble_eq_true rfl⟩ ?_
      refine sp_T_inWord ?_
      refine a_if_eq (tgt := 91) d_T_advance_81 (by decide) (fun n9 => absurd n9 (hw)) (fun c_2 => ?_)
      refine a_aload_n d_T_advance_84 rfl rfl ?_
      apply a_callV (ci := 5) 3 66 [] _ d_T_advance_85 l_T_88 ⟨im_T_takeWord, se_T_takeWord⟩ rfl rfl rfl rfl (Nat.le_of_ble_eq_true rfl) ⟨Nat.le_of_ble_eq_true rfl, Nat.le_of_ble_eq_true rfl⟩
      · (repeat (first | with_reducible assumption | with_reducible exact a_us | with_reducible exact a_ns | refine a_un (by first | with_reducible assumption | omega) ?_ | refine a_nn (by first | with_reducible assumption | omega | (simp only [a_upd_1, a_new_1]; omega)) ?_ | exact a_us | exact a_ns))
      refine sp_T_takeWord (k := (p, k.2.1, p, k.2.2.2.1, k.2.2.2.2)) (hB3 _) a_us hd rfl (show p ≤ n by omega) (wen_gt hw (show 0 < n - p by omega)) (fun τ nm nu hf4 hT4 h5 h6 => ?_)
      refine a_goto (tgt := 126) d_T_advance_88 (by decide) ?_
      refine a_return d_T_advance_126 rfl ?_
      have ee : lxE n f k.1 = wen f (n - p) p := by rw [lxE, hpe, if_neg (Nat.not_le.mpr hpn), if_neg hw]
      have e1 : lxK n f k.1 = wkF f p (wen f (n - p) p) := by rw [lxK, hpe, if_neg (Nat.not_le.mpr hpn), if_neg hw]
      rw [e1, ee] at hK
      exact hK _ nm nu (hf2.trans ((a_fr.rf.upd (Nat.le_refl t) (Nat.lt_succ_self t)).trans hf4)) hT4 h5 h6

end ModT4
