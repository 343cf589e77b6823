/-! THE MODEL's next -/
def tkc (k : Int32) : Nat := if k = 0 then 4 else if k = 1 then 0 else if k = 2 then 1 else if k = 3 then 2 else 3
/-- y is x behind the token at a -/
def NX (n : Nat) (f : Nat → Nat) (a : Nat) (x y : aX) : Prop := y.2.2 = x.2.2 ∧ (∀ k, ¬ k = 19 → ¬ k = 20 → ¬ k = 21 → ¬ k = 24 → ¬ k = 25 → y.1 k = x.1 k) ∧ (∃ e, e ≤ n ∧ y.1 19 = nI e) ∧ (¬ x.1 24 = 0 → y.1 24 = x.1 24 ∧ y.1 25 = x.1 25) ∧ (x.1 24 = 0 → lxK n f a = 5 → y.1 24 = 1 ∧ y.1 25 = nI (lxP n f a)) ∧ (x.1 24 = 0 → ¬ lxK n f a = 5 → y.1 24 = 0 ∧ y.1 25 = x.1 25 ∧ y.1 19 = nI (lxE n f a) ∧ y.1 21 = nI (lxP n f a) ∧ y.1 20 = nI (tkc (lxK n f a)) ∧ (lxK n f a = 3 → y.2.1 22 = e27 (nl n f (lxP n f a))) ∧ (lxK n f a = 4 → y.2.1 23 = (tkV n f a).toInt64))
theorem sI_id {x : aX} {k : Nat} {v : Int32} (h : x.1 k = v) : sI x k v = x := by
  show (upd x.1 k v, x.2) = x
  have : upd x.1 k v = x.1 := by
    funext j
    unfold upd
    split
    · rename_i e; rw [e, h]
    · rfl
  rw [this]
theorem alL_first {f : Nat → Nat} {P E : Nat} (h : P < E) (hl : leF (nI (f P)) = 0) : alL f (E - P) P = 0 := by
  rw [show E - P = (E - P - 1) + 1 by omega, alL, if_pos hl]
theorem nk_letter {f : Nat → Nat} {P E : Nat} (h : P < E) (hf : f P < 256) (hl : ¬ leF (nI (f P)) = 0) : nkF f P E = 5 := by
  have hd := (le_in (by omega)).mp hl
  have h45 : ¬ nI (f P) = 45 := fun e => by have := (nI_eq (b := 45) (by omega) (by decide)).mp e; omega
  have hdi : diF (nI (f P)) = 0 := by
    by_cases g : diF (nI (f P)) = 0
    · exact g
    · have := (di_in (by omega)).mp g; omega
  have : nvW f P E = none := by
    unfold nvW tq tm
    rw [if_neg h45, if_neg h45, show E - P = (E - P - 1) + 1 by omega, nvF, if_pos hdi]
  unfold nkF
  rw [this]
theorem lxK_word {n : Nat} {f : Nat → Nat} {a : Nat} (h1 : lxP n f a < n) (h2 : ¬ wdF (nI (f (lxP n f a))) = 0) : lxE n f a = wen f (n - lxP n f a) (lxP n f a) ∧ lxK n f a = wkF f (lxP n f a) (lxE n f a) := by
  have e : lxE n f a = wen f (n - lxP n f a) (lxP n f a) := by rw [lxE, if_neg (by omega), if_neg h2]
  exact ⟨e, by rw [lxK, if_neg (by omega), if_neg h2, ← e]⟩
section ModM5
variable {G : aG} {σ0 : aS} {K : Option Value → aS → Prop} {m n : Nat} {f : Nat → Nat} {x : aX}
set_option maxHeartbeats 1000000 in
set_option maxRecDepth 100000 in
theorem lp_M_blank  : ∀ (k a : Nat) {x : aX}, MX x n f → x.1 19 = nI a → a + k = n → a_J G m_M_next 2 48 39 [(0, .ref m)] [] (mk σ0 m (sI x 19 (nI (skp f k a)))) K → a_J G m_M_next 2 48 0 [(0, .ref m)] [] (mk σ0 m x) K := by
  intro k
  induction k with
  | zero =>
    intro a x hT hA hk hJ
    have hn := hT.2.1
    have el : ltF n f a = 0 := by unfold ltF; rw [if_neg (by omega)]
    refine a_aload_n d_M_next_0 rfl rfl ?_
    refine a_aload_n d_M_next_1 rfl rfl ?_
    refine m_get d_M_next_2 f_M_139 rfl ?_
    apply a_callV (ci := 7) 0 0 [_] _ d_M_next_5 l_M_142 ⟨im_M_letterAt, se_M_letterAt⟩ rfl rfl rfl rfl (Nat.le_of_ble_eq_true rfl) ⟨Nat.le_of_ble_eq_true rfl, Nat.le_of_ble_eq_true rfl⟩
    · (exact mk_O)
    rw [hA]
    refine sp_M_letterAt hT (by omega) ?_
    rw [el]
    refine a_bipush (v := 32) d_M_next_8 (by decide) ?_
    refine a_icmp_eq (tgt := 26) d_M_next_10 (by decide) (fun n9 => absurd n9 (by decide)) (fun c_1 => ?_)
    refine a_aload_n d_M_next_13 rfl rfl ?_
    refine a_aload_n d_M_next_14 rfl rfl ?_
    refine m_get d_M_next_15 f_M_139 rfl ?_
    apply a_callV (ci := 7) 0 0 [_] _ d_M_next_18 l_M_142 ⟨im_M_letterAt, se_M_letterAt⟩ rfl rfl rfl rfl (Nat.le_of_ble_eq_true rfl) ⟨Nat.le_of_ble_eq_true rfl, Nat.le_of_ble_eq_true rfl⟩
    · (exact mk_O)
    rw [hA]
    refine sp_M_letterAt hT (by omega) ?_
    rw [el]
    refine a_bipush (v := 10) d_M_next_21 (by decide) ?_
    refine a_icmp_ne (tgt := 39) d_M_next_23 (by decide) (fun c_2 => ?_) (fun n9 => absurd n9 (by decide))
    rw [skp, sI_id hA] at hJ
    exact a_lvk hJ ⟨rfl, trivial⟩
  | succ k ih =>
    intro a x hT hA hk hJ
    have hn := hT.2.1
    have el : ltF n f a = f a := by unfold ltF; rw [if_pos (by omega)]
    refine a_aload_n d_M_next_0 rfl rfl ?_
    refine a_aload_n d_M_next_1 rfl rfl ?_
    refine m_get d_M_next_2 f_M_139 rfl ?_
    apply a_callV (ci := 7) 0 0 [_] _ d_M_next_5 l_M_142 ⟨im_M_letterAt, se_M_letterAt⟩ rfl rfl rfl rfl (Nat.le_of_ble_eq_true rfl) ⟨Nat.le_of_ble_eq_true rfl, Nat.le_of_ble_eq_true rfl⟩
    · (exact mk_O)
    rw [hA]
    refine sp_M_letterAt hT (by omega) ?_
    rw [el]
    refine a_bipush (v := 32) d_M_next_8 (by decide) ?_
    refine a_icmp_eq (tgt := 26) d_M_next_10 (by decide) (fun c_1 => ?_) (fun c_1 => ?_)
    · refine a_aload_n d_M_next_26 rfl rfl ?_
      refine a_dup d_M_next_27 rfl ?_
      refine m_get d_M_next_28 f_M_139 rfl ?_
      refine a_iconst (v := 1) d_M_next_31 (by decide) ?_
      refine a_iadd d_M_next_32 ?_
      refine m_putI d_M_next_33 p_M_139 rfl rfl (by decide) ?_
      refine a_goto (tgt := 0) d_M_next_36 (by decide) ?_
      rw [hA, nI_1]
      refine ih (a + 1) (x := sI x 19 (nI (a + 1))) hT rfl (by omega) ?_
      rw [skp, if_neg (show ¬ blF (nI (f a)) = 0 by unfold blF; first | (rw [if_pos (by assumption)]; decide) | (split <;> decide) | (split; decide; split; decide; contradiction))] at hJ
      rw [sI_sI]
      exact hJ
    · refine a_aload_n d_M_next_13 rfl rfl ?_
      refine a_aload_n d_M_next_14 rfl rfl ?_
      refine m_get d_M_next_15 f_M_139 rfl ?_
      apply a_callV (ci := 7) 0 0 [_] _ d_M_next_18 l_M_142 ⟨im_M_letterAt, se_M_letterAt⟩ rfl rfl rfl rfl (Nat.le_of_ble_eq_true rfl) ⟨Nat.le_of_ble_eq_true rfl, Nat.le_of_ble_eq_true rfl⟩
      · (exact mk_O)
      rw [hA]
      refine sp_M_letterAt hT (by omega) ?_
      rw [el]
      refine a_bipush (v := 10) d_M_next_21 (by decide) ?_
      refine a_icmp_ne (tgt := 39) d_M_next_23 (by decide) (fun c_2 => ?_) (fun c_2 => ?_)
      · rw [skp, if_pos (show blF (nI (f a)) = 0 by unfold blF; rw [if_neg (by assumption), if_neg (by assumption)]), sI_id hA] at hJ
        exact a_lvk hJ ⟨rfl, trivial⟩
      · refine a_aload_n d_M_next_26 rfl rfl ?_
        refine a_dup d_M_next_27 rfl ?_
        refine m_get d_M_next_28 f_M_139 rfl ?_
        refine a_iconst (v := 1) d_M_next_31 (by decide) ?_
        refine a_iadd d_M_next_32 ?_
        refine m_putI d_M_next_33 p_M_139 rfl rfl (by decide) ?_
        refine a_goto (tgt := 0) d_M_next_36 (by decide) ?_
        rw [hA, nI_1]
        refine ih (a + 1) (x := sI x 19 (nI (a + 1))) hT rfl (by omega) ?_
        rw [skp, if_neg (show ¬ blF (nI (f a)) = 0 by unfold blF; first | (rw [if_pos (by assumption)]; decide) | (split <;> decide) | (split; decide; split; decide; contradiction))] at hJ
        rw [sI_sI]
        exact hJ

set_option maxHeartbeats 1000000 in
set_option maxRecDepth 100000 in
theorem lp_M_word {b : Int32} (hT : MX x n f) : ∀ (k i : Nat), i + k = n → a_J G m_M_next 2 48 149 [(0, .ref m), (1, .int b), (2, .int (nI (wen f k i)))] [] (mk σ0 m x) K → a_J G m_M_next 2 48 132 [(0, .ref m), (1, .int b), (2, .int (nI i))] [] (mk σ0 m x) K := by
  have hn := hT.2.1
  intro k
  induction k with
  | zero =>
    intro i hk hJ
    have el : ltF n f i = 0 := by unfold ltF; rw [if_neg (by omega)]
    refine a_aload_n d_M_next_132 rfl rfl ?_
    refine a_iload_n d_M_next_133 rfl rfl ?_
    apply a_callV (ci := 7) 0 0 [_] _ d_M_next_134 l_M_142 ⟨im_M_letterAt, se_M_letterAt⟩ rfl rfl rfl rfl (Nat.le_of_ble_eq_true rfl) ⟨Nat.le_of_ble_eq_true rfl, Nat.le_of_ble_eq_true rfl⟩
    · (exact mk_O)
    refine sp_M_letterAt hT (by omega) ?_
    rw [el]
    refine a_callS 1 20 [_] _ d_M_next_137 l_M_152 is_M_isOfWord rfl rfl (Nat.le_of_ble_eq_true rfl) ⟨Nat.le_of_ble_eq_true rfl, Nat.le_of_ble_eq_true rfl⟩ ?_
    refine sp_M_isOfWord ?_
    refine a_if_eq (tgt := 149) d_M_next_140 (by decide) (fun c_1 => ?_) (fun n9 => absurd (by decide) n9)
    rw [wen] at hJ
    exact a_lvk hJ ⟨rfl, rfl, rfl, trivial⟩
  | succ k ih =>
    intro i hk hJ
    have el : ltF n f i = f i := by unfold ltF; rw [if_pos (by omega)]
    refine a_aload_n d_M_next_132 rfl rfl ?_
    refine a_iload_n d_M_next_133 rfl rfl ?_
    apply a_callV (ci := 7) 0 0 [_] _ d_M_next_134 l_M_142 ⟨im_M_letterAt, se_M_letterAt⟩ rfl rfl rfl rfl (Nat.le_of_ble_eq_true rfl) ⟨Nat.le_of_ble_eq_true rfl, Nat.le_of_ble_eq_true rfl⟩
    · (exact mk_O)
    refine sp_M_letterAt hT (by omega) ?_
    rw [el]
    refine a_callS 1 20 [_] _ d_M_next_137 l_M_152 is_M_isOfWord rfl rfl (Nat.le_of_ble_eq_true rfl) ⟨Nat.le_of_ble_eq_true rfl, Nat.le_of_ble_eq_true rfl⟩ ?_
    refine sp_M_isOfWord ?_
    refine a_if_eq (tgt := 149) d_M_next_140 (by decide) (fun c_1 => ?_) (fun c_1 => ?_)
    · rw [wen, if_pos (by assumption)] at hJ
      exact a_lvk hJ ⟨rfl, rfl, rfl, trivial⟩
    · refine a_iinc (c0 := 1) d_M_next_143 rfl (by decide) (by decide) ?_
      refine a_goto (tgt := 132) d_M_next_146 (by decide) ?_
      rw [nI_1]
      rw [wen, if_neg (by assumption)] at hJ
      exact a_lvk (ih (i + 1) (by omega) hJ) ⟨rfl, rfl, rfl, trivial⟩

set_option maxHeartbeats 1000000 in
set_option maxRecDepth 100000 in
theorem sp_M_next {a : Nat} (hT : MX x n f) (hA : x.1 19 = nI a) (ha : a ≤ n) (hK : ∀ y : aX, NX n f a x y → K none (mk σ0 m y)) : a_C G m_M_next 2 48 [.ref m] (mk σ0 m x) K := by
  have hn := hT.2.1
  have hle := lx_le n f ha
  refine a_enter rfl (Nat.le_of_ble_eq_true rfl) ?_
  refine lp_M_blank (n - a) a hT hA (by omega) ?_
  rw [show skp f (n - a) a = (lxP n f a) from rfl]
  refine a_aload_n d_M_next_39 rfl rfl ?_
  refine a_aload_n d_M_next_40 rfl rfl ?_
  refine m_get d_M_next_41 f_M_139 rfl ?_
  rw [show (sI x 19 (nI (lxP n f a))).1 19 = nI (lxP n f a) from rfl]
  refine m_putI d_M_next_44 p_M_146 rfl rfl (by decide) ?_
  refine a_aload_n d_M_next_47 rfl rfl ?_
  refine m_get d_M_next_48 f_M_139 rfl ?_
  rw [show (sI (sI x 19 (nI (lxP n f a))) 21 (nI (lxP n f a))).1 19 = nI (lxP n f a) from rfl]
  refine a_aload_n d_M_next_51 rfl rfl ?_
  refine m_get d_M_next_52 f_M_109 rfl ?_
  rw [show (sI (sI x 19 (nI (lxP n f a))) 21 (nI (lxP n f a))).1 18 = nI n from hT.1]
  refine a_icmp_lt (tgt := 64) d_M_next_55 (by decide) (fun c_1 => ?_) (fun c_1 => ?_)
  · have hlt : (lxP n f a) < n := (nI_ltI (by omega) (by omega)).mp (by first | assumption | exact Int32.not_le.mp (by assumption))
    have hfb := (hT.2.2 (lxP n f a) hlt).2
    refine a_aload_n d_M_next_64 rfl rfl ?_
    refine m_get d_M_next_65 f_M_41 rfl ?_
    refine a_aload_n d_M_next_68 rfl rfl ?_
    refine m_get d_M_next_69 f_M_139 rfl ?_
    rw [show (sI (sI x 19 (nI (lxP n f a))) 21 (nI (lxP n f a))).1 19 = nI (lxP n f a) from rfl]
    refine m_iald d_M_next_72 (by decide) rfl (vp_in_nI (show (lxP n f a) < 4096 by omega) (by decide)) ?_
    rw [nI_clamp (show (lxP n f a) < 2 ^ 31 by omega), show (sI (sI x 19 (nI (lxP n f a))) 21 (nI (lxP n f a))).2.2.1 10 (lxP n f a) = nI (f (lxP n f a)) from (hT.2.2 (lxP n f a) hlt).1]
    refine a_istore_n d_M_next_73 rfl (by decide) ?_
    refine a_iload_n d_M_next_74 rfl rfl ?_
    refine a_bipush (v := 40) d_M_next_75 (by decide) ?_
    refine a_icmp_eq (tgt := 86) d_M_next_77 (by decide) (fun c_2 => ?_) (fun c_2 => ?_)
    · refine a_aload_n d_M_next_86 rfl rfl ?_
      refine a_iload_n d_M_next_87 rfl rfl ?_
      refine a_bipush (v := 40) d_M_next_88 (by decide) ?_
      refine a_isub d_M_next_90 ?_
      refine m_putI d_M_next_91 p_M_149 rfl rfl (by decide) ?_
      refine a_aload_n d_M_next_94 rfl rfl ?_
      refine a_dup d_M_next_95 rfl ?_
      refine m_get d_M_next_96 f_M_139 rfl ?_
      refine a_iconst (v := 1) d_M_next_99 (by decide) ?_
      refine a_iadd d_M_next_100 ?_
      refine m_putI d_M_next_101 p_M_139 rfl rfl (by decide) ?_
      refine a_return d_M_next_104 rfl ?_
      have hw0 : wdF (nI (f (lxP n f a))) = 0 := by first | (rw [(by assumption : nI (f (lxP n f a)) = 40)]; decide) | (rw [show nI (f (lxP n f a)) = 41 from by first | assumption | exact Decidable.not_not.mp (by assumption)]; decide)
      have eE : (lxE n f a) = (lxP n f a) + 1 := by rw [lxE, if_neg (by omega), if_pos hw0]
      have eK : lxK n f a = nI (f (lxP n f a)) - 39 := by rw [lxK, if_neg (by omega), if_pos hw0]; first | (rw [if_pos (by assumption), (by assumption : nI (f (lxP n f a)) = 40)]; rfl) | (rw [if_neg (by assumption)]; have e41 : nI (f (lxP n f a)) = 41 := (by first | assumption | exact Decidable.not_not.mp (by assumption)); rw [if_pos e41, e41]; rfl)
      have h4 : nI (f (lxP n f a)) = 40 ∨ nI (f (lxP n f a)) = 41 := by first | exact Or.inl (by assumption) | exact Or.inr (by first | assumption | exact Decidable.not_not.mp (by assumption))
      have e5 : ¬ lxK n f a = 5 ∧ ¬ lxK n f a = 3 ∧ ¬ lxK n f a = 4 ∧ nI (f (lxP n f a)) - 40 = nI (tkc (lxK n f a)) := by rw [eK]; rcases h4 with e | e <;> rw [e] <;> decide
      exact hK _ ⟨rfl, fun k h1 h2 h3 h4 h5 => by simp [sI, sJ, upd, h1, h2, h3, h4, h5], ⟨(lxP n f a) + 1, by omega, by rw [← nI_1]; rfl⟩, fun _ => ⟨rfl, rfl⟩, fun _ z => absurd z e5.1, fun z _ => ⟨z, rfl, by rw [eE, ← nI_1]; rfl, rfl, e5.2.2.2, fun y => absurd y e5.2.1, fun y => absurd y e5.2.2.1⟩⟩
    · refine a_iload_n d_M_next_80 rfl rfl ?_
      refine a_bipush (v := 41) d_M_next_81 (by decide) ?_
      refine a_icmp_ne (tgt := 105) d_M_next_83 (by decide) (fun c_3 => ?_) (fun c_3 => ?_)
      · refine a_iload_n d_M_next_105 rfl rfl ?_
        refine a_callS 1 20 [_] _ d_M_next_106 l_M_152 is_M_isOfWord rfl rfl (Nat.le_of_ble_eq_true rfl) ⟨Nat.le_of_ble_eq_true rfl, Nat.le_of_ble_eq_true rfl⟩ ?_
        refine sp_M_isOfWord ?_
        refine a_if_ne (tgt := 127) d_M_next_109 (by decide) (fun c_4 => ?_) (fun c_4 => ?_)
        · refine a_aload_n d_M_next_127 rfl rfl ?_
          refine m_get d_M_next_128 f_M_139 rfl ?_
          rw [show (sI (sI x 19 (nI (lxP n f a))) 21 (nI (lxP n f a))).1 19 = nI (lxP n f a) from rfl]
          refine a_istore_n d_M_next_131 rfl (by decide) ?_
          refine a_lvk (lp_M_word (x := (sI (sI x 19 (nI (lxP n f a))) 21 (nI (lxP n f a)))) (b := nI (f (lxP n f a))) hT (n - (lxP n f a)) (lxP n f a) (by omega) ?_) ⟨rfl, rfl, rfl, trivial⟩
          have hwd : ¬ wdF (nI (f (lxP n f a))) = 0 := by assumption
          obtain ⟨eE, eK⟩ := lxK_word hlt hwd
          rw [← eE]
          have hPE : (lxP n f a) < (lxE n f a) := by rw [eE]; exact wen_gt hwd (by omega)
          refine a_iload_n d_M_next_149 rfl rfl ?_
          refine a_callS 0 0 [_] _ d_M_next_150 l_M_136 is_M_isSmall rfl rfl (Nat.le_of_ble_eq_true rfl) ⟨Nat.le_of_ble_eq_true rfl, Nat.le_of_ble_eq_true rfl⟩ ?_
          refine sp_M_isSmall ?_
          refine a_if_eq (tgt := 164) d_M_next_153 (by decide) (fun c_5 => ?_) (fun c_5 => ?_)
          · refine a_aload_n d_M_next_164 rfl rfl ?_
            refine a_iload_n d_M_next_165 rfl rfl ?_
            apply a_callV (ci := 7) 1 22 [_] _ d_M_next_166 l_M_163 ⟨im_M_takeNumber, se_M_takeNumber⟩ rfl rfl rfl rfl (Nat.le_of_ble_eq_true rfl) ⟨Nat.le_of_ble_eq_true rfl, Nat.le_of_ble_eq_true rfl⟩
            · (exact mk_O)
            refine sp_M_takeNumber (P := (lxP n f a)) (E := (lxE n f a)) hT rfl hPE hle.2.2.2 (fun u g1 g2 => ?_) (fun g u => ?_)
            · refine a_aload_n d_M_next_169 rfl rfl ?_
              refine a_iload_n d_M_next_170 rfl rfl ?_
              refine m_putI d_M_next_171 p_M_139 rfl rfl (by decide) ?_
              refine a_return d_M_next_174 rfl ?_
              have hl0 : leF (nI (f (lxP n f a))) = 0 := by first | assumption | exact Decidable.not_not.mp (by assumption)
              have eKn : lxK n f a = nkF f (lxP n f a) (lxE n f a) := by rw [eK, wkF, if_pos (alL_first hPE hl0)]
              have eK4 : lxK n f a = 4 := by rw [eKn]; unfold nkF; rw [g1]; exact if_neg (nI_ge g2 (by omega))
              have eV : tkV n f a = sgF f (lxP n f a) u := by unfold tkV; rw [g1]
              exact hK _ ⟨rfl, fun k h1 h2 h3 h4 h5 => by simp [sI, sJ, upd, h1, h2, h3, h4, h5], ⟨_, hle.2.2.2, rfl⟩, fun _ => ⟨rfl, rfl⟩, fun _ z => absurd (eK4.symm.trans z) (by decide), fun z _ => ⟨z, rfl, rfl, rfl, by rw [eK4]; rfl, fun y => absurd (eK4.symm.trans y) (by decide), fun _ => by rw [eV]; rfl⟩⟩
            · refine a_aload_n d_M_next_169 rfl rfl ?_
              refine a_iload_n d_M_next_170 rfl rfl ?_
              refine m_putI d_M_next_171 p_M_139 rfl rfl (by decide) ?_
              refine a_return d_M_next_174 rfl ?_
              have hl0 : leF (nI (f (lxP n f a))) = 0 := by first | assumption | exact Decidable.not_not.mp (by assumption)
              have eKn : lxK n f a = nkF f (lxP n f a) (lxE n f a) := by rw [eK, wkF, if_pos (alL_first hPE hl0)]
              have htq : tq f (lxP n f a) < 2 ^ 31 := by unfold tq; split <;> omega
              have eK5 : lxK n f a = 5 := by
                rw [eKn]; unfold nkF
                rcases g with g | g
                · rw [g]
                · split
                  · rfl
                  · exact if_pos (nI_le g htq)
              refine hK _ ⟨by unfold wrX; split <;> rfl, fun k h1 h2 h3 h4 h5 => by unfold wrX; split <;> simp [sI, sJ, upd, h1, h2, h3, h4, h5], ⟨_, hle.2.2.2, rfl⟩, fun z => ?_, fun z _ => ?_, fun _ z => absurd eK5 z⟩
              · rw [wrX, if_neg (show ¬ (sJ (sI (sI (sI x 19 (nI (lxP n f a))) 21 (nI (lxP n f a))) 20 3) 23 u).1 24 = 0 from z)]; exact ⟨rfl, rfl⟩
              · rw [wrX, if_pos (show (sJ (sI (sI (sI x 19 (nI (lxP n f a))) 21 (nI (lxP n f a))) 20 3) 23 u).1 24 = 0 from z)]; exact ⟨rfl, rfl⟩
          · refine a_aload_n d_M_next_156 rfl rfl ?_
            refine a_iload_n d_M_next_157 rfl rfl ?_
            apply a_callV (ci := 7) 1 22 [_] _ d_M_next_158 l_M_159 ⟨im_M_takeName, se_M_takeName⟩ rfl rfl rfl rfl (Nat.le_of_ble_eq_true rfl) ⟨Nat.le_of_ble_eq_true rfl, Nat.le_of_ble_eq_true rfl⟩
            · (exact mk_O)
            refine sp_M_takeName (P := (lxP n f a)) (E := (lxE n f a)) hT rfl hPE hle.2.2.2 (fun g => ?_) (fun g u => ?_)
            · refine a_goto (tgt := 169) d_M_next_161 (by decide) ?_
              refine a_aload_n d_M_next_169 rfl rfl ?_
              refine a_iload_n d_M_next_170 rfl rfl ?_
              refine m_putI d_M_next_171 p_M_139 rfl rfl (by decide) ?_
              refine a_return d_M_next_174 rfl ?_
              have hl0 : ¬ leF (nI (f (lxP n f a))) = 0 := by assumption
              have eK3 : lxK n f a = 3 := by rw [eK, wkF, if_neg g.2, if_neg (show ¬ (12 : Int32) < nI (lxE n f a) - nI (lxP n f a) by rw [nI_sub (by omega)]; exact nI_nlt (a := 12) (by omega) (by decide))]
              obtain ⟨-, -, q3⟩ := lx_3 (by omega) ha eK3
              exact hK _ ⟨rfl, fun k h1 h2 h3 h4 h5 => by simp [sI, sJ, upd, h1, h2, h3, h4, h5], ⟨_, hle.2.2.2, rfl⟩, fun _ => ⟨rfl, rfl⟩, fun _ z => absurd (eK3.symm.trans z) (by decide), fun z _ => ⟨z, rfl, rfl, rfl, by rw [eK3]; rfl, fun _ => by rw [q3]; rfl, fun y => absurd (eK3.symm.trans y) (by decide)⟩⟩
            · refine a_goto (tgt := 169) d_M_next_161 (by decide) ?_
              refine a_aload_n d_M_next_169 rfl rfl ?_
              refine a_iload_n d_M_next_170 rfl rfl ?_
              refine m_putI d_M_next_171 p_M_139 rfl rfl (by decide) ?_
              refine a_return d_M_next_174 rfl ?_
              have hl0 : ¬ leF (nI (f (lxP n f a))) = 0 := by assumption
              have eK5 : lxK n f a = 5 := by
                rw [eK, wkF]
                by_cases z : alL f ((lxE n f a) - (lxP n f a)) (lxP n f a) = 0
                · rw [if_pos z]; exact nk_letter hPE hfb hl0
                · rw [if_neg z, if_pos (show (12 : Int32) < nI (lxE n f a) - nI (lxP n f a) by rw [nI_sub (by omega)]; exact nI_lt (a := 12) (Nat.lt_of_not_le fun y => g ⟨by omega, z⟩) (by omega))]; exact nk_letter hPE hfb hl0
              refine hK _ ⟨by unfold wrX; split <;> rfl, fun k h1 h2 h3 h4 h5 => by unfold wrX; split <;> simp [sI, sJ, upd, h1, h2, h3, h4, h5], ⟨_, hle.2.2.2, rfl⟩, fun z => ?_, fun z _ => ?_, fun _ z => absurd eK5 z⟩
              · rw [wrX, if_neg (show ¬ (sJ (sI (sI (sI x 19 (nI (lxP n f a))) 21 (nI (lxP n f a))) 20 2) 22 u).1 24 = 0 from z)]; exact ⟨rfl, rfl⟩
              · rw [wrX, if_pos (show (sJ (sI (sI (sI x 19 (nI (lxP n f a))) 21 (nI (lxP n f a))) 20 2) 22 u).1 24 = 0 from z)]; exact ⟨rfl, rfl⟩
        · refine a_aload_n d_M_next_112 rfl rfl ?_
          refine a_iconst (v := 1) d_M_next_113 (by decide) ?_
          refine a_aload_n d_M_next_114 rfl rfl ?_
          refine m_get d_M_next_115 f_M_139 rfl ?_
          rw [show (sI (sI x 19 (nI (lxP n f a))) 21 (nI (lxP n f a))).1 19 = nI (lxP n f a) from rfl]
          apply a_callV (ci := 7) 0 0 [_, _] _ d_M_next_118 l_M_155 ⟨im_M_wrong, se_M_wrong⟩ rfl rfl rfl rfl (Nat.le_of_ble_eq_true rfl) ⟨Nat.le_of_ble_eq_true rfl, Nat.le_of_ble_eq_true rfl⟩
          · (exact mk_O)
          refine sp_M_wrong ?_
          refine a_aload_n d_M_next_121 rfl rfl ?_
          refine a_iconst (v := 4) d_M_next_122 (by decide) ?_
          refine m_putI d_M_next_123 p_M_149 rfl rfl (by decide) ?_
          refine a_return d_M_next_126 rfl ?_
          have hw0 : wdF (nI (f (lxP n f a))) = 0 := by first | assumption | exact Decidable.not_not.mp (by assumption)
          have eK : lxK n f a = 5 := by rw [lxK, if_neg (by omega), if_pos hw0, if_neg (by assumption), if_neg (by assumption)]
          refine hK _ ⟨by unfold wrX; split <;> rfl, fun k h1 h2 h3 h4 h5 => by unfold wrX; split <;> simp [sI, sJ, upd, h1, h2, h3, h4, h5], ⟨(lxP n f a), hle.2.1, by unfold wrX; split <;> rfl⟩, fun z => ?_, fun z _ => ?_, fun _ z => absurd eK z⟩
          · rw [wrX, if_neg (show ¬ (sI (sI x 19 (nI (lxP n f a))) 21 (nI (lxP n f a))).1 24 = 0 from z)]; exact ⟨rfl, rfl⟩
          · rw [wrX, if_pos (show (sI (sI x 19 (nI (lxP n f a))) 21 (nI (lxP n f a))).1 24 = 0 from z)]; exact ⟨rfl, rfl⟩
      · refine a_aload_n d_M_next_86 rfl rfl ?_
        refine a_iload_n d_M_next_87 rfl rfl ?_
        refine a_bipush (v := 40) d_M_next_88 (by decide) ?_
        refine a_isub d_M_next_90 ?_
        refine m_putI d_M_next_91 p_M_149 rfl rfl (by decide) ?_
        refine a_aload_n d_M_next_94 rfl rfl ?_
        refine a_dup d_M_next_95 rfl ?_
        refine m_get d_M_next_96 f_M_139 rfl ?_
        refine a_iconst (v := 1) d_M_next_99 (by decide) ?_
        refine a_iadd d_M_next_100 ?_
        refine m_putI d_M_next_101 p_M_139 rfl rfl (by decide) ?_
        refine a_return d_M_next_104 rfl ?_
        have hw0 : wdF (nI (f (lxP n f a))) = 0 := by first | (rw [(by assumption : nI (f (lxP n f a)) = 40)]; decide) | (rw [show nI (f (lxP n f a)) = 41 from by first | assumption | exact Decidable.not_not.mp (by assumption)]; decide)
        have eE : (lxE n f a) = (lxP n f a) + 1 := by rw [lxE, if_neg (by omega), if_pos hw0]
        have eK : lxK n f a = nI (f (lxP n f a)) - 39 := by rw [lxK, if_neg (by omega), if_pos hw0]; first | (rw [if_pos (by assumption), (by assumption : nI (f (lxP n f a)) = 40)]; rfl) | (rw [if_neg (by assumption)]; have e41 : nI (f (lxP n f a)) = 41 := (by first | assumption | exact Decidable.not_not.mp (by assumption)); rw [if_pos e41, e41]; rfl)
        have h4 : nI (f (lxP n f a)) = 40 ∨ nI (f (lxP n f a)) = 41 := by first | exact Or.inl (by assumption) | exact Or.inr (by first | assumption | exact Decidable.not_not.mp (by assumption))
        have e5 : ¬ lxK n f a = 5 ∧ ¬ lxK n f a = 3 ∧ ¬ lxK n f a = 4 ∧ nI (f (lxP n f a)) - 40 = nI (tkc (lxK n f a)) := by rw [eK]; rcases h4 with e | e <;> rw [e] <;> decide
        exact hK _ ⟨rfl, fun k h1 h2 h3 h4 h5 => by simp [sI, sJ, upd, h1, h2, h3, h4, h5], ⟨(lxP n f a) + 1, by omega, by rw [← nI_1]; rfl⟩, fun _ => ⟨rfl, rfl⟩, fun _ z => absurd z e5.1, fun z _ => ⟨z, rfl, by rw [eE, ← nI_1]; rfl, rfl, e5.2.2.2, fun y => absurd y e5.2.1, fun y => absurd y e5.2.2.1⟩⟩
  · refine a_aload_n d_M_next_58 rfl rfl ?_
    refine a_iconst (v := 4) d_M_next_59 (by decide) ?_
    refine m_putI d_M_next_60 p_M_149 rfl rfl (by decide) ?_
    refine a_return d_M_next_63 rfl ?_
    have hge : n ≤ (lxP n f a) := (nI_leI (by omega) (by omega)).mp (by first | assumption | exact Int32.not_lt.mp (by assumption))
    have eK : lxK n f a = 0 := by rw [lxK, if_pos hge]
    have eE : (lxE n f a) = (lxP n f a) := by rw [lxE, if_pos hge]
    exact hK _ ⟨rfl, fun k h1 h2 h3 h4 h5 => by simp [sI, sJ, upd, h1, h2, h3, h4, h5], ⟨_, hle.2.1, rfl⟩, fun _ => ⟨rfl, rfl⟩, fun _ z => absurd (eK.symm.trans z) (by decide), fun z _ => ⟨z, rfl, by rw [eE]; rfl, rfl, by rw [eK]; rfl, fun y => absurd (eK.symm.trans y) (by decide), fun y => absurd (eK.symm.trans y) (by decide)⟩⟩

end ModM5
