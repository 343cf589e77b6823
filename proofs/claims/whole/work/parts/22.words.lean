/-! TOKENS, third part: numbers, words, advance -/
def tq (f : Nat → Nat) (p : Nat) : Nat := if nI (f p) = 45 then p + 1 else p
def tm (f : Nat → Nat) (p : Nat) : Int64 := if nI (f p) = 45 then 2147483648 else 2147483647
/-- the number's value, of the word p .. e - 1 -/
def nvW (f : Nat → Nat) (p e : Nat) : Option Int64 := nvF f (tm f p) (e - tq f p) (tq f p) 0
def sgF (f : Nat → Nat) (p : Nat) (x : Int64) : Int32 := (if nI (f p) = 45 then -x else x).toInt32
/-- is it a number? -/
def nkF (f : Nat → Nat) (p e : Nat) : Int32 := match nvW f p e with
  | none => 5
  | some _ => if nI e ≤ nI (tq f p) then 5 else 4
/-- a word's kind -/
def wkF (f : Nat → Nat) (p e : Nat) : Int32 := if alL f (e - p) p = 0 then nkF f p e else if (12 : Int32) < nI e - nI p then nkF f p e else 3
def lxP (n : Nat) (f : Nat → Nat) (a : Nat) : Nat := skp f (n - a) a
def lxE (n : Nat) (f : Nat → Nat) (a : Nat) : Nat := if n ≤ lxP n f a then lxP n f a else if wdF (nI (f (lxP n f a))) = 0 then lxP n f a + 1 else wen f (n - lxP n f a) (lxP n f a)
def lxK (n : Nat) (f : Nat → Nat) (a : Nat) : Int32 := if n ≤ lxP n f a then 0 else if wdF (nI (f (lxP n f a))) = 0 then (if nI (f (lxP n f a)) = 40 then 1 else if nI (f (lxP n f a)) = 41 then 2 else 5) else wkF f (lxP n f a) (wen f (n - lxP n f a) (lxP n f a))
section ModT3
variable {G : aG} {σ : aS} {K : Option Value → aS → Prop} {t b cap n : Nat} {f : Nat → Nat} {k : aT}
set_option maxHeartbeats 4000000 in
set_option maxRecDepth 100000 in
theorem sp_T_takeNumber (hB : BY σ b cap n f) (hT : TO σ t b k) (hd : t < b ∨ b + 1 < t) (h1 : k.2.2.1 < k.1) (h2 : k.1 ≤ n) (hK0 : nvW f k.2.2.1 k.1 = none → K (some (.int 0)) σ) (hK1 : ∀ x : Int64, nvW f k.2.2.1 k.1 = some x → ∀ (τ : aS) (r : Int32), a_fr σ τ t (t + 1) → TO τ t b (k.1, k.2.1, k.2.2.1, k.2.2.2.1, sgF f k.2.2.1 x) → r = (if nI k.1 ≤ nI (tq f k.2.2.1) then 0 else 1) → K (some (.int r)) τ) : a_C G m_T_takeNumber 1 21 [.ref t] σ K := by
  have hcap : n ≤ cap ∧ cap < 65536 := by obtain ⟨g, h1, h2, h3, h4, h5⟩ := hB; exact ⟨h3, h4⟩
  obtain ⟨g, hB0, hB1, -⟩ := id hB
  have hT0 : σ.2.2 t = some (.inr (5, [.ref b, .int (nI k.1), .int k.2.1, .int (nI k.2.2.1), .long k.2.2.2.1, .int k.2.2.2.2])) := hT
  refine a_enter rfl (Nat.le_of_ble_eq_true rfl) ?_
  by_cases hm : nI (f k.2.2.1) = 45
  · refine a_aload_n d_T_takeNumber_0 rfl rfl ?_
    apply a_getfield d_T_takeNumber_1 f_T_9
    · (repeat (first | with_reducible assumption | with_reducible exact a_us | with_reducible exact a_ns | refine a_un (by first | with_reducible assumption | omega) ?_ | refine a_nn (by first | with_reducible assumption | omega | (simp only [a_upd_1, a_new_1]; omega)) ?_ | exact a_us | exact a_ns))
    · rfl
    refine a_aload_n d_T_takeNumber_4 rfl rfl ?_
    apply a_getfield d_T_takeNumber_5 f_T_25
    · (repeat (first | with_reducible assumption | with_reducible exact a_us | with_reducible exact a_ns | refine a_un (by first | with_reducible assumption | omega) ?_ | refine a_nn (by first | with_reducible assumption | omega | (simp only [a_upd_1, a_new_1]; omega)) ?_ | exact a_us | exact a_ns))
    · rfl
    apply a_callV (ci := 0) 0 0 [_] _ d_T_takeNumber_8 l_T_41 ⟨im_B_at, se_B_at⟩ rfl rfl rfl rfl (Nat.le_of_ble_eq_true rfl) ⟨Nat.le_of_ble_eq_true rfl, Nat.le_of_ble_eq_true rfl⟩
    · (repeat (first | with_reducible assumption | with_reducible exact a_us | with_reducible exact a_ns | refine a_un (by first | with_reducible assumption | omega) ?_ | refine a_nn (by first | with_reducible assumption | omega | (simp only [a_upd_1, a_new_1]; omega)) ?_ | exact a_us | exact a_ns))
    refine sp_B_at hB ?_
    rw [atF_in (show k.2.2.1 < n by omega) (by omega)]
    refine a_bipush (v := 45) d_T_takeNumber_11 (by decide) ?_
    refine a_icmp_ne (tgt := 20) d_T_takeNumber_13 (by decide) (fun n9 => absurd (hm) n9) (fun c_1 => ?_)
    refine a_iconst (v := 1) d_T_takeNumber_16 (by decide) ?_
    refine a_goto (tgt := 21) d_T_takeNumber_17 (by decide) ?_
    refine a_istore_n d_T_takeNumber_21 rfl (by decide) ?_
    refine a_iload_n d_T_takeNumber_22 rfl rfl ?_
    refine a_if_eq (tgt := 35) d_T_takeNumber_23 (by decide) (fun n9 => absurd n9 (by decide)) (fun c_2 => ?_)
    refine a_aload_n d_T_takeNumber_26 rfl rfl ?_
    apply a_getfield d_T_takeNumber_27 f_T_25
    · (repeat (first | with_reducible assumption | with_reducible exact a_us | with_reducible exact a_ns | refine a_un (by first | with_reducible assumption | omega) ?_ | refine a_nn (by first | with_reducible assumption | omega | (simp only [a_upd_1, a_new_1]; omega)) ?_ | exact a_us | exact a_ns))
    · rfl
    refine a_iconst (v := 1) d_T_takeNumber_30 (by decide) ?_
    refine a_iadd d_T_takeNumber_31 ?_
    rw [nI_1]
    refine a_goto (tgt := 39) d_T_takeNumber_32 (by decide) ?_
    refine a_istore_n d_T_takeNumber_39 rfl (by decide) ?_
    refine a_iload_n d_T_takeNumber_40 rfl rfl ?_
    refine a_if_eq (tgt := 50) d_T_takeNumber_41 (by decide) (fun n9 => absurd n9 (by decide)) (fun c_3 => ?_)
    refine a_ldc2 d_T_takeNumber_44 k_T_105 ?_
    refine a_goto (tgt := 53) d_T_takeNumber_47 (by decide) ?_
    refine a_lstore_n d_T_takeNumber_53 rfl (by decide) ?_
    refine a_lconst (v := 0) d_T_takeNumber_54 (by decide) ?_
    refine a_lstore d_T_takeNumber_55 (by decide) ?_
    refine a_iload_n d_T_takeNumber_57 rfl rfl ?_
    refine a_istore d_T_takeNumber_58 (by decide) ?_
    refine a_lvk (lp_T_takeNumber (w := 1) (q := (k.2.2.1 + 1)) hB hT hd h2 (k.1 - (k.2.2.1 + 1)) (k.2.2.1 + 1) 0 (by omega) (fun e => hK0 ?_) (fun x e τ r hf hT2 er => hK1 x ?_ τ r hf ?_ ?_)) ⟨rfl, rfl, rfl, rfl, rfl, rfl, trivial⟩
    · rw [nvW, tq, tm, if_pos hm, if_pos hm]; exact e
    · rw [nvW, tq, tm, if_pos hm, if_pos hm]; exact e
    · rw [sgF, if_pos hm]; exact hT2
    · rw [tq, if_pos hm]; exact er
  · refine a_aload_n d_T_takeNumber_0 rfl rfl ?_
    apply a_getfield d_T_takeNumber_1 f_T_9
    · (repeat (first | with_reducible assumption | with_reducible exact a_us | with_reducible exact a_ns | refine a_un (by first | with_reducible assumption | omega) ?_ | refine a_nn (by first | with_reducible assumption | omega | (simp only [a_upd_1, a_new_1]; omega)) ?_ | exact a_us | exact a_ns))
    · rfl
    refine a_aload_n d_T_takeNumber_4 rfl rfl ?_
    apply a_getfield d_T_takeNumber_5 f_T_25
    · (repeat (first | with_reducible assumption | with_reducible exact a_us | with_reducible exact a_ns | refine a_un (by first | with_reducible assumption | omega) ?_ | refine a_nn (by first | with_reducible assumption | omega | (simp only [a_upd_1, a_new_1]; omega)) ?_ | exact a_us | exact a_ns))
    · rfl
    apply a_callV (ci := 0) 0 0 [_] _ d_T_takeNumber_8 l_T_41 ⟨im_B_at, se_B_at⟩ rfl rfl rfl rfl (Nat.le_of_ble_eq_true rfl) ⟨Nat.le_of_ble_eq_true rfl, Nat.le_of_ble_eq_true rfl⟩
    · (repeat (first | with_reducible assumption | with_reducible exact a_us | with_reducible exact a_ns | refine a_un (by first | with_reducible assumption | omega) ?_ | refine a_nn (by first | with_reducible assumption | omega | (simp only [a_upd_1, a_new_1]; omega)) ?_ | exact a_us | exact a_ns))
    refine sp_B_at hB ?_
    rw [atF_in (show k.2.2.1 < n by omega) (by omega)]
    refine a_bipush (v := 45) d_T_takeNumber_11 (by decide) ?_
    refine a_icmp_ne (tgt := 20) d_T_takeNumber_13 (by decide) (fun c_1 => ?_) (fun n9 => absurd n9 (hm))
    refine a_iconst (v := 0) d_T_takeNumber_20 (by decide) ?_
    refine a_istore_n d_T_takeNumber_21 rfl (by decide) ?_
    refine a_iload_n d_T_takeNumber_22 rfl rfl ?_
    refine a_if_eq (tgt := 35) d_T_takeNumber_23 (by decide) (fun c_2 => ?_) (fun n9 => absurd (rfl) n9)
    refine a_aload_n d_T_takeNumber_35 rfl rfl ?_
    apply a_getfield d_T_takeNumber_36 f_T_25
    · (repeat (first | with_reducible assumption | with_reducible exact a_us | with_reducible exact a_ns | refine a_un (by first | with_reducible assumption | omega) ?_ | refine a_nn (by first | with_reducible assumption | omega | (simp only [a_upd_1, a_new_1]; omega)) ?_ | exact a_us | exact a_ns))
    · rfl
    refine a_istore_n d_T_takeNumber_39 rfl (by decide) ?_
    refine a_iload_n d_T_takeNumber_40 rfl rfl ?_
    refine a_if_eq (tgt := 50) d_T_takeNumber_41 (by decide) (fun c_3 => ?_) (fun n9 => absurd (rfl) n9)
    refine a_ldc2 d_T_takeNumber_50 k_T_107 ?_
    refine a_lstore_n d_T_takeNumber_53 rfl (by decide) ?_
    refine a_lconst (v := 0) d_T_takeNumber_54 (by decide) ?_
    refine a_lstore d_T_takeNumber_55 (by decide) ?_
    refine a_iload_n d_T_takeNumber_57 rfl rfl ?_
    refine a_istore d_T_takeNumber_58 (by decide) ?_
    refine a_lvk (lp_T_takeNumber (w := 0) (q := k.2.2.1) hB hT hd h2 (k.1 - k.2.2.1) k.2.2.1 0 (by omega) (fun e => hK0 ?_) (fun x e τ r hf hT2 er => hK1 x ?_ τ r hf ?_ ?_)) ⟨rfl, rfl, rfl, rfl, rfl, rfl, trivial⟩
    · rw [nvW, tq, tm, if_neg hm, if_neg hm]; exact e
    · rw [nvW, tq, tm, if_neg hm, if_neg hm]; exact e
    · rw [sgF, if_neg hm]; exact hT2
    · rw [tq, if_neg hm]; exact er

set_option maxHeartbeats 4000000 in
set_option maxRecDepth 100000 in
theorem sp_T_takeWord (hB : BY σ b cap n f) (hT : TO σ t b k) (hd : t < b ∨ b + 1 < t) (hpl : k.2.2.1 = k.1) (h2 : k.1 ≤ n) (hlt : k.1 < wen f (n - k.1) k.1) (hK : ∀ (τ : aS) (nm : Int64) (nu : Int32), a_fr σ τ t (t + 1) → TO τ t b (wen f (n - k.1) k.1, wkF f k.1 (wen f (n - k.1) k.1), k.1, nm, nu) → (wkF f k.1 (wen f (n - k.1) k.1) = 3 → nm = nm32 n f k.1) → (∀ x, wkF f k.1 (wen f (n - k.1) k.1) = 4 → nvW f k.1 (wen f (n - k.1) k.1) = some x → nu = sgF f k.1 x) → K none τ) : a_C G m_T_takeWord 3 66 [.ref t] σ K := by
  have hcap : n ≤ cap ∧ cap < 65536 := by obtain ⟨g, h1, h2, h3, h4, h5⟩ := hB; exact ⟨h3, h4⟩
  obtain ⟨g, hB0, hB1, -⟩ := id hB
  have hT0 : σ.2.2 t = some (.inr (5, [.ref b, .int (nI k.1), .int k.2.1, .int (nI k.2.2.1), .long k.2.2.2.1, .int k.2.2.2.2])) := hT
  refine a_enter rfl (Nat.le_of_ble_eq_true rfl) ?_
  have hp := wen_le f (n - k.1) k.1
  refine a_lvk (lp_T_takeWord (cap := cap) hd (n - k.1) hB hT (by omega) (fun σ2 hf2 hT2 => ?_)) ⟨rfl, trivial⟩
  generalize he : wen f (n - k.1) k.1 = e at hK hT2 hp hlt
  have hB2 := hB.fr hf2 (by omega)
  have hT0 : σ2.2.2 t = some (.inr (5, [.ref b, .int (nI e), .int k.2.1, .int (nI k.1), .long k.2.2.2.1, .int k.2.2.2.2])) := by rw [← hpl] ; exact hT2
  refine a_aload_n d_T_takeWord_44 rfl rfl ?_
  apply a_callV (ci := 5) 2 45 [] _ d_T_takeWord_45 l_T_91 ⟨im_T_takeName, se_T_takeName⟩ rfl rfl rfl rfl (Nat.le_of_ble_eq_true rfl) ⟨Nat.le_of_ble_eq_true rfl, Nat.le_of_ble_eq_true rfl⟩
  · (repeat (first | with_reducible assumption | with_reducible exact a_us | with_reducible exact a_ns | refine a_un (by first | with_reducible assumption | omega) ?_ | refine a_nn (by first | with_reducible assumption | omega | (simp only [a_upd_1, a_new_1]; omega)) ?_ | exact a_us | exact a_ns))
  refine sp_T_takeName (k := (e, k.2.1, k.1, k.2.2.2)) hB2 hT0 hd (show k.1 ≤ e by omega) (show e ≤ n by omega) (fun e0 => ?_) (fun e0 υ r hf3 hT3 er => ?_)
  · have hk : wkF f k.1 e = nkF f k.1 e := by rw [wkF, if_pos e0]
    have hB3 := hB2
    obtain ⟨kd0, nm0, nu0, hT3⟩ : ∃ (kd : Int32) (nm : Int64) (nu : Int32), TO σ2 t b (e, kd, k.1, nm, nu) := ⟨_, _, _, hT0⟩
    clear hT0 hT2
    have hT9 : σ2.2.2 t = some (.inr (5, [.ref b, .int (nI e), .int kd0, .int (nI k.1), .long nm0, .int nu0])) := hT3
    refine a_if_eq (tgt := 59) d_T_takeWord_48 (by decide) (fun c_1 => ?_) (fun n9 => absurd (rfl) n9)
    refine a_aload_n d_T_takeWord_59 rfl rfl ?_
    refine a_aload_n d_T_takeWord_60 rfl rfl ?_
    apply a_callV (ci := 5) 1 21 [] _ d_T_takeWord_61 l_T_95 ⟨im_T_takeNumber, se_T_takeNumber⟩ rfl rfl rfl rfl (Nat.le_of_ble_eq_true rfl) ⟨Nat.le_of_ble_eq_true rfl, Nat.le_of_ble_eq_true rfl⟩
    · (repeat (first | with_reducible assumption | with_reducible exact a_us | with_reducible exact a_ns | refine a_un (by first | with_reducible assumption | omega) ?_ | refine a_nn (by first | with_reducible assumption | omega | (simp only [a_upd_1, a_new_1]; omega)) ?_ | exact a_us | exact a_ns))
    refine sp_T_takeNumber hB3 hT3 hd (show k.1 < e by omega) (show e ≤ n by omega) (fun e5 => ?_) (fun x e5 υ2 r2 hf4 hT4 er2 => ?_)
    · refine a_if_eq (tgt := 71) d_T_takeWord_64 (by decide) (fun c_1 => ?_) (fun n9 => absurd (rfl) n9)
      refine a_iconst (v := 5) d_T_takeWord_71 (by decide) ?_
      apply a_putfield d_T_takeWord_72 p_T_22
      · (repeat (first | with_reducible assumption | with_reducible exact a_us | with_reducible exact a_ns | refine a_un (by first | with_reducible assumption | omega) ?_ | refine a_nn (by first | with_reducible assumption | omega | (simp only [a_upd_1, a_new_1]; omega)) ?_ | exact a_us | exact a_ns))
      · first | rfl | assumption
      · first | rfl | assumption
      · exact Nat.le_of_ble_eq_true rfl
      refine a_return d_T_takeWord_75 rfl ?_
      have ek : wkF f k.1 e = 5 := by rw [hk, nkF, e5]
      refine hK _ nm0 nu0 (hf2.trans (a_fr.rf.upd (Nat.le_refl t) (Nat.lt_succ_self t))) (by rw [ek]; exact a_us) (fun z => ?_) (fun x z => ?_)
      · rw [ek] at z; exact absurd z (by decide)
      · rw [ek] at z; exact absurd z (by decide)
    · have hT5 : υ2.2.2 t = some (.inr (5, [.ref b, .int (nI e), .int kd0, .int (nI k.1), .long nm0, .int (sgF f k.1 x)])) := hT4
      by_cases hle : nI e ≤ nI (tq f k.1)
      · rw [if_pos hle] at er2
        subst er2
        refine a_if_eq (tgt := 71) d_T_takeWord_64 (by decide) (fun c_1 => ?_) (fun n9 => absurd (rfl) n9)
        refine a_iconst (v := 5) d_T_takeWord_71 (by decide) ?_
        apply a_putfield d_T_takeWord_72 p_T_22
        · (repeat (first | with_reducible assumption | with_reducible exact a_us | with_reducible exact a_ns | refine a_un (by first | with_reducible assumption | omega) ?_ | refine a_nn (by first | with_reducible assumption | omega | (simp only [a_upd_1, a_new_1]; omega)) ?_ | exact a_us | exact a_ns))
        · first | rfl | assumption
        · first | rfl | assumption
        · exact Nat.le_of_ble_eq_true rfl
        refine a_return d_T_takeWord_75 rfl ?_
        have ek : wkF f k.1 e = 5 := by rw [hk, nkF, e5]; exact if_pos hle
        refine hK _ nm0 (sgF f k.1 x) ((hf2.trans hf4).trans (a_fr.rf.upd (Nat.le_refl t) (Nat.lt_succ_self t))) (by rw [ek]; exact a_us) (fun z => ?_) (fun y z e6 => ?_)
        · rw [ek] at z; exact absurd z (by decide)
        · rw [ek] at z; exact absurd z (by decide)
      · rw [if_neg hle] at er2
        subst er2
        refine a_if_eq (tgt := 71) d_T_takeWord_64 (by decide) (fun n9 => absurd n9 (by decide)) (fun c_1 => ?_)
        refine a_iconst (v := 4) d_T_takeWord_67 (by decide) ?_
        refine a_goto (tgt := 72) d_T_takeWord_68 (by decide) ?_
        apply a_putfield d_T_takeWord_72 p_T_22
        · (repeat (first | with_reducible assumption | with_reducible exact a_us | with_reducible exact a_ns | refine a_un (by first | with_reducible assumption | omega) ?_ | refine a_nn (by first | with_reducible assumption | omega | (simp only [a_upd_1, a_new_1]; omega)) ?_ | exact a_us | exact a_ns))
        · first | rfl | assumption
        · first | rfl | assumption
        · exact Nat.le_of_ble_eq_true rfl
        refine a_return d_T_takeWord_75 rfl ?_
        have ek : wkF f k.1 e = 4 := by rw [hk, nkF, e5]; exact if_neg hle
        refine hK _ nm0 (sgF f k.1 x) ((hf2.trans hf4).trans (a_fr.rf.upd (Nat.le_refl t) (Nat.lt_succ_self t))) (by rw [ek]; exact a_us) (fun z => ?_) (fun y z e6 => ?_)
        · rw [ek] at z; exact absurd z (by decide)
        · rw [e5] at e6; cases e6; rfl
  · have hB3 := hB2.fr hf3 (by omega)
    by_cases h12 : (12 : Int32) < nI e - nI k.1
    · have hk : wkF f k.1 e = nkF f k.1 e := by rw [wkF, if_neg e0, if_pos h12]
      rw [if_pos h12] at er
      subst er
      replace hf2 := hf2.trans hf3
      clear hf3 hT0 hT2
      obtain ⟨kd0, nm0, nu0, hT3⟩ : ∃ (kd : Int32) (nm : Int64) (nu : Int32), TO υ t b (e, kd, k.1, nm, nu) := ⟨_, _, _, hT3⟩
      have hT9 : υ.2.2 t = some (.inr (5, [.ref b, .int (nI e), .int kd0, .int (nI k.1), .long nm0, .int nu0])) := hT3
      refine a_if_eq (tgt := 59) d_T_takeWord_48 (by decide) (fun c_1 => ?_) (fun n9 => absurd (rfl) n9)
      refine a_aload_n d_T_takeWord_59 rfl rfl ?_
      refine a_aload_n d_T_takeWord_60 rfl rfl ?_
      apply a_callV (ci := 5) 1 21 [] _ d_T_takeWord_61 l_T_95 ⟨im_T_takeNumber, se_T_takeNumber⟩ rfl rfl rfl rfl (Nat.le_of_ble_eq_true rfl) ⟨Nat.le_of_ble_eq_true rfl, Nat.le_of_ble_eq_true rfl⟩
      · (repeat (first | with_reducible assumption | with_reducible exact a_us | with_reducible exact a_ns | refine a_un (by first | with_reducible assumption | omega) ?_ | refine a_nn (by first | with_reducible assumption | omega | (simp only [a_upd_1, a_new_1]; omega)) ?_ | exact a_us | exact a_ns))
      refine sp_T_takeNumber hB3 hT3 hd (show k.1 < e by omega) (show e ≤ n by omega) (fun e5 => ?_) (fun x e5 υ2 r2 hf4 hT4 er2 => ?_)
      · refine a_if_eq (tgt := 71) d_T_takeWord_64 (by decide) (fun c_1 => ?_) (fun n9 => absurd (rfl) n9)
        refine a_iconst (v := 5) d_T_takeWord_71 (by decide) ?_
        apply a_putfield d_T_takeWord_72 p_T_22
        · (repeat (first | with_reducible assumption | with_reducible exact a_us | with_reducible exact a_ns | refine a_un (by first | with_reducible assumption | omega) ?_ | refine a_nn (by first | with_reducible assumption | omega | (simp only [a_upd_1, a_new_1]; omega)) ?_ | exact a_us | exact a_ns))
        · first | rfl | assumption
        · first | rfl | assumption
        · exact Nat.le_of_ble_eq_true rfl
        refine a_return d_T_takeWord_75 rfl ?_
        have ek : wkF f k.1 e = 5 := by rw [hk, nkF, e5]
        refine hK _ nm0 nu0 (hf2.trans (a_fr.rf.upd (Nat.le_refl t) (Nat.lt_succ_self t))) (by rw [ek]; exact a_us) (fun z => ?_) (fun x z => ?_)
        · rw [ek] at z; exact absurd z (by decide)
        · rw [ek] at z; exact absurd z (by decide)
      · have hT5 : υ2.2.2 t = some (.inr (5, [.ref b, .int (nI e), .int kd0, .int (nI k.1), .long nm0, .int (sgF f k.1 x)])) := hT4
        by_cases hle : nI e ≤ nI (tq f k.1)
        · rw [if_pos hle] at er2
          subst er2
          refine a_if_eq (tgt := 71) d_T_takeWord_64 (by decide) (fun c_1 => ?_) (fun n9 => absurd (rfl) n9)
          refine a_iconst (v := 5) d_T_takeWord_71 (by decide) ?_
          apply a_putfield d_T_takeWord_72 p_T_22
          · (repeat (first | with_reducible assumption | with_reducible exact a_us | with_reducible exact a_ns | refine a_un (by first | with_reducible assumption | omega) ?_ | refine a_nn (by first | with_reducible assumption | omega | (simp only [a_upd_1, a_new_1]; omega)) ?_ | exact a_us | exact a_ns))
          · first | rfl | assumption
          · first | rfl | assumption
          · exact Nat.le_of_ble_eq_true rfl
          refine a_return d_T_takeWord_75 rfl ?_
          have ek : wkF f k.1 e = 5 := by rw [hk, nkF, e5]; exact if_pos hle
          refine hK _ nm0 (sgF f k.1 x) ((hf2.trans hf4).trans (a_fr.rf.upd (Nat.le_refl t) (Nat.lt_succ_self t))) (by rw [ek]; exact a_us) (fun z => ?_) (fun y z e6 => ?_)
          · rw [ek] at z; exact absurd z (by decide)
          · rw [ek] at z; exact absurd z (by decide)
        · rw [if_neg hle] at er2
          subst er2
          refine a_if_eq (tgt := 71) d_T_takeWord_64 (by decide) (fun n9 => absurd n9 (by decide)) (fun c_1 => ?_)
          refine a_iconst (v := 4) d_T_takeWord_67 (by decide) ?_
          refine a_goto (tgt := 72) d_T_takeWord_68 (by decide) ?_
          apply a_putfield d_T_takeWord_72 p_T_22
          · (repeat (first | with_reducible assumption | with_reducible exact a_us | with_reducible exact a_ns | refine a_un (by first | with_reducible assumption | omega) ?_ | refine a_nn (by first | with_reducible assumption | omega | (simp only [a_upd_1, a_new_1]; omega)) ?_ | exact a_us | exact a_ns))
          · first | rfl | assumption
          · first | rfl | assumption
          · exact Nat.le_of_ble_eq_true rfl
          refine a_return d_T_takeWord_75 rfl ?_
          have ek : wkF f k.1 e = 4 := by rw [hk, nkF, e5]; exact if_neg hle
          refine hK _ nm0 (sgF f k.1 x) ((hf2.trans hf4).trans (a_fr.rf.upd (Nat.le_refl t) (Nat.lt_succ_self t))) (by rw [ek]; exact a_us) (fun z => ?_) (fun y z e6 => ?_)
          · rw [ek] at z; exact absurd z (by decide)
          · rw [e5] at e6; cases e6; rfl
    · rw [if_neg h12] at er
      subst er
      have hT5 : υ.2.2 t = some (.inr (5, [.ref b, .int (nI e), .int k.2.1, .int (nI k.1), .long (nm32 n f k.1), .int k.2.2.2.2])) := hT3
      refine a_if_eq (tgt := 59) d_T_takeWord_48 (by decide) (fun n9 => absurd n9 (by decide)) (fun c_1 => ?_)
      refine a_aload_n d_T_takeWord_51 rfl rfl ?_
      refine a_iconst (v := 3) d_T_takeWord_52 (by decide) ?_
      apply a_putfield d_T_takeWord_53 p_T_22
      · (repeat (first | with_reducible assumption | with_reducible exact a_us | with_reducible exact a_ns | refine a_un (by first | with_reducible assumption | omega) ?_ | refine a_nn (by first | with_reducible assumption | omega | (simp only [a_upd_1, a_new_1]; omega)) ?_ | exact a_us | exact a_ns))
      · first | rfl | assumption
      · first | rfl | assumption
      · exact Nat.le_of_ble_eq_true rfl
      refine a_goto (tgt := 75) d_T_takeWord_56 (by decide) ?_
      refine a_return d_T_takeWord_75 rfl ?_
      have ek : wkF f k.1 e = 3 := by rw [wkF, if_neg e0, if_neg h12]
      refine hK _ (nm32 n f k.1) k.2.2.2.2 ((hf2.trans hf3).trans (a_fr.rf.upd (Nat.le_refl t) (Nat.lt_succ_self t))) (by rw [ek]; exact a_us) (fun _ => rfl) (fun x z => ?_)
      rw [ek] at z; exact absurd z (by decide)

end ModT3
