/-! TOKENS, fifth part: free names, operators, the start; BYTES' constructor -/
def orF : List Int32 → Int32
  | [] => 0
  | x :: r => if x = 0 then orF r else 1
def opens (n : Nat) (f : Nat → Nat) (k : aT) : Int32 := orF [isw n f k 2, isw n f k 3, isw n f k 4, isw n f k 5, isw n f k 6, isw n f k 7, isw n f k 8, isw n f k 9]
def says (n : Nat) (f : Nat → Nat) (k : aT) : Int32 := orF [isw n f k 10, isw n f k 11, isw n f k 12, isw n f k 13]
def frF (n : Nat) (f : Nat → Nat) (k : aT) : Int32 := if k.2.1 = 3 then (if opens n f k = 0 then (if says n f k = 0 then 1 else 0) else 0) else 0
def opF (n : Nat) (f : Nat → Nat) (k : aT) : Int32 := if isw n f k 11 = 0 then (if isw n f k 12 = 0 then (if isw n f k 13 = 0 then -1 else 2) else 1) else 0
section ModT5
variable {G : aG} {σ : aS} {K : Option Value → aS → Prop} {t b cap n : Nat} {f : Nat → Nat} {k : aT}
set_option maxHeartbeats 4000000 in
set_option maxRecDepth 100000 in
theorem tl_T_free2 {v u : Int32} (hB : BY σ b cap n f) (hT : TO σ t b k) (hK : K (some (.int (if k.2.1 = 3 then (if v = 0 then (if u = 0 then 1 else 0) else 0) else 0))) σ) : a_J G m_T_isFreeName 5 107 119 [(0, .ref t), (1, .int v)] [.int u] σ K := by
  have hT0 : σ.2.2 t = some (.inr (5, [.ref b, .int (nI k.1), .int k.2.1, .int (nI k.2.2.1), .long k.2.2.2.1, .int k.2.2.2.2])) := hT
  refine a_istore_n d_T_isFreeName_119 rfl (by decide) ?_
  refine a_aload_n d_T_isFreeName_120 rfl rfl ?_
  apply a_getfield d_T_isFreeName_121 f_T_22
  · (repeat (first | with_reducible assumption | with_reducible exact a_us | with_reducible exact a_ns | refine a_un (by first | with_reducible assumption | omega) ?_ | refine a_nn (by first | with_reducible assumption | omega | (simp only [a_upd_1, a_new_1]; omega)) ?_ | exact a_us | exact a_ns))
  · rfl
  refine a_iconst (v := 3) d_T_isFreeName_124 (by decide) ?_
  refine a_icmp_ne (tgt := 140) d_T_isFreeName_125 (by decide) (fun c_1 => ?_) (fun c_1 => ?_)
  · refine a_iconst (v := 0) d_T_isFreeName_140 (by decide) ?_
    refine a_ireturn d_T_isFreeName_141 rfl rfl ?_
    simp only [if_neg c_1, if_true] at hK
    exact hK
  · refine a_iload_n d_T_isFreeName_128 rfl rfl ?_
    refine a_if_ne (tgt := 140) d_T_isFreeName_129 (by decide) (fun c_2 => ?_) (fun c_2 => ?_)
    · refine a_iconst (v := 0) d_T_isFreeName_140 (by decide) ?_
      refine a_ireturn d_T_isFreeName_141 rfl rfl ?_
      simp only [if_pos c_1, if_neg c_2, if_true] at hK
      exact hK
    · refine a_iload_n d_T_isFreeName_132 rfl rfl ?_
      refine a_if_ne (tgt := 140) d_T_isFreeName_133 (by decide) (fun c_3 => ?_) (fun c_3 => ?_)
      · refine a_iconst (v := 0) d_T_isFreeName_140 (by decide) ?_
        refine a_ireturn d_T_isFreeName_141 rfl rfl ?_
        simp only [if_pos c_1, if_pos c_2, if_neg c_3, if_true] at hK
        exact hK
      · refine a_iconst (v := 1) d_T_isFreeName_136 (by decide) ?_
        refine a_goto (tgt := 141) d_T_isFreeName_137 (by decide) ?_
        refine a_ireturn d_T_isFreeName_141 rfl rfl ?_
        simp only [if_pos c_1, if_pos c_2, if_pos c_3, if_true] at hK
        exact hK

set_option maxHeartbeats 4000000 in
set_option maxRecDepth 100000 in
theorem tl_T_free1 {v : Int32} (hB : BY σ b cap n f) (hT : TO σ t b k) (hK : K (some (.int (if k.2.1 = 3 then (if v = 0 then (if says n f k = 0 then 1 else 0) else 0) else 0))) σ) : a_J G m_T_isFreeName 5 107 77 [(0, .ref t)] [.int v] σ K := by
  have hT0 : σ.2.2 t = some (.inr (5, [.ref b, .int (nI k.1), .int k.2.1, .int (nI k.2.2.1), .long k.2.2.2.1, .int k.2.2.2.2])) := hT
  refine a_istore_n d_T_isFreeName_77 rfl (by decide) ?_
  refine a_aload_n d_T_isFreeName_78 rfl rfl ?_
  refine a_ldcS 10 d_T_isFreeName_79 (by decide) rfl rfl ?_
  apply a_callV (ci := 5) 4 85 [_] _ d_T_isFreeName_81 l_T_52 ⟨im_T_isWord, se_T_isWord⟩ rfl rfl rfl rfl (Nat.le_of_ble_eq_true rfl) ⟨Nat.le_of_ble_eq_true rfl, Nat.le_of_ble_eq_true rfl⟩
  · (repeat (first | with_reducible assumption | with_reducible exact a_us | with_reducible exact a_ns | refine a_un (by first | with_reducible assumption | omega) ?_ | refine a_nn (by first | with_reducible assumption | omega | (simp only [a_upd_1, a_new_1]; omega)) ?_ | exact a_us | exact a_ns))
  refine sp_T_isWord (by decide) hB hT ?_
  refine a_if_ne (tgt := 114) d_T_isFreeName_84 (by decide) (fun c_1 => ?_) (fun c_1 => ?_)
  · refine a_iconst (v := 1) d_T_isFreeName_114 (by decide) ?_
    refine a_goto (tgt := 119) d_T_isFreeName_115 (by decide) ?_
    simp only [says, orF, if_neg c_1, if_true] at hK
    exact a_lvk (tl_T_free2 hB hT hK) ⟨rfl, rfl, trivial⟩
  · refine a_aload_n d_T_isFreeName_87 rfl rfl ?_
    refine a_ldcS 11 d_T_isFreeName_88 (by decide) rfl rfl ?_
    apply a_callV (ci := 5) 4 85 [_] _ d_T_isFreeName_90 l_T_52 ⟨im_T_isWord, se_T_isWord⟩ rfl rfl rfl rfl (Nat.le_of_ble_eq_true rfl) ⟨Nat.le_of_ble_eq_true rfl, Nat.le_of_ble_eq_true rfl⟩
    · (repeat (first | with_reducible assumption | with_reducible exact a_us | with_reducible exact a_ns | refine a_un (by first | with_reducible assumption | omega) ?_ | refine a_nn (by first | with_reducible assumption | omega | (simp only [a_upd_1, a_new_1]; omega)) ?_ | exact a_us | exact a_ns))
    refine sp_T_isWord (by decide) hB hT ?_
    refine a_if_ne (tgt := 114) d_T_isFreeName_93 (by decide) (fun c_2 => ?_) (fun c_2 => ?_)
    · refine a_iconst (v := 1) d_T_isFreeName_114 (by decide) ?_
      refine a_goto (tgt := 119) d_T_isFreeName_115 (by decide) ?_
      simp only [says, orF, if_pos c_1, if_neg c_2, if_true] at hK
      exact a_lvk (tl_T_free2 hB hT hK) ⟨rfl, rfl, trivial⟩
    · refine a_aload_n d_T_isFreeName_96 rfl rfl ?_
      refine a_ldcS 12 d_T_isFreeName_97 (by decide) rfl rfl ?_
      apply a_callV (ci := 5) 4 85 [_] _ d_T_isFreeName_99 l_T_52 ⟨im_T_isWord, se_T_isWord⟩ rfl rfl rfl rfl (Nat.le_of_ble_eq_true rfl) ⟨Nat.le_of_ble_eq_true rfl, Nat.le_of_ble_eq_true rfl⟩
      · (repeat (first | with_reducible assumption | with_reducible exact a_us | with_reducible exact a_ns | refine a_un (by first | with_reducible assumption | omega) ?_ | refine a_nn (by first | with_reducible assumption | omega | (simp only [a_upd_1, a_new_1]; omega)) ?_ | exact a_us | exact a_ns))
      refine sp_T_isWord (by decide) hB hT ?_
      refine a_if_ne (tgt := 114) d_T_isFreeName_102 (by decide) (fun c_3 => ?_) (fun c_3 => ?_)
      · refine a_iconst (v := 1) d_T_isFreeName_114 (by decide) ?_
        refine a_goto (tgt := 119) d_T_isFreeName_115 (by decide) ?_
        simp only [says, orF, if_pos c_1, if_pos c_2, if_neg c_3, if_true] at hK
        exact a_lvk (tl_T_free2 hB hT hK) ⟨rfl, rfl, trivial⟩
      · refine a_aload_n d_T_isFreeName_105 rfl rfl ?_
        refine a_ldcS 13 d_T_isFreeName_106 (by decide) rfl rfl ?_
        apply a_callV (ci := 5) 4 85 [_] _ d_T_isFreeName_108 l_T_52 ⟨im_T_isWord, se_T_isWord⟩ rfl rfl rfl rfl (Nat.le_of_ble_eq_true rfl) ⟨Nat.le_of_ble_eq_true rfl, Nat.le_of_ble_eq_true rfl⟩
        · (repeat (first | with_reducible assumption | with_reducible exact a_us | with_reducible exact a_ns | refine a_un (by first | with_reducible assumption | omega) ?_ | refine a_nn (by first | with_reducible assumption | omega | (simp only [a_upd_1, a_new_1]; omega)) ?_ | exact a_us | exact a_ns))
        refine sp_T_isWord (by decide) hB hT ?_
        refine a_if_eq (tgt := 118) d_T_isFreeName_111 (by decide) (fun c_4 => ?_) (fun c_4 => ?_)
        · refine a_iconst (v := 0) d_T_isFreeName_118 (by decide) ?_
          simp only [says, orF, if_pos c_1, if_pos c_2, if_pos c_3, if_pos c_4, if_true] at hK
          exact a_lvk (tl_T_free2 hB hT hK) ⟨rfl, rfl, trivial⟩
        · refine a_iconst (v := 1) d_T_isFreeName_114 (by decide) ?_
          refine a_goto (tgt := 119) d_T_isFreeName_115 (by decide) ?_
          simp only [says, orF, if_pos c_1, if_pos c_2, if_pos c_3, if_neg c_4, if_true] at hK
          exact a_lvk (tl_T_free2 hB hT hK) ⟨rfl, rfl, trivial⟩

set_option maxHeartbeats 4000000 in
set_option maxRecDepth 100000 in
theorem sp_T_isFreeName (hB : BY σ b cap n f) (hT : TO σ t b k) (hK : K (some (.int (frF n f k))) σ) : a_C G m_T_isFreeName 5 107 [.ref t] σ K := by
  have hT0 : σ.2.2 t = some (.inr (5, [.ref b, .int (nI k.1), .int k.2.1, .int (nI k.2.2.1), .long k.2.2.2.1, .int k.2.2.2.2])) := hT
  refine a_enter rfl (Nat.le_of_ble_eq_true rfl) ?_
  refine a_aload_n d_T_isFreeName_0 rfl rfl ?_
  refine a_ldcS 2 d_T_isFreeName_1 (by decide) rfl rfl ?_
  apply a_callV (ci := 5) 4 85 [_] _ d_T_isFreeName_3 l_T_52 ⟨im_T_isWord, se_T_isWord⟩ rfl rfl rfl rfl (Nat.le_of_ble_eq_true rfl) ⟨Nat.le_of_ble_eq_true rfl, Nat.le_of_ble_eq_true rfl⟩
  · (repeat (first | with_reducible assumption | with_reducible exact a_us | with_reducible exact a_ns | refine a_un (by first | with_reducible assumption | omega) ?_ | refine a_nn (by first | with_reducible assumption | omega | (simp only [a_upd_1, a_new_1]; omega)) ?_ | exact a_us | exact a_ns))
  refine sp_T_isWord (by decide) hB hT ?_
  refine a_if_ne (tgt := 72) d_T_isFreeName_6 (by decide) (fun c_1 => ?_) (fun c_1 => ?_)
  · refine a_iconst (v := 1) d_T_isFreeName_72 (by decide) ?_
    refine a_goto (tgt := 77) d_T_isFreeName_73 (by decide) ?_
    simp only [frF, opens, orF, if_neg c_1, if_true] at hK
    exact a_lvk (tl_T_free1 hB hT hK) ⟨rfl, trivial⟩
  · refine a_aload_n d_T_isFreeName_9 rfl rfl ?_
    refine a_ldcS 3 d_T_isFreeName_10 (by decide) rfl rfl ?_
    apply a_callV (ci := 5) 4 85 [_] _ d_T_isFreeName_12 l_T_52 ⟨im_T_isWord, se_T_isWord⟩ rfl rfl rfl rfl (Nat.le_of_ble_eq_true rfl) ⟨Nat.le_of_ble_eq_true rfl, Nat.le_of_ble_eq_true rfl⟩
    · (repeat (first | with_reducible assumption | with_reducible exact a_us | with_reducible exact a_ns | refine a_un (by first | with_reducible assumption | omega) ?_ | refine a_nn (by first | with_reducible assumption | omega | (simp only [a_upd_1, a_new_1]; omega)) ?_ | exact a_us | exact a_ns))
    refine sp_T_isWord (by decide) hB hT ?_
    refine a_if_ne (tgt := 72) d_T_isFreeName_15 (by decide) (fun c_2 => ?_) (fun c_2 => ?_)
    · refine a_iconst (v := 1) d_T_isFreeName_72 (by decide) ?_
      refine a_goto (tgt := 77) d_T_isFreeName_73 (by decide) ?_
      simp only [frF, opens, orF, if_pos c_1, if_neg c_2, if_true] at hK
      exact a_lvk (tl_T_free1 hB hT hK) ⟨rfl, trivial⟩
    · refine a_aload_n d_T_isFreeName_18 rfl rfl ?_
      refine a_ldcS 4 d_T_isFreeName_19 (by decide) rfl rfl ?_
      apply a_callV (ci := 5) 4 85 [_] _ d_T_isFreeName_21 l_T_52 ⟨im_T_isWord, se_T_isWord⟩ rfl rfl rfl rfl (Nat.le_of_ble_eq_true rfl) ⟨Nat.le_of_ble_eq_true rfl, Nat.le_of_ble_eq_true rfl⟩
      · (repeat (first | with_reducible assumption | with_reducible exact a_us | with_reducible exact a_ns | refine a_un (by first | with_reducible assumption | omega) ?_ | refine a_nn (by first | with_reducible assumption | omega | (simp only [a_upd_1, a_new_1]; omega)) ?_ | exact a_us | exact a_ns))
      refine sp_T_isWord (by decide) hB hT ?_
      refine a_if_ne (tgt := 72) d_T_isFreeName_24 (by decide) (fun c_3 => ?_) (fun c_3 => ?_)
      · refine a_iconst (v := 1) d_T_isFreeName_72 (by decide) ?_
        refine a_goto (tgt := 77) d_T_isFreeName_73 (by decide) ?_
        simp only [frF, opens, orF, if_pos c_1, if_pos c_2, if_neg c_3, if_true] at hK
        exact a_lvk (tl_T_free1 hB hT hK) ⟨rfl, trivial⟩
      · refine a_aload_n d_T_isFreeName_27 rfl rfl ?_
        refine a_ldcS 5 d_T_isFreeName_28 (by decide) rfl rfl ?_
        apply a_callV (ci := 5) 4 85 [_] _ d_T_isFreeName_30 l_T_52 ⟨im_T_isWord, se_T_isWord⟩ rfl rfl rfl rfl (Nat.le_of_ble_eq_true rfl) ⟨Nat.le_of_ble_eq_true rfl, Nat.le_of_ble_eq_true rfl⟩
        · (repeat (first | with_reducible assumption | with_reducible exact a_us | with_reducible exact a_ns | refine a_un (by first | with_reducible assumption | omega) ?_ | refine a_nn (by first | with_reducible assumption | omega | (simp only [a_upd_1, a_new_1]; omega)) ?_ | exact a_us | exact a_ns))
        refine sp_T_isWord (by decide) hB hT ?_
        refine a_if_ne (tgt := 72) d_T_isFreeName_33 (by decide) (fun c_4 => ?_) (fun c_4 => ?_)
        · refine a_iconst (v := 1) d_T_isFreeName_72 (by decide) ?_
          refine a_goto (tgt := 77) d_T_isFreeName_73 (by decide) ?_
          simp only [frF, opens, orF, if_pos c_1, if_pos c_2, if_pos c_3, if_neg c_4, if_true] at hK
          exact a_lvk (tl_T_free1 hB hT hK) ⟨rfl, trivial⟩
        · refine a_aload_n d_T_isFreeName_36 rfl rfl ?_
          refine a_ldcS 6 d_T_isFreeName_37 (by decide) rfl rfl ?_
          apply a_callV (ci := 5) 4 85 [_] _ d_T_isFreeName_39 l_T_52 ⟨im_T_isWord, se_T_isWord⟩ rfl rfl rfl rfl (Nat.le_of_ble_eq_true rfl) ⟨Nat.le_of_ble_eq_true rfl, Nat.le_of_ble_eq_true rfl⟩
          · (repeat (first | with_reducible assumption | with_reducible exact a_us | with_reducible exact a_ns | refine a_un (by first | with_reducible assumption | omega) ?_ | refine a_nn (by first | with_reducible assumption | omega | (simp only [a_upd_1, a_new_1]; omega)) ?_ | exact a_us | exact a_ns))
          refine sp_T_isWord (by decide) hB hT ?_
          refine a_if_ne (tgt := 72) d_T_isFreeName_42 (by decide) (fun c_5 => ?_) (fun c_5 => ?_)
          · refine a_iconst (v := 1) d_T_isFreeName_72 (by decide) ?_
            refine a_goto (tgt := 77) d_T_isFreeName_73 (by decide) ?_
            simp only [frF, opens, orF, if_pos c_1, if_pos c_2, if_pos c_3, if_pos c_4, if_neg c_5, if_true] at hK
            exact a_lvk (tl_T_free1 hB hT hK) ⟨rfl, trivial⟩
          · refine a_aload_n d_T_isFreeName_45 rfl rfl ?_
            refine a_ldcS 7 d_T_isFreeName_46 (by decide) rfl rfl ?_
            apply a_callV (ci := 5) 4 85 [_] _ d_T_isFreeName_48 l_T_52 ⟨im_T_isWord, se_T_isWord⟩ rfl rfl rfl rfl (Nat.le_of_ble_eq_true rfl) ⟨Nat.le_of_ble_eq_true rfl, Nat.le_of_ble_eq_true rfl⟩
            · (repeat (first | with_reducible assumption | with_reducible exact a_us | with_reducible exact a_ns | refine a_un (by first | with_reducible assumption | omega) ?_ | refine a_nn (by first | with_reducible assumption | omega | (simp only [a_upd_1, a_new_1]; omega)) ?_ | exact a_us | exact a_ns))
            refine sp_T_isWord (by decide) hB hT ?_
            refine a_if_ne (tgt := 72) d_T_isFreeName_51 (by decide) (fun c_6 => ?_) (fun c_6 => ?_)
            · refine a_iconst (v := 1) d_T_isFreeName_72 (by decide) ?_
              refine a_goto (tgt := 77) d_T_isFreeName_73 (by decide) ?_
              simp only [frF, opens, orF, if_pos c_1, if_pos c_2, if_pos c_3, if_pos c_4, if_pos c_5, if_neg c_6, if_true] at hK
              exact a_lvk (tl_T_free1 hB hT hK) ⟨rfl, trivial⟩
            · refine a_aload_n d_T_isFreeName_54 rfl rfl ?_
              refine a_ldcS 8 d_T_isFreeName_55 (by decide) rfl rfl ?_
              apply a_callV (ci := 5) 4 85 [_] _ d_T_isFreeName_57 l_T_52 ⟨im_T_isWord, se_T_isWord⟩ rfl rfl rfl rfl (Nat.le_of_ble_eq_true rfl) ⟨Nat.le_of_ble_eq_true rfl, Nat.le_of_ble_eq_true rfl⟩
              · (repeat (first | with_reducible assumption | with_reducible exact a_us | with_reducible exact a_ns | refine a_un (by first | with_reducible assumption | omega) ?_ | refine a_nn (by first | with_reducible assumption | omega | (simp only [a_upd_1, a_new_1]; omega)) ?_ | exact a_us | exact a_ns))
              refine sp_T_isWord (by decide) hB hT ?_
              refine a_if_ne (tgt := 72) d_T_isFreeName_60 (by decide) (fun c_7 => ?_) (fun c_7 => ?_)
              · refine a_iconst (v := 1) d_T_isFreeName_72 (by decide) ?_
                refine a_goto (tgt := 77) d_T_isFreeName_73 (by decide) ?_
                simp only [frF, opens, orF, if_pos c_1, if_pos c_2, if_pos c_3, if_pos c_4, if_pos c_5, if_pos c_6, if_neg c_7, if_true] at hK
                exact a_lvk (tl_T_free1 hB hT hK) ⟨rfl, trivial⟩
              · refine a_aload_n d_T_isFreeName_63 rfl rfl ?_
                refine a_ldcS 9 d_T_isFreeName_64 (by decide) rfl rfl ?_
                apply a_callV (ci := 5) 4 85 [_] _ d_T_isFreeName_66 l_T_52 ⟨im_T_isWord, se_T_isWord⟩ rfl rfl rfl rfl (Nat.le_of_ble_eq_true rfl) ⟨Nat.le_of_ble_eq_true rfl, Nat.le_of_ble_eq_true rfl⟩
                · (repeat (first | with_reducible assumption | with_reducible exact a_us | with_reducible exact a_ns | refine a_un (by first | with_reducible assumption | omega) ?_ | refine a_nn (by first | with_reducible assumption | omega | (simp only [a_upd_1, a_new_1]; omega)) ?_ | exact a_us | exact a_ns))
                refine sp_T_isWord (by decide) hB hT ?_
                refine a_if_eq (tgt := 76) d_T_isFreeName_69 (by decide) (fun c_8 => ?_) (fun c_8 => ?_)
                · refine a_iconst (v := 0) d_T_isFreeName_76 (by decide) ?_
                  simp only [frF, opens, orF, if_pos c_1, if_pos c_2, if_pos c_3, if_pos c_4, if_pos c_5, if_pos c_6, if_pos c_7, if_pos c_8, if_true] at hK
                  exact a_lvk (tl_T_free1 hB hT hK) ⟨rfl, trivial⟩
                · refine a_iconst (v := 1) d_T_isFreeName_72 (by decide) ?_
                  refine a_goto (tgt := 77) d_T_isFreeName_73 (by decide) ?_
                  simp only [frF, opens, orF, if_pos c_1, if_pos c_2, if_pos c_3, if_pos c_4, if_pos c_5, if_pos c_6, if_pos c_7, if_neg c_8, if_true] at hK
                  exact a_lvk (tl_T_free1 hB hT hK) ⟨rfl, trivial⟩

set_option maxHeartbeats 4000000 in
set_option maxRecDepth 100000 in
theorem sp_T_opNumber (hB : BY σ b cap n f) (hT : TO σ t b k) (hK : K (some (.int (opF n f k))) σ) : a_C G m_T_opNumber 5 107 [.ref t] σ K := by
  have hT0 : σ.2.2 t = some (.inr (5, [.ref b, .int (nI k.1), .int k.2.1, .int (nI k.2.2.1), .long k.2.2.2.1, .int k.2.2.2.2])) := hT
  refine a_enter rfl (Nat.le_of_ble_eq_true rfl) ?_
  refine a_aload_n d_T_opNumber_0 rfl rfl ?_
  refine a_ldcS 11 d_T_opNumber_1 (by decide) rfl rfl ?_
  apply a_callV (ci := 5) 4 85 [_] _ d_T_opNumber_3 l_T_52 ⟨im_T_isWord, se_T_isWord⟩ rfl rfl rfl rfl (Nat.le_of_ble_eq_true rfl) ⟨Nat.le_of_ble_eq_true rfl, Nat.le_of_ble_eq_true rfl⟩
  · (repeat (first | with_reducible assumption | with_reducible exact a_us | with_reducible exact a_ns | refine a_un (by first | with_reducible assumption | omega) ?_ | refine a_nn (by first | with_reducible assumption | omega | (simp only [a_upd_1, a_new_1]; omega)) ?_ | exact a_us | exact a_ns))
  refine sp_T_isWord (by decide) hB hT ?_
  refine a_if_eq (tgt := 11) d_T_opNumber_6 (by decide) (fun c_1 => ?_) (fun c_1 => ?_)
  · refine a_aload_n d_T_opNumber_11 rfl rfl ?_
    refine a_ldcS 12 d_T_opNumber_12 (by decide) rfl rfl ?_
    apply a_callV (ci := 5) 4 85 [_] _ d_T_opNumber_14 l_T_52 ⟨im_T_isWord, se_T_isWord⟩ rfl rfl rfl rfl (Nat.le_of_ble_eq_true rfl) ⟨Nat.le_of_ble_eq_true rfl, Nat.le_of_ble_eq_true rfl⟩
    · (repeat (first | with_reducible assumption | with_reducible exact a_us | with_reducible exact a_ns | refine a_un (by first | with_reducible assumption | omega) ?_ | refine a_nn (by first | with_reducible assumption | omega | (simp only [a_upd_1, a_new_1]; omega)) ?_ | exact a_us | exact a_ns))
    refine sp_T_isWord (by decide) hB hT ?_
    refine a_if_eq (tgt := 22) d_T_opNumber_17 (by decide) (fun c_2 => ?_) (fun c_2 => ?_)
    · refine a_aload_n d_T_opNumber_22 rfl rfl ?_
      refine a_ldcS 13 d_T_opNumber_23 (by decide) rfl rfl ?_
      apply a_callV (ci := 5) 4 85 [_] _ d_T_opNumber_25 l_T_52 ⟨im_T_isWord, se_T_isWord⟩ rfl rfl rfl rfl (Nat.le_of_ble_eq_true rfl) ⟨Nat.le_of_ble_eq_true rfl, Nat.le_of_ble_eq_true rfl⟩
      · (repeat (first | with_reducible assumption | with_reducible exact a_us | with_reducible exact a_ns | refine a_un (by first | with_reducible assumption | omega) ?_ | refine a_nn (by first | with_reducible assumption | omega | (simp only [a_upd_1, a_new_1]; omega)) ?_ | exact a_us | exact a_ns))
      refine sp_T_isWord (by decide) hB hT ?_
      refine a_if_eq (tgt := 35) d_T_opNumber_28 (by decide) (fun c_3 => ?_) (fun c_3 => ?_)
      · refine a_iconst (v := (-1)) d_T_opNumber_35 (by decide) ?_
        refine a_ireturn d_T_opNumber_36 rfl rfl ?_
        simp only [opF, if_pos c_1, if_pos c_2, if_pos c_3, if_true] at hK
        exact hK
      · refine a_iconst (v := 2) d_T_opNumber_31 (by decide) ?_
        refine a_goto (tgt := 36) d_T_opNumber_32 (by decide) ?_
        refine a_ireturn d_T_opNumber_36 rfl rfl ?_
        simp only [opF, if_pos c_1, if_pos c_2, if_neg c_3, if_true] at hK
        exact hK
    · refine a_iconst (v := 1) d_T_opNumber_20 (by decide) ?_
      refine a_ireturn d_T_opNumber_21 rfl rfl ?_
      simp only [opF, if_pos c_1, if_neg c_2, if_true] at hK
      exact hK
  · refine a_iconst (v := 0) d_T_opNumber_9 (by decide) ?_
    refine a_ireturn d_T_opNumber_10 rfl rfl ?_
    simp only [opF, if_neg c_1, if_true] at hK
    exact hK

set_option maxHeartbeats 4000000 in
set_option maxRecDepth 100000 in
theorem sp_T_restart (hT : TO σ t b k) (hK : ∀ τ, a_fr σ τ t (t + 1) → TO τ t b (0, 0, 0, 0, 0) → K none τ) : a_C G m_T_restart 0 0 [.ref t] σ K := by
  have hT0 : σ.2.2 t = some (.inr (5, [.ref b, .int (nI k.1), .int k.2.1, .int (nI k.2.2.1), .long k.2.2.2.1, .int k.2.2.2.2])) := hT
  refine a_enter rfl (Nat.le_of_ble_eq_true rfl) ?_
  refine a_aload_n d_T_restart_0 rfl rfl ?_
  refine a_iconst (v := 0) d_T_restart_1 (by decide) ?_
  apply a_putfield d_T_restart_2 p_T_18
  · (repeat (first | with_reducible assumption | with_reducible exact a_us | with_reducible exact a_ns | refine a_un (by first | with_reducible assumption | omega) ?_ | refine a_nn (by first | with_reducible assumption | omega | (simp only [a_upd_1, a_new_1]; omega)) ?_ | exact a_us | exact a_ns))
  · first | rfl | assumption
  · first | rfl | assumption
  · exact Nat.le_of_ble_eq_true rfl
  refine a_aload_n d_T_restart_5 rfl rfl ?_
  refine a_iconst (v := 0) d_T_restart_6 (by decide) ?_
  apply a_putfield d_T_restart_7 p_T_22
  · (repeat (first | with_reducible assumption | with_reducible exact a_us | with_reducible exact a_ns | refine a_un (by first | with_reducible assumption | omega) ?_ | refine a_nn (by first | with_reducible assumption | omega | (simp only [a_upd_1, a_new_1]; omega)) ?_ | exact a_us | exact a_ns))
  · first | rfl | assumption
  · first | rfl | assumption
  · exact Nat.le_of_ble_eq_true rfl
  refine a_aload_n d_T_restart_10 rfl rfl ?_
  refine a_iconst (v := 0) d_T_restart_11 (by decide) ?_
  apply a_putfield d_T_restart_12 p_T_25
  · (repeat (first | with_reducible assumption | with_reducible exact a_us | with_reducible exact a_ns | refine a_un (by first | with_reducible assumption | omega) ?_ | refine a_nn (by first | with_reducible assumption | omega | (simp only [a_upd_1, a_new_1]; omega)) ?_ | exact a_us | exact a_ns))
  · first | rfl | assumption
  · first | rfl | assumption
  · exact Nat.le_of_ble_eq_true rfl
  refine a_aload_n d_T_restart_15 rfl rfl ?_
  refine a_lconst (v := 0) d_T_restart_16 (by decide) ?_
  apply a_putfield d_T_restart_17 p_T_28
  · (repeat (first | with_reducible assumption | with_reducible exact a_us | with_reducible exact a_ns | refine a_un (by first | with_reducible assumption | omega) ?_ | refine a_nn (by first | with_reducible assumption | omega | (simp only [a_upd_1, a_new_1]; omega)) ?_ | exact a_us | exact a_ns))
  · first | rfl | assumption
  · first | rfl | assumption
  · exact Nat.le_of_ble_eq_true rfl
  refine a_aload_n d_T_restart_20 rfl rfl ?_
  refine a_iconst (v := 0) d_T_restart_21 (by decide) ?_
  apply a_putfield d_T_restart_22 p_T_32
  · (repeat (first | with_reducible assumption | with_reducible exact a_us | with_reducible exact a_ns | refine a_un (by first | with_reducible assumption | omega) ?_ | refine a_nn (by first | with_reducible assumption | omega | (simp only [a_upd_1, a_new_1]; omega)) ?_ | exact a_us | exact a_ns))
  · first | rfl | assumption
  · first | rfl | assumption
  · exact Nat.le_of_ble_eq_true rfl
  refine a_return d_T_restart_25 rfl ?_
  exact hK _ (by repeat (first | exact a_fr.rf | refine a_fr.upd ?_ (Nat.le_refl t) (Nat.lt_succ_self t))) a_us

set_option maxHeartbeats 4000000 in
set_option maxRecDepth 100000 in
theorem sp_T_init (h0 : σ.2.2 t = some (.inr (5, [.null, .int 0, .int 0, .int 0, .long 0, .int 0]))) (hK : ∀ τ, a_fr σ τ t (t + 1) → TO τ t b (0, 0, 0, 0, 0) → K none τ) : a_C G m_T_init 1 20 [.ref t, .ref b] σ K := by
  refine a_enter rfl (Nat.le_of_ble_eq_true rfl) ?_
  refine a_aload_n d_T_init_0 rfl rfl ?_
  refine a_objinit d_T_init_1 o_T (Nat.le_of_ble_eq_true rfl) ⟨Nat.le_of_ble_eq_true rfl, Nat.le_of_ble_eq_true rfl⟩ ?_
  refine a_aload_n d_T_init_4 rfl rfl ?_
  refine a_aload_n d_T_init_5 rfl rfl ?_
  apply a_putfinal d_T_init_6 p_T_9 rfl
  · (repeat (first | with_reducible assumption | with_reducible exact a_us | with_reducible exact a_ns | refine a_un (by first | with_reducible assumption | omega) ?_ | refine a_nn (by first | with_reducible assumption | omega | (simp only [a_upd_1, a_new_1]; omega)) ?_ | exact a_us | exact a_ns))
  · first | rfl | assumption
  · first | rfl | assumption
  · exact Nat.le_of_ble_eq_true rfl
  refine a_aload_n d_T_init_9 rfl rfl ?_
  apply a_callV (ci := 5) 0 0 [] _ d_T_init_10 l_T_15 ⟨im_T_restart, se_T_restart⟩ rfl rfl rfl rfl (Nat.le_of_ble_eq_true rfl) ⟨Nat.le_of_ble_eq_true rfl, Nat.le_of_ble_eq_true rfl⟩
  · (repeat (first | with_reducible assumption | with_reducible exact a_us | with_reducible exact a_ns | refine a_un (by first | with_reducible assumption | omega) ?_ | refine a_nn (by first | with_reducible assumption | omega | (simp only [a_upd_1, a_new_1]; omega)) ?_ | exact a_us | exact a_ns))
  refine sp_T_restart (b := b) (k := (0, 0, 0, 0, 0)) a_us (fun τ hf hT => ?_)
  refine a_return d_T_init_13 rfl ?_
  exact hK τ ((a_fr.rf.upd (Nat.le_refl t) (Nat.lt_succ_self t)).trans hf) hT

set_option maxHeartbeats 4000000 in
set_option maxRecDepth 100000 in
theorem sp_B_init {b cap : Nat} (h0 : σ.2.2 b = some (.inr (0, [.null, .int 0, .int 0]))) (hn : σ.1 = b + 1) (hc : cap < 65536) (hK : ∀ τ, τ.1 = σ.1 + 1 → τ.2.1 = σ.2.1 + (cap / 8 + 1) → (∀ a, a ≠ b → a ≠ b + 1 → τ.2.2 a = σ.2.2 a) → BY τ b cap 0 (fun _ => 0) → K none τ) : a_C G m_B_init 1 21 [.ref b, .int (nI cap)] σ K := by
  refine a_enter rfl (Nat.le_of_ble_eq_true rfl) ?_
  refine a_aload_n d_B_init_0 rfl rfl ?_
  refine a_objinit d_B_init_1 o_B (Nat.le_of_ble_eq_true rfl) ⟨Nat.le_of_ble_eq_true rfl, Nat.le_of_ble_eq_true rfl⟩ ?_
  refine a_aload_n d_B_init_4 rfl rfl ?_
  refine a_iload_n d_B_init_5 rfl rfl ?_
  refine a_iconst (v := 0) d_B_init_6 (by decide) ?_
  refine a_mmax d_B_init_7 l_B_9 (Nat.le_of_ble_eq_true rfl) ⟨Nat.le_of_ble_eq_true rfl, Nat.le_of_ble_eq_true rfl⟩ ?_
  rw [if_neg (nI_pos (show cap < 2 ^ 31 by omega))]
  apply a_putfinal d_B_init_10 p_B_15 rfl
  · (repeat (first | with_reducible assumption | with_reducible exact a_us | with_reducible exact a_ns | refine a_un (by first | with_reducible assumption | omega) ?_ | refine a_nn (by first | with_reducible assumption | omega | (simp only [a_upd_1, a_new_1]; omega)) ?_ | exact a_us | exact a_ns))
  · first | rfl | assumption
  · first | rfl | assumption
  · exact Nat.le_of_ble_eq_true rfl
  refine a_aload_n d_B_init_13 rfl rfl ?_
  refine a_aload_n d_B_init_14 rfl rfl ?_
  apply a_getfield d_B_init_15 f_B_15
  · (repeat (first | with_reducible assumption | with_reducible exact a_us | with_reducible exact a_ns | refine a_un (by first | with_reducible assumption | omega) ?_ | refine a_nn (by first | with_reducible assumption | omega | (simp only [a_upd_1, a_new_1]; omega)) ?_ | exact a_us | exact a_ns))
  · rfl
  refine a_bipush (v := 8) d_B_init_18 (by decide) ?_
  refine a_idiv d_B_init_20 (by decide) ?_
  refine a_iconst (v := 1) d_B_init_21 (by decide) ?_
  refine a_iadd d_B_init_22 ?_
  rw [show nI cap / 8 + 1 = nI (cap / 8 + 1) by rw [show (8 : Int32) = nI 8 from rfl, pk_div (by omega) (by decide) (by decide), nI_1]]
  refine a_newarr (t0 := 1) (x := (cap / 8 + 1, .inr (.inl (fun _ => 0)))) d_B_init_23 rfl rfl ar_long (fun _ => rfl) (nI_pos (by omega)) (nI_clamp (by omega)) (by show _ * 8 ≤ _; omega) ?_
  simp only [a_upd_1, hn]
  apply a_putfinal d_B_init_25 p_B_21 rfl
  · (repeat (first | with_reducible assumption | with_reducible exact a_us | with_reducible exact a_ns | refine a_un (by first | with_reducible assumption | omega) ?_ | refine a_nn (by first | with_reducible assumption | omega | (simp only [a_upd_1, a_new_1]; omega)) ?_ | exact a_us | exact a_ns))
  · first | rfl | assumption
  · first | rfl | assumption
  · exact Nat.le_of_ble_eq_true rfl
  refine a_aload_n d_B_init_28 rfl rfl ?_
  refine a_iconst (v := 0) d_B_init_29 (by decide) ?_
  apply a_putfield d_B_init_30 p_B_25
  · (repeat (first | with_reducible assumption | with_reducible exact a_us | with_reducible exact a_ns | refine a_un (by first | with_reducible assumption | omega) ?_ | refine a_nn (by first | with_reducible assumption | omega | (simp only [a_upd_1, a_new_1]; omega)) ?_ | exact a_us | exact a_ns))
  · first | rfl | assumption
  · first | rfl | assumption
  · exact Nat.le_of_ble_eq_true rfl
  refine a_return d_B_init_33 rfl ?_
  refine hK _ rfl rfl (fun a h1 h2 => ?_) ⟨fun _ => 0, ?_, ?_, Nat.zero_le _, hc, fun q _ => by show y_ 0 _ = 0; rw [show (0 : Int64) = lN 0 from rfl, y_lN (by decide)]; simp⟩
  · rw [a_un h1 rfl, a_un h1 rfl, a_nn (by rw [show (a_upd σ b _).1 = σ.1 from rfl, hn]; exact h2) rfl, a_un h1 rfl]
  · exact a_us
  · exact a_un (by omega) (a_un (by omega) (by have e9 := @a_ns (a_upd σ b (.inr (0, [.null, .int (nI cap), .int 0]))) (cap / 8 + 1) (.inl (.long, cap / 8 + 1, .inr (.inl fun _ => 0))); rw [a_upd_1, hn] at e9; exact e9))

end ModT5
