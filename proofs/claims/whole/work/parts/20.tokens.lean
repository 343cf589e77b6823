/-! TOKENS: an object t over the bytes b (n of them, f): k = (at, kind, place, name, number) -/
abbrev aT : Type := Nat × Int32 × Nat × Int64 × Int32
def TO (σ : aS) (t b : Nat) (k : aT) : Prop := σ.2.2 t = some (.inr (5, [.ref b, .int (nI k.1), .int k.2.1, .int (nI k.2.2.1), .long k.2.2.2.1, .int k.2.2.2.2]))
theorem TO.fr {σ τ : aS} {t b lo hi : Nat} {k : aT} (h : TO σ t b k) (hf : a_fr σ τ lo hi) (hd : t < lo ∨ hi ≤ t) : TO τ t b k := (hf.2.2 t hd).trans h
def blF (b : Int32) : Int32 := if b = 32 then 1 else if b = 10 then 1 else 0
def leF (b : Int32) : Int32 := if b < 97 then 0 else if 122 < b then 0 else 1
def diF (b : Int32) : Int32 := if b < 48 then 0 else if 57 < b then 0 else 1
def wdF (b : Int32) : Int32 := if leF b = 0 then (if diF b = 0 then (if b = 45 then 1 else 0) else 1) else 1
/-- behind the blanks -/
def skp (f : Nat → Nat) : Nat → Nat → Nat
  | 0, p => p
  | k + 1, p => if blF (nI (f p)) = 0 then p else skp f k (p + 1)
/-- behind the word -/
def wen (f : Nat → Nat) : Nat → Nat → Nat
  | 0, p => p
  | k + 1, p => if wdF (nI (f p)) = 0 then p else wen f k (p + 1)
theorem skp_le (f : Nat → Nat) : ∀ k p, p ≤ skp f k p ∧ skp f k p ≤ p + k
  | 0, p => ⟨Nat.le_refl _, Nat.le_refl _⟩
  | k + 1, p => by
    unfold skp
    split
    · omega
    · have := skp_le f k (p + 1); omega
theorem wen_le (f : Nat → Nat) : ∀ k p, p ≤ wen f k p ∧ wen f k p ≤ p + k
  | 0, p => ⟨Nat.le_refl _, Nat.le_refl _⟩
  | k + 1, p => by
    unfold wen
    split
    · omega
    · have := wen_le f k (p + 1); omega
/-- the name that begins at p, in fives of bits; j letters may come -/
def nmE (n : Nat) (f : Nat → Nat) : Nat → Nat → Int64 → Int64
  | 0, _, v => v
  | j + 1, p, v => if leF (atF n f (nI p)) = 0 then v else nmE n f j (p + 1) (v <<< ((5 : Int32).toInt64 &&& 63) ||| (atF n f (nI p) - 97 + 1).toInt64)
section ModT
variable {G : aG} {σ : aS} {K : Option Value → aS → Prop} {t b cap n : Nat} {f : Nat → Nat} {k : aT}
set_option maxHeartbeats 4000000 in
set_option maxRecDepth 100000 in
theorem sp_T_isBlank {x : Int32} (hK : K (some (.int (blF x))) σ) : a_C G m_T_isBlank 0 0 [.int x] σ K := by
  refine a_enter rfl (Nat.le_of_ble_eq_true rfl) ?_
  refine a_iload_n d_T_isBlank_0 rfl rfl ?_
  refine a_bipush (v := 32) d_T_isBlank_1 (by decide) ?_
  refine a_icmp_eq (tgt := 12) d_T_isBlank_3 (by decide) (fun c_1 => ?_) (fun c_1 => ?_)
  · refine a_iconst (v := 1) d_T_isBlank_12 (by decide) ?_
    refine a_goto (tgt := 17) d_T_isBlank_13 (by decide) ?_
    refine a_ireturn d_T_isBlank_17 rfl rfl ?_
    first | exact hK | (simp only [blF, if_pos c_1, if_true] at hK; exact hK) | contradiction
  · refine a_iload_n d_T_isBlank_6 rfl rfl ?_
    refine a_bipush (v := 10) d_T_isBlank_7 (by decide) ?_
    refine a_icmp_ne (tgt := 16) d_T_isBlank_9 (by decide) (fun c_2 => ?_) (fun c_2 => ?_)
    · refine a_iconst (v := 0) d_T_isBlank_16 (by decide) ?_
      refine a_ireturn d_T_isBlank_17 rfl rfl ?_
      first | exact hK | (simp only [blF, if_neg c_1, if_neg c_2, if_true] at hK; exact hK) | contradiction
    · refine a_iconst (v := 1) d_T_isBlank_12 (by decide) ?_
      refine a_goto (tgt := 17) d_T_isBlank_13 (by decide) ?_
      refine a_ireturn d_T_isBlank_17 rfl rfl ?_
      first | exact hK | (simp only [blF, if_neg c_1, if_pos c_2, if_true] at hK; exact hK) | contradiction

set_option maxHeartbeats 4000000 in
set_option maxRecDepth 100000 in
theorem sp_T_isLetter {x : Int32} (hK : K (some (.int (leF x))) σ) : a_C G m_T_isLetter 0 0 [.int x] σ K := by
  refine a_enter rfl (Nat.le_of_ble_eq_true rfl) ?_
  refine a_iload_n d_T_isLetter_0 rfl rfl ?_
  refine a_bipush (v := 97) d_T_isLetter_1 (by decide) ?_
  refine a_icmp_lt (tgt := 16) d_T_isLetter_3 (by decide) (fun c_1 => ?_) (fun c_1 => ?_)
  · refine a_iconst (v := 0) d_T_isLetter_16 (by decide) ?_
    refine a_ireturn d_T_isLetter_17 rfl rfl ?_
    first | exact hK | (simp only [leF, if_pos c_1, if_neg (Int32.not_le.mpr c_1), if_true] at hK; exact hK) | contradiction
  · refine a_iload_n d_T_isLetter_6 rfl rfl ?_
    refine a_bipush (v := 122) d_T_isLetter_7 (by decide) ?_
    refine a_icmp_gt (tgt := 16) d_T_isLetter_9 (by decide) (fun c_2 => ?_) (fun c_2 => ?_)
    · refine a_iconst (v := 0) d_T_isLetter_16 (by decide) ?_
      refine a_ireturn d_T_isLetter_17 rfl rfl ?_
      first | exact hK | (simp only [leF, if_neg c_1, if_pos (Int32.not_lt.mp c_1), if_pos c_2, if_neg (Int32.not_le.mpr c_2), if_true] at hK; exact hK) | contradiction
    · refine a_iconst (v := 1) d_T_isLetter_12 (by decide) ?_
      refine a_goto (tgt := 17) d_T_isLetter_13 (by decide) ?_
      refine a_ireturn d_T_isLetter_17 rfl rfl ?_
      first | exact hK | (simp only [leF, if_neg c_1, if_pos (Int32.not_lt.mp c_1), if_neg c_2, if_pos (Int32.not_lt.mp c_2), if_true] at hK; exact hK) | contradiction

set_option maxHeartbeats 4000000 in
set_option maxRecDepth 100000 in
theorem sp_T_isDigit {x : Int32} (hK : K (some (.int (diF x))) σ) : a_C G m_T_isDigit 0 0 [.int x] σ K := by
  refine a_enter rfl (Nat.le_of_ble_eq_true rfl) ?_
  refine a_iload_n d_T_isDigit_0 rfl rfl ?_
  refine a_bipush (v := 48) d_T_isDigit_1 (by decide) ?_
  refine a_icmp_lt (tgt := 16) d_T_isDigit_3 (by decide) (fun c_1 => ?_) (fun c_1 => ?_)
  · refine a_iconst (v := 0) d_T_isDigit_16 (by decide) ?_
    refine a_ireturn d_T_isDigit_17 rfl rfl ?_
    first | exact hK | (simp only [diF, if_pos c_1, if_neg (Int32.not_le.mpr c_1), if_true] at hK; exact hK) | contradiction
  · refine a_iload_n d_T_isDigit_6 rfl rfl ?_
    refine a_bipush (v := 57) d_T_isDigit_7 (by decide) ?_
    refine a_icmp_gt (tgt := 16) d_T_isDigit_9 (by decide) (fun c_2 => ?_) (fun c_2 => ?_)
    · refine a_iconst (v := 0) d_T_isDigit_16 (by decide) ?_
      refine a_ireturn d_T_isDigit_17 rfl rfl ?_
      first | exact hK | (simp only [diF, if_neg c_1, if_pos (Int32.not_lt.mp c_1), if_pos c_2, if_neg (Int32.not_le.mpr c_2), if_true] at hK; exact hK) | contradiction
    · refine a_iconst (v := 1) d_T_isDigit_12 (by decide) ?_
      refine a_goto (tgt := 17) d_T_isDigit_13 (by decide) ?_
      refine a_ireturn d_T_isDigit_17 rfl rfl ?_
      first | exact hK | (simp only [diF, if_neg c_1, if_pos (Int32.not_lt.mp c_1), if_neg c_2, if_pos (Int32.not_lt.mp c_2), if_true] at hK; exact hK) | contradiction

set_option maxHeartbeats 4000000 in
set_option maxRecDepth 100000 in
theorem sp_T_inWord {x : Int32} (hK : K (some (.int (wdF x))) σ) : a_C G m_T_inWord 1 20 [.int x] σ K := by
  refine a_enter rfl (Nat.le_of_ble_eq_true rfl) ?_
  refine a_iload_n d_T_inWord_0 rfl rfl ?_
  refine a_callS 0 0 [_] _ d_T_inWord_1 l_T_98 is_T_isLetter rfl rfl (Nat.le_of_ble_eq_true rfl) ⟨Nat.le_of_ble_eq_true rfl, Nat.le_of_ble_eq_true rfl⟩ ?_
  refine sp_T_isLetter ?_
  refine a_if_ne (tgt := 20) d_T_inWord_4 (by decide) (fun c_1 => ?_) (fun c_1 => ?_)
  · refine a_iconst (v := 1) d_T_inWord_20 (by decide) ?_
    refine a_goto (tgt := 25) d_T_inWord_21 (by decide) ?_
    refine a_ireturn d_T_inWord_25 rfl rfl ?_
    first | exact hK | (simp only [wdF, if_neg c_1, if_true] at hK; exact hK) | contradiction
  · refine a_iload_n d_T_inWord_7 rfl rfl ?_
    refine a_callS 0 0 [_] _ d_T_inWord_8 l_T_109 is_T_isDigit rfl rfl (Nat.le_of_ble_eq_true rfl) ⟨Nat.le_of_ble_eq_true rfl, Nat.le_of_ble_eq_true rfl⟩ ?_
    refine sp_T_isDigit ?_
    refine a_if_ne (tgt := 20) d_T_inWord_11 (by decide) (fun c_2 => ?_) (fun c_2 => ?_)
    · refine a_iconst (v := 1) d_T_inWord_20 (by decide) ?_
      refine a_goto (tgt := 25) d_T_inWord_21 (by decide) ?_
      refine a_ireturn d_T_inWord_25 rfl rfl ?_
      first | exact hK | (simp only [wdF, if_pos c_1, if_neg c_2, if_true] at hK; exact hK) | contradiction
    · refine a_iload_n d_T_inWord_14 rfl rfl ?_
      refine a_bipush (v := 45) d_T_inWord_15 (by decide) ?_
      refine a_icmp_ne (tgt := 24) d_T_inWord_17 (by decide) (fun c_3 => ?_) (fun c_3 => ?_)
      · refine a_iconst (v := 0) d_T_inWord_24 (by decide) ?_
        refine a_ireturn d_T_inWord_25 rfl rfl ?_
        first | exact hK | (simp only [wdF, if_pos c_1, if_pos c_2, if_neg c_3, if_true] at hK; exact hK) | contradiction
      · refine a_iconst (v := 1) d_T_inWord_20 (by decide) ?_
        refine a_goto (tgt := 25) d_T_inWord_21 (by decide) ?_
        refine a_ireturn d_T_inWord_25 rfl rfl ?_
        first | exact hK | (simp only [wdF, if_pos c_1, if_pos c_2, if_pos c_3, if_true] at hK; exact hK) | contradiction

set_option maxHeartbeats 4000000 in
set_option maxRecDepth 100000 in
theorem sp_T_place (hT : TO σ t b k) (hK : K (some (.int (nI k.2.2.1))) σ) : a_C G m_T_place 0 0 [.ref t] σ K := by
  have hT0 : σ.2.2 t = some (.inr (5, [.ref b, .int (nI k.1), .int k.2.1, .int (nI k.2.2.1), .long k.2.2.2.1, .int k.2.2.2.2])) := hT
  refine a_enter rfl (Nat.le_of_ble_eq_true rfl) ?_
  refine a_aload_n d_T_place_0 rfl rfl ?_
  apply a_getfield d_T_place_1 f_T_25
  · (repeat (first | with_reducible assumption | with_reducible exact a_us | with_reducible exact a_ns | refine a_un (by first | with_reducible assumption | omega) ?_ | refine a_nn (by first | with_reducible assumption | omega | (simp only [a_upd_1, a_new_1]; omega)) ?_ | exact a_us | exact a_ns))
  · rfl
  exact a_ireturn d_T_place_4 rfl rfl hK

set_option maxHeartbeats 4000000 in
set_option maxRecDepth 100000 in
theorem sp_T_number (hT : TO σ t b k) (hK : K (some (.int k.2.2.2.2)) σ) : a_C G m_T_number 0 0 [.ref t] σ K := by
  have hT0 : σ.2.2 t = some (.inr (5, [.ref b, .int (nI k.1), .int k.2.1, .int (nI k.2.2.1), .long k.2.2.2.1, .int k.2.2.2.2])) := hT
  refine a_enter rfl (Nat.le_of_ble_eq_true rfl) ?_
  refine a_aload_n d_T_number_0 rfl rfl ?_
  apply a_getfield d_T_number_1 f_T_32
  · (repeat (first | with_reducible assumption | with_reducible exact a_us | with_reducible exact a_ns | refine a_un (by first | with_reducible assumption | omega) ?_ | refine a_nn (by first | with_reducible assumption | omega | (simp only [a_upd_1, a_new_1]; omega)) ?_ | exact a_us | exact a_ns))
  · rfl
  exact a_ireturn d_T_number_4 rfl rfl hK

set_option maxHeartbeats 4000000 in
set_option maxRecDepth 100000 in
theorem sp_T_name (hT : TO σ t b k) (hK : K (some (.long k.2.2.2.1)) σ) : a_C G m_T_name 0 0 [.ref t] σ K := by
  have hT0 : σ.2.2 t = some (.inr (5, [.ref b, .int (nI k.1), .int k.2.1, .int (nI k.2.2.1), .long k.2.2.2.1, .int k.2.2.2.2])) := hT
  refine a_enter rfl (Nat.le_of_ble_eq_true rfl) ?_
  refine a_aload_n d_T_name_0 rfl rfl ?_
  apply a_getfield d_T_name_1 f_T_28
  · (repeat (first | with_reducible assumption | with_reducible exact a_us | with_reducible exact a_ns | refine a_un (by first | with_reducible assumption | omega) ?_ | refine a_nn (by first | with_reducible assumption | omega | (simp only [a_upd_1, a_new_1]; omega)) ?_ | exact a_us | exact a_ns))
  · rfl
  exact a_lreturn d_T_name_4 rfl hK

set_option maxHeartbeats 4000000 in
set_option maxRecDepth 100000 in
theorem sp_T_isA {x : Int32} (hT : TO σ t b k) (hK : K (some (.int (if k.2.1 = x then 1 else 0))) σ) : a_C G m_T_isA 0 0 [.ref t, .int x] σ K := by
  have hT0 : σ.2.2 t = some (.inr (5, [.ref b, .int (nI k.1), .int k.2.1, .int (nI k.2.2.1), .long k.2.2.2.1, .int k.2.2.2.2])) := hT
  refine a_enter rfl (Nat.le_of_ble_eq_true rfl) ?_
  refine a_aload_n d_T_isA_0 rfl rfl ?_
  apply a_getfield d_T_isA_1 f_T_22
  · (repeat (first | with_reducible assumption | with_reducible exact a_us | with_reducible exact a_ns | refine a_un (by first | with_reducible assumption | omega) ?_ | refine a_nn (by first | with_reducible assumption | omega | (simp only [a_upd_1, a_new_1]; omega)) ?_ | exact a_us | exact a_ns))
  · rfl
  refine a_iload_n d_T_isA_4 rfl rfl ?_
  refine a_icmp_ne (tgt := 12) d_T_isA_5 (by decide) (fun c_1 => ?_) (fun c_1 => ?_)
  · refine a_iconst (v := 0) d_T_isA_12 (by decide) ?_
    refine a_ireturn d_T_isA_13 rfl rfl ?_
    first | exact hK | (simp only [if_neg c_1, if_true] at hK; exact hK) | contradiction
  · refine a_iconst (v := 1) d_T_isA_8 (by decide) ?_
    refine a_goto (tgt := 13) d_T_isA_9 (by decide) ?_
    refine a_ireturn d_T_isA_13 rfl rfl ?_
    first | exact hK | (simp only [if_pos c_1, if_true] at hK; exact hK) | contradiction

set_option maxHeartbeats 4000000 in
set_option maxRecDepth 100000 in
theorem sp_T_isNumber {x y : Int32} (hT : TO σ t b k) (hK : K (some (.int (if k.2.1 = 4 then (if k.2.2.2.2 < x then 0 else if y < k.2.2.2.2 then 0 else 1) else 0))) σ) : a_C G m_T_isNumber 0 0 [.ref t, .int x, .int y] σ K := by
  have hT0 : σ.2.2 t = some (.inr (5, [.ref b, .int (nI k.1), .int k.2.1, .int (nI k.2.2.1), .long k.2.2.2.1, .int k.2.2.2.2])) := hT
  refine a_enter rfl (Nat.le_of_ble_eq_true rfl) ?_
  refine a_aload_n d_T_isNumber_0 rfl rfl ?_
  apply a_getfield d_T_isNumber_1 f_T_22
  · (repeat (first | with_reducible assumption | with_reducible exact a_us | with_reducible exact a_ns | refine a_un (by first | with_reducible assumption | omega) ?_ | refine a_nn (by first | with_reducible assumption | omega | (simp only [a_upd_1, a_new_1]; omega)) ?_ | exact a_us | exact a_ns))
  · rfl
  refine a_iconst (v := 4) d_T_isNumber_4 (by decide) ?_
  refine a_icmp_ne (tgt := 28) d_T_isNumber_5 (by decide) (fun c_1 => ?_) (fun c_1 => ?_)
  · refine a_iconst (v := 0) d_T_isNumber_28 (by decide) ?_
    refine a_ireturn d_T_isNumber_29 rfl rfl ?_
    first | exact hK | (simp only [if_neg c_1, if_true] at hK; exact hK) | contradiction
  · refine a_aload_n d_T_isNumber_8 rfl rfl ?_
    apply a_getfield d_T_isNumber_9 f_T_32
    · (repeat (first | with_reducible assumption | with_reducible exact a_us | with_reducible exact a_ns | refine a_un (by first | with_reducible assumption | omega) ?_ | refine a_nn (by first | with_reducible assumption | omega | (simp only [a_upd_1, a_new_1]; omega)) ?_ | exact a_us | exact a_ns))
    · rfl
    refine a_iload_n d_T_isNumber_12 rfl rfl ?_
    refine a_icmp_lt (tgt := 28) d_T_isNumber_13 (by decide) (fun c_2 => ?_) (fun c_2 => ?_)
    · refine a_iconst (v := 0) d_T_isNumber_28 (by decide) ?_
      refine a_ireturn d_T_isNumber_29 rfl rfl ?_
      first | exact hK | (simp only [if_pos c_1, if_pos c_2, if_neg (Int32.not_le.mpr c_2), if_true] at hK; exact hK) | contradiction
    · refine a_aload_n d_T_isNumber_16 rfl rfl ?_
      apply a_getfield d_T_isNumber_17 f_T_32
      · (repeat (first | with_reducible assumption | with_reducible exact a_us | with_reducible exact a_ns | refine a_un (by first | with_reducible assumption | omega) ?_ | refine a_nn (by first | with_reducible assumption | omega | (simp only [a_upd_1, a_new_1]; omega)) ?_ | exact a_us | exact a_ns))
      · rfl
      refine a_iload_n d_T_isNumber_20 rfl rfl ?_
      refine a_icmp_gt (tgt := 28) d_T_isNumber_21 (by decide) (fun c_3 => ?_) (fun c_3 => ?_)
      · refine a_iconst (v := 0) d_T_isNumber_28 (by decide) ?_
        refine a_ireturn d_T_isNumber_29 rfl rfl ?_
        first | exact hK | (simp only [if_pos c_1, if_neg c_2, if_pos (Int32.not_lt.mp c_2), if_pos c_3, if_neg (Int32.not_le.mpr c_3), if_true] at hK; exact hK) | contradiction
      · refine a_iconst (v := 1) d_T_isNumber_24 (by decide) ?_
        refine a_goto (tgt := 29) d_T_isNumber_25 (by decide) ?_
        refine a_ireturn d_T_isNumber_29 rfl rfl ?_
        first | exact hK | (simp only [if_pos c_1, if_neg c_2, if_pos (Int32.not_lt.mp c_2), if_neg c_3, if_pos (Int32.not_lt.mp c_3), if_true] at hK; exact hK) | contradiction

set_option maxHeartbeats 4000000 in
set_option maxRecDepth 100000 in
theorem lp_T_advance (hd : t < b ∨ b + 1 < t) : ∀ (m : Nat) {k : aT} {σ : aS}, BY σ b cap n f → TO σ t b k → k.1 + m = n → (∀ τ, a_fr σ τ t (t + 1) → TO τ t b (skp f m k.1, k.2) → a_J G m_T_advance 4 86 44 [(0, .ref t)] [] τ K) → a_J G m_T_advance 4 86 0 [(0, .ref t)] [] σ K := by
  intro m
  induction m with
  | zero =>
    intro k σ hB hT hi hK
    have hcap : n ≤ cap ∧ cap < 65536 := by obtain ⟨g, h1, h2, h3, h4, h5⟩ := hB; exact ⟨h3, h4⟩
    obtain ⟨g, hB0, hB1, -⟩ := id hB
    have hT0 : σ.2.2 t = some (.inr (5, [.ref b, .int (nI k.1), .int k.2.1, .int (nI k.2.2.1), .long k.2.2.2.1, .int k.2.2.2.2])) := hT
    refine a_aload_n d_T_advance_0 rfl rfl ?_
    apply a_getfield d_T_advance_1 f_T_18
    · (repeat (first | with_reducible assumption | with_reducible exact a_us | with_reducible exact a_ns | refine a_un (by first | with_reducible assumption | omega) ?_ | refine a_nn (by first | with_reducible assumption | omega | (simp only [a_upd_1, a_new_1]; omega)) ?_ | exact a_us | exact a_ns))
    · rfl
    refine a_aload_n d_T_advance_4 rfl rfl ?_
    apply a_getfield d_T_advance_5 f_T_9
    · (repeat (first | with_reducible assumption | with_reducible exact a_us | with_reducible exact a_ns | refine a_un (by first | with_reducible assumption | omega) ?_ | refine a_nn (by first | with_reducible assumption | omega | (simp only [a_upd_1, a_new_1]; omega)) ?_ | exact a_us | exact a_ns))
    · rfl
    apply a_callV (ci := 0) 0 0 [] _ d_T_advance_8 l_T_78 ⟨im_B_size, se_B_size⟩ rfl rfl rfl rfl (Nat.le_of_ble_eq_true rfl) ⟨Nat.le_of_ble_eq_true rfl, Nat.le_of_ble_eq_true rfl⟩
    · (repeat (first | with_reducible assumption | with_reducible exact a_us | with_reducible exact a_ns | refine a_un (by first | with_reducible assumption | omega) ?_ | refine a_nn (by first | with_reducible assumption | omega | (simp only [a_upd_1, a_new_1]; omega)) ?_ | exact a_us | exact a_ns))
    refine sp_B_size hB ?_
    refine a_icmp_ge (tgt := 44) d_T_advance_11 (by decide) (fun c_1 => ?_) (fun n9 => absurd (by rw [show k.1 = n by omega]; exact Int32.le_refl _) n9)
    have e5 : skp f 0 k.1 = k.1 := rfl
    exact a_lvk (hK σ a_fr.rf (by rw [e5]; exact hT)) ⟨rfl, trivial⟩
  | succ m ih =>
    intro k σ hB hT hi hK
    have hcap : n ≤ cap ∧ cap < 65536 := by obtain ⟨g, h1, h2, h3, h4, h5⟩ := hB; exact ⟨h3, h4⟩
    obtain ⟨g, hB0, hB1, -⟩ := id hB
    have hT0 : σ.2.2 t = some (.inr (5, [.ref b, .int (nI k.1), .int k.2.1, .int (nI k.2.2.1), .long k.2.2.2.1, .int k.2.2.2.2])) := hT
    refine a_aload_n d_T_advance_0 rfl rfl ?_
    apply a_getfield d_T_advance_1 f_T_18
    · (repeat (first | with_reducible assumption | with_reducible exact a_us | with_reducible exact a_ns | refine a_un (by first | with_reducible assumption | omega) ?_ | refine a_nn (by first | with_reducible assumption | omega | (simp only [a_upd_1, a_new_1]; omega)) ?_ | exact a_us | exact a_ns))
    · rfl
    refine a_aload_n d_T_advance_4 rfl rfl ?_
    apply a_getfield d_T_advance_5 f_T_9
    · (repeat (first | with_reducible assumption | with_reducible exact a_us | with_reducible exact a_ns | refine a_un (by first | with_reducible assumption | omega) ?_ | refine a_nn (by first | with_reducible assumption | omega | (simp only [a_upd_1, a_new_1]; omega)) ?_ | exact a_us | exact a_ns))
    · rfl
    apply a_callV (ci := 0) 0 0 [] _ d_T_advance_8 l_T_78 ⟨im_B_size, se_B_size⟩ rfl rfl rfl rfl (Nat.le_of_ble_eq_true rfl) ⟨Nat.le_of_ble_eq_true rfl, Nat.le_of_ble_eq_true rfl⟩
    · (repeat (first | with_reducible assumption | with_reducible exact a_us | with_reducible exact a_ns | refine a_un (by first | with_reducible assumption | omega) ?_ | refine a_nn (by first | with_reducible assumption | omega | (simp only [a_upd_1, a_new_1]; omega)) ?_ | exact a_us | exact a_ns))
    refine sp_B_size hB ?_
    refine a_icmp_ge (tgt := 44) d_T_advance_11 (by decide) (fun n9 => absurd n9 (nI_ge (show k.1 < n by omega) (by omega))) (fun c_1 => ?_)
    refine a_aload_n d_T_advance_14 rfl rfl ?_
    apply a_getfield d_T_advance_15 f_T_9
    · (repeat (first | with_reducible assumption | with_reducible exact a_us | with_reducible exact a_ns | refine a_un (by first | with_reducible assumption | omega) ?_ | refine a_nn (by first | with_reducible assumption | omega | (simp only [a_upd_1, a_new_1]; omega)) ?_ | exact a_us | exact a_ns))
    · rfl
    refine a_aload_n d_T_advance_18 rfl rfl ?_
    apply a_getfield d_T_advance_19 f_T_18
    · (repeat (first | with_reducible assumption | with_reducible exact a_us | with_reducible exact a_ns | refine a_un (by first | with_reducible assumption | omega) ?_ | refine a_nn (by first | with_reducible assumption | omega | (simp only [a_upd_1, a_new_1]; omega)) ?_ | exact a_us | exact a_ns))
    · rfl
    apply a_callV (ci := 0) 0 0 [_] _ d_T_advance_22 l_T_41 ⟨im_B_at, se_B_at⟩ rfl rfl rfl rfl (Nat.le_of_ble_eq_true rfl) ⟨Nat.le_of_ble_eq_true rfl, Nat.le_of_ble_eq_true rfl⟩
    · (repeat (first | with_reducible assumption | with_reducible exact a_us | with_reducible exact a_ns | refine a_un (by first | with_reducible assumption | omega) ?_ | refine a_nn (by first | with_reducible assumption | omega | (simp only [a_upd_1, a_new_1]; omega)) ?_ | exact a_us | exact a_ns))
    refine sp_B_at hB ?_
    rw [atF_in (show k.1 < n by omega) (by omega)]
    refine a_callS 0 0 [_] _ d_T_advance_25 l_T_81 is_T_isBlank rfl rfl (Nat.le_of_ble_eq_true rfl) ⟨Nat.le_of_ble_eq_true rfl, Nat.le_of_ble_eq_true rfl⟩ ?_
    refine sp_T_isBlank ?_
    refine a_if_eq (tgt := 44) d_T_advance_28 (by decide) (fun c_2 => ?_) (fun c_2 => ?_)
    · have e5 : skp f (m + 1) k.1 = k.1 := by rw [skp, if_pos c_2]
      exact a_lvk (hK σ a_fr.rf (by rw [e5]; exact hT)) ⟨rfl, trivial⟩
    · refine a_aload_n d_T_advance_31 rfl rfl ?_
      refine a_dup d_T_advance_32 rfl ?_
      apply a_getfield d_T_advance_33 f_T_18
      · (repeat (first | with_reducible assumption | with_reducible exact a_us | with_reducible exact a_ns | refine a_un (by first | with_reducible assumption | omega) ?_ | refine a_nn (by first | with_reducible assumption | omega | (simp only [a_upd_1, a_new_1]; omega)) ?_ | exact a_us | exact a_ns))
      · rfl
      refine a_iconst (v := 1) d_T_advance_36 (by decide) ?_
      refine a_iadd d_T_advance_37 ?_
      apply a_putfield d_T_advance_38 p_T_18
      · (repeat (first | with_reducible assumption | with_reducible exact a_us | with_reducible exact a_ns | refine a_un (by first | with_reducible assumption | omega) ?_ | refine a_nn (by first | with_reducible assumption | omega | (simp only [a_upd_1, a_new_1]; omega)) ?_ | exact a_us | exact a_ns))
      · first | rfl | assumption
      · first | rfl | assumption
      · exact Nat.le_of_ble_eq_true rfl
      refine a_goto (tgt := 0) d_T_advance_41 (by decide) ?_
      have e5 : skp f (m + 1) k.1 = skp f m (k.1 + 1) := by rw [skp, if_neg c_2]
      rw [nI_1]
      refine a_lvk (ih (k := (k.1 + 1, k.2)) (σ := a_upd σ t (.inr (5, [.ref b, .int (nI (k.1 + 1)), .int k.2.1, .int (nI k.2.2.1), .long k.2.2.2.1, .int k.2.2.2.2]))) (hB.fr (a_fr.rf.upd (Nat.le_refl t) (Nat.lt_succ_self t)) (by omega)) a_us (show k.1 + 1 + m = n by omega) (fun τ hf hT2 => ?_)) ⟨rfl, trivial⟩
      rw [e5] at hK
      exact hK τ ((a_fr.rf.upd (Nat.le_refl t) (Nat.lt_succ_self t)).trans hf) hT2

set_option maxHeartbeats 4000000 in
set_option maxRecDepth 100000 in
theorem lp_T_takeWord (hd : t < b ∨ b + 1 < t) : ∀ (m : Nat) {k : aT} {σ : aS}, BY σ b cap n f → TO σ t b k → k.1 + m = n → (∀ τ, a_fr σ τ t (t + 1) → TO τ t b (wen f m k.1, k.2) → a_J G m_T_takeWord 3 66 44 [(0, .ref t)] [] τ K) → a_J G m_T_takeWord 3 66 0 [(0, .ref t)] [] σ K := by
  intro m
  induction m with
  | zero =>
    intro k σ hB hT hi hK
    have hcap : n ≤ cap ∧ cap < 65536 := by obtain ⟨g, h1, h2, h3, h4, h5⟩ := hB; exact ⟨h3, h4⟩
    obtain ⟨g, hB0, hB1, -⟩ := id hB
    have hT0 : σ.2.2 t = some (.inr (5, [.ref b, .int (nI k.1), .int k.2.1, .int (nI k.2.2.1), .long k.2.2.2.1, .int k.2.2.2.2])) := hT
    refine a_aload_n d_T_takeWord_0 rfl rfl ?_
    apply a_getfield d_T_takeWord_1 f_T_18
    · (repeat (first | with_reducible assumption | with_reducible exact a_us | with_reducible exact a_ns | refine a_un (by first | with_reducible assumption | omega) ?_ | refine a_nn (by first | with_reducible assumption | omega | (simp only [a_upd_1, a_new_1]; omega)) ?_ | exact a_us | exact a_ns))
    · rfl
    refine a_aload_n d_T_takeWord_4 rfl rfl ?_
    apply a_getfield d_T_takeWord_5 f_T_9
    · (repeat (first | with_reducible assumption | with_reducible exact a_us | with_reducible exact a_ns | refine a_un (by first | with_reducible assumption | omega) ?_ | refine a_nn (by first | with_reducible assumption | omega | (simp only [a_upd_1, a_new_1]; omega)) ?_ | exact a_us | exact a_ns))
    · rfl
    apply a_callV (ci := 0) 0 0 [] _ d_T_takeWord_8 l_T_78 ⟨im_B_size, se_B_size⟩ rfl rfl rfl rfl (Nat.le_of_ble_eq_true rfl) ⟨Nat.le_of_ble_eq_true rfl, Nat.le_of_ble_eq_true rfl⟩
    · (repeat (first | with_reducible assumption | with_reducible exact a_us | with_reducible exact a_ns | refine a_un (by first | with_reducible assumption | omega) ?_ | refine a_nn (by first | with_reducible assumption | omega | (simp only [a_upd_1, a_new_1]; omega)) ?_ | exact a_us | exact a_ns))
    refine sp_B_size hB ?_
    refine a_icmp_ge (tgt := 44) d_T_takeWord_11 (by decide) (fun c_1 => ?_) (fun n9 => absurd (by rw [show k.1 = n by omega]; exact Int32.le_refl _) n9)
    have e5 : wen f 0 k.1 = k.1 := rfl
    exact a_lvk (hK σ a_fr.rf (by rw [e5]; exact hT)) ⟨rfl, trivial⟩
  | succ m ih =>
    intro k σ hB hT hi hK
    have hcap : n ≤ cap ∧ cap < 65536 := by obtain ⟨g, h1, h2, h3, h4, h5⟩ := hB; exact ⟨h3, h4⟩
    obtain ⟨g, hB0, hB1, -⟩ := id hB
    have hT0 : σ.2.2 t = some (.inr (5, [.ref b, .int (nI k.1), .int k.2.1, .int (nI k.2.2.1), .long k.2.2.2.1, .int k.2.2.2.2])) := hT
    refine a_aload_n d_T_takeWord_0 rfl rfl ?_
    apply a_getfield d_T_takeWord_1 f_T_18
    · (repeat (first | with_reducible assumption | with_reducible exact a_us | with_reducible exact a_ns | refine a_un (by first | with_reducible assumption | omega) ?_ | refine a_nn (by first | with_reducible assumption | omega | (simp only [a_upd_1, a_new_1]; omega)) ?_ | exact a_us | exact a_ns))
    · rfl
    refine a_aload_n d_T_takeWord_4 rfl rfl ?_
    apply a_getfield d_T_takeWord_5 f_T_9
    · (repeat (first | with_reducible assumption | with_reducible exact a_us | with_reducible exact a_ns | refine a_un (by first | with_reducible assumption | omega) ?_ | refine a_nn (by first | with_reducible assumption | omega | (simp only [a_upd_1, a_new_1]; omega)) ?_ | exact a_us | exact a_ns))
    · rfl
    apply a_callV (ci := 0) 0 0 [] _ d_T_takeWord_8 l_T_78 ⟨im_B_size, se_B_size⟩ rfl rfl rfl rfl (Nat.le_of_ble_eq_true rfl) ⟨Nat.le_of_ble_eq_true rfl, Nat.le_of_ble_eq_true rfl⟩
    · (repeat (first | with_reducible assumption | with_reducible exact a_us | with_reducible exact a_ns | refine a_un (by first | with_reducible assumption | omega) ?_ | refine a_nn (by first | with_reducible assumption | omega | (simp only [a_upd_1, a_new_1]; omega)) ?_ | exact a_us | exact a_ns))
    refine sp_B_size hB ?_
    refine a_icmp_ge (tgt := 44) d_T_takeWord_11 (by decide) (fun n9 => absurd n9 (nI_ge (show k.1 < n by omega) (by omega))) (fun c_1 => ?_)
    refine a_aload_n d_T_takeWord_14 rfl rfl ?_
    apply a_getfield d_T_takeWord_15 f_T_9
    · (repeat (first | with_reducible assumption | with_reducible exact a_us | with_reducible exact a_ns | refine a_un (by first | with_reducible assumption | omega) ?_ | refine a_nn (by first | with_reducible assumption | omega | (simp only [a_upd_1, a_new_1]; omega)) ?_ | exact a_us | exact a_ns))
    · rfl
    refine a_aload_n d_T_takeWord_18 rfl rfl ?_
    apply a_getfield d_T_takeWord_19 f_T_18
    · (repeat (first | with_reducible assumption | with_reducible exact a_us | with_reducible exact a_ns | refine a_un (by first | with_reducible assumption | omega) ?_ | refine a_nn (by first | with_reducible assumption | omega | (simp only [a_upd_1, a_new_1]; omega)) ?_ | exact a_us | exact a_ns))
    · rfl
    apply a_callV (ci := 0) 0 0 [_] _ d_T_takeWord_22 l_T_41 ⟨im_B_at, se_B_at⟩ rfl rfl rfl rfl (Nat.le_of_ble_eq_true rfl) ⟨Nat.le_of_ble_eq_true rfl, Nat.le_of_ble_eq_true rfl⟩
    · (repeat (first | with_reducible assumption | with_reducible exact a_us | with_reducible exact a_ns | refine a_un (by first | with_reducible assumption | omega) ?_ | refine a_nn (by first | with_reducible assumption | omega | (simp only [a_upd_1, a_new_1]; omega)) ?_ | exact a_us | exact a_ns))
    refine sp_B_at hB ?_
    rw [atF_in (show k.1 < n by omega) (by omega)]
    refine a_callS 1 20 [_] _ d_T_takeWord_25 l_T_85 is_T_inWord rfl rfl (Nat.le_of_ble_eq_true rfl) ⟨Nat.le_of_ble_eq_true rfl, Nat.le_of_ble_eq_true rfl⟩ ?_
    refine sp_T_inWord ?_
    refine a_if_eq (tgt := 44) d_T_takeWord_28 (by decide) (fun c_2 => ?_) (fun c_2 => ?_)
    · have e5 : wen f (m + 1) k.1 = k.1 := by rw [wen, if_pos c_2]
      exact a_lvk (hK σ a_fr.rf (by rw [e5]; exact hT)) ⟨rfl, trivial⟩
    · refine a_aload_n d_T_takeWord_31 rfl rfl ?_
      refine a_dup d_T_takeWord_32 rfl ?_
      apply a_getfield d_T_takeWord_33 f_T_18
      · (repeat (first | with_reducible assumption | with_reducible exact a_us | with_reducible exact a_ns | refine a_un (by first | with_reducible assumption | omega) ?_ | refine a_nn (by first | with_reducible assumption | omega | (simp only [a_upd_1, a_new_1]; omega)) ?_ | exact a_us | exact a_ns))
      · rfl
      refine a_iconst (v := 1) d_T_takeWord_36 (by decide) ?_
      refine a_iadd d_T_takeWord_37 ?_
      apply a_putfield d_T_takeWord_38 p_T_18
      · (repeat (first | with_reducible assumption | with_reducible exact a_us | with_reducible exact a_ns | refine a_un (by first | with_reducible assumption | omega) ?_ | refine a_nn (by first | with_reducible assumption | omega | (simp only [a_upd_1, a_new_1]; omega)) ?_ | exact a_us | exact a_ns))
      · first | rfl | assumption
      · first | rfl | assumption
      · exact Nat.le_of_ble_eq_true rfl
      refine a_goto (tgt := 0) d_T_takeWord_41 (by decide) ?_
      have e5 : wen f (m + 1) k.1 = wen f m (k.1 + 1) := by rw [wen, if_neg c_2]
      rw [nI_1]
      refine a_lvk (ih (k := (k.1 + 1, k.2)) (σ := a_upd σ t (.inr (5, [.ref b, .int (nI (k.1 + 1)), .int k.2.1, .int (nI k.2.2.1), .long k.2.2.2.1, .int k.2.2.2.2]))) (hB.fr (a_fr.rf.upd (Nat.le_refl t) (Nat.lt_succ_self t)) (by omega)) a_us (show k.1 + 1 + m = n by omega) (fun τ hf hT2 => ?_)) ⟨rfl, trivial⟩
      rw [e5] at hK
      exact hK τ ((a_fr.rf.upd (Nat.le_refl t) (Nat.lt_succ_self t)).trans hf) hT2

end ModT
