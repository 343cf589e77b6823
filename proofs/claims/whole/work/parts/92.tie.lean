/-! The class's clauses and the model's -/
section Tie
variable {own : Nat → Int32} {O X g : Nat → Nat} {N K : Nat}
theorem tie_no (ho : ∀ i, i < N → own i = nI (O i)) (hO : ∀ i, i < N → O i < K) (hK : K < 2 ^ 30) {a b : Int32} (h : a < 0 ∨ nI K ≤ a) : cAtF own a b N 0 0 = -1 := by
  refine cAt_no (N := N) N 0 0 (by omega) fun i hi e => ?_
  rw [ho i hi] at e
  have := hO i hi
  rcases h with h | h
  · rw [← e] at h; exact nI_pos (by omega) h
  · rw [← e] at h; exact absurd ((nI_leI (by omega) (by omega)).mp h) (by omega)
theorem tie_own (ho : ∀ i, i < N → own i = nI (O i)) (hS : ∀ r, r < N → r = aSum g (O r) + X r) (hX : ∀ r, r < N → O r < K ∧ X r < g (O r)) (hK : K < 2 ^ 30) {k : Nat} (hk : k < K) : ∀ i, i < N → (own i = nI k ↔ aSum g k ≤ i ∧ i < aSum g k + g k) := by
  intro i hi
  have := hX i hi
  rw [ho i hi, nI_eq (by omega) (by omega)]
  exact own_iff hS hX hk hi
theorem tie_S {k : Nat} (hk : k < K) (hN : aSum g K = N) : aSum g k + g k ≤ N := by rw [← hN]; exact aSum_le g K hk
theorem tie_y (ho : ∀ i, i < N → own i = nI (O i)) (hS : ∀ r, r < N → r = aSum g (O r) + X r) (hX : ∀ r, r < N → O r < K ∧ X r < g (O r)) (hK : K < 2 ^ 30) (hN : aSum g K = N) (hN2 : N < 2 ^ 30) {k j : Nat} (hk : k < K) (hj : j < g k) : cAtF own (nI k) (nI j) N 0 0 = nI (aSum g k + j) := by
  have := cAt_yes (S := aSum g k) (C := g k) (tie_own ho hS hX hK hk) (tie_S hk hN) hj hN2 N 0 (by omega) (by omega)
  rw [Nat.zero_sub] at this; exact this
theorem tie_o (ho : ∀ i, i < N → own i = nI (O i)) (hS : ∀ r, r < N → r = aSum g (O r) + X r) (hX : ∀ r, r < N → O r < K ∧ X r < g (O r)) (hK : K < 2 ^ 30) {k : Nat} (hk : k < K) {b : Int32} (hb : b < 0 ∨ nI (g k) ≤ b) (hg : g k < 2 ^ 30) : cAtF own (nI k) b N 0 0 = -1 := by
  have := cAt_out (S := aSum g k) (C := g k) (j := b) (tie_own ho hS hX hK hk) (fun jj hj e => by
    rcases hb with hb | hb
    · rw [e] at hb; exact nI_pos (by omega) hb
    · rw [e] at hb; exact absurd ((nI_leI (by omega) (by omega)).mp hb) (by omega)) N 0 (by omega)
  rw [Nat.zero_sub, Nat.zero_min] at this; exact this
end Tie
/-- the counters stand alike -/
def SDq (c : aN) (q : aP) (x : aX) : Prop := ∀ k, k < c.1 4 0 → x.2.2.1 7 k = q.2.2 6 k ∧ ∃ s, s ≤ c.1 20 k ∧ q.2.2 6 k = nI s
/-- class and model hold one policy -/
def CQ (c : aN) (q : aP) (x : aX) : Prop := PC c q ∧ ML c x (c.1 9 0) ∧ FQ c ∧ SDq c q x
section Tie2
variable {c : aN} {q : aP} {x : aX}
theorem CQ_0 (h : CQ c q x) (v : Int32) : CQ c q (sI x 0 v) := ⟨h.1, ML_keep h.2.1 (fun k hk => pk_un (by omega)) (fun _ _ => rfl) rfl rfl rfl, h.2.2.1, h.2.2.2⟩
theorem CQ.q1 (h : CQ c q x) : q.1.1 = c.1 4 0 ∧ q.1.2.1 = c.1 6 0 ∧ q.1.2.2 = c.1 8 0 := by rw [h.1.2.1]; exact ⟨rfl, rfl, rfl⟩
theorem CQ.hr (h : CQ c q x) {k : Nat} (hk : k < c.1 4 0) : hrow q 0 (nI k) = nI k := by
  have := h.2.2.1.1.1
  unfold hrow; rw [if_neg (nI_pos (by omega)), if_pos rfl, h.q1.1, if_pos (nI_lt hk (by omega))]
theorem CQ.hw (h : CQ c q x) {w : Int32} (hw : ¬ w = 0) {k : Nat} (hk : k < c.1 6 0) : hrow q w (nI k) = nI (6 + k) := by
  have := h.2.2.1.1.2.1
  unfold hrow; rw [if_neg (nI_pos (by omega)), if_neg hw, h.q1.2.1, if_pos (nI_lt hk (by omega)), show (6 : Int32) = nI 6 from rfl, nI_add]
theorem CQ.hro (h : CQ c q x) {a : Int32} (ha : a < 0 ∨ nI (c.1 4 0) ≤ a) : hrow q 0 a = -1 := by
  unfold hrow; rw [h.q1.1]
  rcases ha with ha | ha
  · rw [if_pos ha]
  · split
    · rfl
    · rw [if_pos rfl, if_neg (Int32.not_lt.mpr ha)]
theorem CQ.hwo (h : CQ c q x) {w : Int32} (hw : ¬ w = 0) {a : Int32} (ha : a < 0 ∨ nI (c.1 6 0) ≤ a) : hrow q w a = -1 := by
  unfold hrow; rw [h.q1.2.1]
  rcases ha with ha | ha
  · rw [if_pos ha]
  · split
    · rfl
    · rw [if_neg (Int32.not_lt.mpr ha)]
theorem CQ.oR (h : CQ c q x) : (∀ i, i < c.1 5 0 → x.2.2.1 13 i = nI (c.1 23 i)) ∧ (∀ r, r < c.1 5 0 → c.1 23 r < c.1 4 0 ∧ c.1 24 r < c.1 21 (c.1 23 r)) := ⟨fun i hi => (h.2.1.2.2.2.2.2.1.2 i hi).1, fun r hr => ⟨(h.2.2.1.2.1 r hr).1, (h.2.2.1.2.1 r hr).2.1⟩⟩
theorem CQ.oW (h : CQ c q x) : (∀ i, i < c.1 7 0 → x.2.2.1 19 i = nI (c.1 29 i)) ∧ (∀ r, r < c.1 7 0 → c.1 29 r < c.1 6 0 ∧ c.1 30 r < c.1 22 (c.1 29 r)) := ⟨fun i hi => (h.2.1.2.2.2.2.2.2.1.2 i hi).1, fun r hr => ⟨(h.2.2.1.2.2.1 r hr).1, (h.2.2.1.2.2.1 r hr).2.1⟩⟩
theorem CQ.crR (h : CQ c q x) {r : Nat} (hr : r < c.1 5 0) : crow q 0 (nI (c.1 23 r)) (nI (c.1 24 r)) = nI (rwR c r) := by
  have h6 := h.2.2.1.1.1
  have hX := h.oR.2 r hr
  have hg := h.2.2.1.1.2.2.1 _ hX.1
  rw [crow, h.hr hX.1, if_neg (nI_m1 (by omega)), nI_clamp (by omega), (h.1.2.2.1 _ hX.1).2.2, if_neg (nI_pos (by omega)), if_pos (nI_lt hX.2 (by omega)), if_pos rfl, rwR, show (4 : Int32) = nI 4 from rfl, pk_mul, nI_add]
theorem CQ.crW (h : CQ c q x) {w : Int32} (hw : ¬ w = 0) {r : Nat} (hr : r < c.1 7 0) : crow q w (nI (c.1 29 r)) (nI (c.1 30 r)) = nI (rwW c r) := by
  have h6 := h.2.2.1.1.2.1
  have hX := h.oW.2 r hr
  have hg := h.2.2.1.1.2.2.2 _ hX.1
  rw [crow, h.hw hw hX.1, if_neg (nI_m1 (by omega)), nI_clamp (by omega), (h.1.2.2.2.1 _ hX.1).2, if_neg (nI_pos (by omega)), if_pos (nI_lt hX.2 (by omega)), if_neg hw, rwW, show (8 : Int32) = nI 8 from rfl, show (24 : Int32) = nI 24 from rfl, pk_mul, nI_add, nI_add]
theorem tieR (h : CQ c q x) (a b : Int32) : (crow q 0 a b = -1 ∧ cAtF (x.2.2.1 13) a b (c.1 5 0) 0 0 = -1) ∨ ∃ r, r < c.1 5 0 ∧ a = nI (c.1 23 r) ∧ b = nI (c.1 24 r) ∧ crow q 0 a b = nI (rwR c r) ∧ cAtF (x.2.2.1 13) a b (c.1 5 0) 0 0 = nI r := by
  have h6 := h.2.2.1.1.1
  have hn := h.2.2.1.2.2.2.2.2.1.2.1
  obtain ⟨ho, hX⟩ := h.oR
  obtain ⟨e1, e2, -, -⟩ := h.2.2.1.2.2.2.1
  rcases pk_ix a (n := c.1 4 0) (by omega) with ha | ha | ⟨k, hk, rfl⟩
  · exact Or.inl ⟨by rw [crow, h.hro (.inl ha), if_pos rfl], tie_no ho (fun i hi => (hX i hi).1) (by omega) (.inl ha)⟩
  · exact Or.inl ⟨by rw [crow, h.hro (.inr ha), if_pos rfl], tie_no ho (fun i hi => (hX i hi).1) (by omega) (.inr ha)⟩
  · have hg := h.2.2.1.1.2.2.1 k hk
    have hcr : crow q 0 (nI k) b = if b < 0 then -1 else if b < nI (c.1 21 k) then nI k * 4 + b else -1 := by
      rw [crow, h.hr hk, if_neg (nI_m1 (by omega)), nI_clamp (by omega), (h.1.2.2.1 k hk).2.2, if_pos rfl]
    rcases pk_ix b (n := c.1 21 k) (by omega) with hb | hb | ⟨j, hj, rfl⟩
    · exact Or.inl ⟨by rw [hcr, if_pos hb], tie_o ho e1 hX (by omega) hk (.inl hb) (by omega)⟩
    · refine Or.inl ⟨?_, tie_o ho e1 hX (by omega) hk (.inr hb) (by omega)⟩
      rw [hcr]; split
      · rfl
      · rw [if_neg (Int32.not_lt.mpr hb)]
    · right
      have hs := tie_S hk e2
      have hr : aSum (c.1 21) k + j < c.1 5 0 := by omega
      have ho' := (own_iff e1 hX hk hr).mpr ⟨by omega, by omega⟩
      have hx : c.1 24 (aSum (c.1 21) k + j) = j := by have := e1 _ hr; rw [ho'] at this; omega
      refine ⟨_, hr, by rw [ho'], by rw [hx], ?_, tie_y ho e1 hX (by omega) e2 (by omega) hk hj⟩
      have := h.crR hr
      rw [ho', hx] at this; exact this
theorem tieW (h : CQ c q x) {w : Int32} (hw : ¬ w = 0) (a b : Int32) : (crow q w a b = -1 ∧ cAtF (x.2.2.1 19) a b (c.1 7 0) 0 0 = -1) ∨ ∃ r, r < c.1 7 0 ∧ a = nI (c.1 29 r) ∧ b = nI (c.1 30 r) ∧ crow q w a b = nI (rwW c r) ∧ cAtF (x.2.2.1 19) a b (c.1 7 0) 0 0 = nI r := by
  have h6 := h.2.2.1.1.2.1
  have hn := h.2.2.1.2.2.2.2.2.1.2.2
  obtain ⟨ho, hX⟩ := h.oW
  obtain ⟨-, -, e1, e2⟩ := h.2.2.1.2.2.2.1
  rcases pk_ix a (n := c.1 6 0) (by omega) with ha | ha | ⟨k, hk, rfl⟩
  · exact Or.inl ⟨by rw [crow, h.hwo hw (.inl ha), if_pos rfl], tie_no ho (fun i hi => (hX i hi).1) (by omega) (.inl ha)⟩
  · exact Or.inl ⟨by rw [crow, h.hwo hw (.inr ha), if_pos rfl], tie_no ho (fun i hi => (hX i hi).1) (by omega) (.inr ha)⟩
  · have hg := h.2.2.1.1.2.2.2 k hk
    have hcr : crow q w (nI k) b = if b < 0 then -1 else if b < nI (c.1 22 k) then 24 + nI k * 8 + b else -1 := by
      rw [crow, h.hw hw hk, if_neg (nI_m1 (by omega)), nI_clamp (by omega), (h.1.2.2.2.1 k hk).2, if_neg hw]
    rcases pk_ix b (n := c.1 22 k) (by omega) with hb | hb | ⟨j, hj, rfl⟩
    · exact Or.inl ⟨by rw [hcr, if_pos hb], tie_o ho e1 hX (by omega) hk (.inl hb) (by omega)⟩
    · refine Or.inl ⟨?_, tie_o ho e1 hX (by omega) hk (.inr hb) (by omega)⟩
      rw [hcr]; split
      · rfl
      · rw [if_neg (Int32.not_lt.mpr hb)]
    · right
      have hs := tie_S hk e2
      have hr : aSum (c.1 22) k + j < c.1 7 0 := by omega
      have ho' := (own_iff e1 hX hk hr).mpr ⟨by omega, by omega⟩
      have hx : c.1 30 (aSum (c.1 22) k + j) = j := by have := e1 _ hr; rw [ho'] at this; omega
      refine ⟨_, hr, by rw [ho'], by rw [hx], ?_, tie_y ho e1 hX (by omega) e2 (by omega) hk hj⟩
      have := h.crW hw hr
      rw [ho', hx] at this; exact this
theorem cl_val (A B C e : Int32) : (if e < 0 then -1 else if e ≤ 2 then (if e = 0 then A else if e = 1 then B else C) else -1) = (if e = 0 then A else if e = 1 then B else if e = 2 then C else -1) := by
  by_cases h : e < 0
  · rw [if_pos h, if_neg (fun w => by rw [w] at h; revert h; decide), if_neg (fun w => by rw [w] at h; revert h; decide), if_neg (fun w => by rw [w] at h; revert h; decide)]
  · rw [if_neg h]
    by_cases h2 : e ≤ 2
    · rw [if_pos h2]
      obtain ⟨j, hj, rfl⟩ := nI_of2 (n := 2) rfl h h2
      by_cases w0 : j = 0
      · subst w0; rfl
      · by_cases w1 : j = 1
        · subst w1; rfl
        · have : j = 2 := by omega
          subst this; rfl
    · rw [if_neg h2, if_neg (fun w => h2 (by rw [w]; decide)), if_neg (fun w => h2 (by rw [w]; decide)), if_neg (fun w => h2 (by rw [w]; decide))]
theorem cc_val : ∀ v, v ≤ 16 → (if 0 ≤ ccF v then ccF v else 16) = nI v := by decide +kernel
theorem b1_val : ∀ v, v ≤ 1 → (if nI v = 0 then (0 : Int32) else 1) = nI v := by decide +kernel
theorem rwR_lt (h : FQ c) {r : Nat} (hr : r < c.1 5 0) : rwR c r < 24 := by
  have h1 := h.1.1
  have h2 := h.2.1 r hr
  have h3 := h.1.2.2.1 _ h2.1
  unfold rwR; omega
theorem rwW_lt (h : FQ c) {r : Nat} (hr : r < c.1 7 0) : rwW c r < 216 := by
  have h1 := h.1.2.1
  have h2 := h.2.2.1 r hr
  have h3 := h.1.2.2.2 _ h2.1
  unfold rwW; omega
/-- a test's parts -/
theorem tp_val (h : FQ c) (g : Nat) (hg : g < c.1 8 0) (u : Int32) : pof (shF c g) u = if u = 0 then nI (c.1 36 g) else if u = 1 then nI (c.1 37 g) else if u = 2 then nI (c.1 38 g) else if u = 3 then nI (c.1 39 g) else -1 := by
  have hb := h.2.2.2.2.2.2.1 g
  have hw := h.2.2.2.2.2.2.2.2.1 g hg
  have h6 := h.1.1
  have hw7 : c.1 37 g < 8 := by
    by_cases z : c.1 36 g = 1
    · have := hw.1 z; omega
    · have := hw.2 z; omega
  obtain ⟨p0, p1, p2, p3⟩ := sh_pof (c.1 36 g) (by omega) (c.1 37 g) hw7 (c.1 38 g) (by omega) (c.1 39 g) (by omega)
  unfold shF
  by_cases u0 : u = 0
  · subst u0; rw [p0, if_pos rfl]
  rw [if_neg u0]
  by_cases u1 : u = 1
  · subst u1; rw [p1, if_pos rfl]
  rw [if_neg u1]
  by_cases u2 : u = 2
  · subst u2; rw [p2, if_pos rfl]
  rw [if_neg u2]
  by_cases u3 : u = 3
  · subst u3; rw [p3, if_pos rfl]
  rw [if_neg u3]
  unfold pof
  rw [if_neg u0, if_neg u1, if_neg u2, if_neg u3]
end Tie2
/-! The letters of a name -/
def dL (B N : Nat) : Nat → List Nat
  | 0 => []
  | m + 1 => (if N / B ^ m % B = 0 then [] else [96 + N / B ^ m % B]) ++ dL B N m
theorem dL_s (B N : Nat) : ∀ m, dL B N (m + 1) = dL B (N / B) m ++ (if N % B = 0 then [] else [96 + N % B])
  | 0 => by simp [dL]
  | m + 1 => by
    rw [dL, dL_s B N m, dL, Nat.pow_succ, Nat.mul_comm, ← Nat.div_div_eq_div_mul, List.append_assoc]
theorem dL_0 (B : Nat) : ∀ m, dL B 0 m = []
  | 0 => rfl
  | m + 1 => by rw [dL, dL_0 B m]; simp
theorem dL_nB {B : Nat} (hB : 27 ≤ B) : ∀ (m : Nat) (l : List Nat), gdL l → l.length ≤ m → dL B (nB B 0 l.reverse) m = l.reverse
  | m, [], _, _ => by rw [List.reverse_nil, nB_nil, dL_0]
  | 0, x :: l, _, h => by simp at h
  | m + 1, x :: l, hg, h => by
    have hx := hg x (List.mem_cons_self ..)
    rw [List.reverse_cons, nB_snoc, dL_s]
    have e1 : (nB B 0 l.reverse * B + (x - 96)) % B = x - 96 := by
      rw [Nat.mul_comm, Nat.mul_add_mod, Nat.mod_eq_of_lt (by omega)]
    have e2 : (nB B 0 l.reverse * B + (x - 96)) / B = nB B 0 l.reverse := by
      rw [Nat.mul_comm, Nat.mul_add_div (by omega), Nat.div_eq_of_lt (by omega), Nat.add_zero]
    rw [e1, e2, dL_nB hB m l (fun y hy => hg y (List.mem_cons_of_mem _ hy)) (by simpa using h), if_neg (by omega), show 96 + (x - 96) = x by omega]
theorem dL_nm {B : Nat} (hB : 27 ≤ B) {l : List Nat} (h : nmG l) : dL B (nB B 0 l) 12 = l := by
  have := dL_nB hB 12 l.reverse (fun y hy => h.1 y (List.mem_reverse.mp hy)) (by rw [List.length_reverse]; exact h.2)
  rw [List.reverse_reverse] at this; exact this
theorem dg5 {N : Nat} (hN : N < 2 ^ 62) {i : Nat} (hi : i < 12) : (lN N) >>> ((nI (5 * i)).toInt64 &&& 63) = lN (N / 32 ^ i) := by
  rw [wb_c _ (by omega), show (32 : Nat) ^ i = 2 ^ (5 * i) by rw [Nat.pow_mul]]
  exact pf_shr (by rw [wb_tb, wb_sm _ (by omega), BitVec.toNat_ofNat]; exact Nat.mod_eq_of_lt (by omega)) hN
theorem dg5a {N : Nat} (hN : N < 2 ^ 62) {i : Nat} (hi : i < 12) : (lN N) >>> ((nI (5 * i)).toInt64 &&& 63) &&& 31 = lN (N / 32 ^ i % 32) := by
  rw [dg5 hN hi]
  exact wb_mask (k := 5) (Nat.lt_of_le_of_lt (Nat.div_le_self _ _) (by omega)) (by omega)
theorem lf_dL {N : Nat} (hN : N < 2 ^ 62) : ∀ m, m ≤ 12 → lf (lN N) m = (dL 32 N m).length
  | 0, _ => rfl
  | m + 1, h => by
    rw [lf, dL, List.length_append, lf_dL hN m (by omega), dg5a hN (by omega), Nat.add_comm]
    have : N / 32 ^ m % 32 < 32 := Nat.mod_lt _ (by omega)
    by_cases z : N / 32 ^ m % 32 = 0
    · rw [z, if_pos rfl]; simp; rfl
    · rw [if_neg (show ¬ lN (N / 32 ^ m % 32) = 0 from fun w => z ((pk_lEQ (a := N / 32 ^ m % 32) (b := 0) (by omega) (by omega)).mp w)), if_neg z]; rfl
theorem nB32_62 {l : List Nat} (h : nmG l) : nB 32 0 l < 2 ^ 62 := by
  have h1 := nB_lt (B := 32) (by omega) l 0 h.1
  have h2 : 32 ^ l.length ≤ 32 ^ 12 := Nat.pow_le_pow_right (by omega) h.2
  have h3 : (32 : Nat) ^ 12 < 2 ^ 62 := by decide
  omega
theorem lf_e32 {l : List Nat} (h : nmG l) : lf (e32 l) 12 = l.length := by
  unfold e32
  rw [lf_dL (nB32_62 h) 12 (by omega), dL_nm (by omega) h]
theorem ltr_dL {N : Nat} (hN : N < 2 ^ 62) {m : Nat} (hm : m < 12) : ltr (lN N) m = nI (N / 32 ^ m % 32) := by
  unfold ltr
  rw [dg5 hN hm]
  have : N / 32 ^ m < 2 ^ 62 := Nat.lt_of_le_of_lt (Nat.div_le_self _ _) hN
  rw [show (lN (N / 32 ^ m)).toInt32 = nI (N / 32 ^ m % 2 ^ 32) from by
    apply Int32.toBitVec_inj.mp
    show (BitVec.ofNat 64 _).signExtend 32 = BitVec.ofNat 32 _
    apply BitVec.eq_of_toNat_eq
    rw [BitVec.signExtend_eq_setWidth_of_le _ (by omega), BitVec.toNat_setWidth, BitVec.toNat_ofNat, BitVec.toNat_ofNat]
    omega]
  rw [pk_andN (Nat.mod_lt _ (by omega)) 5 (by decide)]
  congr 1
  omega
theorem nmL_dL {N : Nat} (hN : N < 2 ^ 62) : ∀ m, m ≤ 12 → nmL (lN N) m = dL 32 N m
  | 0, _ => rfl
  | m + 1, h => by
    rw [nmL, dL, nmL_dL hN m (by omega), ltr_dL hN (by omega)]
    have : N / 32 ^ m % 32 < 32 := Nat.mod_lt _ (by omega)
    generalize N / 32 ^ m % 32 = v at this
    congr 1
    revert v
    decide +kernel
theorem nmL_e32 {l : List Nat} (h : nmG l) : nmL (e32 l) 12 = l := by
  unfold e32
  rw [nmL_dL (nB32_62 h) 12 (by omega), dL_nm (by omega) h]
