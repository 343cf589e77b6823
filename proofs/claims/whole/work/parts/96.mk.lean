/-! make: class and model -/
section Mk
variable {c : aN} {q : aP} {x : aX} {l : aC}
theorem soR_e (h : CQ c q x) (r : Nat) : soR c (q.2.2 6) l r = soF c (q.2.2 6) l (c.1 25 r) (c.1 27 r) (c.1 28 r) := by
  have hb := (h.2.2.1.2.2.2.2.2.2.1 r).2.1
  unfold soR soF ccF
  by_cases z : c.1 25 r = 16
  · rw [if_pos z, if_pos (by decide), if_pos (by rw [z]; rfl)]
  · rw [if_neg z, if_neg (nI_pos (by omega)), if_neg (show ¬ nI (c.1 25 r) = 16 from fun w => z ((nI_eq (b := 16) (by omega) (by omega)).mp w))]
theorem cl2_R (h : CQ c q x) {r : Nat} (hr : r < c.1 5 0) : clpart q 0 (nI (c.1 23 r)) (nI (c.1 24 r)) 2 = nI (c.1 26 r) := by
  have hx := rwR_lt h.2.2.1 hr
  rw [clpart, h.crR hr, if_neg (nI_m1 (by omega)), nI_clamp (by omega), if_neg (by decide), if_neg (by decide), if_pos rfl, (h.1.2.2.2.2.1 r hr).2]
theorem cl2_W (h : CQ c q x) {w : Int32} (hw : ¬ w = 0) {r : Nat} (hr : r < c.1 7 0) : clpart q w (nI (c.1 29 r)) (nI (c.1 30 r)) 2 = nI (c.1 34 r) := by
  have hx := rwW_lt h.2.2.1 hr
  rw [clpart, h.crW hw hr, if_neg (nI_m1 (by omega)), nI_clamp (by omega), if_neg (by decide), if_neg (by decide), if_pos rfl, (h.1.2.2.2.2.2 r hr).2]
theorem mv_e : ∀ t, t ≤ 15 → ∀ s, s ≤ t → (if nI s < nI t then nI s + 1 else nI s) = (if nI t < nI s + 1 then nI t else nI s + 1) := by decide +kernel
theorem cu_sa (h : CQ c q x) (hA : MA x l) {k : Nat} (hk : k < c.1 4 0) : ∀ n r, r + n = c.1 5 0 → cuF c (q.2.2 6) l k n r (q.2.2 6 k) = saF q l k (min (r - aSum (c.1 21) k) (c.1 21 k)) (c.1 21 k - min (r - aSum (c.1 21) k) (c.1 21 k))
  | 0, r, hr => by
    obtain ⟨e1, e2, -, -⟩ := h.2.2.1.2.2.2.1
    have hs := tie_S hk e2
    rw [show c.1 21 k - min (r - aSum (c.1 21) k) (c.1 21 k) = 0 by omega]; rfl
  | n + 1, r, hr => by
    obtain ⟨e1, e2, -, -⟩ := h.2.2.1.2.2.2.1
    obtain ⟨-, hX⟩ := h.oR
    have hs := tie_S hk e2
    have h6 := h.nC.2
    have hr5 : r < c.1 5 0 := by omega
    have ho := own_iff e1 hX hk hr5
    have h4 := hX r hr5
    rw [cuF, cu_sa h hA hk n (r + 1) (by omega)]
    by_cases z : aSum (c.1 21) k ≤ r ∧ r < aSum (c.1 21) k + c.1 21 k
    · have hO := ho.mpr z
      have hx : c.1 24 r = r - aSum (c.1 21) k := by have := e1 r hr5; rw [hO] at this; omega
      rw [if_pos (by rw [hO]), soR_e h, show min (r - aSum (c.1 21) k) (c.1 21 k) = r - aSum (c.1 21) k by omega, show min (r + 1 - aSum (c.1 21) k) (c.1 21 k) = r - aSum (c.1 21) k + 1 by omega]
      obtain ⟨n', hn'⟩ : ∃ n', c.1 21 k - (r - aSum (c.1 21) k) = n' + 1 := ⟨c.1 21 k - (r - aSum (c.1 21) k) - 1, by omega⟩
      rw [hn', show c.1 21 k - (r - aSum (c.1 21) k + 1) = n' by omega, saF]
      have ec := h.crR hr5
      have e2' := cl2_R h hr5
      rw [hO, hx] at ec e2'
      rw [app_R h hA hr5 ec, e2']
      by_cases y : soF c (q.2.2 6) l (c.1 25 r) (c.1 27 r) (c.1 28 r) = 0
      · rw [if_pos y, if_pos y]
      · rw [if_neg y, if_neg y]
        have hb := (h.2.2.1.2.2.2.2.2.2.1 r).2.2.2.1
        obtain ⟨s, hs2, es⟩ := (h.2.2.2 k hk).2
        have h20 := (h.2.2.1.2.2.2.2.2.2.1 k).1
        rw [(h.1.2.2.1 k hk).2.1, es]
        by_cases u : c.1 26 r = 1
        · rw [if_neg (show ¬ nI (c.1 26 r) = 0 by rw [u]; decide), if_pos (show nI (c.1 26 r) = 1 by rw [u]; rfl)]
          exact mv_e _ h20 _ hs2
        · rw [if_pos (show nI (c.1 26 r) = 0 by rw [show c.1 26 r = 0 by omega]; rfl), if_neg (show ¬ nI (c.1 26 r) = 1 by rw [show c.1 26 r = 0 by omega]; decide)]
    · rw [if_neg (fun w => z (ho.mp ((nI_eq (by omega) (by omega)).mp w))), show min (r + 1 - aSum (c.1 21) k) (c.1 21 k) = min (r - aSum (c.1 21) k) (c.1 21 k) by omega]
theorem cu_saV (h : CQ c q x) (hA : MA x l) {k : Nat} (hk : k < c.1 4 0) : cuF c (q.2.2 6) l k (c.1 5 0) 0 (q.2.2 6 k) = saV q l k := by
  have h6 := h.2.2.1.1.2.2.1 k hk
  rw [cu_sa h hA hk _ 0 (by omega), saV, (h.1.2.2.1 k hk).2.2, nI_clamp (by omega), Nat.zero_sub, Nat.zero_min, Nat.sub_zero]
theorem sa_le (h : CQ c q x) {k : Nat} (hk : k < c.1 4 0) : ∀ n j, ∃ s, s ≤ c.1 20 k ∧ saF q l k j n = nI s
  | 0, j => (h.2.2.2 k hk).2
  | n + 1, j => by
    obtain ⟨s, hs2, es⟩ := (h.2.2.2 k hk).2
    have h20 := (h.2.2.1.2.2.2.2.2.2.1 k).1
    rw [saF]
    split
    · exact sa_le h hk n (j + 1)
    · split
      · rw [(h.1.2.2.1 k hk).2.1, es, nI_1]
        by_cases z : nI (c.1 20 k) < nI (s + 1)
        · rw [if_pos z]; exact ⟨_, Nat.le_refl _, rfl⟩
        · rw [if_neg z]
          have := (nI_leI (by omega) (by omega)).mp (Int32.not_lt.mp z)
          exact ⟨_, this, rfl⟩
      · exact ⟨0, by omega, rfl⟩
theorem or_0 (t : Int32) : t ||| 0 = t := by
  apply b_ext; intro i _; rw [b_or, b_0, Bool.or_false]
theorem to_rm (h : CQ c q x) (hA : MA x l) {k : Nat} (hk : k < c.1 6 0) : ∀ n w t, w + n = c.1 7 0 → toF c (q.2.2 6) l k n w t = rmF q l (nI k) (min (w - aSum (c.1 22) k) (c.1 22 k)) t (c.1 22 k - min (w - aSum (c.1 22) k) (c.1 22 k))
  | 0, w, t, hw => by
    obtain ⟨-, -, e1, e2⟩ := h.2.2.1.2.2.2.1
    have hs := tie_S hk e2
    rw [show c.1 22 k - min (w - aSum (c.1 22) k) (c.1 22 k) = 0 by omega]
    unfold toF rmF; rfl
  | n + 1, w, t, hw => by
    obtain ⟨-, -, e1, e2⟩ := h.2.2.1.2.2.2.1
    obtain ⟨-, hX⟩ := h.oW
    have hs := tie_S hk e2
    have h6 := h.nN.2
    have hr5 : w < c.1 7 0 := by omega
    have ho := own_iff e1 hX hk hr5
    have h4 := hX w hr5
    rw [toF, to_rm h hA hk n (w + 1) _ (by omega)]
    by_cases z : aSum (c.1 22) k ≤ w ∧ w < aSum (c.1 22) k + c.1 22 k
    · have hO := ho.mpr z
      have hx : c.1 30 w = w - aSum (c.1 22) k := by have := e1 w hr5; rw [hO] at this; omega
      rw [if_pos (by rw [hO]), show min (w - aSum (c.1 22) k) (c.1 22 k) = w - aSum (c.1 22) k by omega, show min (w + 1 - aSum (c.1 22) k) (c.1 22 k) = w - aSum (c.1 22) k + 1 by omega]
      obtain ⟨n', hn'⟩ : ∃ n', c.1 22 k - (w - aSum (c.1 22) k) = n' + 1 := ⟨c.1 22 k - (w - aSum (c.1 22) k) - 1, by omega⟩
      rw [hn', show c.1 22 k - (w - aSum (c.1 22) k + 1) = n' by omega, rmF]
      have ec := h.crW (w := 1) (by decide) hr5
      have e2' := cl2_W h (w := 1) (by decide) hr5
      rw [hO, hx] at ec e2'
      rw [app_W h hA hr5 ec, e2']
      by_cases y : soF c (q.2.2 6) l (c.1 31 w) (c.1 32 w) (c.1 33 w) = 0
      · rw [if_pos y, if_pos y, or_0]
      · rw [if_neg y, if_neg y]
    · rw [if_neg (fun u => z (ho.mp ((nI_eq (by omega) (by omega)).mp u))), show min (w + 1 - aSum (c.1 22) k) (c.1 22 k) = min (w - aSum (c.1 22) k) (c.1 22 k) by omega, or_0]
theorem sl_e : ∀ j, j < 24 → (1 : Int32) <<< (nI j &&& 31) = nI (2 ^ j) := by decide +kernel
theorem sm_e : ∀ j, j < 32 → ((nI j &&& 31).toBitVec.smod 32).toNat = j := by decide +kernel
theorem to_lt (h : CQ c q x) (k : Nat) : ∀ n w a, w + n = c.1 7 0 → a < 2 ^ c.1 6 0 → ∃ b, b < 2 ^ c.1 6 0 ∧ toF c (q.2.2 6) l k n w (nI a) = nI b
  | 0, _, a, _, ha => ⟨a, ha, rfl⟩
  | n + 1, w, a, hw, ha => by
    have h24 := h.nN.2
    have h32 : 2 ^ c.1 6 0 ≤ 2 ^ 24 := Nat.pow_le_pow_right (by omega) h24
    rw [toF]
    split
    · split
      · rw [or_0]; exact to_lt h k n (w + 1) a (by omega) ha
      · have hw2 := (h.2.2.1.2.2.2.2.2.2.2.2.2 w (by omega)).1
        have hp : 2 ^ c.1 34 w < 2 ^ c.1 6 0 := Nat.pow_lt_pow_right (by omega) hw2
        rw [sl_e _ (by omega), n_or (by omega) (by omega)]
        exact to_lt h k n (w + 1) _ (by omega) (Nat.or_lt_two_pow ha hp)
    · rw [or_0]; exact to_lt h k n (w + 1) a (by omega) ha
theorem sm_bs {b : Nat} (hb : b < 2 ^ 24) : ∀ n j, j + n ≤ 24 → smF (nI b) n j (nI (bs b j)) = nI (bs b (j + n))
  | 0, _, _ => rfl
  | n + 1, j, h => by
    have : b / 2 ^ j ≤ b := Nat.div_le_self _ _
    rw [smF, pk_shrN (by omega) _ j (sm_e j (by omega)), pk_andN (by omega) 1 (by decide), nI_add, show bs b j + b / 2 ^ j % 2 ^ 1 = bs b (j + 1) from rfl, sm_bs hb n (j + 1) (by omega), show j + 1 + n = j + (n + 1) by omega]
theorem rch_e (h : CQ c q x) (hA : MA x l) {k : Nat} (hk : k < c.1 6 0) : ∃ v, v ≤ 24 ∧ rchF q l (nI k) = nI v ∧ smF (toF c (q.2.2 6) l k (c.1 7 0) 0 0) (c.1 6 0) 0 0 = nI v := by
  have h24 := h.nN.2
  have h8 := h.2.2.1.1.2.2.2 k hk
  have h32 : 2 ^ c.1 6 0 ≤ 2 ^ 24 := Nat.pow_le_pow_right (by omega) h24
  obtain ⟨b, hb, eb⟩ := to_lt (l := l) h k (c.1 7 0) 0 0 (by omega) (Nat.two_pow_pos _)
  have e1 := to_rm h hA hk (c.1 7 0) 0 0 (by omega)
  rw [Nat.zero_sub, Nat.zero_min, Nat.sub_zero] at e1
  have eb' : toF c (q.2.2 6) l k (c.1 7 0) 0 0 = nI b := eb
  refine ⟨bs b (c.1 6 0), ?_, ?_, ?_⟩
  · have : ∀ j, bs b j ≤ j := by
      intro j
      induction j with
      | zero => exact Nat.le_refl _
      | succ j ih => rw [bs]; omega
    have := this (c.1 6 0); omega
  · rw [rchF, h.hw (by decide) hk, if_neg (nI_m1 (by omega)), nI_clamp (by omega), (h.1.2.2.2.1 k hk).2, nI_clamp (by omega), ← e1, eb', bc_n (by omega)]
    have := bs_z hb (32 - c.1 6 0)
    rw [show c.1 6 0 + (32 - c.1 6 0) = 32 by omega] at this
    rw [this]
  · rw [eb']
    have := sm_bs (b := b) (by omega) (c.1 6 0) 0 (by omega)
    rw [Nat.zero_add] at this
    exact this
theorem PC_keep {q2 : aP} (h : PC c q) (h1 : q2.1 = q.1) (h2 : q2.2.1 = q.2.1) (h3 : ∀ a, ¬ a = 6 → ¬ a = 7 → q2.2.2 a = q.2.2 a) : PC c q2 := by
  unfold PC PI cl2 at h ⊢
  rw [h1, h2, h3 4 (by decide) (by decide), h3 5 (by decide) (by decide), h3 8 (by decide) (by decide), h3 9 (by decide) (by decide), h3 10 (by decide) (by decide), h3 11 (by decide) (by decide), h3 12 (by decide) (by decide)]
  exact h
variable {G : aG} {σ0 : aS} {K : Option Value → aS → Prop} {m : Nat}
/-- what make leaves of the rest -/
def K7 (x z : aX) : Prop := (∀ k, ¬ k = 0 → z.1 k = x.1 k) ∧ z.2.1 = x.2.1 ∧ z.2.2.2 = x.2.2.2 ∧ ∀ a, ¬ a = 7 → ¬ a = 9 → z.2.2.1 a = x.2.2.1 a
theorem sp_M_make {a : Int32} (h : CQ c q x) (hA : MA x l) (hK0 : rchF q l a = -1 → K (some (.int (-1))) (mk σ0 m (sI x 0 0))) (hK1 : ¬ rchF q l a = -1 → ∀ z, K7 x z → (∀ j, j < c.1 4 0 → z.2.2.1 7 j = saV q l j) → K (some (.int (rchF q l a))) (mk σ0 m z)) : a_C G m_M_make 3 76 [.ref m, .int a] (mk σ0 m x) K := by
  have h6 := h.nN.2
  rcases pk_ix a (n := c.1 6 0) (by omega) with ha | ha | ⟨k, hk, rfl⟩
  · exact mk_L ha (hK0 (by rw [rchF, h.hwo (by decide) (.inl ha), if_pos rfl]))
  · have := hK0 (by rw [rchF, h.hwo (by decide) (.inr ha), if_pos rfl])
    by_cases h0 : a < 0
    · exact mk_L h0 this
    · exact mk_H h0 (by rw [h.nN.1]; exact ha) this
  · obtain ⟨v, hv, e1, e2⟩ := rch_e h hA hk
    have := hK1 (by rw [e1]; exact nI_m1 (by omega))
    refine mk_I h hA hk (fun z hz R h1 h2 => ?_)
    rw [e2, ← e1]
    obtain ⟨z1, z2, z3, z4, z5⟩ := hz
    refine this (s7 z R) ⟨fun k hk => ?_, z2, z3, fun a h7 h9 => ?_⟩ (fun j hj => ?_)
    · show z.1 k = x.1 k
      rw [z1]; exact pk_un hk
    · show (if a = 7 then R else z.2.2.1 a) = _
      rw [if_neg h7, z4 a h9]; rfl
    · show (if 7 = 7 then R else z.2.2.1 7) j = _
      rw [if_pos rfl, h1 j hj, z4 7 (by decide), show (sI x 0 0).2.2.1 7 j = q.2.2 6 j from (h.2.2.2 j hj).1, cu_saV h hA hj]
end Mk
