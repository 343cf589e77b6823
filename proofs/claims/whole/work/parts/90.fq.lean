/-! What holds of the machine's end, linked -/
section Fq
variable {n : Nat} {f : Nat → Nat} {c0 : aN}
theorem LK0_1 (hA : AI c0) (hJ : AJ n c0) (hE2 : E2 c0) (hE3 : E3c c0 0) {d : aN} {l : Nat} (h : LK0 c0 d) (hl : l < c0.1 9 0) : LK0 c0 (lnk1 d l) := by
  have e4 : d.1 4 = c0.1 4 := h.1 4 (by decide) (by decide) (by decide) (by decide)
  have e36 : d.1 36 = c0.1 36 := h.1 36 (by decide) (by decide) (by decide) (by decide)
  have e41 : d.1 41 = c0.1 41 := h.1 41 (by decide) (by decide) (by decide) (by decide)
  have e42 : d.1 42 = c0.1 42 := h.1 42 (by decide) (by decide) (by decide) (by decide)
  unfold lnk1
  by_cases h2 : d.1 41 l = 2
  · rw [if_pos h2]
    split
    · exact LK0_lfl h _ _
    · exact h
  · rw [if_neg h2]
    by_cases h0 : d.1 41 l = 0
    · rw [if_pos h0]
      match hm : afd (d.2.1 0) (d.2.1 2 (d.1 42 l)) 0 (d.1 4 0) with
      | none => exact LK0_lfl h _ _
      | some x =>
        have hb := afd_some _ _ _ hm
        have h6 := hA.1.1
        rw [← e4] at h6
        refine LK0_tw h (by omega) ?_
        rcases lk_cov hA hJ hE2 hE3 hl with ⟨g, call, ⟨t1, t2, -, -⟩, -, -⟩ | ⟨t1, -⟩
        · rw [e36, e42, t2]
          rw [e41, t1] at h0
          by_cases z : c0.1 36 g = 1
          · exact z
          · rw [if_neg z] at h0; cases h0
        · rw [e41, t1] at h0; cases h0
    · rw [if_neg h0]
      match hm : afd (d.2.1 1) (d.2.1 3 (d.1 42 l)) 0 (d.1 6 0) with
      | none => exact LK0_lfl h _ _
      | some x => exact LK0_wt h _ _
theorem LK0_F (hA : AI c0) (hJ : AJ n c0) (hE2 : E2 c0) (hE3 : E3c c0 0) : ∀ (j l : Nat) (d : aN), l + j ≤ c0.1 9 0 → LK0 c0 d → LK0 c0 (lnkF j l d)
  | 0, _, _, _, h => h
  | j + 1, l, d, hl, h => by
    rw [lnkF]
    split
    · exact LK0_F hA hJ hE2 hE3 j (l + 1) _ (by omega) (LK0_1 hA hJ hE2 hE3 h (by omega))
    · exact h
/-- every test has its look -/
theorem g_cov (hA : AI c0) (hE2 : E2 c0) (hE3 : E3c c0 0) {g : Nat} (h : g < c0.1 8 0) : ∃ l call, l < c0.1 9 0 ∧ tLk c0 l g call := by
  have hfin : fin c0 0 = c0.1 7 0 := by unfold fin; rw [if_neg (by omega)]
  obtain ⟨e1, e2, e3, e4, -⟩ := hE3
  rw [hfin] at e1
  rw [if_neg (by omega)] at e1
  by_cases hl : g < pR c0 (c0.1 5 0)
  · obtain ⟨r, h1, h2, h3⟩ := cov (pR c0) _ g (by rw [pR_0 hE2]; omega) hl
    rw [pR_s hE2 h1] at h3
    have ep : pR c0 r = c0.1 27 r := by unfold pR; rw [if_pos h1]
    rw [ep] at h2 h3
    have := e2 r h1 (g - c0.1 27 r) (by omega)
    rw [show c0.1 27 r + (g - c0.1 27 r) = g by omega] at this
    exact ⟨g, _, by omega, this⟩
  · have hW : pW c0 (c0.1 7 0) = c0.1 8 0 + c0.1 7 0 := by unfold pW; rw [if_neg (by omega)]
    have h0 : pW c0 0 ≤ g := by rw [← pRW hE2]; omega
    obtain ⟨r, h1, h2, h3⟩ := cov (fun r => pW c0 r - r) (c0.1 7 0) g (by show pW c0 0 - 0 ≤ g; omega) (by show g < pW c0 (c0.1 7 0) - c0.1 7 0; omega)
    have h3' : g < pW c0 (r + 1) - (r + 1) := h3
    have h2' : pW c0 r - r ≤ g := h2
    rw [pW_s hE2 h1] at h3'
    have ep : pW c0 r = c0.1 32 r + r := by unfold pW; rw [if_pos h1]
    rw [ep] at h2' h3'
    have q := hA.2.2.1 r h1
    have := e3 r h1 (g - c0.1 32 r) (by omega)
    rw [show c0.1 32 r + (g - c0.1 32 r) = g by omega] at this
    exact ⟨_, _, by omega, this⟩
/-- a policy that was read well -/
def FQ (d : aN) : Prop := Q1 d ∧ Q2 d ∧ Q3 d ∧ E1 d ∧ E2 d ∧ (d.1 8 0 ≤ 864 ∧ d.1 5 0 ≤ 24 ∧ d.1 7 0 ≤ 192) ∧ (∀ k, d.1 20 k ≤ 15 ∧ d.1 25 k ≤ 16 ∧ d.1 31 k ≤ 16 ∧ d.1 26 k ≤ 1 ∧ d.1 36 k ≤ 1 ∧ d.1 38 k ≤ 2 ∧ d.1 39 k ≤ 1) ∧ (∀ i k, nmG (d.2.1 i k)) ∧ (∀ g, g < d.1 8 0 → (d.1 36 g = 1 → d.1 37 g < d.1 4 0) ∧ (¬ d.1 36 g = 1 → d.1 37 g ≤ 2)) ∧ (∀ r, r < d.1 7 0 → d.1 34 r < d.1 6 0 ∧ ∃ l, l < d.1 9 0 ∧ d.1 41 l = 1 ∧ d.1 42 l = r)
theorem FQ_of (hn : n < 65536) (hf : ∀ k, k < n → f k < 256) {d : aN} (hR : RDN n f d) (h0 : d.1 2 0 = 0) : FQ d := by
  obtain ⟨c0, hr, hs, rfl⟩ := hR
  have hA := AI_Rc AI_0 hr
  have hJ := AJ_Rc hn hf (AJ_0 n) hr
  have hL := AL_Rc AI_0 AL_0 hr
  have f0 : c0.1 2 0 = 0 := by
    refine Classical.byContradiction fun z => ?_
    unfold aEnd at h0
    rw [if_neg z] at h0
    exact z h0
  have s0 : c0.1 0 0 = 0 := by
    rcases hs with hs | hs
    · exact absurd f0 hs
    · exact hs
  have hE3 : E3c c0 0 := by
    have := hL.2.2 f0
    unfold E3 at this
    rw [s0] at this; exact this
  have hE2 := hL.2.1
  have hNT := NT_lt hA
  unfold aEnd at h0 ⊢
  rw [if_pos f0] at h0 ⊢
  have hk := LK0_F hA hJ hE2 hE3 (c0.1 9 0) 0 c0 (by omega) (LK0_rf hJ)
  have hok := (lnkF_ok (c0.1 9 0) 0 c0).2.2 h0
  generalize lnkF (c0.1 9 0) 0 c0 = d at h0 hk hok ⊢
  have e := hk.1
  have hfin : fin c0 0 = c0.1 7 0 := by unfold fin; rw [if_neg (by omega)]
  obtain ⟨E1', E2', E3', E4', -⟩ := id hE3
  rw [hfin] at E1' E4'
  rw [if_neg (by omega)] at E1'
  have j2 := hJ.2.1
  unfold FQ Q1 Q2 Q3 E1 E2 eW eR
  rw [e 4 (by decide) (by decide) (by decide) (by decide), e 5 (by decide) (by decide) (by decide) (by decide), e 6 (by decide) (by decide) (by decide) (by decide), e 7 (by decide) (by decide) (by decide) (by decide), e 8 (by decide) (by decide) (by decide) (by decide), e 9 (by decide) (by decide) (by decide) (by decide), e 20 (by decide) (by decide) (by decide) (by decide), e 21 (by decide) (by decide) (by decide) (by decide), e 22 (by decide) (by decide) (by decide) (by decide), e 23 (by decide) (by decide) (by decide) (by decide), e 24 (by decide) (by decide) (by decide) (by decide), e 25 (by decide) (by decide) (by decide) (by decide), e 26 (by decide) (by decide) (by decide) (by decide), e 27 (by decide) (by decide) (by decide) (by decide), e 28 (by decide) (by decide) (by decide) (by decide), e 29 (by decide) (by decide) (by decide) (by decide), e 30 (by decide) (by decide) (by decide) (by decide), e 31 (by decide) (by decide) (by decide) (by decide), e 32 (by decide) (by decide) (by decide) (by decide), e 33 (by decide) (by decide) (by decide) (by decide), e 36 (by decide) (by decide) (by decide) (by decide), e 38 (by decide) (by decide) (by decide) (by decide), e 39 (by decide) (by decide) (by decide) (by decide), e 41 (by decide) (by decide) (by decide) (by decide), e 42 (by decide) (by decide) (by decide) (by decide), hk.2.1]
  refine ⟨hA.1, hA.2.1, hA.2.2.1, hL.1, hE2, hNT, fun k => ?_, hJ.2.2, fun g hg => ⟨fun z => ?_, fun z => ?_⟩, fun r hr => ?_⟩
  · have := j2 k
    exact ⟨this.1, this.2.1, this.2.2.1, this.2.2.2.1, this.2.2.2.2.2.1, this.2.2.2.2.2.2.2.1, this.2.2.2.2.2.2.2.2.1⟩
  · obtain ⟨l, call, hl, t1, t2, -, -⟩ := g_cov hA hE2 hE3 hg
    rw [if_pos z] at t1
    have := (hok l hl).1
    rw [Nat.zero_add, t1, t2] at this
    exact this rfl
  · exact (hk.2.2 g).2 (by rw [e 36 (by decide) (by decide) (by decide) (by decide)]; exact z)
  · have q := hA.2.2.1 r hr
    have t := E4' r hr
    have hl : c0.1 32 r + c0.1 33 r + r < c0.1 9 0 := by omega
    have := (hok _ hl).2
    rw [Nat.zero_add, t.1, t.2.1] at this
    exact ⟨this rfl, _, hl, t.1, t.2.1⟩
theorem wt_of {d : aN} {x : aX} (hF : FQ d) (h : ML d x (d.1 9 0)) {r : Nat} (hr : r < d.1 7 0) : x.2.2.1 24 r = nI (d.1 34 r) := by
  obtain ⟨l, hl, h1, h2⟩ := (hF.2.2.2.2.2.2.2.2.2 r hr).2
  have := h.2.2.2.2.2.2.2 l hl h1
  rw [h2] at this; exact this
end Fq
/-! Where a clause stands -/
def cAtF (own : Nat → Int32) (k j : Int32) : Nat → Nat → Int32 → Int32
  | 0, _, _ => -1
  | r + 1, i, n => if own i = k then (if n = j then nI i else cAtF own k j r (i + 1) (n + 1)) else cAtF own k j r (i + 1) n
section Cat
variable {own : Nat → Int32} {N S C : Nat}
theorem cAt_no {k j : Int32} : ∀ (r i : Nat) (n : Int32), i + r = N → (∀ i, i < N → ¬ own i = k) → cAtF own k j r i n = -1
  | 0, _, _, _, _ => rfl
  | r + 1, i, n, h, ho => by rw [cAtF, if_neg (ho i (by omega)), cAt_no r (i + 1) n (by omega) ho]
theorem cAt_yes {k : Int32} {jj : Nat} (ho : ∀ i, i < N → (own i = k ↔ S ≤ i ∧ i < S + C)) (hS : S + C ≤ N) (hj : jj < C) (hN : N < 2 ^ 30) : ∀ (r i : Nat), i + r = N → i ≤ S + jj → cAtF own k (nI jj) r i (nI (i - S)) = nI (S + jj)
  | 0, i, h, h2 => by omega
  | r + 1, i, h, h2 => by
    rw [cAtF]
    by_cases z : S ≤ i
    · rw [if_pos ((ho i (by omega)).mpr ⟨z, by omega⟩)]
      by_cases e : i = S + jj
      · rw [if_pos (by rw [e, Nat.add_sub_cancel_left]), e]
      · rw [if_neg (fun w => by have := (nI_eq (by omega) (by omega)).mp w; omega), nI_1, show i - S + 1 = i + 1 - S by omega]
        exact cAt_yes ho hS hj hN r (i + 1) (by omega) (by omega)
    · rw [if_neg (fun w => z ((ho i (by omega)).mp w).1), show i - S = i + 1 - S by omega]
      exact cAt_yes ho hS hj hN r (i + 1) (by omega) (by omega)
theorem cAt_out {k j : Int32} (ho : ∀ i, i < N → (own i = k ↔ S ≤ i ∧ i < S + C)) (hj : ∀ jj, jj < C → ¬ j = nI jj) : ∀ (r i : Nat), i + r = N → cAtF own k j r i (nI (min (i - S) C)) = -1
  | 0, i, h => rfl
  | r + 1, i, h => by
    rw [cAtF]
    by_cases z : S ≤ i ∧ i < S + C
    · rw [if_pos ((ho i (by omega)).mpr z), if_neg (fun w => hj (min (i - S) C) (by omega) w.symm), nI_1, show min (i - S) C + 1 = min (i + 1 - S) C by omega]
      exact cAt_out ho hj r (i + 1) (by omega)
    · rw [if_neg (fun w => z ((ho i (by omega)).mp w)), show min (i - S) C = min (i + 1 - S) C by omega]
      exact cAt_out ho hj r (i + 1) (by omega)
/-- owners by sums -/
theorem own_iff {O X g : Nat → Nat} {K : Nat} (hS : ∀ r, r < N → r = aSum g (O r) + X r) (hX : ∀ r, r < N → O r < K ∧ X r < g (O r)) {kk : Nat} (hk : kk < K) {i : Nat} (hi : i < N) : O i = kk ↔ aSum g kk ≤ i ∧ i < aSum g kk + g kk := by
  have h1 := hS i hi
  have h2 := hX i hi
  constructor
  · intro e; subst e; omega
  · intro h
    have := aSum_u (k := O i) (j := X i) (k2 := kk) (j2 := i - aSum g kk) h2.2 (by omega) (by omega)
    exact this.1
end Cat
