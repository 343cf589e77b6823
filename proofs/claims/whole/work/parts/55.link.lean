/-! Linking: the machine's looks, one by one -/
def lfl (c : aN) (e p : Nat) : aN := ((xN (xN c.1 2 (0) (e)) 3 (0) (p)), c.2.1, c.2.2)
def lnk1 (c : aN) (l : Nat) : aN := if c.1 41 (l) = 2 then (if ¬ c.1 43 (l) = 16 ∧ c.1 43 (l) % 4 ≤ c.1 37 (c.1 42 (l)) then lfl c 6 (c.1 44 (l)) else c) else if c.1 41 (l) = 0 then (match afd (c.2.1 0) (c.2.1 2 (c.1 42 (l))) 0 (c.1 4 0) with | none => lfl c 5 (c.1 44 (l)) | some x => ((xN c.1 37 (c.1 42 (l)) (x)), c.2.1, c.2.2)) else (match afd (c.2.1 1) (c.2.1 3 (c.1 42 (l))) 0 (c.1 6 0) with | none => lfl c 5 (c.1 44 (l)) | some x => ((xN c.1 34 (c.1 42 (l)) (x)), c.2.1, c.2.2))
def lnkF : Nat → Nat → aN → aN
  | 0, _, c => c
  | m + 1, l, c => if (c.1 2 0) = 0 then lnkF m (l + 1) (lnk1 c l) else c
theorem lnkF_bad {c : aN} (h : ¬ (c.1 2 0) = 0) : ∀ m l, lnkF m l c = c
  | 0, _ => rfl
  | m + 1, l => by rw [lnkF, if_neg h]
theorem lnkF_add : ∀ (a b l : Nat) (c : aN), lnkF (a + b) l c = lnkF b (l + a) (lnkF a l c)
  | 0, b, l, c => by rw [Nat.zero_add]; rfl
  | a + 1, b, l, c => by
    rw [show a + 1 + b = (a + b) + 1 by omega, lnkF, lnkF]
    by_cases h : (c.1 2 0) = 0
    · rw [if_pos h, if_pos h, lnkF_add a b (l + 1), show l + 1 + a = l + (a + 1) by omega]
    · rw [if_neg h, if_neg h, lnkF_bad h]
theorem lnkF_1 {c : aN} (h : (c.1 2 0) = 0) (l : Nat) : lnkF 1 l c = lnk1 c l := by rw [lnkF, if_pos h]; rfl
theorem sh_set : ∀ wh, wh < 8 → ∀ op, op < 3 → ∀ tu, tu < 2 → ∀ x, x < 6 → shp (nI 1) (nI wh) (nI op) (nI tu) &&& (-8) ||| nI x &&& 7 = shp (nI 1) (nI x) (nI op) (nI tu) := by decide +kernel
theorem sh_pof : ∀ tc, tc < 2 → ∀ wh, wh < 8 → ∀ op, op < 3 → ∀ tu, tu < 2 → pof (shp (nI tc) (nI wh) (nI op) (nI tu)) 0 = nI tc ∧ pof (shp (nI tc) (nI wh) (nI op) (nI tu)) 1 = nI wh ∧ pof (shp (nI tc) (nI wh) (nI op) (nI tu)) 2 = nI op ∧ pof (shp (nI tc) (nI wh) (nI op) (nI tu)) 3 = nI tu := by decide +kernel
theorem argN_n : ∀ m, m < 17 → ∀ x, x < 3 → (nI x < argN (nI m) ↔ ¬ (¬ m = 16 ∧ m % 4 ≤ x)) := by decide +kernel
/-- c stands between c0 and the end of its linking -/
def LK0 (c0 c : aN) : Prop := (∀ a, ¬ a = 37 → ¬ a = 34 → ¬ a = 2 → ¬ a = 3 → c.1 a = c0.1 a) ∧ c.2 = c0.2 ∧ (∀ g, c.1 37 (g) ≤ 7 ∧ (¬ c.1 36 (g) = 1 → c.1 37 (g) ≤ 2))
section Link
variable {n : Nat} {f : Nat → Nat} {c0 c : aN} {q : aP} {rf tp gp S Gl : Nat → Int32}
theorem lkI_sim (hn : n < 65536) (hf : ∀ k, k < n → f k < 256) (hRA : RA c0 q tp) (hA : AI c0) (hJ : AJ n c0) (hK : LK0 c0 c) {x g l call : Nat} (h0 : (c.1 2 0) = 0) (hS : S x = shF c g) (hl : tLk c l g call) (htp : tp x = nI (c.1 40 (g))) (hcall : call ≤ 16) (hnm : c.1 36 (g) = 1 → c.2.1 2 (g) = nl n f (c.1 40 (g))) :
    ((lnk1 c l).1 2 0 = 0 ∧ (lkI n f q tp (argN (nI call)) x S rf).2 = rf ∧ (((lkI n f q tp (argN (nI call)) x S rf).1 = S ∧ lnk1 c l = c) ∨ (c.1 36 (g) = 1 ∧ ∃ j, j < 6 ∧ (lkI n f q tp (argN (nI call)) x S rf).1 = upd S x (shp (nI 1) (nI j) (nI (c.1 38 (g))) (nI (c.1 39 (g)))) ∧ lnk1 c l = (xN c.1 37 g j, c.2)))) ∨ ((∃ e p, lnk1 c l = lfl c e p ∧ 0 < e ∧ e < 8) ∧ (lkI n f q tp (argN (nI call)) x S rf).2 = upd (upd rf 4 (nI ((lnk1 c l).1 2 0))) 5 (nI ((lnk1 c l).1 3 0))) := by
  obtain ⟨k1, k2, k3⟩ := hK
  have eTC : c.1 36 = c0.1 36 := k1 36 (by decide) (by decide) (by decide) (by decide)
  have eTP : c.1 38 = c0.1 38 := k1 38 (by decide) (by decide) (by decide) (by decide)
  have eTT : c.1 39 = c0.1 39 := k1 39 (by decide) (by decide) (by decide) (by decide)
  have eTQ : c.1 40 = c0.1 40 := k1 40 (by decide) (by decide) (by decide) (by decide)
  have eNC : c.1 4 = c0.1 4 := k1 4 (by decide) (by decide) (by decide) (by decide)
  have hj := hJ.2.1 g
  have b1 : c.1 36 (g) < 2 := by rw [eTC]; omega
  have b2 : c.1 38 (g) < 3 := by rw [eTP]; omega
  have b3 : c.1 39 (g) < 2 := by rw [eTT]; omega
  have b4 : c.1 40 (g) < 65536 := by rw [eTQ]; omega
  have b5 := (k3 g).1
  obtain ⟨p0, p1, -, -⟩ := sh_pof _ b1 _ (show c.1 37 (g) < 8 by omega) _ b2 _ b3
  obtain ⟨w1, w2, w3, w4⟩ := hl
  have eS : S x = shp (nI (c.1 36 (g))) (nI (c.1 37 (g))) (nI (c.1 38 (g))) (nI (c.1 39 (g))) := hS
  by_cases z : c.1 36 (g) = 1
  · have eL : c.1 41 (l) = 0 := by rw [w1, if_pos z]
    have hnl := nl_G hn hf b4
    have ef := fnd_0 hRA hJ.2.2 hnl
    have ea : afd (c.2.1 0) (c.2.1 2 (c.1 42 (l))) 0 (c.1 4 0) = afd (c0.2.1 0) (nl n f (c.1 40 (g))) 0 (c0.1 4 0) := by rw [w2, hnm z, k2, eNC]
    have el : lnk1 c l = (match afd (c0.2.1 0) (nl n f (c.1 40 (g))) 0 (c0.1 4 0) with | none => lfl c 5 (c.1 44 (l)) | some x => (xN c.1 37 (c.1 42 (l)) x, c.2.1, c.2.2)) := by
      unfold lnk1
      rw [if_neg (by rw [eL]; decide), if_pos eL, ea]
    have ei : lkI n f q tp (argN (nI call)) x S rf = (upd S x (S x &&& (-8) ||| fnd q 0 (e32 (nl n f (c.1 40 (g)))) &&& 7), if fnd q 0 (e32 (nl n f (c.1 40 (g)))) = -1 then upd (upd rf 4 5) 5 (nI (c.1 40 (g))) else rf) := by
      unfold lkI
      rw [if_pos (by rw [eS, p0, z]; rfl), htp, nI_clamp (by omega), nm32_e hn hf b4]
    rw [ei, el, ef]
    match hm : afd (c0.2.1 0) (nl n f (c.1 40 (g))) 0 (c0.1 4 0) with
    | none =>
      right
      refine ⟨⟨5, _, rfl, by omega, by omega⟩, ?_⟩
      show (if (-1 : Int32) = -1 then upd (upd rf 4 5) 5 (nI (c.1 40 (g))) else rf) = upd (upd rf 4 (nI 5)) 5 (nI (c.1 44 (l)))
      rw [if_pos rfl, w4]; rfl
    | some j =>
      have hjb := afd_some _ _ _ hm
      have hc6 := hA.1.1
      left
      refine ⟨h0, ?_, Or.inr ⟨z, j, by omega, ?_, ?_⟩⟩
      · show (if nI j = -1 then upd (upd rf 4 5) 5 (nI (c.1 40 (g))) else rf) = rf
        rw [if_neg (nI_m1 (by omega))]
      · show upd S x (S x &&& (-8) ||| nI j &&& 7) = _
        rw [eS, z, sh_set _ (show c.1 37 (g) < 8 by omega) _ b2 _ b3 j (by omega)]
      · show (xN c.1 37 (c.1 42 (l)) j, c.2.1, c.2.2) = (xN c.1 37 g j, c.2)
        rw [w2]
  · have eL : c.1 41 (l) = 2 := by rw [w1, if_neg z]
    have b6 := (k3 g).2 z
    have hiff := argN_n call (by omega) (c.1 37 (g)) (by omega)
    unfold lkI lnk1
    rw [if_neg (show ¬ pof (S x) 0 = 1 by rw [eS, p0]; intro e; exact z ((nI_eq (by omega) (by decide)).mp e)), if_pos eL, w3, w2]
    rw [show pof (S x) 1 = nI (c.1 37 (g)) from by rw [eS, p1]]
    by_cases y : ¬ call = 16 ∧ call % 4 ≤ c.1 37 (g)
    · rw [if_neg (fun e => (hiff.mp e) y), if_pos y]
      right
      refine ⟨⟨6, _, rfl, by omega, by omega⟩, ?_⟩
      show upd (upd rf 4 6) 5 (tp x) = upd (upd rf 4 (nI 6)) 5 (nI (c.1 44 (l)))
      rw [htp, w4]; rfl
    · rw [if_pos (hiff.mpr y), if_neg y]
      exact Or.inl ⟨h0, rfl, Or.inl ⟨rfl, rfl⟩⟩
end Link
/-! Tests stand apart -/
section Apart
variable {c : aN}
theorem RF_le (hE : E2 c) : ∀ r2 r, r < r2 → r2 < (c.1 5 0) → c.1 27 (r) + c.1 28 (r) ≤ c.1 27 (r2)
  | 0, r, h, _ => by omega
  | r2 + 1, r, h, h2 => by
    have := hE.1 r2 h2
    by_cases e : r = r2
    · rw [e]; omega
    · have := RF_le hE r2 r (by omega) (by omega); omega
theorem WF_le (hE : E2 c) : ∀ r2 r, r < r2 → r2 < (c.1 7 0) → c.1 32 (r) + c.1 33 (r) ≤ c.1 32 (r2)
  | 0, r, h, _ => by omega
  | r2 + 1, r, h, h2 => by
    have := hE.2.2.1 r2 h2
    by_cases e : r = r2
    · rw [e]; omega
    · have := WF_le hE r2 r (by omega) (by omega); omega
theorem RF_eR (hE : E2 c) {r : Nat} (h : r < (c.1 5 0)) : c.1 27 (r) + c.1 28 (r) ≤ eR c := by
  unfold eR
  rw [if_neg (by omega)]
  by_cases e : r = (c.1 5 0) - 1
  · rw [e]; omega
  · have := RF_le hE ((c.1 5 0) - 1) r (by omega) (by omega); omega
theorem eR_WF (hE : E2 c) {r : Nat} (h : r < (c.1 7 0)) : eR c ≤ c.1 32 (r) := by
  have h0 := hE.2.2.2.1 (by omega)
  by_cases e : r = 0
  · rw [e, h0]; exact Nat.le_refl _
  · have := WF_le hE r 0 (by omega) h; omega
theorem rwR_inj (hA : AI c) (hE : E1 c) {r r2 : Nat} (h : r < (c.1 5 0)) (h2 : r2 < (c.1 5 0)) (e : rwR c r = rwR c r2) : r = r2 := by
  have g := hA.2.1 r h
  have g2 := hA.2.1 r2 h2
  have k := hA.1.2.2.1 _ g.1
  have k2 := hA.1.2.2.1 _ g2.1
  unfold rwR at e
  have e1 : c.1 23 (r) = c.1 23 (r2) := by omega
  have e2 : c.1 24 (r) = c.1 24 (r2) := by omega
  rw [hE.1 r h, hE.1 r2 h2, e1, e2]
theorem rwW_inj (hA : AI c) (hE : E1 c) {r r2 : Nat} (h : r < (c.1 7 0)) (h2 : r2 < (c.1 7 0)) (e : rwW c r = rwW c r2) : r = r2 := by
  have g := hA.2.2.1 r h
  have g2 := hA.2.2.1 r2 h2
  have k := hA.1.2.2.2 _ g.1
  have k2 := hA.1.2.2.2 _ g2.1
  unfold rwW at e
  have e1 : c.1 29 (r) = c.1 29 (r2) := by omega
  have e2 : c.1 30 (r) = c.1 30 (r2) := by omega
  rw [hE.2.2.1 r h, hE.2.2.1 r2 h2, e1, e2]
theorem rwR_24 (hA : AI c) {r : Nat} (h : r < (c.1 5 0)) : rwR c r < 24 := by
  have g := hA.2.1 r h
  have k := hA.1.2.2.1 _ g.1
  have k6 := hA.1.1
  unfold rwR; omega
/-- tests that stand at one row are one, and have one number -/
def XG (c : aN) (x g : Nat) : Prop := (∀ r, r < (c.1 5 0) → ∀ i, i < c.1 28 (r) → (rwR c r * 4 + i = x ↔ c.1 27 (r) + i = g)) ∧ (∀ r, r < (c.1 7 0) → ∀ i, i < c.1 33 (r) → (rwW c r * 4 + i = x ↔ c.1 32 (r) + i = g))
theorem XG_R (hA : AI c) (hE : E1 c) (hE2 : E2 c) {r0 i0 : Nat} (h : r0 < (c.1 5 0)) (hi : i0 < c.1 28 (r0)) : XG c (rwR c r0 * 4 + i0) (c.1 27 (r0) + i0) := by
  have g0 := hA.2.1 r0 h
  have h24 := rwR_24 hA h
  refine ⟨fun r hr i hi2 => ?_, fun r hr i hi2 => ?_⟩
  · have g := hA.2.1 r hr
    constructor
    · intro e
      have e1 : rwR c r = rwR c r0 := by omega
      have := rwR_inj hA hE hr h e1
      subst this; omega
    · intro e
      rcases Nat.lt_trichotomy r r0 with l | l | l
      · have := RF_le hE2 r0 r l h; omega
      · subst l; omega
      · have := RF_le hE2 r r0 l hr; omega
  · have g := hA.2.2.1 r hr
    have e24 : 24 ≤ rwW c r := by unfold rwW; omega
    have k1 := RF_eR hE2 h
    have k2 := eR_WF hE2 hr
    constructor <;> intro e <;> omega
theorem XG_W (hA : AI c) (hE : E1 c) (hE2 : E2 c) {r0 i0 : Nat} (h : r0 < (c.1 7 0)) (hi : i0 < c.1 33 (r0)) : XG c (rwW c r0 * 4 + i0) (c.1 32 (r0) + i0) := by
  have g0 := hA.2.2.1 r0 h
  refine ⟨fun r hr i hi2 => ?_, fun r hr i hi2 => ?_⟩
  · have g := hA.2.1 r hr
    have e24 : 24 ≤ rwW c r0 := by unfold rwW; omega
    have h24 := rwR_24 hA hr
    have k1 := RF_eR hE2 hr
    have k2 := eR_WF hE2 h
    constructor <;> intro e <;> omega
  · have g := hA.2.2.1 r hr
    constructor
    · intro e
      have e1 : rwW c r = rwW c r0 := by omega
      have := rwW_inj hA hE hr h e1
      subst this; omega
    · intro e
      rcases Nat.lt_trichotomy r r0 with l | l | l
      · have := WF_le hE2 r0 r l h; omega
      · subst l; omega
      · have := WF_le hE2 r r0 l hr; omega
end Apart
