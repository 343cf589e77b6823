/-! CLASS AND MODEL, side by side -/
/-- the rest of the model: fault, place, call, policy -/
def CR (x : aX) (l : aC) (ft pl : Int32) (nt : Nat) (tf : Nat → Nat) (c : aN) (q : aP) : Prop := x.1 8 = ft ∧ x.1 9 = pl ∧ MA x l ∧ MX x nt tf ∧ RDN nt tf c ∧ c.1 2 0 = 0 ∧ CQ c q x
/-- t calls were made, both stand alike -/
def LI (B : Nat) (σ : aS) (X m t : Nat) : Prop := ∃ (n : Nat) (f : Nat → Nat) (mm : Nat) (g : Nat → Nat) (q : aP) (l : aC) (ft pl : Int32) (x : aX) (c : aN) (nt : Nat) (tf : Nat → Nat), XS σ X n f mm g q l ft pl ∧ mk σ m x = σ ∧ MB x n f ∧ MP x mm g ∧ CR x l ft pl nt tf c q ∧ m = X + 34 ∧ m + 32 ≤ σ.1 ∧ σ.1 ≤ B + t ∧ σ.2.1 ≤ 100000 + 3 * t
section Cp
variable {B X m t n mm nt : Nat} {f g tf : Nat → Nat} {q : aP} {l : aC} {ft pl : Int32} {x z : aX} {c : aN} {σ τ : aS}
theorem CR_keep (h : CR x l ft pl nt tf c q) (h1 : ∀ k, 8 ≤ k → z.1 k = x.1 k) (h2 : ∀ a, 5 ≤ a → ¬ a = 9 → z.2.2.1 a = x.2.2.1 a) (h3 : z.2.2.2 = x.2.2.2) : CR z l ft pl nt tf c q := by
  obtain ⟨a1, a2, a3, a4, a5, a6, a7⟩ := h
  refine ⟨(h1 8 (by decide)).trans a1, (h1 9 (by decide)).trans a2, ?_, ?_, a5, a6, a7.1, ML_keep a7.2.1 (fun k hk => h1 k (by omega)) (fun a ha => h2 a (by omega) (by omega)) (h2 5 (by decide) (by decide)) (h2 6 (by decide) (by decide)) h3, a7.2.2.1, fun k hk => ?_⟩
  · unfold MA at a3 ⊢
    rw [h1 14 (by decide), h2 8 (by decide) (by decide)]; exact a3
  · unfold MX at a4 ⊢
    rw [h1 18 (by decide), h2 10 (by decide) (by decide)]; exact a4
  · rw [h2 7 (by decide) (by decide)]; exact a7.2.2.2 k hk
theorem CR_0 (h : CR x l ft pl nt tf c q) : CR (sI x 0 0) l ft pl nt tf c q := CR_keep h (fun k hk => pk_un (by omega)) (fun _ _ _ => rfl) rfl
theorem MB_keep (h : MB x n f) (h1 : z.1 2 = x.1 2) (h2 : z.2.2.1 1 = x.2.2.1 1) : MB z n f := by unfold MB at h ⊢; rw [h1, h2]; exact h
theorem MP_keep (h : MP x mm g) (h1 : z.1 4 = x.1 4) (h2 : z.2.2.1 2 = x.2.2.1 2) : MP z mm g := by unfold MP at h ⊢; rw [h1, h2]; exact h
theorem mk_fr (h : mk σ m x = σ) (hf : ∀ a, m ≤ a → a ≤ m + 31 → τ.2.2 a = σ.2.2 a) : mk τ m x = τ := by
  refine mk_self ?_ (fun a h1 h2 => ?_)
  · rw [hf m (by omega) (by omega), ← h]; exact mk_O
  · rw [hf (m + a) (by omega) (by omega), ← h]; exact mk_C a ⟨h1, h2⟩
theorem LI_mk (hX : XS τ X n f mm g q l ft pl) (hB : MB z n f) (hP : MP z mm g) (hR : CR z l ft pl nt tf c q) (hm : m = X + 34) (h1 : m + 32 ≤ τ.1) (h2 : τ.1 ≤ B + t) (h3 : τ.2.1 ≤ 100000 + 3 * t) : LI B (mk τ m z) X m t :=
  ⟨n, f, mm, g, q, l, ft, pl, z, c, nt, tf, hX.fr (lo := m) (hi := m + 32) ⟨rfl, rfl, fun a ha => mk_out (by omega)⟩ (by omega), mk_self mk_O (fun a a1 a2 => mk_C a ⟨a1, a2⟩), hB, hP, hR, hm, h1, h2, h3⟩
theorem RDN_u {d : aN} (h1 : RDN n f c) (h2 : RDN n f d) : c = d := by
  obtain ⟨c0, a1, a2, a3⟩ := h1
  obtain ⟨d0, b1, b2, b3⟩ := h2
  rw [a3, b3, aRc_end a1 a2 b1 b2]
theorem XS_cell (h : XS σ X n f mm g q l ft pl) : ∃ fs, σ.2.2 X = some (.inr (6, fs)) := by
  obtain ⟨pr, dr, p, sp, n2, g2, q2, p0, k, rf, tp, gp, h1, h2, h3, h4⟩ := h
  exact ⟨_, h3⟩
theorem XS_g (h : XS σ X n f mm g q l ft pl) : mm ≤ 8192 ∧ ∀ k, k < mm → g k < 256 := by
  obtain ⟨pr, dr, p, sp, n2, g2, q2, p0, k, rf, tp, gp, h1, h2, h3, h4, h5, -⟩ := h
  obtain ⟨w, -, -, e1, e2, e3⟩ := h5
  refine ⟨e1, fun k hk => ?_⟩
  rw [← e3 k (by omega)]; exact y_lt _ _
theorem putL_F (cap : Nat) : ∀ (l : List Nat) (s : Nat) (g : Nat → Nat), (putL cap (s, g, false) l).2.2 = false
  | [], _, _ => rfl
  | a :: l, s, g => by
    rw [putL_cons, put1]
    split
    · exact putL_F cap l _ _
    · exact putL_F cap l _ _
theorem putL_no (cap : Nat) : ∀ (l : List Nat) (s : Nat) (g : Nat → Nat), s ≤ cap → cap < s + l.length → (putL cap (s, g, true) l).2.2 = false
  | [], s, g, h0, h => by simp at h; omega
  | a :: l, s, g, h0, h => by
    rw [putL_cons, put1]
    rw [List.length_cons] at h
    by_cases z : s < cap
    · rw [if_pos z]; exact putL_no cap l (s + 1) _ (by omega) (by omega)
    · rw [if_neg z]; exact putL_F cap l _ _
theorem putL_ok (cap : Nat) : ∀ (l : List Nat) (s : Nat) (g : Nat → Nat), s + l.length ≤ cap → (putL cap (s, g, true) l).1 = s + l.length ∧ (putL cap (s, g, true) l).2.2 = true ∧ (∀ i, i < l.length → (putL cap (s, g, true) l).2.1 (s + i) = l.getD i 0) ∧ ∀ j, j < s → (putL cap (s, g, true) l).2.1 j = g j
  | [], s, g, h => ⟨rfl, rfl, fun _ h => absurd h (Nat.not_lt_zero _), fun _ _ => rfl⟩
  | a :: l, s, g, h => by
    rw [List.length_cons] at h
    obtain ⟨e1, e2, e3, e4⟩ := putL_ok cap l (s + 1) (updN g s a) (by omega)
    have e0 : putL cap (s, g, true) (a :: l) = putL cap (s + 1, updN g s a, true) l := by rw [putL_cons, put1, if_pos (show (s, g, true).1 < cap by show s < cap; omega)]
    rw [e0]
    refine ⟨by rw [e1, List.length_cons]; omega, e2, fun i hi => ?_, fun j hj => ?_⟩
    · cases i with
      | zero => exact (e4 s (by omega)).trans (if_pos rfl)
      | succ i =>
        have := e3 i (by rw [List.length_cons] at hi; omega)
        rw [show s + (i + 1) = s + 1 + i by omega, this]; rfl
    · rw [e4 j (by omega)]
      show (if j = s then a else g j) = _
      rw [if_neg (by omega)]
theorem sI_ne {k j : Nat} {v : Int32} (h : ¬ j = k) : (sI x k v).1 j = x.1 j := by
  show upd x.1 k v j = x.1 j
  exact pk_un h
/-- the model's object stands -/
def MO (τ : aS) (m : Nat) : Prop := ∃ fs, τ.2.2 m = some (.inr (7, fs))
theorem MO_mk (h : mk τ m x = τ) : MO τ m := ⟨_, by rw [← h]; exact mk_O⟩
variable {G : aG} {K : Option Value → aS → Prop}
theorem W_counter {a b : Int32} (h : LI B σ X m t) (hK : ∀ (τ : aS) (v : Int32), MO τ m → (∀ K2 : Option Value → aS → Prop, (∀ τ2, LI B τ2 X m (t + 1) → K2 (some (.int v)) τ2) → a_C G m_M_counter 2 48 [.ref m, .int a, .int b] τ K2) → K (some (.int v)) τ) : a_C G m_X_counter 2 46 [.ref X, .int a, .int b] σ K := by
  obtain ⟨n, f, mm, g, q, l, ft, pl, x, c, nt, tf, hX, hk, hB, hP, hR, hm, s1, s2, s3⟩ := h
  refine sp_X_counter hX (hK σ _ (MO_mk hk) (fun K2 h2 => ?_))
  have h2 := h2 (mk σ m (sI x 0 0)) (LI_mk hX hB hP (CR_0 hR) hm (by omega) (by omega) (by omega))
  rw [← hk]
  exact sp_M_counter hR.2.2.2.2.2.2 h2
theorem W_node {a b : Int32} (h : LI B σ X m t) (hK : ∀ (τ : aS) (v : Int32), MO τ m → (∀ K2 : Option Value → aS → Prop, (∀ τ2, LI B τ2 X m (t + 1) → K2 (some (.int v)) τ2) → a_C G m_M_node 2 48 [.ref m, .int a, .int b] τ K2) → K (some (.int v)) τ) : a_C G m_X_node 2 46 [.ref X, .int a, .int b] σ K := by
  obtain ⟨n, f, mm, g, q, l, ft, pl, x, c, nt, tf, hX, hk, hB, hP, hR, hm, s1, s2, s3⟩ := h
  refine sp_X_node hX (hK σ _ (MO_mk hk) (fun K2 h2 => ?_))
  have h2 := h2 (mk σ m (sI x 0 0)) (LI_mk hX hB hP (CR_0 hR) hm (by omega) (by omega) (by omega))
  rw [← hk]
  exact sp_M_node hR.2.2.2.2.2.2 h2
theorem W_clause {w a b e : Int32} (h : LI B σ X m t) (hK : ∀ (τ : aS) (v : Int32), MO τ m → (∀ K2 : Option Value → aS → Prop, (∀ τ2, LI B τ2 X m (t + 1) → K2 (some (.int v)) τ2) → a_C G m_M_clause 1 25 [.ref m, .int w, .int a, .int b, .int e] τ K2) → K (some (.int v)) τ) : a_C G m_X_clause 3 71 [.ref X, .int w, .int a, .int b, .int e] σ K := by
  obtain ⟨n, f, mm, g, q, l, ft, pl, x, c, nt, tf, hX, hk, hB, hP, hR, hm, s1, s2, s3⟩ := h
  refine sp_X_clause hX (hK σ _ (MO_mk hk) (fun K2 h2 => ?_))
  have h2 := h2 (mk σ m (sI x 0 0)) (LI_mk hX hB hP (CR_0 hR) hm (by omega) (by omega) (by omega))
  rw [← hk]
  exact sp_M_clause hR.2.2.2.2.2.2 h2
theorem W_test {w a b e u : Int32} (h : LI B σ X m t) (hK : ∀ (τ : aS) (v : Int32), MO τ m → (∀ K2 : Option Value → aS → Prop, (∀ τ2, LI B τ2 X m (t + 1) → K2 (some (.int v)) τ2) → a_C G m_M_test 2 50 [.ref m, .int w, .int a, .int b, .int e, .int u] τ K2) → K (some (.int v)) τ) : a_C G m_X_test 3 71 [.ref X, .int w, .int a, .int b, .int e, .int u] σ K := by
  obtain ⟨n, f, mm, g, q, l, ft, pl, x, c, nt, tf, hX, hk, hB, hP, hR, hm, s1, s2, s3⟩ := h
  refine sp_X_test hX (hK σ _ (MO_mk hk) (fun K2 h2 => ?_))
  have h2 := h2 (mk σ m (sI x 0 0)) (LI_mk hX hB hP (CR_0 hR) hm (by omega) (by omega) (by omega))
  rw [← hk]
  exact sp_M_test hR.2.2.2.2.2.2 h2
theorem W_than {w a b e : Int32} (h : LI B σ X m t) (hK : ∀ (τ : aS) (v : Int32), MO τ m → (∀ K2 : Option Value → aS → Prop, (∀ τ2, LI B τ2 X m (t + 1) → K2 (some (.int v)) τ2) → a_C G m_M_than 2 50 [.ref m, .int w, .int a, .int b, .int e] τ K2) → K (some (.int v)) τ) : a_C G m_X_than 3 71 [.ref X, .int w, .int a, .int b, .int e] σ K := by
  obtain ⟨n, f, mm, g, q, l, ft, pl, x, c, nt, tf, hX, hk, hB, hP, hR, hm, s1, s2, s3⟩ := h
  refine sp_X_than hX (hK σ _ (MO_mk hk) (fun K2 h2 => ?_))
  have h2 := h2 (mk σ m (sI x 0 0)) (LI_mk hX hB hP (CR_0 hR) hm (by omega) (by omega) (by omega))
  rw [← hk]
  exact sp_M_than hR.2.2.2.2.2.2 h2
theorem W_byteAt {a w : Int32} (h : LI B σ X m t) (hK : ∀ (τ : aS) (v : Int32), MO τ m → (∀ K2 : Option Value → aS → Prop, (∀ τ2, LI B τ2 X m (t + 1) → K2 (some (.int v)) τ2) → a_C G m_M_byteAt 0 0 [.ref m, .int a, .int w] τ K2) → K (some (.int v)) τ) : a_C G m_X_byteAt 1 21 [.ref X, .int a, .int w] σ K := by
  obtain ⟨n, f, mm, g, q, l, ft, pl, x, c, nt, tf, hX, hk, hB, hP, hR, hm, s1, s2, s3⟩ := h
  refine sp_X_byteAt hX (hK σ _ (MO_mk hk) (fun K2 h2 => ?_))
  have h2 := h2 (mk σ m (sI x 0 0)) (LI_mk hX hB hP (CR_0 hR) hm (by omega) (by omega) (by omega))
  rw [← hk]
  exact sp_M_byteAt hB hP h2
theorem W_look {a : Int32} (h : LI B σ X m t) (hK : ∀ (τ : aS) (v : Int32), MO τ m → (∀ K2 : Option Value → aS → Prop, (∀ τ2, LI B τ2 X m (t + 1) → K2 (some (.int v)) τ2) → a_C G m_M_look 0 0 [.ref m, .int a] τ K2) → K (some (.int v)) τ) : a_C G m_X_look 1 21 [.ref X, .int a] σ K := by
  obtain ⟨n, f, mm, g, q, l, ft, pl, x, c, nt, tf, hX, hk, hB, hP, hR, hm, s1, s2, s3⟩ := h
  have hC := hR.2.2.2.2.2.2
  refine sp_X_look hX (hK σ _ (MO_mk hk) (fun K2 h2 => ?_))
  have h2 := h2 (mk σ m (sI x 0 0)) (LI_mk hX hB hP (CR_0 hR) hm (by omega) (by omega) (by omega))
  rw [← hk]
  refine sp_M_look ?_
  rw [hC.nC.1, hC.nN.1, hB.1, hP.1, hR.1, hR.2.1, show x.1 50 = nI (c.1 8 0) from hC.2.1.2.2.1.1]
  rw [hC.q1.1, hC.q1.2.1, hC.q1.2.2] at h2
  exact h2
theorem W_holds {w a b : Int32} (h : LI B σ X m t) (hK : ∀ (τ : aS) (v : Int32), MO τ m → (∀ K2 : Option Value → aS → Prop, (∀ τ2, LI B τ2 X m (t + 1) → K2 (some (.int v)) τ2) → a_C G m_M_holds 3 74 [.ref m, .int w, .int a, .int b] τ K2) → K (some (.int v)) τ) : a_C G m_X_holds 4 98 [.ref X, .int w, .int a, .int b] σ K := by
  obtain ⟨n, f, mm, g, q, l, ft, pl, x, c, nt, tf, hX, hk, hB, hP, hR, hm, s1, s2, s3⟩ := h
  refine sp_X_holds hX (hK σ _ (MO_mk hk) (fun K2 h2 => ?_))
  rw [← hk]
  refine sp_M_holds hR.2.2.2.2.2.2 hR.2.2.1 (fun z hz => h2 _ ?_)
  rcases hz with rfl | hz
  · exact LI_mk hX hB hP (CR_0 hR) hm (by omega) (by omega) (by omega)
  · obtain ⟨z1, z2, z3, z4, -⟩ := hz
    refine LI_mk hX (MB_keep hB ?_ (z4 1 (by decide))) (MP_keep hP ?_ (z4 2 (by decide))) (CR_keep (CR_0 hR) (fun k _ => by rw [z1]) (fun a _ h9 => z4 a h9) z3) hm (by omega) (by omega) (by omega)
    · rw [z1]; rfl
    · rw [z1]; rfl
theorem W_cut {a : Int32} (h : LI B σ X m t) (hK : ∀ (τ : aS) (v : Int32), MO τ m → (∀ K2 : Option Value → aS → Prop, (∀ τ2, LI B τ2 X m (t + 1) → K2 (some (.int v)) τ2) → a_C G m_M_cut 0 0 [.ref m, .int a] τ K2) → K (some (.int v)) τ) : a_C G m_X_cut 1 21 [.ref X, .int a] σ K := by
  obtain ⟨n, f, mm, g, q, l, ft, pl, x, c, nt, tf, hX, hk, hB, hP, hR, hm, s1, s2, s3⟩ := h
  have hn := hB.2.1
  refine sp_X_cut hX (fun hc => ?_) (fun j hj ha τ hf hX2 => ?_)
  · refine hK σ 0 (MO_mk hk) (fun K2 h2 => ?_)
    rw [← hk]
    refine sp_M_cut (fun _ => h2 _ (LI_mk hX hB hP (CR_0 hR) hm (by omega) (by omega) (by omega))) (fun h3 h4 => absurd hc ?_)
    rw [hB.1] at h4
    exact fun z => z.elim h3 (fun z => absurd h4 (Int32.not_le.mpr z))
  · subst ha
    have hk2 : mk τ m x = τ := mk_fr hk (fun a h1 h2 => hf.2.2 a (by omega))
    have e1 := hf.1
    have e2 := hf.2.1
    refine hK τ 1 (MO_mk hk2) (fun K2 h2 => ?_)
    rw [← hk2]
    refine sp_M_cut (fun hc => absurd hc ?_) (fun h3 h4 => h2 _ (LI_mk hX2 ⟨sI_at, by omega, fun k hk => hB.2.2 k (by omega)⟩ hP (CR_keep (CR_0 hR) (fun k hk => pk_un (by omega)) (fun _ _ _ => rfl) rfl) hm (by omega) (by omega) (by omega)))
    rw [hB.1]
    exact fun z => z.elim (nI_pos (by omega)) (nI_nlt hj (by omega))
theorem W_poke {a b : Int32} (h : LI B σ X m t) (hK : ∀ (τ : aS) (v : Int32), MO τ m → (∀ K2 : Option Value → aS → Prop, (∀ τ2, LI B τ2 X m (t + 1) → K2 (some (.int v)) τ2) → a_C G m_M_poke 0 0 [.ref m, .int a, .int b] τ K2) → K (some (.int v)) τ) : a_C G m_X_poke 1 25 [.ref X, .int a, .int b] σ K := by
  obtain ⟨n, f, mm, g, q, l, ft, pl, x, c, nt, tf, hX, hk, hB, hP, hR, hm, s1, s2, s3⟩ := h
  have hn := hB.2.1
  have hn4 : x.1 2 ≤ 4096 := by rw [hB.1]; exact nI_le (b := 4096) hn (by decide)
  refine sp_X_poke hX (fun hc => ?_) (fun j hj ha τ hf hX2 => ?_)
  · refine hK σ 0 (MO_mk hk) (fun K2 h2 => ?_)
    rw [← hk]
    refine sp_M_poke hn4 (fun _ => h2 _ (LI_mk hX hB hP (CR_0 hR) hm (by omega) (by omega) (by omega))) (fun h3 h4 => absurd hc ?_)
    rw [hB.1] at h4
    exact fun z => z.elim h3 (fun z => absurd h4 (Int32.not_lt.mpr z))
  · subst ha
    have hk2 : mk τ m x = τ := mk_fr hk (fun a h1 h2 => hf.2.2 a (by omega))
    have e1 := hf.1
    have e2 := hf.2.1
    refine hK τ 1 (MO_mk hk2) (fun K2 h2 => ?_)
    rw [← hk2]
    refine sp_M_poke hn4 (fun hc => absurd hc ?_) (fun h3 h4 => h2 _ (LI_mk hX2 ⟨hB.1, hn, fun k hk => ?_⟩ hP (CR_keep (CR_0 hR) (fun _ _ => rfl) (fun a h5 _ => sA_ne (by omega)) rfl) hm (by omega) (by omega) (by omega)))
    · rw [hB.1]
      exact fun z => z.elim (nI_pos (by omega)) (nI_ge hj (by omega))
    · rw [nI_clamp (by omega)]
      by_cases e : k = j
      · subst e
        rw [sA_at]
        show (b &&& 255) = nI (if k = k then b.toBitVec.toNat % 256 else f k) ∧ (if k = k then b.toBitVec.toNat % 256 else f k) < 256
        rw [if_pos rfl]
        exact ⟨pk_and b 8 (by decide), Nat.mod_lt _ (by decide)⟩
      · rw [sA_un e]
        show x.2.2.1 1 k = nI (if k = j then b.toBitVec.toNat % 256 else f k) ∧ (if k = j then b.toBitVec.toNat % 256 else f k) < 256
        rw [if_neg e]
        exact hB.2.2 k hk
theorem W_call {a b d e : Int32} (h : LI B σ X m t) (hK : ∀ (τ : aS) (v : Int32), MO τ m → (∀ K2 : Option Value → aS → Prop, (∀ τ2, LI B τ2 X m (t + 1) → K2 (some (.int v)) τ2) → a_C G m_M_call 0 0 [.ref m, .int a, .int b, .int d, .int e] τ K2) → K (some (.int v)) τ) : a_C G m_X_call 1 24 [.ref X, .int a, .int b, .int d, .int e] σ K := by
  obtain ⟨n, f, mm, g, q, l, ft, pl, x, c, nt, tf, hX, hk, hB, hP, hR, hm, s1, s2, s3⟩ := h
  refine sp_X_call hX (fun hc => ?_) (fun h0 h16 τ hf hX2 => ?_)
  · refine hK σ 0 (MO_mk hk) (fun K2 h2 => ?_)
    rw [← hk]
    refine sp_M_call (fun _ => h2 _ (LI_mk hX hB hP (CR_0 hR) hm (by omega) (by omega) (by omega))) (fun h3 h4 => absurd hc ?_)
    exact fun z => z.elim h3 (fun z => absurd (Int32.le_trans z h4) (by decide))
  · have hk2 : mk τ m x = τ := mk_fr hk (fun a h1 h2 => hf.2.2 a (by omega))
    have e1 := hf.1
    have e2 := hf.2.1
    obtain ⟨v, hv, rfl⟩ : ∃ v : Nat, v < 16 ∧ a = nI v := by
      rcases pk_ix a (n := 16) (by decide) with z | z | z
      · exact absurd z h0
      · exact absurd h16 (Int32.not_lt.mpr z)
      · exact z
    refine hK τ 1 (MO_mk hk2) (fun K2 h2 => ?_)
    rw [← hk2]
    refine sp_M_call (fun hc => absurd hc ?_) (fun h3 h4 => h2 _ (LI_mk (c := c) (nt := nt) (tf := tf) hX2 hB hP ?_ hm (by omega) (by omega) (by omega)))
    · exact fun z => z.elim h0 (nI_nlt (a := 15) (by omega) (by omega))
    · obtain ⟨a1, a2, a3, a4, a5, a6, a7⟩ := hR
      refine ⟨a1, a2, ⟨rfl, rfl, rfl, rfl, v, by omega, rfl⟩, a4, a5, a6, a7.1, ML_keep a7.2.1 (fun k hk => ?_) (fun a ha => ?_) rfl rfl rfl, a7.2.2.1, a7.2.2.2⟩
      · show upd (upd x.1 0 0) 14 (nI v) k = x.1 k
        rw [pk_un (by omega), pk_un (by omega)]
      · rw [sA_ne (by omega), sA_ne (by omega), sA_ne (by omega)]; rfl
theorem W_stand {a b : Int32} (h : LI B σ X m t) (hK : ∀ (τ : aS) (v : Int32), MO τ m → (∀ K2 : Option Value → aS → Prop, (∀ τ2, LI B τ2 X m (t + 1) → K2 (some (.int v)) τ2) → a_C G m_M_stand 0 0 [.ref m, .int a, .int b] τ K2) → K (some (.int v)) τ) : a_C G m_X_stand 2 45 [.ref X, .int a, .int b] σ K := by
  obtain ⟨n, f, mm, g, q, l, ft, pl, x, c, nt, tf, hX, hk, hB, hP, hR, hm, s1, s2, s3⟩ := h
  have hC := hR.2.2.2.2.2.2
  have h6 := hC.nC.2
  have hc6 : x.1 28 ≤ 6 := by rw [hC.nC.1]; exact nI_le (b := 6) h6 (by decide)
  have h20 := hC.2.2.1.2.2.2.2.2.2.1
  refine sp_X_stand hX (fun hc => ?_) (fun hc τ hf hX2 => ?_)
  · refine hK σ 0 (MO_mk hk) (fun K2 h2 => ?_)
    rw [← hk]
    refine sp_M_stand hc6 (fun _ => h2 _ (LI_mk hX hB hP (CR_0 hR) hm (by omega) (by omega) (by omega))) (fun h3 h4 h5 h7 => absurd hc ?_)
    rw [hC.nC.1] at h4
    rcases pk_ix a (n := c.1 4 0) (by omega) with z | z | ⟨k, hk3, rfl⟩
    · exact absurd z h3
    · exact absurd h4 (Int32.not_lt.mpr z)
    · rw [nI_clamp (by omega), (hC.2.1.2.2.2.1.2 k hk3).2.2] at h7
      rw [stF, hC.hr hk3, if_neg (nI_m1 (by omega)), nI_clamp (by omega), (hC.1.2.2.1 k hk3).2.1, if_neg h5, if_pos h7]
      decide
  · have hk2 : mk τ m x = τ := mk_fr hk (fun a h1 h2 => hf.2.2 a (by omega))
    have e1 := hf.1
    have e2 := hf.2.1
    rcases pk_ix a (n := c.1 4 0) (by omega) with z | z | ⟨k, hk3, rfl⟩
    · exact absurd (by rw [stF, hC.hro (.inl z), if_pos rfl]) hc
    · exact absurd (by rw [stF, hC.hro (.inr z), if_pos rfl]) hc
    · have hb0 : ¬ b < 0 := fun z => hc (by rw [stF, hC.hr hk3, if_neg (nI_m1 (by omega)), if_pos z])
      have hb1 : b ≤ nI (c.1 20 k) := Classical.byContradiction fun z => hc (by rw [stF, hC.hr hk3, if_neg (nI_m1 (by omega)), if_neg hb0, nI_clamp (by omega), (hC.1.2.2.1 k hk3).2.1, if_neg z])
      obtain ⟨s, hs, rfl⟩ := nI_of hb0
      have h20k := (h20 k).1
      have hs20 : s ≤ c.1 20 k := (nI_leI (by omega) (by omega)).mp hb1
      rw [hC.hr hk3, nI_clamp (by omega)] at hX2
      refine hK τ 1 (MO_mk hk2) (fun K2 h2 => ?_)
      rw [← hk2]
      refine sp_M_stand hc6 (fun hc => absurd hc ?_) (fun h3 h4 h5 h7 => h2 _ (LI_mk (c := c) (nt := nt) (tf := tf) hX2 hB hP ?_ hm (by omega) (by omega) (by omega)))
      · rw [hC.nC.1, nI_clamp (by omega), (hC.2.1.2.2.2.1.2 k hk3).2.2]
        exact fun z => z.elim (nI_pos (by omega)) (fun z => z.elim (nI_ge hk3 (by omega)) (fun z => z.elim hb0 (nI_nlt hs20 (by omega))))
      · rw [nI_clamp (by omega)]
        obtain ⟨a1, a2, a3, a4, a5, a6, a7⟩ := hR
        refine ⟨a1, a2, a3, a4, a5, a6, PC_keep a7.1 rfl rfl (fun a n6 _ => if_neg n6), ML_keep a7.2.1 (fun k hk => pk_un (by omega)) (fun a ha => sA_ne (by omega)) rfl rfl rfl, a7.2.2.1, fun j hj => ?_⟩
        show upd (x.2.2.1 7) k (nI s) j = upd (q.2.2 6) k (nI s) j ∧ ∃ s2, s2 ≤ c.1 20 j ∧ upd (q.2.2 6) k (nI s) j = nI s2
        by_cases e : j = k
        · subst e; rw [pk_us, pk_us]; exact ⟨rfl, s, hs20, rfl⟩
        · rw [pk_un e, pk_un e]; exact a7.2.2.2 j hj
theorem W_make {a : Int32} (h : LI B σ X m t) (hK : ∀ (τ : aS) (v : Int32), MO τ m → (∀ K2 : Option Value → aS → Prop, (∀ τ2, LI B τ2 X m (t + 1) → K2 (some (.int v)) τ2) → a_C G m_M_make 3 76 [.ref m, .int a] τ K2) → K (some (.int v)) τ) : a_C G m_X_make 6 146 [.ref X, .int a] σ K := by
  obtain ⟨n, f, mm, g, q, l, ft, pl, x, c, nt, tf, hX, hk, hB, hP, hR, hm, s1, s2, s3⟩ := h
  have hC := hR.2.2.2.2.2.2
  refine sp_X_make hX (fun hc => ?_) (fun hc τ L S hf hX2 hS1 hS2 => ?_)
  · refine hK σ (-1) (MO_mk hk) (fun K2 h2 => ?_)
    rw [← hk]
    exact sp_M_make hC hR.2.2.1 (fun _ => h2 _ (LI_mk hX hB hP (CR_0 hR) hm (by omega) (by omega) (by omega))) (fun z => absurd hc z)
  · have hk2 : mk τ m x = τ := mk_fr hk (fun a h1 h2 => hf.2.2 a (by omega))
    have e1 := hf.1
    have e2 := hf.2.1
    refine hK τ _ (MO_mk hk2) (fun K2 h2 => ?_)
    rw [← hk2]
    refine sp_M_make hC hR.2.2.1 (fun z => absurd z hc) (fun _ z hz hz7 => h2 _ (LI_mk (c := c) (nt := nt) (tf := tf) hX2 (MB_keep hB (hz.1 2 (by decide)) (hz.2.2.2 1 (by decide) (by decide))) (MP_keep hP (hz.1 4 (by decide)) (hz.2.2.2 2 (by decide) (by decide))) ?_ hm (by omega) (by omega) (by omega)))
    obtain ⟨z1, z2, z3, z4⟩ := hz
    obtain ⟨a1, a2, a3, a4, a5, a6, a7⟩ := hR
    refine ⟨(z1 8 (by decide)).trans a1, (z1 9 (by decide)).trans a2, ?_, ?_, a5, a6, PC_keep a7.1 rfl rfl (fun a n6 n7 => ?_), ML_keep a7.2.1 (fun k hk => z1 k (by omega)) (fun a ha => z4 a (by omega) (by omega)) (z4 5 (by decide) (by decide)) (z4 6 (by decide) (by decide)) z3, a7.2.2.1, fun j hj => ?_⟩
    · unfold MA at a3 ⊢
      rw [z1 14 (by decide), z4 8 (by decide) (by decide)]; exact a3
    · unfold MX at a4 ⊢
      rw [z1 18 (by decide), z4 10 (by decide) (by decide)]; exact a4
    · show (if a = 6 then S else if a = 7 then L else q.2.2 a) = q.2.2 a
      rw [if_neg n6, if_neg n7]
    · show z.2.2.1 7 j = S j ∧ ∃ s, s ≤ c.1 20 j ∧ S j = nI s
      rw [hz7 j hj, hS1 j (by rw [hC.q1.1]; exact hj)]
      exact ⟨rfl, sa_le hC hj _ _⟩
theorem W_turnOver  (h : LI B σ X m t) (hK : ∀ (τ : aS) (v : Int32), MO τ m → (∀ K2 : Option Value → aS → Prop, (∀ τ2, LI B τ2 X m (t + 1) → K2 (some (.int v)) τ2) → a_C G m_M_turnOver 0 0 [.ref m ] τ K2) → K (some (.int v)) τ) : a_C G m_X_turnOver 2 64 [.ref X ] σ K := by
  obtain ⟨n, f, mm, g, q, l, ft, pl, x, c, nt, tf, hX, hk, hB, hP, hR, hm, s1, s2, s3⟩ := h
  refine sp_X_turnOver hX (fun hc => ?_) (fun hc τ hf hX2 => ?_)
  · refine hK σ 0 (MO_mk hk) (fun K2 h2 => ?_)
    rw [← hk]
    exact sp_M_turnOver hP (fun _ => h2 _ (LI_mk hX hB hP (CR_0 hR) hm (by omega) (by omega) (by omega))) (fun z => absurd z (by omega))
  · have hk2 : mk τ m x = τ := mk_fr hk (fun a h1 h2 => hf.2.2 a (by omega))
    have e1 := hf.1
    have e2 := hf.2.1
    refine hK τ 1 (MO_mk hk2) (fun K2 h2 => ?_)
    rw [← hk2]
    refine sp_M_turnOver hP (fun z => absurd z (by omega)) (fun _ z z1 z2 z3 hzB => h2 _ (LI_mk hX2 ⟨hzB.1, hzB.2.1, fun k hk => ?_⟩ (MP_keep hP (z1 4 (by decide) (by decide)) (z2 2 (by decide))) (CR_keep hR (fun k hk => z1 k (by omega) (by omega)) (fun a ha _ => z2 a (by omega)) z3) hm (by omega) (by omega) (by omega)))
    show z.2.2.1 1 k = nI (if k < 8 * (mm / 8 + 1) then g k else f k) ∧ (if k < 8 * (mm / 8 + 1) then g k else f k) < 256
    rw [if_pos (by omega)]; exact hzB.2.2 k hk
theorem W_give {V : Int64} {a : Int32} (h : LI B σ X m t) (hK : ∀ (τ : aS) (v : Int32), MO τ m → (∀ K2 : Option Value → aS → Prop, (∀ τ2, LI B τ2 X m (t + 1) → K2 (some (.int v)) τ2) → a_C G m_M_give 0 0 [.ref m, .long V, .int a] τ K2) → K (some (.int v)) τ) : a_C G m_X_give 2 46 [.ref X, .long V, .int a] σ K := by
  obtain ⟨n, f, mm, g, q, l, ft, pl, x, c, nt, tf, hX, hk, hB, hP, hR, hm, s1, s2, s3⟩ := h
  refine sp_X_give hX (fun hc => ?_) (fun j j1 j8 jn ha τ hf hX2 => ?_)
  · refine hK σ 0 (MO_mk hk) (fun K2 h2 => ?_)
    rw [← hk]
    refine sp_M_give hB (fun _ => h2 _ (LI_mk hX hB hP (CR_0 hR) hm (by omega) (by omega) (by omega))) (fun j j1 j8 jn ha => absurd hc ?_)
    subst ha
    exact fun z => z.elim (nI_nlt (b := 1) j1 (by omega)) (fun z => z.elim (nI_nlt (b := j) (a := 8) j8 (by omega)) (nI_nlt (by omega) (by omega)))
  · have hk2 : mk τ m x = τ := mk_fr hk (fun a h1 h2 => hf.2.2 a (by omega))
    have e1 := hf.1
    have e2 := hf.2.1
    refine hK τ 1 (MO_mk hk2) (fun K2 h2 => ?_)
    rw [← hk2]
    refine sp_M_give hB (fun hc => absurd hc ?_) (fun j' j1' j8' jn' ha' z z1 z2 z3 hzB => h2 _ ?_)
    · subst ha
      exact fun z => z.elim (nI_nlt (b := 1) j1 (by omega)) (fun z => z.elim (nI_nlt (b := j) (a := 8) j8 (by omega)) (nI_nlt (by omega) (by omega)))
    · have : j' = j := (nI_eq (by omega) (by omega)).mp (ha'.symm.trans ha)
      subst this
      exact LI_mk hX2 hzB (MP_keep hP (z1 4 (by decide) (by decide)) (z2 2 (by decide))) (CR_keep hR (fun k hk => z1 k (by omega) (by omega)) (fun a ha _ => z2 a (by omega)) z3) hm (by omega) (by omega) (by omega)
theorem W_read  (h : LI B σ X m t) (hK : ∀ (τ : aS) (v : Int32), MO τ m → (∀ K2 : Option Value → aS → Prop, (∀ τ2, LI B τ2 X m (t + 1) → K2 (some (.int v)) τ2) → a_C G m_M_read 11 238 [.ref m ] τ K2) → K (some (.int v)) τ) : a_C G m_X_read 9 195 [.ref X ] σ K := by
  obtain ⟨n, f, mm, g, q, l, ft, pl, x, c, nt, tf, hX, hk, hB, hP, hR, hm, s1, s2, s3⟩ := h
  have hT := hR.2.2.2.1
  have hn := hB.2.1
  have hC := hR.2.2.2.2.2.2
  refine sp_X_read hX (fun d hd hd0 τ hf hX2 => ?_) (fun d q2 hd hd0 hPC h60 τ hf hX2 => ?_)
  · have hk2 : mk τ m x = τ := mk_fr hk (fun a h1 h2 => hf.2.2 a (by omega))
    have e1 := hf.1
    have e2 := hf.2.1
    refine hK τ _ (MO_mk hk2) (fun K2 h2 => ?_)
    rw [← hk2]
    refine sp_M_read hT hB hR.2.2.2.2.1 hR.2.2.2.2.2.1 (fun z d2 r1 r2 r3 r4 r5 r6 r7 r8 => ?_) (fun z d2 r1 r2 => absurd r2 (by rw [← RDN_u hd r1]; exact hd0))
    have ed := RDN_u hd r1
    subst ed
    obtain ⟨k1, k2, k3, k4, k5, k6⟩ := r3
    refine h2 _ (LI_mk hX2 (MB_keep hB k1 k4) (MP_keep hP k2 k5) ⟨r5, r6, ?_, r7, hR.2.2.2.2.1, hR.2.2.2.2.2.1, hC.1, r8, hC.2.2.1, fun j hj => ?_⟩ hm (by omega) (by omega) (by omega))
    · have a3 := hR.2.2.1
      unfold MA at a3 ⊢
      rw [k3, k6]; exact a3
    · rw [r4]; exact hC.2.2.2 j hj
  · have hk2 : mk τ m x = τ := mk_fr hk (fun a h1 h2 => hf.2.2 a (by omega))
    have e1 := hf.1
    have e2 := hf.2.1
    refine hK τ _ (MO_mk hk2) (fun K2 h2 => ?_)
    rw [← hk2]
    refine sp_M_read hT hB hR.2.2.2.2.1 hR.2.2.2.2.2.1 (fun z d2 r1 r2 => absurd hd0 (by rw [RDN_u hd r1]; exact r2)) (fun z d2 r1 r2 r3 r4 r5 r6 r7 r8 => ?_)
    have ed := RDN_u hd r1
    subst ed
    obtain ⟨k1, k2, k3, k4, k5, k6⟩ := r3
    have hF := FQ_of (by omega) (fun k hk => (hB.2.2 k hk).2) hd hd0
    refine h2 _ (LI_mk hX2 (MB_keep hB k1 k4) (MP_keep hP k2 k5) ⟨r4, r5, ?_, r6, hd, hd0, hPC, r7, hF, fun j hj => ?_⟩ hm (by omega) (by omega) (by omega))
    · have a3 := hR.2.2.1
      unfold MA at a3 ⊢
      rw [k3, k6]; exact a3
    · have h6 := hF.1.1
      rw [r8 j (by omega), h60 j hj]; exact ⟨rfl, 0, Nat.zero_le _, rfl⟩
theorem W_print  (h : LI B σ X m t) (hK : ∀ (τ : aS) (v : Int32), MO τ m → (∀ K2 : Option Value → aS → Prop, (∀ τ2, LI B τ2 X m (t + 1) → K2 (some (.int v)) τ2) → a_C G m_M_print 6 131 [.ref m ] τ K2) → K (some (.int v)) τ) : a_C G m_X_print 8 181 [.ref X ] σ K := by
  obtain ⟨n, f, mm, g, q, l, ft, pl, x, c, nt, tf, hX, hk, hB, hP, hR, hm, s1, s2, s3⟩ := h
  have hT := hR.2.2.2.1
  have hC := hR.2.2.2.2.2.2
  obtain ⟨hL, hE⟩ := PRB hT.2.1 (fun k hk => (hT.2.2 k hk).2) hR.2.2.2.2.1 hR.2.2.2.2.2.1
  rw [← pr_e hC] at hL
  refine sp_X_print hX (by omega) (fun g2 hF τ e1 e2 hf hX2 => ?_) (fun g2 hF τ e1 e2 hf hX2 => ?_)
  · have hk2 : mk τ m x = τ := mk_fr hk (fun a h1 h2 => hf a (by omega) (by omega))
    have hlen : 8192 < (prA q).length := Classical.byContradiction fun z => absurd ((putL_ok 8192 (prA q) 0 g2 (by omega)).2.1.symm.trans hF) (by decide)
    refine hK τ _ (MO_mk hk2) (fun K2 h2 => ?_)
    rw [← hk2]
    rw [pr_e hC] at hL hlen
    refine sp_M_print hC.2.1 hC.2.2.1 hE hL (fun _ => h2 _ (LI_mk hX2 (MB_keep hB (pX_k (by decide) (by decide)) (pX_r (by decide))) (MP_keep hP (pX_k (by decide) (by decide)) (pX_r (by decide))) (CR_keep (CR_0 hR) (fun k hk => pX_k (by omega) (by omega)) (fun a ha _ => pX_r (by omega)) rfl) hm (by omega) (by omega) (by omega))) (fun z => absurd z (by omega))
  · have hk2 : mk τ m x = τ := mk_fr hk (fun a h1 h2 => hf a (by omega) (by omega))
    have hlen : (prA q).length ≤ 8192 := Classical.byContradiction fun z => absurd ((putL_no 8192 (prA q) 0 g2 (by omega) (by omega)).symm.trans hF) (by decide)
    obtain ⟨p1, -, p3, -⟩ := putL_ok 8192 (prA q) 0 g2 (by omega)
    have hg := XS_g hX2
    refine hK τ _ (MO_mk hk2) (fun K2 h2 => ?_)
    rw [← hk2]
    rw [pr_e hC] at hL hlen p1 p3
    rw [pr_e hC] at h2 hX2 hg
    rw [Nat.zero_add] at p1
    refine sp_M_print hC.2.1 hC.2.2.1 hE hL (fun z => absurd z (by omega)) (fun _ z hz => ?_)
    rw [p1] at h2
    obtain ⟨z1, z2, z3, z4, z5⟩ := hz
    refine h2 _ (LI_mk hX2 (MB_keep hB ?_ ?_) ⟨?_, hg.1, fun k hk => ⟨?_, hg.2 k hk⟩⟩ (CR_keep (CR_0 hR) (fun k hk => ?_) (fun a ha _ => ?_) z3) hm (by omega) (by omega) (by omega))
    · rw [z1, sI_ne (by decide), pX_k (by decide) (by decide)]; rfl
    · rw [z4 1 (by decide), show (sI (pX (sI x 0 0) (prM c) 0) 4 (nI (prM c).length)).2.2.1 1 = (pX (sI x 0 0) (prM c) 0).2.2.1 1 from rfl, pX_r (by decide)]; rfl
    · rw [z1, sI_at, p1]
    · rw [p1] at hk
      have := p3 k hk
      rw [Nat.zero_add] at this
      rw [z5 k hk, this]
      exact pX_3 (t := 0) hk
    · rw [z1, sI_ne (by omega), pX_k (by omega) (by omega)]
    · rw [z4 a (by omega), show (sI (pX (sI x 0 0) (prM c) 0) 4 (nI (prM c).length)).2.2.1 a = (pX (sI x 0 0) (prM c) 0).2.2.1 a from rfl, pX_r (by omega)]
end Cp
