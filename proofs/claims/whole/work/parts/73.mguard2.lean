/-! THE MODEL's readGuard: bound, op -/
def ccF (v : Nat) : Int32 := if v = 16 then -1 else nI v
def gOK (c : aN) (x : aX) (g : Nat) : Prop := x.2.2.1 25 g = nI (c.1 36 (g)) ∧ x.2.2.1 26 g = nI (c.1 37 (g)) ∧ (c.1 36 (g) = 1 → x.2.2.2 27 g = e27 (c.2.1 2 (g))) ∧ x.2.2.1 28 g = nI (c.1 38 (g)) ∧ x.2.2.1 29 g = c.2.2 (g) ∧ x.2.2.1 30 g = nI (c.1 39 (g))
def lOK (c : aN) (x : aX) (l : Nat) : Prop := x.2.2.1 31 (4 * l) = nI (c.1 41 (l)) ∧ x.2.2.1 31 (4 * l + 1) = nI (c.1 42 (l)) ∧ x.2.2.1 31 (4 * l + 2) = ccF (c.1 43 (l)) ∧ x.2.2.1 31 (4 * l + 3) = nI (c.1 44 (l))
/-- guards and looks are the machine's -/
def MGd (c : aN) (x : aX) : Prop := x.1 50 = nI (c.1 8 0) ∧ x.1 52 = nI (c.1 9 0) ∧ (∀ g, g < (c.1 8 0) → gOK c x g) ∧ (∀ l, l < (c.1 9 0) → lOK c x l)
/-- guards' registers and rows alone have changed -/
def PG (x y : aX) : Prop := (∀ k, ¬ k = 19 → ¬ k = 20 → ¬ k = 21 → ¬ k = 24 → ¬ k = 25 → ¬ k = 50 → ¬ k = 52 → y.1 k = x.1 k) ∧ ∀ a, a < 25 → y.2.2.1 a = x.2.2.1 a ∧ y.2.2.2 a = x.2.2.2 a
theorem PG.rf {x : aX} : PG x x := ⟨fun _ _ _ _ _ _ _ _ => rfl, fun _ _ => ⟨rfl, rfl⟩⟩
theorem PG.trans {x y z : aX} (h : PG x y) (g : PG y z) : PG x z := ⟨fun k a b c d e f i => (g.1 k a b c d e f i).trans (h.1 k a b c d e f i), fun a ha => ⟨(g.2 a ha).1.trans (h.2 a ha).1, (g.2 a ha).2.trans (h.2 a ha).2⟩⟩
theorem PT.pg {x y : aX} (h : PT x y) : PG x y := ⟨fun k a b c d e _ _ => h.2 k a b c d e, fun a _ => by rw [h.1]; exact ⟨rfl, rfl⟩⟩
theorem PG.mx {n : Nat} {f : Nat → Nat} {x y : aX} (h : PG x y) (g : MX x n f) : MX y n f := ⟨(h.1 18 (by decide) (by decide) (by decide) (by decide) (by decide) (by decide) (by decide)).trans g.1, g.2.1, by rw [(h.2 10 (by decide)).1]; exact g.2.2⟩
theorem LKA.keep {n : Nat} {f : Nat → Nat} {a : Nat} {x y : aX} (h : LKA n f a x) (h1 : ∀ k, 18 ≤ k → k ≤ 25 → y.1 k = x.1 k) (h2 : y.2.1 = x.2.1) (h3 : y.2.2.1 10 = x.2.2.1 10) : LKA n f a y := by
  obtain ⟨g1, g2, g3, g4, g5, g6, g7, g8⟩ := h
  exact ⟨⟨(h1 18 (by decide) (by decide)).trans g1.1, g1.2.1, by rw [h3]; exact g1.2.2⟩, g2, (h1 24 (by decide) (by decide)).trans g3, g4, (h1 19 (by decide) (by decide)).trans g5, (h1 21 (by decide) (by decide)).trans g6, (h1 20 (by decide) (by decide)).trans g7, by rw [h2]; exact g8.1, by rw [h2]; exact g8.2.1, (h1 25 (by decide) (by decide)).trans g8.2.2⟩
/-- the clause stays, but for its tests -/
def CG (c d : aN) : Prop := (∀ a, (a = 4 ∨ a = 5 ∨ a = 6 ∨ a = 7 ∨ a = 10 ∨ (20 ≤ a ∧ a ≤ 27) ∨ (29 ≤ a ∧ a ≤ 32) ∨ a = 34 ∨ a = 35) → d.1 a = c.1 a) ∧ (∀ r, ¬ r = (c.1 5 0) - 1 → d.1 28 r = c.1 28 r) ∧ (∀ r, ¬ r = (c.1 7 0) - 1 → d.1 33 r = c.1 33 r) ∧ d.2.1 0 = c.2.1 0 ∧ d.2.1 1 = c.2.1 1 ∧ d.2.1 3 = c.2.1 3
theorem CG.rf {c : aN} : CG c c := ⟨fun _ _ => rfl, fun _ _ => rfl, fun _ _ => rfl, rfl, rfl, rfl⟩
theorem CG.trans {c d e : aN} (h : CG c d) (g : CG d e) : CG c e := by
  have e5 : d.1 5 = c.1 5 := h.1 5 (by omega)
  have e7 : d.1 7 = c.1 7 := h.1 7 (by omega)
  refine ⟨fun a ha => (g.1 a ha).trans (h.1 a ha), fun r hr => ?_, fun r hr => ?_, g.2.2.2.1.trans h.2.2.2.1, g.2.2.2.2.1.trans h.2.2.2.2.1, g.2.2.2.2.2.trans h.2.2.2.2.2⟩
  · exact (g.2.1 r (by rw [e5]; exact hr)).trans (h.2.1 r hr)
  · exact (g.2.2.1 r (by rw [e7]; exact hr)).trans (h.2.2.1 r hr)
theorem SM.cg {c d : aN} (h : SM c d) : CG c d := ⟨fun a ha => h.1 a (by omega) (by omega) (by omega) (by omega) (by omega) (by omega), fun r _ => by rw [h.1 28 (by omega) (by omega) (by omega) (by omega) (by omega) (by omega)], fun r _ => by rw [h.1 33 (by omega) (by omega) (by omega) (by omega) (by omega) (by omega)], by rw [h.2], by rw [h.2], by rw [h.2]⟩
theorem CG_gt {c : aN} (t : aK) (s : Nat) : CG c (gt t c s) := SM.cg ⟨fun a h1 h2 _ _ _ _ => by show xN (xN c.1 0 0 s) 1 0 _ a = c.1 a; rw [xN_ne h2, xN_ne h1], rfl⟩
theorem CG_adt (c : aN) (v : Int32) : CG c (adt c v) := by
  by_cases hw : (c.1 10 0) = 0
  · refine ⟨fun a ha => ?_, fun r hr => by rw [adt0_RM hw, if_neg hr], fun r _ => by rw [adt0_WM hw], by unfold adt; rw [if_pos hw]; rfl, by unfold adt; rw [if_pos hw]; rfl, by unfold adt; rw [if_pos hw]; rfl⟩
    unfold adt; rw [if_pos hw]
    show xN (xN (xN (xN (xN (xN (xN (xN c.1 36 _ _) 37 _ _) 38 _ _) 39 _ _) 40 _ _) 13 _ _) 8 _ _) 28 _ _ a = c.1 a
    rw [xN_ne (by omega), xN_ne (by omega), xN_ne (by omega), xN_ne (by omega), xN_ne (by omega), xN_ne (by omega), xN_ne (by omega), xN_ne (by omega)]
  · refine ⟨fun a ha => ?_, fun r _ => by rw [adt1_RM hw], fun r hr => by rw [adt1_WM hw, if_neg hr], by unfold adt; rw [if_neg hw]; rfl, by unfold adt; rw [if_neg hw]; rfl, by unfold adt; rw [if_neg hw]; rfl⟩
    unfold adt; rw [if_neg hw]
    show xN (xN (xN (xN (xN (xN (xN (xN c.1 36 _ _) 37 _ _) 38 _ _) 39 _ _) 40 _ _) 13 _ _) 8 _ _) 33 _ _ a = c.1 a
    rw [xN_ne (by omega), xN_ne (by omega), xN_ne (by omega), xN_ne (by omega), xN_ne (by omega), xN_ne (by omega), xN_ne (by omega), xN_ne (by omega)]
/-- what readGuard leaves -/
def GP (n : Nat) (f : Nat → Nat) (c : aN) (y : aX) : Prop := (∃ d, aRc n f c d ∧ d.1 2 0 = 0 ∧ d.1 0 0 = 9 ∧ LKA n f (d.1 1 0) y ∧ MGd d y ∧ CG c d ∧ d.1 8 0 = (c.1 8 0) + 1) ∨ (BAD n f c y ∧ MX y n f)
theorem GP.of {n : Nat} {f : Nat → Nat} {c d : aN} {y : aX} (h : GP n f d y) (g : aRc n f c d) (k : CG c d) (e : d.1 8 0 = (c.1 8 0)) : GP n f c y := by
  rcases h with ⟨b, h1, h2, h3, h4, h5, h6, h7⟩ | ⟨h1, h2⟩
  · exact Or.inl ⟨b, g.trans h1, h2, h3, h4, h5, k.trans h6, by omega⟩
  · exact Or.inr ⟨h1.of g, h2⟩
/-- the guard that is being read, as far as it is known -/
def pd1 (c : aN) (x : aX) (tc : Nat) : Prop := x.2.2.1 25 (c.1 8 0) = nI tc ∧ x.2.2.1 30 (c.1 8 0) = nI ((c.1 12 0) % 2)
def pd2 (c : aN) (x : aX) : Prop := pd1 c x (c.1 14 0) ∧ x.2.2.1 26 (c.1 8 0) = nI (c.1 15 0) ∧ ((c.1 14 0) = 1 → x.2.2.2 27 (c.1 8 0) = e27 (c.2.1 4 (0)))
theorem MGd_SM {c d : aN} {x : aX} (h : MGd c x) (g : SM c d) : MGd d x := by
  have k := g.1
  unfold MGd gOK lOK
  rw [k 8 (by omega) (by omega) (by omega) (by omega) (by omega) (by omega), k 9 (by omega) (by omega) (by omega) (by omega) (by omega) (by omega), k 36 (by omega) (by omega) (by omega) (by omega) (by omega) (by omega), k 37 (by omega) (by omega) (by omega) (by omega) (by omega) (by omega), k 38 (by omega) (by omega) (by omega) (by omega) (by omega) (by omega), k 39 (by omega) (by omega) (by omega) (by omega) (by omega) (by omega), k 41 (by omega) (by omega) (by omega) (by omega) (by omega) (by omega), k 42 (by omega) (by omega) (by omega) (by omega) (by omega) (by omega), k 43 (by omega) (by omega) (by omega) (by omega) (by omega) (by omega), k 44 (by omega) (by omega) (by omega) (by omega) (by omega) (by omega), g.2]
  exact h
theorem MGd_PT {c : aN} {x y : aX} (h : MGd c x) (g : PT x y) : MGd c y := by
  unfold MGd gOK lOK
  rw [g.1, g.2 50 (by decide) (by decide) (by decide) (by decide) (by decide), g.2 52 (by decide) (by decide) (by decide) (by decide) (by decide)]
  exact h
theorem i32_64 (v : Int32) : v.toInt64.toInt32 = v := by
  apply Int32.toInt_inj.mp
  rw [Int64.toInt_toInt32, Int32.toInt_toInt64]
  have h1 := v.toInt_lt
  have h2 := v.le_toInt
  rw [Int.bmod_def]
  omega
section ModM9
variable {G : aG} {σ0 : aS} {K : Option Value → aS → Prop} {m n : Nat} {f : Nat → Nat} {x : aX} {c : aN}
set_option maxHeartbeats 1000000 in
set_option maxRecDepth 100000 in
theorem g_M_344B {w t : Int32} (h0 : ¬ x.1 24 = 0) (hK : K none (mk σ0 m x)) : a_J G m_M_readGuard 7 149 344 [(0, .ref m), (1, .int w), (2, .int t)] [] (mk σ0 m x) K := by
  refine a_aload_n d_M_readGuard_344 rfl rfl ?_
  refine a_aload_n d_M_readGuard_345 rfl rfl ?_
  refine m_get d_M_readGuard_346 f_M_149 rfl ?_
  refine a_iconst (v := 3) d_M_readGuard_349 (by decide) ?_
  refine a_icmp_ne (tgt := 357) d_M_readGuard_350 (by decide) (fun c_1 => ?_) (fun c_1 => ?_)
  · refine a_iconst (v := 0) d_M_readGuard_357 (by decide) ?_
    apply a_callV (ci := 7) 1 22 [_] _ d_M_readGuard_358 l_M_229 ⟨im_M_must, se_M_must⟩ rfl rfl rfl rfl (Nat.le_of_ble_eq_true rfl) ⟨Nat.le_of_ble_eq_true rfl, Nat.le_of_ble_eq_true rfl⟩
    · (exact mk_O)
    refine sp_M_mustB h0 ?_
    refine a_if_ne (tgt := 365) d_M_readGuard_361 (by decide) (fun n9 => absurd (rfl) n9) (fun c_2 => ?_)
    exact a_return d_M_readGuard_364 rfl hK
  · refine a_iconst (v := 1) d_M_readGuard_353 (by decide) ?_
    refine a_goto (tgt := 358) d_M_readGuard_354 (by decide) ?_
    apply a_callV (ci := 7) 1 22 [_] _ d_M_readGuard_358 l_M_229 ⟨im_M_must, se_M_must⟩ rfl rfl rfl rfl (Nat.le_of_ble_eq_true rfl) ⟨Nat.le_of_ble_eq_true rfl, Nat.le_of_ble_eq_true rfl⟩
    · (exact mk_O)
    refine sp_M_mustB h0 ?_
    refine a_if_ne (tgt := 365) d_M_readGuard_361 (by decide) (fun n9 => absurd (rfl) n9) (fun c_3 => ?_)
    exact a_return d_M_readGuard_364 rfl hK

set_option maxHeartbeats 1000000 in
set_option maxRecDepth 100000 in
theorem g_M_344F {w t : Int32} (ht : ¬ x.1 20 = 3) (hK : K none (mk σ0 m (muX x 0))) : a_J G m_M_readGuard 7 149 344 [(0, .ref m), (1, .int w), (2, .int t)] [] (mk σ0 m x) K := by
  refine a_aload_n d_M_readGuard_344 rfl rfl ?_
  refine a_aload_n d_M_readGuard_345 rfl rfl ?_
  refine m_get d_M_readGuard_346 f_M_149 rfl ?_
  refine a_iconst (v := 3) d_M_readGuard_349 (by decide) ?_
  refine a_icmp_ne (tgt := 357) d_M_readGuard_350 (by decide) (fun c_1 => ?_) (fun n9 => absurd n9 (ht))
  refine a_iconst (v := 0) d_M_readGuard_357 (by decide) ?_
  apply a_callV (ci := 7) 1 22 [_] _ d_M_readGuard_358 l_M_229 ⟨im_M_must, se_M_must⟩ rfl rfl rfl rfl (Nat.le_of_ble_eq_true rfl) ⟨Nat.le_of_ble_eq_true rfl, Nat.le_of_ble_eq_true rfl⟩
  · (exact mk_O)
  refine sp_M_mustF rfl ?_
  refine a_if_ne (tgt := 365) d_M_readGuard_361 (by decide) (fun n9 => absurd (rfl) n9) (fun c_2 => ?_)
  exact a_return d_M_readGuard_364 rfl hK

set_option maxHeartbeats 1000000 in
set_option maxRecDepth 100000 in
theorem g_M_344T {w t : Int32} {g a : Nat} (hT : MX x n f) (hA : x.1 19 = nI a) (ha : a ≤ n) (h0 : x.1 24 = 0) (ht : x.1 20 = 3) (hg : x.1 50 = nI g) (hg9 : g < 900) (hK : ∀ y, NX n f a (sI (sA x 29 g (x.2.1 23).toInt32) 50 (nI (g + 1))) y → a_J G m_M_readGuard 7 149 395 [(0, .ref m), (2, .int t), (3, .int (nI 0))] [] (mk σ0 m y) K) : a_J G m_M_readGuard 7 149 344 [(0, .ref m), (1, .int w), (2, .int t)] [] (mk σ0 m x) K := by
  refine a_aload_n d_M_readGuard_344 rfl rfl ?_
  refine a_aload_n d_M_readGuard_345 rfl rfl ?_
  refine m_get d_M_readGuard_346 f_M_149 rfl ?_
  refine a_iconst (v := 3) d_M_readGuard_349 (by decide) ?_
  refine a_icmp_ne (tgt := 357) d_M_readGuard_350 (by decide) (fun n9 => absurd (ht) n9) (fun c_1 => ?_)
  refine a_iconst (v := 1) d_M_readGuard_353 (by decide) ?_
  refine a_goto (tgt := 358) d_M_readGuard_354 (by decide) ?_
  apply a_callV (ci := 7) 1 22 [_] _ d_M_readGuard_358 l_M_229 ⟨im_M_must, se_M_must⟩ rfl rfl rfl rfl (Nat.le_of_ble_eq_true rfl) ⟨Nat.le_of_ble_eq_true rfl, Nat.le_of_ble_eq_true rfl⟩
  · (exact mk_O)
  refine sp_M_mustT (by decide) h0 ?_
  refine a_if_ne (tgt := 365) d_M_readGuard_361 (by decide) (fun c_2 => ?_) (fun n9 => absurd n9 (by decide))
  refine a_aload_n d_M_readGuard_365 rfl rfl ?_
  refine m_get d_M_readGuard_366 f_M_100 rfl ?_
  refine a_aload_n d_M_readGuard_369 rfl rfl ?_
  refine m_get (v := .int (nI g)) d_M_readGuard_370 f_M_248 (congrArg (fun z => some (Value.int z)) hg) ?_
  refine a_aload_n d_M_readGuard_373 rfl rfl ?_
  refine m_get d_M_readGuard_374 f_M_180 rfl ?_
  refine a_l2i d_M_readGuard_377 ?_
  refine m_iast d_M_readGuard_378 (by decide) rfl (vp_in_nI (show g < 900 by omega) (by decide)) ?_
  rw [nI_clamp (show g < 2 ^ 31 by omega)]
  refine a_aload_n d_M_readGuard_379 rfl rfl ?_
  refine a_dup d_M_readGuard_380 rfl ?_
  refine m_get (v := .int (nI g)) d_M_readGuard_381 f_M_248 (congrArg (fun z => some (Value.int z)) hg) ?_
  refine a_iconst (v := 1) d_M_readGuard_384 (by decide) ?_
  refine a_iadd d_M_readGuard_385 ?_
  rw [nI_1]
  refine m_putI d_M_readGuard_386 p_M_248 rfl rfl (by decide) ?_
  refine a_aload_n d_M_readGuard_389 rfl rfl ?_
  apply a_callV (ci := 7) 2 48 [] _ d_M_readGuard_390 l_M_233 ⟨im_M_next, se_M_next⟩ rfl rfl rfl rfl (Nat.le_of_ble_eq_true rfl) ⟨Nat.le_of_ble_eq_true rfl, Nat.le_of_ble_eq_true rfl⟩
  · (exact mk_O)
  refine sp_M_next (a := a) hT hA ha (fun y hy => ?_)
  refine a_iconst (v := 0) d_M_readGuard_393 (by decide) ?_
  refine a_istore_n d_M_readGuard_394 rfl (by decide) ?_
  exact a_lvk (hK y hy) ⟨rfl, rfl, rfl, trivial⟩

set_option maxHeartbeats 1000000 in
theorem g_M_344 {w : Int32} (hx : LKA n f (c.1 1 0) x) (h0 : (c.1 2 0) = 0) (hs : (c.1 0 0) = 16) (hA : AI c) (hJ : AJ n c) (hM : MGd c x) (hp : pd2 c x) (hh : x.2.2.1 28 (c.1 8 0) = nI (c.1 17 0)) (hK : ∀ y, PG x y → GP n f c y → K none (mk σ0 m y)) : a_J G m_M_readGuard 7 149 344 [(0, .ref m), (1, .int w), (2, .int (nI (c.1 12 0)))] [] (mk σ0 m x) K := by
  have hle := lx_le n f hx.2.1
  have hn4 := hx.1.2.1
  have hJ1 := hJ.1
  unfold J1 at hJ1
  have hQ6 := hA.2.2.2.2.2
  have hNT : (c.1 8 0) < 900 := by
    have q1 := hA.1.1
    have q2 := hA.1.2.1
    have q3 := hQ6.1
    have q4 := hQ6.2.1
    have q5 := hQ6.2.2.1
    have q6 : (c.1 4 0) = 0 ∨ c.1 21 ((c.1 4 0) - 1) ≤ 4 := by
      by_cases z : (c.1 4 0) = 0
      · exact Or.inl z
      · exact Or.inr (hA.1.2.2.1 _ (by omega))
    have q7 : (c.1 6 0) = 0 ∨ c.1 22 ((c.1 6 0) - 1) ≤ 8 := by
      by_cases z : (c.1 6 0) = 0
      · exact Or.inl z
      · exact Or.inr (hA.1.2.2.2 _ (by omega))
    have q8 : (c.1 4 0) = 0 → (c.1 5 0) = 0 := fun z => by
      by_cases y : (c.1 5 0) = 0
      · exact y
      · have := (hA.2.1 0 (by omega)).1; omega
    have q9 : (c.1 6 0) = 0 → (c.1 7 0) = 0 := fun z => by
      by_cases y : (c.1 7 0) = 0
      · exact y
      · have := (hA.2.2.1 0 (by omega)).1; omega
    omega
  have h16 := stT_16 (tok n f (c.1 1 0)) hs
  by_cases k4 : lxK n f (c.1 1 0) = 4
  · have hd : stT (tok n f (c.1 1 0)) c = gt (tok n f (c.1 1 0)) (adt c (tkV n f (c.1 1 0))) 17 := by rw [h16]; unfold a16; rw [if_pos (show (tok n f (c.1 1 0)).1 = 4 from k4)]; rfl
    have hx3 : LKA n f (c.1 1 0) (sI (sA x 29 (c.1 8 0) (x.2.1 23).toInt32) 50 (nI ((c.1 8 0) + 1))) := hx.keep (fun k h1 h2 => by show upd x.1 50 _ k = x.1 k; rw [pk_un (by omega)]) rfl rfl
    refine g_M_344T hx.1 hx.2.2.2.2.1 hle.2.2.2 hx.2.2.1 ((tk_3 hx).mpr k4) hM.1 hNT (fun y hy => ?_)
    have hFA : (adt c (tkV n f (c.1 1 0))).1 2 0 = 0 := (adt_FA2 c _).trans h0
    obtain ⟨hr, hl⟩ := step_LKA hx3 h0 (by omega) hd hFA (by show 1 ≤ 17; decide) (by show 17 ≤ 17; decide) rfl hy
    have hPG3 : PG x (sI (sA x 29 (c.1 8 0) (x.2.1 23).toInt32) 50 (nI ((c.1 8 0) + 1))) := ⟨fun k _ _ _ _ _ g6 _ => by show upd x.1 50 _ k = x.1 k; rw [pk_un g6], fun a ha => ⟨updA_ne (by omega), rfl⟩⟩
    have hPGy : PG x y := hPG3.trans hy.pt.pg
    rcases hl with hl | ⟨hl1, hl2⟩
    · have hCLN : (adt c (tkV n f (c.1 1 0))).1 13 0 = (c.1 12 0) + 1 ∧ (adt c (tkV n f (c.1 1 0))).1 8 0 = (c.1 8 0) + 1 ∧ (adt c (tkV n f (c.1 1 0))).1 9 = c.1 9 := by
        by_cases hw : (c.1 10 0) = 0
        · exact ⟨adt0_CL hw, adt0_NT hw, adt0_NL hw⟩
        · exact ⟨adt1_CL hw, adt1_NT hw, adt1_NL hw⟩
      have hMG : MGd (gt (tok n f (c.1 1 0)) (adt c (tkV n f (c.1 1 0))) 17) y := by
        refine MGd_PT (x := (sI (sA x 29 (c.1 8 0) (x.2.1 23).toInt32) 50 (nI ((c.1 8 0) + 1)))) (MGd_SM (c := adt c (tkV n f (c.1 1 0))) ?_ ⟨fun a h1 h2 _ _ _ _ => by show xN (xN _ 0 0 17) 1 0 _ a = _; rw [xN_ne h2, xN_ne h1], rfl⟩) hy.pt
        refine ⟨by rw [hCLN.2.1]; rfl, by rw [hCLN.2.2]; exact hM.2.1, fun g hg => ?_, fun l hl => ?_⟩
        · rw [hCLN.2.1] at hg
          have hB := adt_B c (tkV n f (c.1 1 0))
          have hL2 := adt_L2 c (tkV n f (c.1 1 0)) g
          have hF : (adt c (tkV n f (c.1 1 0))).1 36 g = (if g = (c.1 8 0) then (c.1 14 0) else c.1 36 (g)) ∧ (adt c (tkV n f (c.1 1 0))).1 37 g = (if g = (c.1 8 0) then (c.1 15 0) else c.1 37 (g)) ∧ (adt c (tkV n f (c.1 1 0))).1 38 g = (if g = (c.1 8 0) then (c.1 17 0) else c.1 38 (g)) ∧ (adt c (tkV n f (c.1 1 0))).1 39 g = (if g = (c.1 8 0) then (c.1 12 0) % 2 else c.1 39 (g)) := by
            by_cases hw : (c.1 10 0) = 0
            · exact ⟨adt0_TC hw g, adt0_TW hw g, adt0_TP hw g, adt0_TT hw g⟩
            · exact ⟨adt1_TC hw g, adt1_TW hw g, adt1_TP hw g, adt1_TT hw g⟩
          unfold gOK
          rw [hF.1, hF.2.1, hF.2.2.1, hF.2.2.2, hB, hL2]
          show x.2.2.1 25 g = _ ∧ x.2.2.1 26 g = _ ∧ (_ → x.2.2.2 27 g = _) ∧ x.2.2.1 28 g = _ ∧ updA x.2.2.1 29 (c.1 8 0) (x.2.1 23).toInt32 29 g = upd c.2.2 (c.1 8 0) (tkV n f (c.1 1 0)) g ∧ x.2.2.1 30 g = _
          rw [updA_eq]
          by_cases e : g = (c.1 8 0)
          · rw [if_pos e, if_pos e, if_pos e, if_pos e, if_pos e, e, pk_us, pk_us]
            exact ⟨hp.1.1, hp.2.1, hp.2.2, hh, by rw [hx.2.2.2.2.2.2.2.2.1 k4, i32_64], hp.1.2⟩
          · rw [if_neg e, if_neg e, if_neg e, if_neg e, if_neg e, pk_un e, pk_un e]
            exact hM.2.2.1 g (by omega)
        · rw [hCLN.2.2] at hl
          have hF : (adt c (tkV n f (c.1 1 0))).1 41 = c.1 41 ∧ (adt c (tkV n f (c.1 1 0))).1 42 = c.1 42 ∧ (adt c (tkV n f (c.1 1 0))).1 43 = c.1 43 ∧ (adt c (tkV n f (c.1 1 0))).1 44 = c.1 44 := by
            by_cases hw : (c.1 10 0) = 0
            · exact ⟨adt0_LW hw, adt0_LO hw, adt0_LC hw, adt0_LP hw⟩
            · exact ⟨adt1_LW hw, adt1_LO hw, adt1_LC hw, adt1_LP hw⟩
          unfold lOK
          rw [hF.1, hF.2.1, hF.2.2.1, hF.2.2.2]
          exact hM.2.2.2 l hl
      refine lp_M_close (t := (c.1 12 0)) (by omega) ((c.1 12 0) + 1) 0 (gt (tok n f (c.1 1 0)) (adt c (tkV n f (c.1 1 0))) 17) (by omega) hl hFA (by rw [if_neg (by omega)]; rfl) hCLN.1 (fun z hz hq => hK z (hPGy.trans hz.pg) ?_)
      rcases hq with ⟨d, q1, q2, q3, q4, q5⟩ | ⟨q1, q2⟩
      · exact Or.inl ⟨d, hr.trans q1, q2, q3, q4, MGd_PT (MGd_SM hMG q5) hz, ((CG_adt c _).trans (CG_gt _ _)).trans q5.cg, by rw [q5.1 8 (by omega) (by omega) (by omega) (by omega) (by omega) (by omega)]; exact hCLN.2.1⟩
      · exact Or.inr ⟨q1.of hr, q2⟩
    · exact lp_M_closeB (t := (c.1 12 0)) (by omega) hl1.ne (hK y hPGy (Or.inr ⟨hl1, hl2⟩)) ((c.1 12 0) + 1) 0 (by omega)
  · have hd : stT (tok n f (c.1 1 0)) c = wr (tok n f (c.1 1 0)) c := by rw [h16]; unfold a16; rw [if_neg (show ¬ (tok n f (c.1 1 0)).1 = 4 from k4)]
    exact g_M_344F (fun z => k4 ((tk_3 hx).mp z)) (hK _ (PT.mu x).pg (Or.inr ⟨BAD_must hx h0 (by omega) hd, (PT.mu x).mx hx.1⟩))
end ModM9
