/-! SWITCHES, and small rows -/
theorem a_upd_1 {σ : aS} {a : Nat} {e : aE} : (a_upd σ a e).1 = σ.1 := rfl
theorem a_upd_2 {σ : aS} {a : Nat} {e : aE} : (a_upd σ a e).2.1 = σ.2.1 := rfl
theorem a_new_1 {σ : aS} {n : Nat} {e : aE} : (a_new σ n e).1 = σ.1 + 1 := rfl
theorem a_new_2 {σ : aS} {n : Nat} {e : aE} : (a_new σ n e).2.1 = σ.2.1 + n := rfl
theorem sw_ne {x a b : Int32} (h : x = a) (hab : ¬ a = b) : ¬ x = b := by rw [h]; exact hab
section Switch
variable {G : aG} {μ : aM} {d lo pc : Nat} {lv : List (Nat × Value)} {st : List Value} {σ : aS} {K : Option Value → aS → Prop}
set_option maxRecDepth 20000 in
theorem a_tsw3_0 {dflt o0 o1 o2 : Int} {len : Nat} {x : Int32} {t0 t1 t2 td : Nat} (hd : decode μ.2.1 pc = .ok (.tableswitch dflt 0 2 #[o0, o1, o2], len)) (h0 : (pc : Int) + o0 = (t0 : Int)) (h1 : (pc : Int) + o1 = (t1 : Int)) (h2 : (pc : Int) + o2 = (t2 : Int)) (hdt : (pc : Int) + dflt = (td : Int)) (k0 : x = 0 → a_J G μ d lo t0 lv st σ K) (k1 : x = 1 → a_J G μ d lo t1 lv st σ K) (k2 : x = 2 → a_J G μ d lo t2 lv st σ K) (kd : ¬ x = 0 → ¬ x = 1 → ¬ x = 2 → a_J G μ d lo td lv st σ K) : a_J G μ d lo pc lv (.int x :: st) σ K := by
  by_cases e0 : x = 0
  · subst e0
    exact a_tableIn hd (by decide) (by decide) (by rfl) h0 (k0 rfl)
  by_cases e1 : x = 1
  · subst e1
    exact a_tableIn hd (by decide) (by decide) (by rfl) h1 (k1 rfl)
  by_cases e2 : x = 2
  · subst e2
    exact a_tableIn hd (by decide) (by decide) (by rfl) h2 (k2 rfl)
  have f0 : x.toInt ≠ 0 := fun h => e0 (Int32.toInt_inj.mp (h.trans (by decide)))
  have f1 : x.toInt ≠ 1 := fun h => e1 (Int32.toInt_inj.mp (h.trans (by decide)))
  have f2 : x.toInt ≠ 2 := fun h => e2 (Int32.toInt_inj.mp (h.trans (by decide)))
  exact a_tableOut hd (by omega) hdt (kd e0 e1 e2)
set_option maxRecDepth 20000 in
theorem a_tsw4_0 {dflt o0 o1 o2 o3 : Int} {len : Nat} {x : Int32} {t0 t1 t2 t3 td : Nat} (hd : decode μ.2.1 pc = .ok (.tableswitch dflt 0 3 #[o0, o1, o2, o3], len)) (h0 : (pc : Int) + o0 = (t0 : Int)) (h1 : (pc : Int) + o1 = (t1 : Int)) (h2 : (pc : Int) + o2 = (t2 : Int)) (h3 : (pc : Int) + o3 = (t3 : Int)) (hdt : (pc : Int) + dflt = (td : Int)) (k0 : x = 0 → a_J G μ d lo t0 lv st σ K) (k1 : x = 1 → a_J G μ d lo t1 lv st σ K) (k2 : x = 2 → a_J G μ d lo t2 lv st σ K) (k3 : x = 3 → a_J G μ d lo t3 lv st σ K) (kd : ¬ x = 0 → ¬ x = 1 → ¬ x = 2 → ¬ x = 3 → a_J G μ d lo td lv st σ K) : a_J G μ d lo pc lv (.int x :: st) σ K := by
  by_cases e0 : x = 0
  · subst e0
    exact a_tableIn hd (by decide) (by decide) (by rfl) h0 (k0 rfl)
  by_cases e1 : x = 1
  · subst e1
    exact a_tableIn hd (by decide) (by decide) (by rfl) h1 (k1 rfl)
  by_cases e2 : x = 2
  · subst e2
    exact a_tableIn hd (by decide) (by decide) (by rfl) h2 (k2 rfl)
  by_cases e3 : x = 3
  · subst e3
    exact a_tableIn hd (by decide) (by decide) (by rfl) h3 (k3 rfl)
  have f0 : x.toInt ≠ 0 := fun h => e0 (Int32.toInt_inj.mp (h.trans (by decide)))
  have f1 : x.toInt ≠ 1 := fun h => e1 (Int32.toInt_inj.mp (h.trans (by decide)))
  have f2 : x.toInt ≠ 2 := fun h => e2 (Int32.toInt_inj.mp (h.trans (by decide)))
  have f3 : x.toInt ≠ 3 := fun h => e3 (Int32.toInt_inj.mp (h.trans (by decide)))
  exact a_tableOut hd (by omega) hdt (kd e0 e1 e2 e3)
set_option maxRecDepth 20000 in
theorem a_tsw7_0 {dflt o0 o1 o2 o3 o4 o5 o6 : Int} {len : Nat} {x : Int32} {t0 t1 t2 t3 t4 t5 t6 td : Nat} (hd : decode μ.2.1 pc = .ok (.tableswitch dflt 0 6 #[o0, o1, o2, o3, o4, o5, o6], len)) (h0 : (pc : Int) + o0 = (t0 : Int)) (h1 : (pc : Int) + o1 = (t1 : Int)) (h2 : (pc : Int) + o2 = (t2 : Int)) (h3 : (pc : Int) + o3 = (t3 : Int)) (h4 : (pc : Int) + o4 = (t4 : Int)) (h5 : (pc : Int) + o5 = (t5 : Int)) (h6 : (pc : Int) + o6 = (t6 : Int)) (hdt : (pc : Int) + dflt = (td : Int)) (k0 : x = 0 → a_J G μ d lo t0 lv st σ K) (k1 : x = 1 → a_J G μ d lo t1 lv st σ K) (k2 : x = 2 → a_J G μ d lo t2 lv st σ K) (k3 : x = 3 → a_J G μ d lo t3 lv st σ K) (k4 : x = 4 → a_J G μ d lo t4 lv st σ K) (k5 : x = 5 → a_J G μ d lo t5 lv st σ K) (k6 : x = 6 → a_J G μ d lo t6 lv st σ K) (kd : ¬ x = 0 → ¬ x = 1 → ¬ x = 2 → ¬ x = 3 → ¬ x = 4 → ¬ x = 5 → ¬ x = 6 → a_J G μ d lo td lv st σ K) : a_J G μ d lo pc lv (.int x :: st) σ K := by
  by_cases e0 : x = 0
  · subst e0
    exact a_tableIn hd (by decide) (by decide) (by rfl) h0 (k0 rfl)
  by_cases e1 : x = 1
  · subst e1
    exact a_tableIn hd (by decide) (by decide) (by rfl) h1 (k1 rfl)
  by_cases e2 : x = 2
  · subst e2
    exact a_tableIn hd (by decide) (by decide) (by rfl) h2 (k2 rfl)
  by_cases e3 : x = 3
  · subst e3
    exact a_tableIn hd (by decide) (by decide) (by rfl) h3 (k3 rfl)
  by_cases e4 : x = 4
  · subst e4
    exact a_tableIn hd (by decide) (by decide) (by rfl) h4 (k4 rfl)
  by_cases e5 : x = 5
  · subst e5
    exact a_tableIn hd (by decide) (by decide) (by rfl) h5 (k5 rfl)
  by_cases e6 : x = 6
  · subst e6
    exact a_tableIn hd (by decide) (by decide) (by rfl) h6 (k6 rfl)
  have f0 : x.toInt ≠ 0 := fun h => e0 (Int32.toInt_inj.mp (h.trans (by decide)))
  have f1 : x.toInt ≠ 1 := fun h => e1 (Int32.toInt_inj.mp (h.trans (by decide)))
  have f2 : x.toInt ≠ 2 := fun h => e2 (Int32.toInt_inj.mp (h.trans (by decide)))
  have f3 : x.toInt ≠ 3 := fun h => e3 (Int32.toInt_inj.mp (h.trans (by decide)))
  have f4 : x.toInt ≠ 4 := fun h => e4 (Int32.toInt_inj.mp (h.trans (by decide)))
  have f5 : x.toInt ≠ 5 := fun h => e5 (Int32.toInt_inj.mp (h.trans (by decide)))
  have f6 : x.toInt ≠ 6 := fun h => e6 (Int32.toInt_inj.mp (h.trans (by decide)))
  exact a_tableOut hd (by omega) hdt (kd e0 e1 e2 e3 e4 e5 e6)
set_option maxRecDepth 20000 in
theorem a_tsw17_0 {dflt o0 o1 o2 o3 o4 o5 o6 o7 o8 o9 o10 o11 o12 o13 o14 o15 o16 : Int} {len : Nat} {x : Int32} {t0 t1 t2 t3 t4 t5 t6 t7 t8 t9 t10 t11 t12 t13 t14 t15 t16 td : Nat} (hd : decode μ.2.1 pc = .ok (.tableswitch dflt 0 16 #[o0, o1, o2, o3, o4, o5, o6, o7, o8, o9, o10, o11, o12, o13, o14, o15, o16], len)) (h0 : (pc : Int) + o0 = (t0 : Int)) (h1 : (pc : Int) + o1 = (t1 : Int)) (h2 : (pc : Int) + o2 = (t2 : Int)) (h3 : (pc : Int) + o3 = (t3 : Int)) (h4 : (pc : Int) + o4 = (t4 : Int)) (h5 : (pc : Int) + o5 = (t5 : Int)) (h6 : (pc : Int) + o6 = (t6 : Int)) (h7 : (pc : Int) + o7 = (t7 : Int)) (h8 : (pc : Int) + o8 = (t8 : Int)) (h9 : (pc : Int) + o9 = (t9 : Int)) (h10 : (pc : Int) + o10 = (t10 : Int)) (h11 : (pc : Int) + o11 = (t11 : Int)) (h12 : (pc : Int) + o12 = (t12 : Int)) (h13 : (pc : Int) + o13 = (t13 : Int)) (h14 : (pc : Int) + o14 = (t14 : Int)) (h15 : (pc : Int) + o15 = (t15 : Int)) (h16 : (pc : Int) + o16 = (t16 : Int)) (hdt : (pc : Int) + dflt = (td : Int)) (k0 : x = 0 → a_J G μ d lo t0 lv st σ K) (k1 : x = 1 → a_J G μ d lo t1 lv st σ K) (k2 : x = 2 → a_J G μ d lo t2 lv st σ K) (k3 : x = 3 → a_J G μ d lo t3 lv st σ K) (k4 : x = 4 → a_J G μ d lo t4 lv st σ K) (k5 : x = 5 → a_J G μ d lo t5 lv st σ K) (k6 : x = 6 → a_J G μ d lo t6 lv st σ K) (k7 : x = 7 → a_J G μ d lo t7 lv st σ K) (k8 : x = 8 → a_J G μ d lo t8 lv st σ K) (k9 : x = 9 → a_J G μ d lo t9 lv st σ K) (k10 : x = 10 → a_J G μ d lo t10 lv st σ K) (k11 : x = 11 → a_J G μ d lo t11 lv st σ K) (k12 : x = 12 → a_J G μ d lo t12 lv st σ K) (k13 : x = 13 → a_J G μ d lo t13 lv st σ K) (k14 : x = 14 → a_J G μ d lo t14 lv st σ K) (k15 : x = 15 → a_J G μ d lo t15 lv st σ K) (k16 : x = 16 → a_J G μ d lo t16 lv st σ K) (kd : ¬ x = 0 → ¬ x = 1 → ¬ x = 2 → ¬ x = 3 → ¬ x = 4 → ¬ x = 5 → ¬ x = 6 → ¬ x = 7 → ¬ x = 8 → ¬ x = 9 → ¬ x = 10 → ¬ x = 11 → ¬ x = 12 → ¬ x = 13 → ¬ x = 14 → ¬ x = 15 → ¬ x = 16 → a_J G μ d lo td lv st σ K) : a_J G μ d lo pc lv (.int x :: st) σ K := by
  by_cases e0 : x = 0
  · subst e0
    exact a_tableIn hd (by decide) (by decide) (by rfl) h0 (k0 rfl)
  by_cases e1 : x = 1
  · subst e1
    exact a_tableIn hd (by decide) (by decide) (by rfl) h1 (k1 rfl)
  by_cases e2 : x = 2
  · subst e2
    exact a_tableIn hd (by decide) (by decide) (by rfl) h2 (k2 rfl)
  by_cases e3 : x = 3
  · subst e3
    exact a_tableIn hd (by decide) (by decide) (by rfl) h3 (k3 rfl)
  by_cases e4 : x = 4
  · subst e4
    exact a_tableIn hd (by decide) (by decide) (by rfl) h4 (k4 rfl)
  by_cases e5 : x = 5
  · subst e5
    exact a_tableIn hd (by decide) (by decide) (by rfl) h5 (k5 rfl)
  by_cases e6 : x = 6
  · subst e6
    exact a_tableIn hd (by decide) (by decide) (by rfl) h6 (k6 rfl)
  by_cases e7 : x = 7
  · subst e7
    exact a_tableIn hd (by decide) (by decide) (by rfl) h7 (k7 rfl)
  by_cases e8 : x = 8
  · subst e8
    exact a_tableIn hd (by decide) (by decide) (by rfl) h8 (k8 rfl)
  by_cases e9 : x = 9
  · subst e9
    exact a_tableIn hd (by decide) (by decide) (by rfl) h9 (k9 rfl)
  by_cases e10 : x = 10
  · subst e10
    exact a_tableIn hd (by decide) (by decide) (by rfl) h10 (k10 rfl)
  by_cases e11 : x = 11
  · subst e11
    exact a_tableIn hd (by decide) (by decide) (by rfl) h11 (k11 rfl)
  by_cases e12 : x = 12
  · subst e12
    exact a_tableIn hd (by decide) (by decide) (by rfl) h12 (k12 rfl)
  by_cases e13 : x = 13
  · subst e13
    exact a_tableIn hd (by decide) (by decide) (by rfl) h13 (k13 rfl)
  by_cases e14 : x = 14
  · subst e14
    exact a_tableIn hd (by decide) (by decide) (by rfl) h14 (k14 rfl)
  by_cases e15 : x = 15
  · subst e15
    exact a_tableIn hd (by decide) (by decide) (by rfl) h15 (k15 rfl)
  by_cases e16 : x = 16
  · subst e16
    exact a_tableIn hd (by decide) (by decide) (by rfl) h16 (k16 rfl)
  have f0 : x.toInt ≠ 0 := fun h => e0 (Int32.toInt_inj.mp (h.trans (by decide)))
  have f1 : x.toInt ≠ 1 := fun h => e1 (Int32.toInt_inj.mp (h.trans (by decide)))
  have f2 : x.toInt ≠ 2 := fun h => e2 (Int32.toInt_inj.mp (h.trans (by decide)))
  have f3 : x.toInt ≠ 3 := fun h => e3 (Int32.toInt_inj.mp (h.trans (by decide)))
  have f4 : x.toInt ≠ 4 := fun h => e4 (Int32.toInt_inj.mp (h.trans (by decide)))
  have f5 : x.toInt ≠ 5 := fun h => e5 (Int32.toInt_inj.mp (h.trans (by decide)))
  have f6 : x.toInt ≠ 6 := fun h => e6 (Int32.toInt_inj.mp (h.trans (by decide)))
  have f7 : x.toInt ≠ 7 := fun h => e7 (Int32.toInt_inj.mp (h.trans (by decide)))
  have f8 : x.toInt ≠ 8 := fun h => e8 (Int32.toInt_inj.mp (h.trans (by decide)))
  have f9 : x.toInt ≠ 9 := fun h => e9 (Int32.toInt_inj.mp (h.trans (by decide)))
  have f10 : x.toInt ≠ 10 := fun h => e10 (Int32.toInt_inj.mp (h.trans (by decide)))
  have f11 : x.toInt ≠ 11 := fun h => e11 (Int32.toInt_inj.mp (h.trans (by decide)))
  have f12 : x.toInt ≠ 12 := fun h => e12 (Int32.toInt_inj.mp (h.trans (by decide)))
  have f13 : x.toInt ≠ 13 := fun h => e13 (Int32.toInt_inj.mp (h.trans (by decide)))
  have f14 : x.toInt ≠ 14 := fun h => e14 (Int32.toInt_inj.mp (h.trans (by decide)))
  have f15 : x.toInt ≠ 15 := fun h => e15 (Int32.toInt_inj.mp (h.trans (by decide)))
  have f16 : x.toInt ≠ 16 := fun h => e16 (Int32.toInt_inj.mp (h.trans (by decide)))
  exact a_tableOut hd (by omega) hdt (kd e0 e1 e2 e3 e4 e5 e6 e7 e8 e9 e10 e11 e12 e13 e14 e15 e16)
set_option maxRecDepth 20000 in
theorem a_tsw17_1 {dflt o0 o1 o2 o3 o4 o5 o6 o7 o8 o9 o10 o11 o12 o13 o14 o15 o16 : Int} {len : Nat} {x : Int32} {t0 t1 t2 t3 t4 t5 t6 t7 t8 t9 t10 t11 t12 t13 t14 t15 t16 td : Nat} (hd : decode μ.2.1 pc = .ok (.tableswitch dflt 1 17 #[o0, o1, o2, o3, o4, o5, o6, o7, o8, o9, o10, o11, o12, o13, o14, o15, o16], len)) (h0 : (pc : Int) + o0 = (t0 : Int)) (h1 : (pc : Int) + o1 = (t1 : Int)) (h2 : (pc : Int) + o2 = (t2 : Int)) (h3 : (pc : Int) + o3 = (t3 : Int)) (h4 : (pc : Int) + o4 = (t4 : Int)) (h5 : (pc : Int) + o5 = (t5 : Int)) (h6 : (pc : Int) + o6 = (t6 : Int)) (h7 : (pc : Int) + o7 = (t7 : Int)) (h8 : (pc : Int) + o8 = (t8 : Int)) (h9 : (pc : Int) + o9 = (t9 : Int)) (h10 : (pc : Int) + o10 = (t10 : Int)) (h11 : (pc : Int) + o11 = (t11 : Int)) (h12 : (pc : Int) + o12 = (t12 : Int)) (h13 : (pc : Int) + o13 = (t13 : Int)) (h14 : (pc : Int) + o14 = (t14 : Int)) (h15 : (pc : Int) + o15 = (t15 : Int)) (h16 : (pc : Int) + o16 = (t16 : Int)) (hdt : (pc : Int) + dflt = (td : Int)) (k0 : x = 1 → a_J G μ d lo t0 lv st σ K) (k1 : x = 2 → a_J G μ d lo t1 lv st σ K) (k2 : x = 3 → a_J G μ d lo t2 lv st σ K) (k3 : x = 4 → a_J G μ d lo t3 lv st σ K) (k4 : x = 5 → a_J G μ d lo t4 lv st σ K) (k5 : x = 6 → a_J G μ d lo t5 lv st σ K) (k6 : x = 7 → a_J G μ d lo t6 lv st σ K) (k7 : x = 8 → a_J G μ d lo t7 lv st σ K) (k8 : x = 9 → a_J G μ d lo t8 lv st σ K) (k9 : x = 10 → a_J G μ d lo t9 lv st σ K) (k10 : x = 11 → a_J G μ d lo t10 lv st σ K) (k11 : x = 12 → a_J G μ d lo t11 lv st σ K) (k12 : x = 13 → a_J G μ d lo t12 lv st σ K) (k13 : x = 14 → a_J G μ d lo t13 lv st σ K) (k14 : x = 15 → a_J G μ d lo t14 lv st σ K) (k15 : x = 16 → a_J G μ d lo t15 lv st σ K) (k16 : x = 17 → a_J G μ d lo t16 lv st σ K) (kd : ¬ x = 1 → ¬ x = 2 → ¬ x = 3 → ¬ x = 4 → ¬ x = 5 → ¬ x = 6 → ¬ x = 7 → ¬ x = 8 → ¬ x = 9 → ¬ x = 10 → ¬ x = 11 → ¬ x = 12 → ¬ x = 13 → ¬ x = 14 → ¬ x = 15 → ¬ x = 16 → ¬ x = 17 → a_J G μ d lo td lv st σ K) : a_J G μ d lo pc lv (.int x :: st) σ K := by
  by_cases e0 : x = 1
  · subst e0
    exact a_tableIn hd (by decide) (by decide) (by rfl) h0 (k0 rfl)
  by_cases e1 : x = 2
  · subst e1
    exact a_tableIn hd (by decide) (by decide) (by rfl) h1 (k1 rfl)
  by_cases e2 : x = 3
  · subst e2
    exact a_tableIn hd (by decide) (by decide) (by rfl) h2 (k2 rfl)
  by_cases e3 : x = 4
  · subst e3
    exact a_tableIn hd (by decide) (by decide) (by rfl) h3 (k3 rfl)
  by_cases e4 : x = 5
  · subst e4
    exact a_tableIn hd (by decide) (by decide) (by rfl) h4 (k4 rfl)
  by_cases e5 : x = 6
  · subst e5
    exact a_tableIn hd (by decide) (by decide) (by rfl) h5 (k5 rfl)
  by_cases e6 : x = 7
  · subst e6
    exact a_tableIn hd (by decide) (by decide) (by rfl) h6 (k6 rfl)
  by_cases e7 : x = 8
  · subst e7
    exact a_tableIn hd (by decide) (by decide) (by rfl) h7 (k7 rfl)
  by_cases e8 : x = 9
  · subst e8
    exact a_tableIn hd (by decide) (by decide) (by rfl) h8 (k8 rfl)
  by_cases e9 : x = 10
  · subst e9
    exact a_tableIn hd (by decide) (by decide) (by rfl) h9 (k9 rfl)
  by_cases e10 : x = 11
  · subst e10
    exact a_tableIn hd (by decide) (by decide) (by rfl) h10 (k10 rfl)
  by_cases e11 : x = 12
  · subst e11
    exact a_tableIn hd (by decide) (by decide) (by rfl) h11 (k11 rfl)
  by_cases e12 : x = 13
  · subst e12
    exact a_tableIn hd (by decide) (by decide) (by rfl) h12 (k12 rfl)
  by_cases e13 : x = 14
  · subst e13
    exact a_tableIn hd (by decide) (by decide) (by rfl) h13 (k13 rfl)
  by_cases e14 : x = 15
  · subst e14
    exact a_tableIn hd (by decide) (by decide) (by rfl) h14 (k14 rfl)
  by_cases e15 : x = 16
  · subst e15
    exact a_tableIn hd (by decide) (by decide) (by rfl) h15 (k15 rfl)
  by_cases e16 : x = 17
  · subst e16
    exact a_tableIn hd (by decide) (by decide) (by rfl) h16 (k16 rfl)
  have f0 : x.toInt ≠ 1 := fun h => e0 (Int32.toInt_inj.mp (h.trans (by decide)))
  have f1 : x.toInt ≠ 2 := fun h => e1 (Int32.toInt_inj.mp (h.trans (by decide)))
  have f2 : x.toInt ≠ 3 := fun h => e2 (Int32.toInt_inj.mp (h.trans (by decide)))
  have f3 : x.toInt ≠ 4 := fun h => e3 (Int32.toInt_inj.mp (h.trans (by decide)))
  have f4 : x.toInt ≠ 5 := fun h => e4 (Int32.toInt_inj.mp (h.trans (by decide)))
  have f5 : x.toInt ≠ 6 := fun h => e5 (Int32.toInt_inj.mp (h.trans (by decide)))
  have f6 : x.toInt ≠ 7 := fun h => e6 (Int32.toInt_inj.mp (h.trans (by decide)))
  have f7 : x.toInt ≠ 8 := fun h => e7 (Int32.toInt_inj.mp (h.trans (by decide)))
  have f8 : x.toInt ≠ 9 := fun h => e8 (Int32.toInt_inj.mp (h.trans (by decide)))
  have f9 : x.toInt ≠ 10 := fun h => e9 (Int32.toInt_inj.mp (h.trans (by decide)))
  have f10 : x.toInt ≠ 11 := fun h => e10 (Int32.toInt_inj.mp (h.trans (by decide)))
  have f11 : x.toInt ≠ 12 := fun h => e11 (Int32.toInt_inj.mp (h.trans (by decide)))
  have f12 : x.toInt ≠ 13 := fun h => e12 (Int32.toInt_inj.mp (h.trans (by decide)))
  have f13 : x.toInt ≠ 14 := fun h => e13 (Int32.toInt_inj.mp (h.trans (by decide)))
  have f14 : x.toInt ≠ 15 := fun h => e14 (Int32.toInt_inj.mp (h.trans (by decide)))
  have f15 : x.toInt ≠ 16 := fun h => e15 (Int32.toInt_inj.mp (h.trans (by decide)))
  have f16 : x.toInt ≠ 17 := fun h => e16 (Int32.toInt_inj.mp (h.trans (by decide)))
  exact a_tableOut hd (by omega) hdt (kd e0 e1 e2 e3 e4 e5 e6 e7 e8 e9 e10 e11 e12 e13 e14 e15 e16)
theorem a_lvk {l : List (Nat × Value)} (k : a_J G μ d lo pc l st σ K) (h : a_has lv l) : a_J G μ d lo pc lv st σ K := a_lv l h k
theorem a_lsw2_0 {dflt o0 o1 : Int} {len : Nat} {x : Int32} {t0 t1 td : Nat} (hd : decode μ.2.1 pc = .ok (.lookupswitch dflt #[(0, o0), (1, o1)], len)) (h0 : (pc : Int) + o0 = (t0 : Int)) (h1 : (pc : Int) + o1 = (t1 : Int)) (hdt : (pc : Int) + dflt = (td : Int)) (k0 : x = 0 → a_J G μ d lo t0 lv st σ K) (k1 : x = 1 → a_J G μ d lo t1 lv st σ K) (kd : ¬ x = 0 → ¬ x = 1 → a_J G μ d lo td lv st σ K) : a_J G μ d lo pc lv (.int x :: st) σ K := by
  by_cases e0 : x = 0
  · subst e0
    exact a_lookup hd rfl (by rw [Op.lookupswitch.offset_cons, if_pos (by decide)]) h0 (k0 rfl)
  by_cases e1 : x = 1
  · subst e1
    exact a_lookup hd rfl (by rw [Op.lookupswitch.offset_cons, if_neg (by decide), Op.lookupswitch.offset_cons, if_pos (by decide)]) h1 (k1 rfl)
  refine a_lookup hd rfl ?_ hdt (kd e0 e1)
  have f0 : ¬ x.toInt = 0 := fun h => e0 (Int32.toInt_inj.mp (h.trans (by decide)))
  have f1 : ¬ x.toInt = 1 := fun h => e1 (Int32.toInt_inj.mp (h.trans (by decide)))
  show Op.lookupswitch.offset [(0, o0), (1, o1)] dflt x.toInt = dflt
  rw [Op.lookupswitch.offset_cons, if_neg (fun h => f0 h.symm), Op.lookupswitch.offset_cons, if_neg (fun h => f1 h.symm), Op.lookupswitch.offset_nil]
theorem a_ldcw {index : Nat} {v : Int32} (hd : decode μ.2.1 pc = .ok (.ldc_w index, 3)) (hw : Jvm.Cond.constant μ.1.cls index v ∈ aTs) (k : a_J G μ d lo (pc + 3) lv (.int v :: st) σ K) : a_J G μ d lo pc lv st σ K := a_step k (fun hX _ _ k => lv_ldcw hX.1 hX.2.1 hX.own (hX.ts _ hw) hd k)
end Switch
