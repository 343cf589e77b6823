/-! GLUE, second part: the law's walk out of one a_J -/
set_option maxRecDepth 100000 in
theorem fl_compact : Cond.eq (.static "java/lang/String" "COMPACT_STRINGS" "Z") (.int 1) ∈ flatC (Jvm.Cond.and given_1 narrow_1) := List.mem_of_getElem? (i := 4) (by decide +kernel)
set_option maxRecDepth 100000 in
theorem fl_sioobe : Cond.isRef (.static "jdk/internal/util/Preconditions" "SIOOBE_FORMATTER" "Ljava/util/function/BiFunction;") ∈ flatC (Jvm.Cond.and given_1 narrow_1) := List.mem_of_getElem? (i := 5) (by decide +kernel)
theorem W_mono {p : Program} {l : Launch} {e : Env} {R : Room} {s : State} {m : MethodId} {args : Array Value} {below : List Frame} {meth : Method} {c : Code} {H : Heap} {locs : List Loc} {cells slots : Nat} {Q Q2 : State → Prop} {g : JFrame} (h : W p l e R s m args below meth c H locs cells slots Q g) (hq : ∀ t, Q t → Q2 t) : W p l e R s m args below meth c H locs cells slots Q2 g := by
  intro T hT X
  obtain ⟨t, a, b⟩ := h T hT X
  exact ⟨t, a, hq t b⟩
theorem arr_of {s : State} {cA comp : ClassId} {kA : Class} {ty : FieldType} (h2 : s.vm.classes[cA]? = some kA) (h3 : kA.kind = .array comp ty) : ArrOfT s cA ty := fun n z => ⟨fun k h => (by cases h), kA, h2, comp, h3⟩
def tb (i : Nat) {w : Cond} (h : tables_1[i]? = some w) : w ∈ lw_tbl := List.mem_append_right _ (List.mem_of_getElem? h)
set_option maxHeartbeats 4000000 in
set_option maxRecDepth 100000 in
theorem law_of_J {p : Program} {e : Env} {s : State} {m : MethodId} {below : List Frame} {meth : Method} {c : Code} (l : Launch) {b L : Nat} {xs : Nat → Int32} (C0 : lw_At p s m meth c b L xs)
    (hJ : ∀ G : aG, G.1 = l → G.2.1 = s → G.2.2.2.2.2.2.1 = (b, L, xs) → a_J G m_law 12 260 0 [(0, .ref b)] [] (s.heap.size, 0, fun _ => none) (fun v τ => v = some (.int 1) ∧ τ.1 ≤ s.heap.size + 600000 ∧ τ.2.1 ≤ 7000000)) :
    W p l e room_1 s m #[Value.ref b] below meth c s.heap [] 0 0 (lw_Z below #[Value.ref b] s) (entryFrame m ([Value.ref b] : List Value).toArray 4) := by
  obtain ⟨hx, hb, hr, hml, hown, hts, hX, hbl, hlocks, hgv⟩ := C0
  have hs := flat_of_before _ hgv
  have hts2 : ∀ w ∈ aTs, w.before #[Value.ref b] s = true := fun w hw => hts w (List.mem_filter.mp hw).1
  have hA : ∀ a : Nat, a < s.heap.size → ¬ (fun q : Nat => s.heap.size ≤ q) a := fun a ha => Nat.not_le.mpr ha
  obtain ⟨c0, i0, k0⟩ := u_known (C := "PolicyText$Bytes") (T := T_B) (N := 3) (n := 3) hts2 in_B (hts2 _ ins_B)
  obtain ⟨c1, i1, k1⟩ := u_known (C := "PolicyText$Call") (T := T_C) (N := 4) (n := 4) hts2 in_C (hts2 _ ins_C)
  obtain ⟨c2, i2, k2⟩ := u_known (C := "PolicyText$Policy") (T := T_P) (N := 13) (n := 13) hts2 in_P (hts2 _ ins_P)
  obtain ⟨c3, i3, k3⟩ := u_known (C := "PolicyText$Printer") (T := T_W) (N := 3) (n := 3) hts2 in_W (hts2 _ ins_W)
  obtain ⟨c4, i4, k4⟩ := u_known (C := "PolicyText$Reader") (T := T_R) (N := 15) (n := 15) hts2 in_R (hts2 _ ins_R)
  obtain ⟨c5, i5, k5⟩ := u_known (C := "PolicyText$Tokens") (T := T_T) (N := 6) (n := 6) hts2 in_T (hts2 _ ins_T)
  obtain ⟨c6, i6, k6⟩ := u_known (C := "PolicyText") (T := T_X) (N := 7) (n := 7) hts2 in_X (hts2 _ ins_X)
  obtain ⟨c7, i7, k7⟩ := u_known (C := "PolicyTextModel") (T := T_M) (N := 53) (n := 53) hts2 in_M (hts2 _ ins_M)
  obtain ⟨dC, dI, hKc⟩ : ∃ (dC : Nat → ClassId) (dI : Nat → Nat → Nat), ∀ (k : Nat) (q : vw_C), vwCl[k]? = some q → u_Kn s q.1 q.2.1 q.2.2 (dC k) (dI k) := by
    refine ⟨fun k => match k with | 0 => c0 | 1 => c1 | 2 => c2 | 3 => c3 | 4 => c4 | 5 => c5 | 6 => c6 | _ => c7, fun k => match k with | 0 => i0 | 1 => i1 | 2 => i2 | 3 => i3 | 4 => i4 | 5 => i5 | 6 => i6 | _ => i7, ?_⟩
    intro k q hq
    match k, hq with
    | 0, hq => cases hq; exact k0
    | 1, hq => cases hq; exact k1
    | 2, hq => cases hq; exact k2
    | 3, hq => cases hq; exact k3
    | 4, hq => cases hq; exact k4
    | 5, hq => cases hq; exact k5
    | 6, hq => cases hq; exact k6
    | 7, hq => cases hq; exact k7
    | n + 8, hq => simp [vwCl] at hq
  obtain ⟨aI, kI, pI, fI, gI, eI⟩ := Cond.arrayClass_spec (hts2 _ ar_int)
  obtain ⟨aJ, kJ, pJ, fJ, gJ, eJ⟩ := Cond.arrayClass_spec (hts2 _ ar_long)
  obtain ⟨aZ, kZ, pZ, fZ, gZ, eZ⟩ := Cond.arrayClass_spec (hts2 _ ar_boolean)
  obtain ⟨dA, hd1, hd2, hd3⟩ : ∃ dA : FieldType → ClassId, dA .int = aI ∧ dA .long = aJ ∧ dA .boolean = aZ := ⟨fun t => match t with | .long => aJ | .boolean => aZ | _ => aI, rfl, rfl, rfl⟩
  have hKa : va_K (dC, dI) vwCl (a_tys dA) s := by
    refine ⟨hKc, fun k q hq => ?_⟩
    match k, hq with
    | 0, hq => cases hq; dsimp only; rw [hd1]; exact ⟨arr_of gI eI, fI⟩
    | 1, hq => cases hq; dsimp only; rw [hd2]; exact ⟨arr_of gJ eJ, fJ⟩
    | 2, hq => cases hq; dsimp only; rw [hd3]; exact ⟨arr_of gZ eZ, fZ⟩
    | n + 3, hq => simp [a_tys, aTy] at hq
  obtain ⟨ad, had⟩ := Classical.axiomOfChoice (glue_str (A := fun q : Nat => s.heap.size ≤ q) hA hs hts)
  have hZ1 : va_Z "java/lang/String" "COMPACT_STRINGS" "Z" (.int 1) (fun q : Nat => s.heap.size ≤ q) s s.heap := va_Zof (hts _ (tb 355 (by decide +kernel))) (hts _ (tb 9 (by decide +kernel))) (va_eqt (hs _ fl_compact)) hA
  obtain ⟨oz, hZ2⟩ : ∃ oz : Option Nat, va_Z "jdk/internal/util/Preconditions" "SIOOBE_FORMATTER" "Ljava/util/function/BiFunction;" (va_rf oz) (fun q : Nat => s.heap.size ≤ q) s s.heap := by
    rcases va_Zqof (hts _ (tb 371 (by decide +kernel))) (hts _ (tb 11 (by decide +kernel))) (hs _ fl_sioobe) hA with h | ⟨t, h⟩
    · exact ⟨none, h⟩
    · exact ⟨some t, h⟩
  have hN : va_Nw (.methodLinkNest "PolicyText" 45 m_C_init.1 "PolicyText") s := va_Nw.of rfl (hts _ (tb 174 (by decide +kernel)))
  have hKG : a_K (l, s, (dC, dI), dA, (fun j => (ad j).1), (fun j => (ad j).2), (b, L, xs), oz) := ⟨hKa, fun j hj => had j hj, hZ1, hZ2, hX, hbl, hN⟩
  obtain ⟨v, τ, ⟨hv, h6, h7⟩, g1, g2, hW⟩ := hJ (l, s, (dC, dI), dA, (fun j => (ad j).1), (fun j => (ad j).2), (b, L, xs), oz) rfl rfl rfl
  subst hv
  have g1' : s.heap.size ≤ τ.1 := g1
  have hl := lv_entry ([.ref b]) (n := 4) (Nat.le_of_ble_eq_true rfl)
  rw [lg_entry_eq]
  have hw := hW p e room_1 s m #[Value.ref b] below meth c s.heap [] 0 0 _ ⟨hx, hb, hr, hml, hown, hts2, hlocks, (fun h => absurd h (by decide)), hKG, State.WarmedH.refl s, by decide, by decide⟩ ⟨rfl, Nat.le_refl _, fun _ _ => rfl, fun a f hf => by cases hf⟩ (fun _ h => by cases h) hl (by show 0 + (τ.1 - s.heap.size) ≤ 600000; omega) (Nat.le_trans (show 0 + (τ.2.1 - 0) ≤ 7000000 by omega) (Nat.le_of_ble_eq_true rfl))
  refine W_mono hw (fun t ht => ?_)
  obtain ⟨o, q1, q2, ⟨q3, -⟩, Lc, ⟨q5, q6, q7⟩, q8⟩ := ht
  exact ⟨o, q1, q2, q3, q5, q6, q7.weaken (fun y hy hlt => absurd hlt (Nat.not_lt.mpr (q8 y hy))) (by show 0 + (τ.1 - s.heap.size) ≤ 600000; omega) (Nat.le_trans (show 0 + (τ.2.1 - 0) ≤ 7000000 by omega) (Nat.le_of_ble_eq_true rfl))⟩
