/-! POLICY, seventh part: the constructor, moveCounters -/
theorem a_nsE {σ : aS} {n b : Nat} {e : aE} (h : b = σ.1) : (a_new σ n e).2.2 b = some e := by subst h; exact a_ns
theorem isT_7 {q : aP} {l : aC} {L : Nat → Int32} {r : Int32} : isT (q.1, q.2.1, setA q.2.2 7 L) l r = isT q l r := rfl
theorem apF_7 {q : aP} {l : aC} {L : Nat → Int32} {r : Nat} : ∀ n i : Nat, apF (q.1, q.2.1, setA q.2.2 7 L) l r i n = apF q l r i n := by
  intro n
  induction n with
  | zero => intro i; rfl
  | succ n ih => intro i; rw [apF, apF, isT_7, ih]
theorem crow_7 {q : aP} {L : Nat → Int32} {w k j : Int32} : crow (q.1, q.2.1, setA q.2.2 7 L) w k j = crow q w k j := rfl
theorem app_7 {q : aP} {l : aC} {L : Nat → Int32} {w k j : Int32} : app (q.1, q.2.1, setA q.2.2 7 L) l w k j = app q l w k j := by
  rw [app, app, crow_7, apF_7]
  rfl
theorem clpart_7 {q : aP} {L : Nat → Int32} {w k j x : Int32} : clpart (q.1, q.2.1, setA q.2.2 7 L) w k j x = clpart q w k j x := rfl
theorem saF_7 {q : aP} {l : aC} {L : Nat → Int32} {k : Nat} : ∀ n j : Nat, saF (q.1, q.2.1, setA q.2.2 7 L) l k j n = saF q l k j n := by
  intro n
  induction n with
  | zero => intro j; rfl
  | succ n ih =>
    intro j
    rw [saF, saF, app_7, ih, clpart_7]
    rfl
theorem saV_7 {q : aP} {l : aC} {L : Nat → Int32} {k : Nat} : saV (q.1, q.2.1, setA q.2.2 7 L) l k = saV q l k := by
  rw [saV, saV, saF_7]
  rfl
section ModP7
variable {G : aG} {σ : aS} {K : Option Value → aS → Prop} {p cc : Nat} {q : aP} {l : aC}
set_option maxHeartbeats 4000000 in
set_option maxRecDepth 100000 in
theorem sp_P_init (h0 : σ.2.2 p = some (.inr (2, [.int 0, .int 0, .int 0, .null, .null, .null, .null, .null, .null, .null, .null, .null, .null]))) (hn : σ.1 = p + 1) (hK : ∀ τ, τ.1 = p + 11 → τ.2.1 = σ.2.1 + 2454 → (∀ a, (a < p ∨ p + 11 ≤ a) → τ.2.2 a = σ.2.2 a) → PO τ p ((0, 0, 0), (fun _ => 0), (fun _ _ => 0)) → K none τ) : a_C G m_P_init 1 20 [.ref p] σ K := by
  refine a_enter rfl (Nat.le_of_ble_eq_true rfl) ?_
  refine a_aload_n d_P_init_0 rfl rfl ?_
  refine a_objinit d_P_init_1 o_P (Nat.le_of_ble_eq_true rfl) ⟨Nat.le_of_ble_eq_true rfl, Nat.le_of_ble_eq_true rfl⟩ ?_
  refine a_aload_n d_P_init_4 rfl rfl ?_
  refine a_bipush (v := 30) d_P_init_5 (by decide) ?_
  refine a_newarr (t0 := 1) (N := 30) (x := (30, .inr (.inl (fun _ => 0)))) d_P_init_7 rfl rfl ar_long (fun _ => rfl) (by decide) (by decide) (by decide) ?_
  simp only [a_upd_1, a_new_1, hn, Nat.add_assoc, Nat.reduceAdd]
  apply a_putfinal d_P_init_9 p_P_11 rfl
  · (repeat (first | with_reducible assumption | with_reducible exact a_us | with_reducible exact a_ns | refine a_un (by first | with_reducible assumption | omega) ?_ | refine a_nn (by first | with_reducible assumption | omega | (simp only [a_upd_1, a_new_1]; omega)) ?_ | exact a_us | exact a_ns))
  · first | rfl | assumption
  · first | rfl | assumption
  · exact Nat.le_of_ble_eq_true rfl
  refine a_aload_n d_P_init_12 rfl rfl ?_
  refine a_bipush (v := 30) d_P_init_13 (by decide) ?_
  refine a_newarr (t0 := 0) (N := 30) (x := (30, .inl (fun _ => 0))) d_P_init_15 rfl rfl ar_int (fun _ => rfl) (by decide) (by decide) (by decide) ?_
  simp only [a_upd_1, a_new_1, hn, Nat.add_assoc, Nat.reduceAdd]
  apply a_putfinal d_P_init_17 p_P_15 rfl
  · (repeat (first | with_reducible assumption | with_reducible exact a_us | with_reducible exact a_ns | refine a_un (by first | with_reducible assumption | omega) ?_ | refine a_nn (by first | with_reducible assumption | omega | (simp only [a_upd_1, a_new_1]; omega)) ?_ | exact a_us | exact a_ns))
  · first | rfl | assumption
  · first | rfl | assumption
  · exact Nat.le_of_ble_eq_true rfl
  refine a_aload_n d_P_init_20 rfl rfl ?_
  refine a_bipush (v := 6) d_P_init_21 (by decide) ?_
  refine a_newarr (t0 := 0) (N := 6) (x := (6, .inl (fun _ => 0))) d_P_init_23 rfl rfl ar_int (fun _ => rfl) (by decide) (by decide) (by decide) ?_
  simp only [a_upd_1, a_new_1, hn, Nat.add_assoc, Nat.reduceAdd]
  apply a_putfinal d_P_init_25 p_P_19 rfl
  · (repeat (first | with_reducible assumption | with_reducible exact a_us | with_reducible exact a_ns | refine a_un (by first | with_reducible assumption | omega) ?_ | refine a_nn (by first | with_reducible assumption | omega | (simp only [a_upd_1, a_new_1]; omega)) ?_ | exact a_us | exact a_ns))
  · first | rfl | assumption
  · first | rfl | assumption
  · exact Nat.le_of_ble_eq_true rfl
  refine a_aload_n d_P_init_28 rfl rfl ?_
  refine a_bipush (v := 6) d_P_init_29 (by decide) ?_
  refine a_newarr (t0 := 0) (N := 6) (x := (6, .inl (fun _ => 0))) d_P_init_31 rfl rfl ar_int (fun _ => rfl) (by decide) (by decide) (by decide) ?_
  simp only [a_upd_1, a_new_1, hn, Nat.add_assoc, Nat.reduceAdd]
  apply a_putfinal d_P_init_33 p_P_22 rfl
  · (repeat (first | with_reducible assumption | with_reducible exact a_us | with_reducible exact a_ns | refine a_un (by first | with_reducible assumption | omega) ?_ | refine a_nn (by first | with_reducible assumption | omega | (simp only [a_upd_1, a_new_1]; omega)) ?_ | exact a_us | exact a_ns))
  · first | rfl | assumption
  · first | rfl | assumption
  · exact Nat.le_of_ble_eq_true rfl
  refine a_aload_n d_P_init_36 rfl rfl ?_
  refine a_bipush (v := 6) d_P_init_37 (by decide) ?_
  refine a_newarr (t0 := 0) (N := 6) (x := (6, .inl (fun _ => 0))) d_P_init_39 rfl rfl ar_int (fun _ => rfl) (by decide) (by decide) (by decide) ?_
  simp only [a_upd_1, a_new_1, hn, Nat.add_assoc, Nat.reduceAdd]
  apply a_putfinal d_P_init_41 p_P_25 rfl
  · (repeat (first | with_reducible assumption | with_reducible exact a_us | with_reducible exact a_ns | refine a_un (by first | with_reducible assumption | omega) ?_ | refine a_nn (by first | with_reducible assumption | omega | (simp only [a_upd_1, a_new_1]; omega)) ?_ | exact a_us | exact a_ns))
  · first | rfl | assumption
  · first | rfl | assumption
  · exact Nat.le_of_ble_eq_true rfl
  refine a_aload_n d_P_init_44 rfl rfl ?_
  refine a_sipush (v := 216) d_P_init_45 (by decide) ?_
  refine a_newarr (t0 := 0) (N := 216) (x := (216, .inl (fun _ => 0))) d_P_init_48 rfl rfl ar_int (fun _ => rfl) (by decide) (by decide) (by decide) ?_
  simp only [a_upd_1, a_new_1, hn, Nat.add_assoc, Nat.reduceAdd]
  apply a_putfinal d_P_init_50 p_P_28 rfl
  · (repeat (first | with_reducible assumption | with_reducible exact a_us | with_reducible exact a_ns | refine a_un (by first | with_reducible assumption | omega) ?_ | refine a_nn (by first | with_reducible assumption | omega | (simp only [a_upd_1, a_new_1]; omega)) ?_ | exact a_us | exact a_ns))
  · first | rfl | assumption
  · first | rfl | assumption
  · exact Nat.le_of_ble_eq_true rfl
  refine a_aload_n d_P_init_53 rfl rfl ?_
  refine a_sipush (v := 216) d_P_init_54 (by decide) ?_
  refine a_newarr (t0 := 0) (N := 216) (x := (216, .inl (fun _ => 0))) d_P_init_57 rfl rfl ar_int (fun _ => rfl) (by decide) (by decide) (by decide) ?_
  simp only [a_upd_1, a_new_1, hn, Nat.add_assoc, Nat.reduceAdd]
  apply a_putfinal d_P_init_59 p_P_31 rfl
  · (repeat (first | with_reducible assumption | with_reducible exact a_us | with_reducible exact a_ns | refine a_un (by first | with_reducible assumption | omega) ?_ | refine a_nn (by first | with_reducible assumption | omega | (simp only [a_upd_1, a_new_1]; omega)) ?_ | exact a_us | exact a_ns))
  · first | rfl | assumption
  · first | rfl | assumption
  · exact Nat.le_of_ble_eq_true rfl
  refine a_aload_n d_P_init_62 rfl rfl ?_
  refine a_sipush (v := 216) d_P_init_63 (by decide) ?_
  refine a_newarr (t0 := 0) (N := 216) (x := (216, .inl (fun _ => 0))) d_P_init_66 rfl rfl ar_int (fun _ => rfl) (by decide) (by decide) (by decide) ?_
  simp only [a_upd_1, a_new_1, hn, Nat.add_assoc, Nat.reduceAdd]
  apply a_putfinal d_P_init_68 p_P_34 rfl
  · (repeat (first | with_reducible assumption | with_reducible exact a_us | with_reducible exact a_ns | refine a_un (by first | with_reducible assumption | omega) ?_ | refine a_nn (by first | with_reducible assumption | omega | (simp only [a_upd_1, a_new_1]; omega)) ?_ | exact a_us | exact a_ns))
  · first | rfl | assumption
  · first | rfl | assumption
  · exact Nat.le_of_ble_eq_true rfl
  refine a_aload_n d_P_init_71 rfl rfl ?_
  refine a_sipush (v := 864) d_P_init_72 (by decide) ?_
  refine a_newarr (t0 := 0) (N := 864) (x := (864, .inl (fun _ => 0))) d_P_init_75 rfl rfl ar_int (fun _ => rfl) (by decide) (by decide) (by decide) ?_
  simp only [a_upd_1, a_new_1, hn, Nat.add_assoc, Nat.reduceAdd]
  apply a_putfinal d_P_init_77 p_P_37 rfl
  · (repeat (first | with_reducible assumption | with_reducible exact a_us | with_reducible exact a_ns | refine a_un (by first | with_reducible assumption | omega) ?_ | refine a_nn (by first | with_reducible assumption | omega | (simp only [a_upd_1, a_new_1]; omega)) ?_ | exact a_us | exact a_ns))
  · first | rfl | assumption
  · first | rfl | assumption
  · exact Nat.le_of_ble_eq_true rfl
  refine a_aload_n d_P_init_80 rfl rfl ?_
  refine a_sipush (v := 864) d_P_init_81 (by decide) ?_
  refine a_newarr (t0 := 0) (N := 864) (x := (864, .inl (fun _ => 0))) d_P_init_84 rfl rfl ar_int (fun _ => rfl) (by decide) (by decide) (by decide) ?_
  simp only [a_upd_1, a_new_1, hn, Nat.add_assoc, Nat.reduceAdd]
  apply a_putfinal d_P_init_86 p_P_40 rfl
  · (repeat (first | with_reducible assumption | with_reducible exact a_us | with_reducible exact a_ns | refine a_un (by first | with_reducible assumption | omega) ?_ | refine a_nn (by first | with_reducible assumption | omega | (simp only [a_upd_1, a_new_1]; omega)) ?_ | exact a_us | exact a_ns))
  · first | rfl | assumption
  · first | rfl | assumption
  · exact Nat.le_of_ble_eq_true rfl
  refine a_return d_P_init_89 rfl ?_
  refine hK _ (by simp only [a_upd_1, a_new_1]; omega) (by simp only [a_upd_2, a_new_2]) (fun a ha => ?_) ⟨?_, ?_, ?_, ?_, ?_, ?_, ?_, ?_, ?_, ?_, ?_, ?_⟩
  · (repeat (first | refine a_un (by omega) ?_ | refine a_nn (by first | omega | (simp only [a_upd_1, a_new_1]; omega)) ?_))
    rfl
  · (repeat (first | refine a_un (by omega) ?_ | exact a_us | refine a_nn (by first | omega | (simp only [a_upd_1, a_new_1]; omega)) ?_ | exact a_nsE (by first | omega | (simp only [a_upd_1, a_new_1]; omega))))
  · (repeat (first | refine a_un (by omega) ?_ | exact a_us | refine a_nn (by first | omega | (simp only [a_upd_1, a_new_1]; omega)) ?_ | exact a_nsE (by first | omega | (simp only [a_upd_1, a_new_1]; omega))))
  · (repeat (first | refine a_un (by omega) ?_ | exact a_us | refine a_nn (by first | omega | (simp only [a_upd_1, a_new_1]; omega)) ?_ | exact a_nsE (by first | omega | (simp only [a_upd_1, a_new_1]; omega))))
  · (repeat (first | refine a_un (by omega) ?_ | exact a_us | refine a_nn (by first | omega | (simp only [a_upd_1, a_new_1]; omega)) ?_ | exact a_nsE (by first | omega | (simp only [a_upd_1, a_new_1]; omega))))
  · (repeat (first | refine a_un (by omega) ?_ | exact a_us | refine a_nn (by first | omega | (simp only [a_upd_1, a_new_1]; omega)) ?_ | exact a_nsE (by first | omega | (simp only [a_upd_1, a_new_1]; omega))))
  · (repeat (first | refine a_un (by omega) ?_ | exact a_us | refine a_nn (by first | omega | (simp only [a_upd_1, a_new_1]; omega)) ?_ | exact a_nsE (by first | omega | (simp only [a_upd_1, a_new_1]; omega))))
  · (repeat (first | refine a_un (by omega) ?_ | exact a_us | refine a_nn (by first | omega | (simp only [a_upd_1, a_new_1]; omega)) ?_ | exact a_nsE (by first | omega | (simp only [a_upd_1, a_new_1]; omega))))
  · (repeat (first | refine a_un (by omega) ?_ | exact a_us | refine a_nn (by first | omega | (simp only [a_upd_1, a_new_1]; omega)) ?_ | exact a_nsE (by first | omega | (simp only [a_upd_1, a_new_1]; omega))))
  · (repeat (first | refine a_un (by omega) ?_ | exact a_us | refine a_nn (by first | omega | (simp only [a_upd_1, a_new_1]; omega)) ?_ | exact a_nsE (by first | omega | (simp only [a_upd_1, a_new_1]; omega))))
  · (repeat (first | refine a_un (by omega) ?_ | exact a_us | refine a_nn (by first | omega | (simp only [a_upd_1, a_new_1]; omega)) ?_ | exact a_nsE (by first | omega | (simp only [a_upd_1, a_new_1]; omega))))
  · (repeat (first | refine a_un (by omega) ?_ | exact a_us | refine a_nn (by first | omega | (simp only [a_upd_1, a_new_1]; omega)) ?_ | exact a_nsE (by first | omega | (simp only [a_upd_1, a_new_1]; omega))))
  · exact ⟨Nat.zero_le _, Nat.zero_le _, fun _ _ => ⟨0, by omega, rfl⟩, fun _ _ => ⟨0, by omega, rfl⟩, fun _ _ => ⟨0, by omega, rfl⟩⟩

set_option maxHeartbeats 4000000 in
set_option maxRecDepth 100000 in
theorem lp_P_move1 (hcd : cc < p ∨ p + 11 ≤ cc) (hk6 : q.1.1 ≤ 6) : ∀ (m i : Nat) {σ : aS} (L : Nat → Int32), PO σ p (q.1, q.2.1, setA q.2.2 7 L) → CO σ cc l → i + m = q.1.1 → (∀ j, j < i → L j = saV q l j) → (∀ τ L2, a_fr σ τ p (p + 11) → PO τ p (q.1, q.2.1, setA q.2.2 7 L2) → CO τ cc l → (∀ j, j < q.1.1 → L2 j = saV q l j) → a_J G m_P_moveCounters 5 124 28 [(0, .ref p), (1, .ref cc)] [] τ K) → a_J G m_P_moveCounters 5 124 2 [(0, .ref p), (1, .ref cc), (2, .int (nI i))] [] σ K := by
  intro m
  induction m with
  | zero =>
    intro i σ L hP hC hi hL hK
    obtain ⟨h0, h1, h2, h3, h4, h5, h6, h7, h8, h9, h10, hI⟩ := id hP
    have hC0 : σ.2.2 cc = some (.inr (1, [.int l.1, .int l.2.1, .int l.2.2.1, .int l.2.2.2])) := hC
    refine a_iload_n d_P_moveCounters_2 rfl rfl ?_
    refine a_aload_n d_P_moveCounters_3 rfl rfl ?_
    apply a_getfield d_P_moveCounters_4 f_P_47
    · (repeat (first | with_reducible assumption | with_reducible exact a_us | with_reducible exact a_ns | refine a_un (by first | with_reducible assumption | omega) ?_ | refine a_nn (by first | with_reducible assumption | omega | (simp only [a_upd_1, a_new_1]; omega)) ?_ | exact a_us | exact a_ns))
    · rfl
    refine a_icmp_ge (tgt := 28) d_P_moveCounters_7 (by decide) (fun c_1 => ?_) (fun n9 => absurd (by show nI q.1.1 ≤ nI i; rw [show i = q.1.1 by omega]; exact Int32.le_refl _) n9)
    exact a_lvk (hK σ L a_fr.rf hP hC (fun j hj => hL j (by omega))) ⟨rfl, rfl, trivial⟩
  | succ m ih =>
    intro i σ L hP hC hi hL hK
    obtain ⟨h0, h1, h2, h3, h4, h5, h6, h7, h8, h9, h10, hI⟩ := id hP
    have hC0 : σ.2.2 cc = some (.inr (1, [.int l.1, .int l.2.1, .int l.2.2.1, .int l.2.2.2])) := hC
    refine a_iload_n d_P_moveCounters_2 rfl rfl ?_
    refine a_aload_n d_P_moveCounters_3 rfl rfl ?_
    apply a_getfield d_P_moveCounters_4 f_P_47
    · (repeat (first | with_reducible assumption | with_reducible exact a_us | with_reducible exact a_ns | refine a_un (by first | with_reducible assumption | omega) ?_ | refine a_nn (by first | with_reducible assumption | omega | (simp only [a_upd_1, a_new_1]; omega)) ?_ | exact a_us | exact a_ns))
    · rfl
    refine a_icmp_ge (tgt := 28) d_P_moveCounters_7 (by decide) (fun n9 => absurd n9 (nI_ge (show i < q.1.1 by omega) (show q.1.1 < 2 ^ 31 by omega))) (fun c_1 => ?_)
    refine a_aload_n d_P_moveCounters_10 rfl rfl ?_
    apply a_getfield d_P_moveCounters_11 f_P_25
    · (repeat (first | with_reducible assumption | with_reducible exact a_us | with_reducible exact a_ns | refine a_un (by first | with_reducible assumption | omega) ?_ | refine a_nn (by first | with_reducible assumption | omega | (simp only [a_upd_1, a_new_1]; omega)) ?_ | exact a_us | exact a_ns))
    · rfl
    refine a_iload_n d_P_moveCounters_14 rfl rfl ?_
    refine a_aload_n d_P_moveCounters_15 rfl rfl ?_
    refine a_iload_n d_P_moveCounters_16 rfl rfl ?_
    refine a_aload_n d_P_moveCounters_17 rfl rfl ?_
    apply a_callV (ci := 2) 4 98 [_, _] _ d_P_moveCounters_18 l_P_126 ⟨im_P_standAfter, se_P_standAfter⟩ rfl rfl rfl rfl (Nat.le_of_ble_eq_true rfl) ⟨Nat.le_of_ble_eq_true rfl, Nat.le_of_ble_eq_true rfl⟩
    · (repeat (first | with_reducible assumption | with_reducible exact a_us | with_reducible exact a_ns | refine a_un (by first | with_reducible assumption | omega) ?_ | refine a_nn (by first | with_reducible assumption | omega | (simp only [a_upd_1, a_new_1]; omega)) ?_ | exact a_us | exact a_ns))
    refine sp_P_standAfter (q := (q.1, q.2.1, setA q.2.2 7 L)) hP hC (show i < q.1.1 by omega) ?_
    rw [saV_7]
    apply a_iast (t0 := 0) d_P_moveCounters_21 rfl
    · (repeat (first | with_reducible assumption | with_reducible exact a_us | with_reducible exact a_ns | refine a_un (by first | with_reducible assumption | omega) ?_ | refine a_nn (by first | with_reducible assumption | omega | (simp only [a_upd_1, a_new_1]; omega)) ?_ | exact a_us | exact a_ns))
    · exact vp_in_nI (by omega) (by decide)
    rw [nI_clamp (show i < 2 ^ 31 by omega)]
    refine a_iinc (c0 := 1) d_P_moveCounters_22 rfl (by decide) (by decide) ?_
    refine a_goto (tgt := 2) d_P_moveCounters_25 (by decide) ?_
    refine a_lvk (ih (i + 1) (σ := a_upd σ (p + 5) (.inl (.int, 6, .inl (upd L i (saV q l i))))) (upd L i (saV q l i)) ⟨?_, ?_, ?_, ?_, ?_, ?_, ?_, ?_, ?_, ?_, ?_, ?_⟩ ?_ (by omega) (fun j hj => ?_) (fun τ L2 hf hP2 hC2 hL2 => hK τ L2 ((a_fr.rf.upd (by omega) (by omega)).trans hf) hP2 hC2 hL2)) ⟨rfl, rfl, by rw [← nI_1]; rfl, trivial⟩
    · (repeat (first | with_reducible assumption | with_reducible exact a_us | refine a_un (by omega) ?_ | exact a_us | (rw [← nI_1]; exact a_us) | assumption))
    · (repeat (first | with_reducible assumption | with_reducible exact a_us | refine a_un (by omega) ?_ | exact a_us | (rw [← nI_1]; exact a_us) | assumption))
    · (repeat (first | with_reducible assumption | with_reducible exact a_us | refine a_un (by omega) ?_ | exact a_us | (rw [← nI_1]; exact a_us) | assumption))
    · (repeat (first | with_reducible assumption | with_reducible exact a_us | refine a_un (by omega) ?_ | exact a_us | (rw [← nI_1]; exact a_us) | assumption))
    · (repeat (first | with_reducible assumption | with_reducible exact a_us | refine a_un (by omega) ?_ | exact a_us | (rw [← nI_1]; exact a_us) | assumption))
    · (repeat (first | with_reducible assumption | with_reducible exact a_us | refine a_un (by omega) ?_ | exact a_us | (rw [← nI_1]; exact a_us) | assumption))
    · (repeat (first | with_reducible assumption | with_reducible exact a_us | refine a_un (by omega) ?_ | exact a_us | (rw [← nI_1]; exact a_us) | assumption))
    · (repeat (first | with_reducible assumption | with_reducible exact a_us | refine a_un (by omega) ?_ | exact a_us | (rw [← nI_1]; exact a_us) | assumption))
    · (repeat (first | with_reducible assumption | with_reducible exact a_us | refine a_un (by omega) ?_ | exact a_us | (rw [← nI_1]; exact a_us) | assumption))
    · (repeat (first | with_reducible assumption | with_reducible exact a_us | refine a_un (by omega) ?_ | exact a_us | (rw [← nI_1]; exact a_us) | assumption))
    · (repeat (first | with_reducible assumption | with_reducible exact a_us | refine a_un (by omega) ?_ | exact a_us | (rw [← nI_1]; exact a_us) | assumption))
    · exact hI
    · exact a_un (by omega) hC0
    · by_cases e : j = i
      · rw [e, pk_us]
      · rw [pk_un e]; exact hL j (by omega)

set_option maxHeartbeats 4000000 in
set_option maxRecDepth 100000 in
theorem lp_P_move2 {L : Nat → Int32} (hk6 : q.1.1 ≤ 6) (hL : ∀ j, j < q.1.1 → L j = saV q l j) : ∀ (m i : Nat) {σ : aS} (S : Nat → Int32), PO σ p (q.1, q.2.1, setA (setA q.2.2 7 L) 6 S) → i + m = q.1.1 → (∀ j, j < i → S j = saV q l j) → (∀ j, i ≤ j → S j = q.2.2 6 j) → (∀ τ S2, a_fr σ τ p (p + 11) → PO τ p (q.1, q.2.1, setA (setA q.2.2 7 L) 6 S2) → (∀ j, j < q.1.1 → S2 j = saV q l j) → (∀ j, q.1.1 ≤ j → S2 j = q.2.2 6 j) → K none τ) → a_J G m_P_moveCounters 5 124 30 [(0, .ref p), (1, .ref cc), (2, .int (nI i))] [] σ K := by
  intro m
  induction m with
  | zero =>
    intro i σ S hP hi hS hS2 hK
    obtain ⟨h0, h1, h2, h3, h4, h5, h6, h7, h8, h9, h10, hI⟩ := id hP
    refine a_iload_n d_P_moveCounters_30 rfl rfl ?_
    refine a_aload_n d_P_moveCounters_31 rfl rfl ?_
    apply a_getfield d_P_moveCounters_32 f_P_47
    · (repeat (first | with_reducible assumption | with_reducible exact a_us | with_reducible exact a_ns | refine a_un (by first | with_reducible assumption | omega) ?_ | refine a_nn (by first | with_reducible assumption | omega | (simp only [a_upd_1, a_new_1]; omega)) ?_ | exact a_us | exact a_ns))
    · rfl
    refine a_icmp_ge (tgt := 56) d_P_moveCounters_35 (by decide) (fun c_1 => ?_) (fun n9 => absurd (by show nI q.1.1 ≤ nI i; rw [show i = q.1.1 by omega]; exact Int32.le_refl _) n9)
    refine a_return d_P_moveCounters_56 rfl ?_
    exact hK σ S a_fr.rf hP (fun j hj => hS j (by omega)) (fun j hj => hS2 j (by omega))
  | succ m ih =>
    intro i σ S hP hi hS hS2 hK
    obtain ⟨h0, h1, h2, h3, h4, h5, h6, h7, h8, h9, h10, hI⟩ := id hP
    refine a_iload_n d_P_moveCounters_30 rfl rfl ?_
    refine a_aload_n d_P_moveCounters_31 rfl rfl ?_
    apply a_getfield d_P_moveCounters_32 f_P_47
    · (repeat (first | with_reducible assumption | with_reducible exact a_us | with_reducible exact a_ns | refine a_un (by first | with_reducible assumption | omega) ?_ | refine a_nn (by first | with_reducible assumption | omega | (simp only [a_upd_1, a_new_1]; omega)) ?_ | exact a_us | exact a_ns))
    · rfl
    refine a_icmp_ge (tgt := 56) d_P_moveCounters_35 (by decide) (fun n9 => absurd n9 (nI_ge (show i < q.1.1 by omega) (show q.1.1 < 2 ^ 31 by omega))) (fun c_1 => ?_)
    refine a_aload_n d_P_moveCounters_38 rfl rfl ?_
    apply a_getfield d_P_moveCounters_39 f_P_22
    · (repeat (first | with_reducible assumption | with_reducible exact a_us | with_reducible exact a_ns | refine a_un (by first | with_reducible assumption | omega) ?_ | refine a_nn (by first | with_reducible assumption | omega | (simp only [a_upd_1, a_new_1]; omega)) ?_ | exact a_us | exact a_ns))
    · rfl
    refine a_iload_n d_P_moveCounters_42 rfl rfl ?_
    refine a_aload_n d_P_moveCounters_43 rfl rfl ?_
    apply a_getfield d_P_moveCounters_44 f_P_25
    · (repeat (first | with_reducible assumption | with_reducible exact a_us | with_reducible exact a_ns | refine a_un (by first | with_reducible assumption | omega) ?_ | refine a_nn (by first | with_reducible assumption | omega | (simp only [a_upd_1, a_new_1]; omega)) ?_ | exact a_us | exact a_ns))
    · rfl
    refine a_iload_n d_P_moveCounters_47 rfl rfl ?_
    apply a_iald (t0 := 0) d_P_moveCounters_48 rfl
    · (repeat (first | with_reducible assumption | with_reducible exact a_us | with_reducible exact a_ns | refine a_un (by first | with_reducible assumption | omega) ?_ | refine a_nn (by first | with_reducible assumption | omega | (simp only [a_upd_1, a_new_1]; omega)) ?_ | exact a_us | exact a_ns))
    · exact vp_in_nI (by omega) (by decide)
    apply a_iast (t0 := 0) d_P_moveCounters_49 rfl
    · (repeat (first | with_reducible assumption | with_reducible exact a_us | with_reducible exact a_ns | refine a_un (by first | with_reducible assumption | omega) ?_ | refine a_nn (by first | with_reducible assumption | omega | (simp only [a_upd_1, a_new_1]; omega)) ?_ | exact a_us | exact a_ns))
    · exact vp_in_nI (by omega) (by decide)
    rw [nI_clamp (show i < 2 ^ 31 by omega)]
    refine a_iinc (c0 := 1) d_P_moveCounters_50 rfl (by decide) (by decide) ?_
    refine a_goto (tgt := 30) d_P_moveCounters_53 (by decide) ?_
    refine a_lvk (ih (i + 1) (σ := a_upd σ (p + 4) (.inl (.int, 6, .inl (upd S i (L i))))) (upd S i (L i)) ⟨?_, ?_, ?_, ?_, ?_, ?_, ?_, ?_, ?_, ?_, ?_, ?_⟩ (by omega) (fun j hj => ?_) (fun j hj => ?_) (fun τ S2 hf hP2 hS3 hS4 => hK τ S2 ((a_fr.rf.upd (by omega) (by omega)).trans hf) hP2 hS3 hS4)) ⟨rfl, rfl, by rw [← nI_1]; rfl, trivial⟩
    · (repeat (first | with_reducible assumption | with_reducible exact a_us | refine a_un (by omega) ?_ | exact a_us | (rw [← nI_1]; exact a_us) | assumption))
    · (repeat (first | with_reducible assumption | with_reducible exact a_us | refine a_un (by omega) ?_ | exact a_us | (rw [← nI_1]; exact a_us) | assumption))
    · (repeat (first | with_reducible assumption | with_reducible exact a_us | refine a_un (by omega) ?_ | exact a_us | (rw [← nI_1]; exact a_us) | assumption))
    · (repeat (first | with_reducible assumption | with_reducible exact a_us | refine a_un (by omega) ?_ | exact a_us | (rw [← nI_1]; exact a_us) | assumption))
    · (repeat (first | with_reducible assumption | with_reducible exact a_us | refine a_un (by omega) ?_ | exact a_us | (rw [← nI_1]; exact a_us) | assumption))
    · (repeat (first | with_reducible assumption | with_reducible exact a_us | refine a_un (by omega) ?_ | exact a_us | (rw [← nI_1]; exact a_us) | assumption))
    · (repeat (first | with_reducible assumption | with_reducible exact a_us | refine a_un (by omega) ?_ | exact a_us | (rw [← nI_1]; exact a_us) | assumption))
    · (repeat (first | with_reducible assumption | with_reducible exact a_us | refine a_un (by omega) ?_ | exact a_us | (rw [← nI_1]; exact a_us) | assumption))
    · (repeat (first | with_reducible assumption | with_reducible exact a_us | refine a_un (by omega) ?_ | exact a_us | (rw [← nI_1]; exact a_us) | assumption))
    · (repeat (first | with_reducible assumption | with_reducible exact a_us | refine a_un (by omega) ?_ | exact a_us | (rw [← nI_1]; exact a_us) | assumption))
    · (repeat (first | with_reducible assumption | with_reducible exact a_us | refine a_un (by omega) ?_ | exact a_us | (rw [← nI_1]; exact a_us) | assumption))
    · exact hI
    · by_cases e : j = i
      · rw [e, pk_us]; exact hL i (by omega)
      · rw [pk_un e]; exact hS j (by omega)
    · rw [pk_un (by omega)]; exact hS2 j (by omega)

set_option maxHeartbeats 4000000 in
set_option maxRecDepth 100000 in
theorem sp_P_moveCounters (hP : PO σ p q) (hC : CO σ cc l) (hcd : cc < p ∨ p + 11 ≤ cc) (hK : ∀ (τ : aS) (L S : Nat → Int32), a_fr σ τ p (p + 11) → PO τ p (q.1, q.2.1, setA (setA q.2.2 7 L) 6 S) → (∀ j, j < q.1.1 → S j = saV q l j) → (∀ j, q.1.1 ≤ j → S j = q.2.2 6 j) → K none τ) : a_C G m_P_moveCounters 5 124 [.ref p, .ref cc] σ K := by
  obtain ⟨h0, h1, h2, h3, h4, h5, h6, h7, h8, h9, h10, hI⟩ := id hP
  have hC0 : σ.2.2 cc = some (.inr (1, [.int l.1, .int l.2.1, .int l.2.2.1, .int l.2.2.2])) := hC
  refine a_enter rfl (Nat.le_of_ble_eq_true rfl) ?_
  refine a_iconst (v := 0) d_P_moveCounters_0 (by decide) ?_
  refine a_istore_n d_P_moveCounters_1 rfl (by decide) ?_
  refine a_lvk (lp_P_move1 (q := q) (l := l) hcd hI.1 q.1.1 0 (q.2.2 7) ?_ hC (by omega) (fun j hj => absurd hj (Nat.not_lt_zero j)) (fun τ L hf hP2 hC2 hL => ?_)) ⟨rfl, rfl, rfl, trivial⟩
  · refine ⟨?_, ?_, ?_, ?_, ?_, ?_, ?_, ?_, ?_, ?_, ?_, ?_⟩
    · assumption
    · assumption
    · assumption
    · assumption
    · assumption
    · assumption
    · assumption
    · assumption
    · assumption
    · assumption
    · assumption
    · assumption
  · refine a_iconst (v := 0) d_P_moveCounters_28 (by decide) ?_
    refine a_istore_n d_P_moveCounters_29 rfl (by decide) ?_
    refine a_lvk (lp_P_move2 (q := q) (l := l) (L := L) hI.1 hL q.1.1 0 (q.2.2 6) ?_ (by omega) (fun j hj => absurd hj (Nat.not_lt_zero j)) (fun _ _ => rfl) (fun τ2 S hf2 hP3 hS hS2 => hK τ2 L S (hf.trans hf2) hP3 hS hS2)) ⟨rfl, rfl, rfl, trivial⟩
    obtain ⟨g0, g1, g2, g3, g4, g5, g6, g7, g8, g9, g10, gI⟩ := hP2
    refine ⟨?_, ?_, ?_, ?_, ?_, ?_, ?_, ?_, ?_, ?_, ?_, ?_⟩
    · assumption
    · assumption
    · assumption
    · assumption
    · assumption
    · assumption
    · assumption
    · assumption
    · assumption
    · assumption
    · assumption
    · assumption

end ModP7
