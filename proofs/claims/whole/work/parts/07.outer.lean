/-! WHAT LIES OUTSIDE: literals, statics, the script, a nest mate's constructor, arraycopy -/
theorem a_X.ka {G : aG} {μ : aM} {d lo : Nat} {p : Program} {R : Room} {s : State} {m : MethodId} {args : Array Value} {meth : Method} {c : Code} (h : a_X G μ d lo p R s m args meth c) : a_K G := h.2.2.2.2.2.2.2.2.1
section Outer
variable {G : aG} {μ : aM} {d lo pc : Nat} {lv : List (Nat × Value)} {st : List Value} {σ : aS} {K : Option Value → aS → Prop}
theorem a_R.kp {H : Heap} (h : a_R G σ H) : ∀ a : Nat, a < G.2.1.heap.size → ¬ a_A G a → H[a]? = G.2.1.heap[a]? := fun a ha _ => h.2.2.1 a ha
theorem a_ldcS {idx : Nat} (j : Nat) (hd : decode μ.2.1 pc = .ok (.ldc idx, 2)) (hj : j < nJ) (h1 : (jO j).1 = μ.1.cls) (h2 : (jO j).2.1 = idx) (k : a_J G μ d lo (pc + 2) lv (.ref (G.2.2.2.2.1 j) :: st) σ K) : a_J G μ d lo pc lv st σ K := by
  refine a_step k fun hX _ _ kk => ?_
  have h3 := (hX.ka.2.1 j hj).1
  rw [h1, h2] at h3
  exact va_ldcS hX.1 hX.2.1 hX.own (vk_R.warm hX.al h3) hd kk
theorem a_sval {idx j : Nat} (hd : decode μ.2.1 pc = .ok (.getfield idx, 3)) (hj : j < nJ) (hw : Cond.fieldLink μ.1.cls idx "java/lang/String" "value" "[B" ∈ aTs) (k : a_J G μ d lo (pc + 3) lv (.ref (G.2.2.2.2.2.1 j) :: st) σ K) : a_J G μ d lo pc lv (.ref (G.2.2.2.2.1 j) :: st) σ K := by
  refine a_step k fun hX hR _ kk => ?_
  obtain ⟨cf, k, fi, f, cell, h1, h2, h3, h4, h5, h6⟩ := ((hX.ka.2.1 j hj).2.2.2.1.moved hX.al.alike).kept hR.kp
  exact W.getf hX.1 hX.2.1 hX.own (hX.ts _ hw) h1 h2 h3 h4 h5 rfl rfl hd kk
theorem a_scod {idx j : Nat} (hd : decode μ.2.1 pc = .ok (.getfield idx, 3)) (hj : j < nJ) (hw : Cond.fieldLink μ.1.cls idx "java/lang/String" "coder" "B" ∈ aTs) (k : a_J G μ d lo (pc + 3) lv (.int 0 :: st) σ K) : a_J G μ d lo pc lv (.ref (G.2.2.2.2.1 j) :: st) σ K := by
  refine a_step k fun hX hR _ kk => ?_
  obtain ⟨cf, k, fi, f, cell, h1, h2, h3, h4, h5, h6⟩ := ((hX.ka.2.1 j hj).2.2.1.moved hX.al.alike).kept hR.kp
  exact W.getf hX.1 hX.2.1 hX.own (hX.ts _ hw) h1 h2 h3 h4 h5 rfl rfl hd kk
theorem a_slenB {j : Nat} (hd : decode μ.2.1 pc = .ok (.arraylength, 1)) (hj : j < nJ) (k : a_J G μ d lo (pc + 1) lv (.int (nI (jS j).length) :: st) σ K) : a_J G μ d lo pc lv (.ref (G.2.2.2.2.2.1 j) :: st) σ K := by
  refine a_step k fun hX hR _ kk => ?_
  obtain ⟨cell, h1, h2, h3, h4, h5, h6, h7⟩ := ((hX.ka.2.1 j hj).2.2.2.2.moved hX.al.alike).kept hR.kp
  exact W.alen (n := Int32.ofNat (jS j).length) hX.1 hX.2.1 h1 h2 h5 rfl rfl hd kk
theorem a_sbyte {j : Nat} {i : Int32} (hd : decode μ.2.1 pc = .ok (.baload, 1)) (hj : j < nJ) (hin : vp_in i (jS j).length) (k : a_J G μ d lo (pc + 1) lv (.int (nI ((jS j).getD i.toNatClampNeg 0)) :: st) σ K) : a_J G μ d lo pc lv (.int i :: .ref (G.2.2.2.2.2.1 j) :: st) σ K := by
  refine a_step k fun hX hR _ kk => ?_
  obtain ⟨cell, h1, h2, h3, h4, h5, h6, h7⟩ := ((hX.ka.2.1 j hj).2.2.2.2.moved hX.al.alike).kept hR.kp
  have hlt : i.toNatClampNeg < (jS j).length := Nat.not_le.mp fun q => hin (Or.inr q)
  refine W.bald (v := .int (nI ((jS j).getD i.toNatClampNeg 0))) hX.1 hX.2.1 h1 h2 h3 ?_ (h6 _ hlt) rfl rfl hd kk
  rintro (q | q)
  · exact hin (Or.inl q)
  · omega
theorem a_getsC {idx : Nat} (hd : decode μ.2.1 pc = .ok (.getstatic idx, 3)) (hw : Cond.fieldLink μ.1.cls idx "java/lang/String" "COMPACT_STRINGS" "Z" ∈ aTs) (k : a_J G μ d lo (pc + 3) lv (.int 1 :: st) σ K) : a_J G μ d lo pc lv st σ K := by
  refine a_step k fun hX hR _ kk => ?_
  obtain ⟨cf, kf, fi, f, a, cell, h1, h2, h3, h4, h5, h6, h7, h8⟩ := (hX.ka.2.2.1.moved hX.al.alike).kept hR.kp
  exact W.gets hX.1 hX.2.1 hX.own (hX.ts _ hw) h1 h2 h3 h4 h5 (fun e => by rw [e] at h6; cases h6) h7 rfl hd kk
theorem a_getsF {idx : Nat} (hd : decode μ.2.1 pc = .ok (.getstatic idx, 3)) (hw : Cond.fieldLink μ.1.cls idx "jdk/internal/util/Preconditions" "SIOOBE_FORMATTER" "Ljava/util/function/BiFunction;" ∈ aTs) (k : a_J G μ d lo (pc + 3) lv (va_rf G.2.2.2.2.2.2.2 :: st) σ K) : a_J G μ d lo pc lv st σ K := by
  refine a_step k fun hX hR _ kk => ?_
  obtain ⟨cf, kf, fi, f, a, cell, h1, h2, h3, h4, h5, h6, h7, h8⟩ := (hX.ka.2.2.2.1.moved hX.al.alike).kept hR.kp
  exact W.gets hX.1 hX.2.1 hX.own (hX.ts _ hw) h1 h2 h3 h4 h5 (fun e => by rw [e] at h6; cases h6) h7 rfl hd kk
theorem a_sld {i : Int32} (hd : decode μ.2.1 pc = .ok (.iaload, 1)) (hin : vp_in i G.2.2.2.2.2.2.1.2.1) (k : a_J G μ d lo (pc + 1) lv (.int (G.2.2.2.2.2.2.1.2.2 i.toNatClampNeg) :: st) σ K) : a_J G μ d lo pc lv (.int i :: .ref G.2.2.2.2.2.2.1.1 :: st) σ K := by
  refine a_step k fun hX hR _ kk => ?_
  obtain ⟨scr, h1, h2, h3, h4, h5⟩ := (hX.ka.2.2.2.2.1.moved hX.al.alike).kept (hR.2.2.1 _ hX.ka.2.2.2.2.2.1)
  have hlt : i.toNatClampNeg < G.2.2.2.2.2.2.1.2.1 := Nat.not_le.mp fun q => hin (Or.inr q)
  exact W.iald (v := .int (G.2.2.2.2.2.2.1.2.2 i.toNatClampNeg)) hX.1 hX.2.1 h1 h2 h3 (by rw [h4]; exact hin) (h5 _ hlt) rfl rfl hd kk
theorem a_sln (hd : decode μ.2.1 pc = .ok (.arraylength, 1)) (k : a_J G μ d lo (pc + 1) lv (.int (nI G.2.2.2.2.2.2.1.2.1) :: st) σ K) : a_J G μ d lo pc lv (.ref G.2.2.2.2.2.2.1.1 :: st) σ K := by
  refine a_step k fun hX hR _ kk => ?_
  obtain ⟨scr, h1, h2, h3, h4, h5⟩ := (hX.ka.2.2.2.2.1.moved hX.al.alike).kept (hR.2.2.1 _ hX.ka.2.2.2.2.2.1)
  exact W.alen (n := Int32.ofNat G.2.2.2.2.2.2.1.2.1) hX.1 hX.2.1 h1 h2 (by rw [h4] <;> rfl) rfl rfl hd kk
theorem a_callVS {μ' : aM} {idx n j : Nat} (d' lo' : Nat) (As rest : List Value) (hd : decode μ.2.1 pc = .ok (.invokevirtual idx, 3)) (hL : a_lk μ.1.cls idx μ' n) (hL2 : Cond.instanceMethod μ'.1 ∈ aTs ∧ Cond.selects μ'.1.cls μ'.1 μ'.1 ∈ aTs) (hcl : μ'.1.cls = "java/lang/String") (hn : As.length = n) (hst : st = As.reverse ++ .ref (G.2.2.2.2.1 j) :: rest) (hr : (rest.map fun v => v.category).sum ≤ 8) (hb : d' + 1 ≤ d ∧ lo' + (19 + μ'.2.2.1) ≤ lo) (hj : j < nJ)
    (k : a_C G μ' d' lo' (.ref (G.2.2.2.2.1 j) :: As) σ (fun v τ => a_J G μ d lo (pc + 3) lv (v.toList ++ rest) τ K)) : a_J G μ d lo pc lv st σ K := by
  refine a_callVg d' lo' As rest hd hL hL2 hn hst hr hb (fun hX hR => ?_) k
  obtain ⟨cell, h1, h2, h3, -⟩ := ((hX.ka.2.1 j hj).2.1.moved hX.al.alike).kept hR.kp
  rw [hcl]
  exact ⟨cell, h1, h2, h3⟩
/-- PolicyText's own call of Call's constructor, which is private: a nest mate's -/
theorem a_callN {a : Nat} (d' lo' : Nat) (rest : List Value) (hμ : μ.1.cls = "PolicyText") (hd : decode μ.2.1 pc = .ok (.invokespecial 45, 3)) (hst : st = .ref a :: rest) (hr : (rest.map fun v => v.category).sum ≤ 8) (hb : d' + 1 ≤ d ∧ lo' + 20 ≤ lo)
    (k : a_C G m_C_init d' lo' [.ref a] σ (fun v τ => a_J G μ d lo (pc + 3) lv (v.toList ++ rest) τ K)) : a_J G μ d lo pc lv st σ K := by
  refine a_call (idx := 45) (own := μ.1.cls) (As := []) (ins := .nop) k fun hX hR hlv hcc hss hM => ?_
  have hg : GoodIn aTs (a_ws m_C_init) := fun w hw => by
    rcases List.mem_cons.mp hw with rfl | hw
    · exact ⟨cm_C_init, Or.inl (by first | rfl | simp [Cond.onTables, Cond.keeps, Cond.steady])⟩
    · exact aTs_good w hw
  refine va_runIN (As := []) (Ts := aTs) (cc := μ.2.1) (nL := μ.2.2.1) (n := 0) (host := "PolicyText") ⟨hX.1, hX.2.1, hX.2.2.2.1, hX.own, hX.ts⟩ hM ⟨va_cnB 0 hX.ts hg rfl rfl rfl (by rw [hμ]; exact va_Nw.warmM hX.al hX.ka.2.2.2.2.2.2) (hX.ts _ ini_C) (by decide +kernel) ⟨Nat.le_trans hb.1 hX.fr.1, ?_⟩, rfl, hX.ts _ im_C_init⟩ ⟨a_blind, fun U hU hW => ⟨rfl, hX.ka, by rw [hU]; exact hR, State.WarmedH.trans hX.al hW⟩⟩ rfl rfl hlv.1 hst (lv_room hr) hd ⟨hcc, hss⟩
  have h7 := hX.fr.2
  have h8 := hb.2
  show 8 + (1 + 11) + lo' ≤ _
  omega
end Outer
section MinMax
variable {G : aG} {μ : aM} {d lo pc : Nat} {lv : List (Nat × Value)} {st : List Value} {σ : aS} {K : Option Value → aS → Prop}
theorem a_mmin {idx : Nat} {x y : Int32} (hd : decode μ.2.1 pc = .ok (.invokestatic idx, 3)) (hL : a_lk μ.1.cls idx m_A_min 2) (hr : (st.map fun v => v.category).sum ≤ 8) (hb : 1 ≤ d ∧ 21 ≤ lo) (k : a_J G μ d lo (pc + 3) lv (.int (if y < x then y else x) :: st) σ K) : a_J G μ d lo pc lv (.int y :: .int x :: st) σ K := by
  obtain ⟨v', τ, hK, g1, g2, hW⟩ := k
  refine ⟨v', τ, hK, g1, g2, ?_⟩
  intro p e R s m args below meth c H locs cells slots ls hX hR hlc hlv hcc hss
  have h7 := hX.fr
  exact va_mmin hX.1 hX.2.1 (hX.2.2.2.1.trans hlv.1.symm) hX.own (hX.ts _ hL.1) (hX.ts _ is_A_min) (hX.ts _ hL.2.1) (hX.ts _ hL.2.2.1) (by omega) (by omega) (by omega) (by omega) hd (hW p e R s m args below meth c H locs cells slots ls hX hR hlc hlv hcc hss)
theorem a_mmax {idx : Nat} {x y : Int32} (hd : decode μ.2.1 pc = .ok (.invokestatic idx, 3)) (hL : a_lk μ.1.cls idx m_A_max 2) (hr : (st.map fun v => v.category).sum ≤ 8) (hb : 1 ≤ d ∧ 21 ≤ lo) (k : a_J G μ d lo (pc + 3) lv (.int (if x < y then y else x) :: st) σ K) : a_J G μ d lo pc lv (.int y :: .int x :: st) σ K := by
  obtain ⟨v', τ, hK, g1, g2, hW⟩ := k
  refine ⟨v', τ, hK, g1, g2, ?_⟩
  intro p e R s m args below meth c H locs cells slots ls hX hR hlc hlv hcc hss
  have h7 := hX.fr
  exact va_mmax hX.1 hX.2.1 (hX.2.2.2.1.trans hlv.1.symm) hX.own (hX.ts _ hL.1) (hX.ts _ is_A_max) (hX.ts _ hL.2.1) (hX.ts _ hL.2.2.1) (by omega) (by omega) (by omega) (by omega) hd (hW p e R s m args below meth c H locs cells slots ls hX hR hlc hlv hcc hss)
end MinMax
