/-! ARRAYCOPY of longs; Bytes.become -/
theorem w_copy : Cond.methodLink "PolicyText$Bytes" 36 arraycopyName ∈ aTs ∧ Cond.native arraycopyName ∈ aTs ∧ Cond.static arraycopyName ∈ aTs ∧ Cond.initialized "java/lang/System" ∈ aTs := ⟨mt3 201 (by decide +kernel) rfl, mt3 203 (by decide +kernel) rfl, mt3 202 (by decide +kernel) rfl, mt1 14 (by decide +kernel) rfl⟩
section Copy
variable {G : aG} {μ : aM} {d lo pc : Nat} {lv : List (Nat × Value)} {st : List Value} {σ : aS} {K : Option Value → aS → Prop}
theorem a_copyl {idx a0 a n0 n1 : Nat} {f g : Nat → Int64} {sp dp n : Int32} (hd : decode μ.2.1 pc = .ok (.invokestatic idx, 3)) (hw : Cond.methodLink μ.1.cls idx arraycopyName ∈ aTs ∧ Cond.native arraycopyName ∈ aTs ∧ Cond.static arraycopyName ∈ aTs ∧ Cond.initialized "java/lang/System" ∈ aTs) (hr : (st.map fun v => v.category).sum ≤ 8) (hb : 1 ≤ d ∧ 8 + (nativeFrameWords "java/lang/System" "arraycopy" 5 + 11) ≤ lo)
    (hc0 : σ.2.2 a0 = some (.inl (.long, n0, .inr (.inl f)))) (hc1 : σ.2.2 a = some (.inl (.long, n1, .inr (.inl g)))) (h1 : ¬ sp < 0) (h2 : ¬ dp < 0) (h3 : ¬ n < 0) (h4 : sp.toNatClampNeg + n.toNatClampNeg ≤ n0) (h5 : dp.toNatClampNeg + n.toNatClampNeg ≤ n1)
    (kk : a_J G μ d lo (pc + 3) lv st (a_upd σ a (.inl (.long, n1, .inr (.inl (va_cpy f g sp.toNatClampNeg dp.toNatClampNeg n.toNatClampNeg))))) K) : a_J G μ d lo pc lv (.int n :: .int dp :: .ref a :: .int sp :: .ref a0 :: st) σ K := by
  obtain ⟨v', τ, hK, g1, g2, hW⟩ := kk
  refine ⟨v', τ, hK, g1, g2, ?_⟩
  intro p e R s m args below meth c H locs cells slots ls hX hR hlc hlv hcc hss
  have hba := (hR.2.2.2 a _ hc1).1
  have nn : ∀ z : Int32, ¬ z < 0 → z.toInt = (z.toNatClampNeg : Int) := by
    intro z hz
    obtain ⟨j, hj, rfl⟩ := nI_of hz
    rw [nI_toInt hj, nI_clamp hj]
  intro T hT X
  have hfr := hX.fr
  have htt : (a_tys G.2.2.2.1)[1]? = some (G.2.2.2.1 .long, .long) := rfl
  have hq0 : H[a0]? = some (vp_cell (G.2.2.2.1 .long) (n0, .inr (.inl f))) := hR.cell hc0
  have hq1 : H[a]? = some (vp_cell (G.2.2.2.1 .long) (n1, .inr (.inl g))) := hR.cell hc1
  obtain ⟨-, k0, hk0, cm0, hkk0⟩ := (hX.tk.2 1 _ htt).1 n0 (fun j => .long (f j))
  obtain ⟨-, k1, hk1, cm1, hkk1⟩ := (hX.tk.2 1 _ htt).1 n1 (fun j => .long (g j))
  obtain ⟨vm', X', step⟩ := X.arraycopy hX.1 hX.own (hX.ts _ hw.1) (hX.ts _ hw.2.1) (hX.ts _ hw.2.2.1) (hX.ts _ hw.2.2.2) (src := a0) (dst := a) (cs := vp_cell (G.2.2.2.1 .long) (n0, .inr (.inl f))) (cd := vp_cell (G.2.2.2.1 .long) (n1, .inr (.inl g))) (srcPos := sp) (destPos := dp) (n := n) (by rw [hT]; exact hq0) (by rw [hT]; exact hq1)
    (fun _ h => by cases h) (fun _ h => by cases h) (fun h => by cases h) (fun h => by cases h) hk0 hk1 hkk0 hkk1 (by simp [refKind]) h1 h2 h3
    (by rw [nn sp h1, nn n h3]; show ¬ _ > ((arrV _ n0 (fun j => .long (f j))).slots.size : Int); rw [arrV_size]; omega)
    (by rw [nn dp h2, nn n h3]; show ¬ _ > ((arrV _ n1 (fun j => .long (g j))).slots.size : Int); rw [arrV_size]; omega)
    (fun vm₁ _ i hi => by
      have e : (vp_cell (G.2.2.2.1 .long) (n0, .inr (.inl f))).slots.getD (sp.toNatClampNeg + i) .null = .long (f (sp.toNatClampNeg + i)) := by
        show (arrV _ n0 (fun j => .long (f j))).slots.getD _ _ = _
        rw [Array.getD_eq_getD_getElem?, arrV_read _ _ (by omega)]
        rfl
      rw [e]
      exact ⟨rfl, trivial⟩)
    (g := F0 m pc ls (.int n :: .int dp :: .ref a :: .int sp :: .ref a0 :: st)) rfl (hlv.1.trans hX.2.2.2.1.symm) (rest := st) rfl (by rw [hX.2.1]; exact hd) (by omega) (by show 2 * 0 + _ + _ ≤ _; omega)
  have e1 : copied (vp_cell (G.2.2.2.1 .long) (n0, .inr (.inl f))) (vp_cell (G.2.2.2.1 .long) (n1, .inr (.inl g))) sp dp n = vp_cell (G.2.2.2.1 .long) (n1, .inr (.inl (va_cpy f g sp.toNatClampNeg dp.toNatClampNeg n.toNatClampNeg))) := va_copied (fun z => .long z) _ _ f g h4
  rw [e1] at X' step
  have hl : a < H.size := (Array.getElem?_eq_some_iff.mp hq1).1
  have hheap : ((T.setVm vm').setCell a (vp_cell (G.2.2.2.1 .long) (n1, .inr (.inl (va_cpy f g sp.toNatClampNeg dp.toNatClampNeg n.toNatClampNeg))))).heap = H.setIfInBounds a (vp_cell (G.2.2.2.1 .long) (n1, .inr (.inl (va_cpy f g sp.toNatClampNeg dp.toNatClampNeg n.toNatClampNeg)))) := by rw [← hT]; rfl
  obtain ⟨t, a1, b1⟩ := hW p e R s m args below meth c _ _ cells slots ls hX (hR.upd hba (by simp) (fun q hq => by simp [Array.getElem?_setIfInBounds, Ne.symm hq]) (show (H.setIfInBounds a _)[a]? = some _ by simp [Array.getElem?_setIfInBounds, hl])) (fun q hq => by
      rcases List.mem_append.mp hq with h | h
      · exact hlc q h
      · obtain ⟨z, -, hz⟩ := List.mem_map.mp h
        rw [← hz]
        exact hba) hlv hcc hss _ hheap X'
  exact ⟨t, step t a1, b1⟩
end Copy
section Become
variable {G : aG} {σ : aS} {K : Option Value → aS → Prop}
set_option maxHeartbeats 4000000 in
set_option maxRecDepth 100000 in
theorem sp_B_become {b o cap n cap2 n2 : Nat} {f f2 : Nat → Nat} (hB : BY σ b cap n f) (hO : BY σ o cap2 n2 f2) (hd : b + 2 ≤ o ∨ o + 2 ≤ b) (hK0 : cap < n2 → K (some (.int 0)) σ) (hK1 : n2 ≤ cap → ∀ τ, a_fr σ τ b (b + 2) → BY τ b cap n2 (fun k => if k < 8 * (n2 / 8 + 1) then f2 k else f k) → K (some (.int 1)) τ) : a_C G m_B_become 1 43 [.ref b, .ref o] σ K := by
  obtain ⟨g, h1, h2, hn, hc, hf⟩ := hB
  obtain ⟨g2, o1, o2, hn2, hc2, hf2⟩ := hO
  refine a_enter rfl (Nat.le_of_ble_eq_true rfl) ?_
  refine a_aload_n d_B_become_0 rfl rfl ?_
  apply a_getfield d_B_become_1 f_B_25
  · (repeat (first | with_reducible assumption | with_reducible exact a_us | with_reducible exact a_ns | refine a_un (by first | with_reducible assumption | omega) ?_ | refine a_nn (by first | with_reducible assumption | omega | (simp only [a_upd_1, a_new_1]; omega)) ?_ | exact a_us | exact a_ns))
  · rfl
  refine a_aload_n d_B_become_4 rfl rfl ?_
  apply a_getfield d_B_become_5 f_B_15
  · (repeat (first | with_reducible assumption | with_reducible exact a_us | with_reducible exact a_ns | refine a_un (by first | with_reducible assumption | omega) ?_ | refine a_nn (by first | with_reducible assumption | omega | (simp only [a_upd_1, a_new_1]; omega)) ?_ | exact a_us | exact a_ns))
  · rfl
  refine a_icmp_le (tgt := 13) d_B_become_8 (by decide) (fun c_1 => ?_) (fun c_1 => ?_)
  · refine a_aload_n d_B_become_13 rfl rfl ?_
    apply a_getfield d_B_become_14 f_B_21
    · (repeat (first | with_reducible assumption | with_reducible exact a_us | with_reducible exact a_ns | refine a_un (by first | with_reducible assumption | omega) ?_ | refine a_nn (by first | with_reducible assumption | omega | (simp only [a_upd_1, a_new_1]; omega)) ?_ | exact a_us | exact a_ns))
    · rfl
    refine a_iconst (v := 0) d_B_become_17 (by decide) ?_
    refine a_aload_n d_B_become_18 rfl rfl ?_
    apply a_getfield d_B_become_19 f_B_21
    · (repeat (first | with_reducible assumption | with_reducible exact a_us | with_reducible exact a_ns | refine a_un (by first | with_reducible assumption | omega) ?_ | refine a_nn (by first | with_reducible assumption | omega | (simp only [a_upd_1, a_new_1]; omega)) ?_ | exact a_us | exact a_ns))
    · rfl
    refine a_iconst (v := 0) d_B_become_22 (by decide) ?_
    refine a_aload_n d_B_become_23 rfl rfl ?_
    apply a_getfield d_B_become_24 f_B_25
    · (repeat (first | with_reducible assumption | with_reducible exact a_us | with_reducible exact a_ns | refine a_un (by first | with_reducible assumption | omega) ?_ | refine a_nn (by first | with_reducible assumption | omega | (simp only [a_upd_1, a_new_1]; omega)) ?_ | exact a_us | exact a_ns))
    · rfl
    refine a_bipush (v := 8) d_B_become_27 (by decide) ?_
    refine a_idiv d_B_become_29 (by decide) ?_
    refine a_iconst (v := 1) d_B_become_30 (by decide) ?_
    refine a_iadd d_B_become_31 ?_
    have hle : n2 ≤ cap := (nI_leI (by omega) (by omega)).mp c_1
    rw [show nI n2 / 8 + 1 = nI (n2 / 8 + 1) by rw [show (8 : Int32) = nI 8 from rfl, pk_div (by omega) (by decide) (by decide), nI_1]]
    apply a_copyl d_B_become_32 w_copy (Nat.le_of_ble_eq_true rfl) ⟨Nat.le_of_ble_eq_true rfl, Nat.le_of_ble_eq_true rfl⟩
    · (repeat (first | with_reducible assumption | with_reducible exact a_us | with_reducible exact a_ns | refine a_un (by first | with_reducible assumption | omega) ?_ | refine a_nn (by first | with_reducible assumption | omega | (simp only [a_upd_1, a_new_1]; omega)) ?_ | exact a_us | exact a_ns))
    · (repeat (first | with_reducible assumption | with_reducible exact a_us | with_reducible exact a_ns | refine a_un (by first | with_reducible assumption | omega) ?_ | refine a_nn (by first | with_reducible assumption | omega | (simp only [a_upd_1, a_new_1]; omega)) ?_ | exact a_us | exact a_ns))
    · decide
    · decide
    · exact nI_pos (by omega)
    · rw [sb_cl0, nI_clamp (by omega)]; omega
    · rw [sb_cl0, nI_clamp (by omega)]; omega
    rw [sb_cl0, nI_clamp (show n2 / 8 + 1 < 2 ^ 31 by omega)]
    refine a_aload_n d_B_become_35 rfl rfl ?_
    refine a_aload_n d_B_become_36 rfl rfl ?_
    apply a_getfield d_B_become_37 f_B_25
    · (repeat (first | with_reducible assumption | with_reducible exact a_us | with_reducible exact a_ns | refine a_un (by first | with_reducible assumption | omega) ?_ | refine a_nn (by first | with_reducible assumption | omega | (simp only [a_upd_1, a_new_1]; omega)) ?_ | exact a_us | exact a_ns))
    · rfl
    apply a_putfield d_B_become_40 p_B_25
    · (repeat (first | with_reducible assumption | with_reducible exact a_us | with_reducible exact a_ns | refine a_un (by first | with_reducible assumption | omega) ?_ | refine a_nn (by first | with_reducible assumption | omega | (simp only [a_upd_1, a_new_1]; omega)) ?_ | exact a_us | exact a_ns))
    · first | rfl | assumption
    · first | rfl | assumption
    · exact Nat.le_of_ble_eq_true rfl
    refine a_iconst (v := 1) d_B_become_43 (by decide) ?_
    refine a_ireturn d_B_become_44 rfl rfl ?_
    refine hK1 hle _ ((a_fr.rf.upd (by omega) (by omega)).upd (by omega) (by omega)) ⟨_, a_us, a_un (by omega) a_us, hle, hc, fun k hk => ?_⟩
    dsimp only
    by_cases hk8 : k < 8 * (n2 / 8 + 1)
    · rw [if_pos hk8, pk_cpy_in (by omega) (by omega), show 0 + (k / 8 - 0) = k / 8 by omega]
      exact hf2 k (by omega)
    · rw [if_neg hk8, pk_cpy_out (by omega)]
      exact hf k hk
  · refine a_iconst (v := 0) d_B_become_11 (by decide) ?_
    refine a_ireturn d_B_become_12 rfl rfl ?_
    exact hK0 (Nat.not_le.mp (fun h => c_1 (nI_le h (by omega))))

end Become
