/-! print: class and model write one list -/
section Pr
variable {c : aN} {q : aP} {x : aX}
theorem j21 : jS 21 = [40] ++ (jS 37 ++ [32]) := rfl
theorem j22 : jS 22 = [32] := rfl
theorem j23 : jS 23 = [32] ++ ([40] ++ (jS 38 ++ [32])) := rfl
theorem j24 : jS 24 = [32] ++ ([40] ++ (jS 39 ++ [32])) := rfl
theorem j25 : jS 25 = jS 45 := rfl
theorem j26 : jS 26 = [32] ++ ([40] ++ (jS 44 ++ [32])) := rfl
theorem j27 : jS 27 = [40] ++ (jS 43 ++ [32]) := rfl
theorem j28 : jS 28 = [40] ++ (jS 42 ++ [32]) := rfl
theorem j29 : jS 29 = [32] ++ (jS 46 ++ [32]) := rfl
theorem j30 : jS 30 = [32] ++ (jS 47 ++ [32]) := rfl
theorem j31 : jS 31 = [32] ++ (jS 48 ++ [32]) := rfl
theorem j32 : jS 32 = [41] := rfl
theorem j33 : jS 33 = [] := rfl
theorem j34 : jS 34 = [41] ++ [10] := rfl
theorem j35 : jS 35 = [40] ++ (jS 40 ++ [32]) := rfl
theorem j36 : jS 36 = [32] ++ ([40] ++ (jS 41 ++ [32])) := rfl
theorem nmf_C (h : CQ c q x) {k : Nat} (hk : k < c.1 4 0) : nmL (nmf q 0 (nI k)) 12 = c.2.1 0 k := by
  have h6 := h.nC.2
  rw [nmf, h.hr hk, if_neg (nI_m1 (by omega)), nI_clamp (by omega), (h.1.2.2.1 k hk).1, nmL_e32 (h.2.2.1.2.2.2.2.2.2.2.1 0 k)]
theorem nmf_N (h : CQ c q x) {k : Nat} (hk : k < c.1 6 0) : nmL (nmf q 1 (nI k)) 12 = c.2.1 1 k := by
  have h6 := h.nN.2
  rw [nmf, h.hw (by decide) hk, if_neg (nI_m1 (by omega)), nI_clamp (by omega), (h.1.2.2.2.1 k hk).1, nmL_e32 (h.2.2.1.2.2.2.2.2.2.2.1 1 k)]
theorem ts_e (h : CQ c q x) {t g : Nat} (ht : t < 864) (hg : g < c.1 8 0) (h1 : q.2.2 11 t = shF c g) (h2 : q.2.2 12 t = c.2.2 g) : (if tpart q (nI t) 3 = 1 then jS 26 ++ (tsB q (nI t) ++ jS 32) else jS 22 ++ (tsB q (nI t) ++ jS 33)) = tsM c g := by
  have hb := h.2.2.1.2.2.2.2.2.2.1 g
  have hw := h.2.2.1.2.2.2.2.2.2.2.2.1 g hg
  have h6 := h.nC.2
  have tp : ∀ u, tpart q (nI t) u = if u = 0 then nI (c.1 36 g) else if u = 1 then nI (c.1 37 g) else if u = 2 then nI (c.1 38 g) else if u = 3 then nI (c.1 39 g) else -1 := fun u => by
    rw [tpart, if_neg (nI_pos (by omega)), if_pos (show nI t < 864 from nI_lt (b := 864) (by omega) (by omega)), nI_clamp (by omega), h1, tp_val h.2.2.1 g hg]
  have tb : bnd q (nI t) = c.2.2 g := by rw [bnd, if_neg (nI_pos (by omega)), if_pos (show nI t < 864 from nI_lt (b := 864) (by omega) (by omega)), nI_clamp (by omega), h2]
  have t0 : tpart q (nI t) 0 = nI (c.1 36 g) := tp 0
  have t1 : tpart q (nI t) 1 = nI (c.1 37 g) := tp 1
  have t2 : tpart q (nI t) 2 = nI (c.1 38 g) := tp 2
  have t3 : tpart q (nI t) 3 = nI (c.1 39 g) := tp 3
  have eq1 : ∀ v, v ≤ 2 → ∀ w, w ≤ 2 → (nI v = nI w ↔ v = w) := fun v hv w hw => nI_eq (by omega) (by omega)
  have eh : (if nI (c.1 38 g) = 0 then jS 29 else if nI (c.1 38 g) = 1 then jS 30 else jS 31) = [32] ++ (hwM (c.1 38 g) ++ [32]) := by
    have : c.1 38 g = 0 ∨ c.1 38 g = 1 ∨ c.1 38 g = 2 := by omega
    rcases this with e | e | e <;> rw [e] <;> rfl
  have ew : (if nI (c.1 36 g) = 1 then jS 27 ++ nmL (nmf q 0 (nI (c.1 37 g))) 12 else jS 28 ++ numB (nI (c.1 37 g))) = [40] ++ (if c.1 36 g = 1 then jS 43 ++ ([32] ++ c.2.1 0 (c.1 37 g)) else jS 42 ++ ([32] ++ numB (nI (c.1 37 g)))) := by
    by_cases z : c.1 36 g = 1
    · rw [if_pos (show nI (c.1 36 g) = 1 by rw [z]; rfl), if_pos z, nmf_C h (hw.1 z), j27]; simp only [List.append_assoc]
    · rw [if_neg (show ¬ nI (c.1 36 g) = 1 from fun w => z ((nI_eq (b := 1) (by omega) (by omega)).mp w)), if_neg z, j28]; simp only [List.append_assoc]
  unfold tsB tsM
  rw [t0, t1, t2, t3, tb, eh, ew]
  by_cases z : c.1 39 g = 1
  · rw [if_pos (show nI (c.1 39 g) = 1 by rw [z]; rfl), if_pos z, if_pos z, j26, j32]; simp only [List.append_assoc]
  · rw [if_neg (show ¬ nI (c.1 39 g) = 1 from fun w => z ((nI_eq (b := 1) (by omega) (by omega)).mp w)), if_neg z, if_neg z, j22, j32, j33]; simp only [List.append_assoc, List.append_nil, List.nil_append]
section Cl
variable {v a b : Int32} {row F N : Nat}
theorem tr_e (hc : crow q v a b = nI row) (hr : row < 216) (hm : q.2.2 10 row = nI N) (hN : N ≤ 4) {i : Nat} (hi : i < N) : trow q v a b (nI i) = nI (row * 4 + i) := by
  rw [trow, hc, if_neg (nI_m1 (by omega)), nI_clamp (by omega), hm, if_neg (nI_pos (by omega)), if_pos (nI_lt hi (by omega)), show (4 : Int32) = nI 4 from rfl, pk_mul, nI_add]
theorem tl_e (h : CQ c q x) (hc : crow q v a b = nI row) (hr : row < 216) (hm : q.2.2 10 row = nI N) (hN : N ≤ 4) (hF : F + N ≤ c.1 8 0) (hq : ∀ i, i < N → q.2.2 11 (row * 4 + i) = shF c (F + i) ∧ q.2.2 12 (row * 4 + i) = c.2.2 (F + i)) : ∀ (n i : Nat), i + n = N → tlB q v a b n i = tlM c (F + i) n
  | 0, _, _ => rfl
  | n + 1, i, hi => by
    rw [tlB, tlM, tr_e hc hr hm hN (show i < N by omega), ts_e h (by omega) (by omega) (hq i (by omega)).1 (hq i (by omega)).2, tl_e h hc hr hm hN hF hq n (i + 1) (by omega)]
    rfl
theorem ct_e (h : CQ c q x) {call : Nat} (hcl : call ≤ 16) (hc : crow q v a b = nI row) (hr : row < 216) (h8 : q.2.2 8 row = nI call) (hm : q.2.2 10 row = nI N) (hN : N ≤ 4) (hF : F + N ≤ c.1 8 0) (hq : ∀ i, i < N → q.2.2 11 (row * 4 + i) = shF c (F + i) ∧ q.2.2 12 (row * 4 + i) = c.2.2 (F + i)) : [32] ++ ctB q v a b N = clM c call F N := by
  unfold ctB clM
  have e0 : clpart q v a b 0 = nI call := by rw [clpart, hc, if_neg (nI_m1 (by omega)), nI_clamp (by omega), if_pos rfl, h8]
  rw [e0, tl_e h hc hr hm hN hF hq N 0 (by omega), Nat.add_zero]
  by_cases z : call = 16
  · rw [if_pos (show nI call = 16 by rw [z]; rfl), if_pos z, j25]
  · rw [if_neg (show ¬ nI call = 16 from fun w => z ((nI_eq (b := 16) (by omega) (by omega)).mp w)), if_neg z]
end Cl
theorem cTT_e (h : CQ c q x) {v a b : Int32} {row N : Nat} (hc : crow q v a b = nI row) (hr : row < 216) (hm : q.2.2 10 row = nI N) (hN : N ≤ 4) : (clpart q v a b 1).toNatClampNeg = N := by
  rw [clpart, hc, if_neg (nI_m1 (by omega)), nI_clamp (by omega), if_neg (by decide), if_pos rfl, hm, nI_clamp (by omega)]
theorem ru_e (h : CQ c q x) {k : Nat} (hk : k < c.1 4 0) : ∀ n r, r + n = c.1 5 0 → ruM c k n r = ruB q (nI k) (cTT q 0 k) (c.1 21 k - min (r - aSum (c.1 21) k) (c.1 21 k)) (min (r - aSum (c.1 21) k) (c.1 21 k))
  | 0, r, hr => by
    obtain ⟨e1, e2, -, -⟩ := h.2.2.1.2.2.2.1
    have hs := tie_S hk e2
    rw [show c.1 21 k - min (r - aSum (c.1 21) k) (c.1 21 k) = 0 by omega]; rfl
  | n + 1, r, hr => by
    obtain ⟨e1, e2, -, -⟩ := h.2.2.1.2.2.2.1
    obtain ⟨-, hX⟩ := h.oR
    have hs := tie_S hk e2
    have h6 := h.nC.2
    have hr5 : r < c.1 5 0 := by omega
    have ho := own_iff e1 hX hk hr5
    have h4 := hX r hr5
    rw [ruM, ru_e h hk n (r + 1) (by omega)]
    by_cases z : aSum (c.1 21) k ≤ r ∧ r < aSum (c.1 21) k + c.1 21 k
    · have hO := ho.mpr z
      have hx : c.1 24 r = r - aSum (c.1 21) k := by have := e1 r hr5; rw [hO] at this; omega
      rw [if_pos (by rw [hO]), show min (r - aSum (c.1 21) k) (c.1 21 k) = r - aSum (c.1 21) k by omega, show min (r + 1 - aSum (c.1 21) k) (c.1 21 k) = r - aSum (c.1 21) k + 1 by omega]
      obtain ⟨n', hn'⟩ : ∃ n', c.1 21 k - (r - aSum (c.1 21) k) = n' + 1 := ⟨c.1 21 k - (r - aSum (c.1 21) k) - 1, by omega⟩
      rw [hn', show c.1 21 k - (r - aSum (c.1 21) k + 1) = n' by omega, ruB]
      congr 1
      have ec := h.crR hr5
      have e2' := cl2_R h hr5
      rw [hO, hx] at ec e2'
      have hq := h.1.2.2.2.2.1 r hr5
      have hq2 := h.2.2.1.2.1 r hr5
      have hb := h.2.2.1.2.2.2.2.2.2.1 r
      have hrw := rwR_lt h.2.2.1 hr5
      have et : cTT q 0 k (r - aSum (c.1 21) k) = c.1 28 r := cTT_e h ec (by omega) hq.1.2.1 hq2.2.2.1
      have ect := ct_e h hb.2.1 ec (by omega) hq.1.1 hq.1.2.1 hq2.2.2.1 hq2.2.2.2 hq.1.2.2
      rw [et, e2', ruP, ← ect, j32, j23, j24]
      by_cases u : c.1 26 r = 1
      · rw [if_neg (show ¬ nI (c.1 26 r) = 0 by rw [u]; decide), if_pos (show nI (c.1 26 r) = 1 by rw [u]; rfl)]; simp only [List.append_assoc]
      · rw [if_pos (show nI (c.1 26 r) = 0 by rw [show c.1 26 r = 0 by omega]; rfl), if_neg (show ¬ nI (c.1 26 r) = 1 by rw [show c.1 26 r = 0 by omega]; decide)]; simp only [List.append_assoc]
    · rw [if_neg (fun w => z (ho.mp ((nI_eq (by omega) (by omega)).mp w))), show min (r + 1 - aSum (c.1 21) k) (c.1 21 k) = min (r - aSum (c.1 21) k) (c.1 21 k) by omega, List.nil_append]
theorem wy_e (h : CQ c q x) {k : Nat} (hk : k < c.1 6 0) : ∀ n r, r + n = c.1 7 0 → wyM c k n r = wyB q (nI k) (cTT q 1 k) (c.1 22 k - min (r - aSum (c.1 22) k) (c.1 22 k)) (min (r - aSum (c.1 22) k) (c.1 22 k))
  | 0, r, hr => by
    obtain ⟨-, -, e1, e2⟩ := h.2.2.1.2.2.2.1
    have hs := tie_S hk e2
    rw [show c.1 22 k - min (r - aSum (c.1 22) k) (c.1 22 k) = 0 by omega]; rfl
  | n + 1, r, hr => by
    obtain ⟨-, -, e1, e2⟩ := h.2.2.1.2.2.2.1
    obtain ⟨-, hX⟩ := h.oW
    have hs := tie_S hk e2
    have h6 := h.nN.2
    have hr5 : r < c.1 7 0 := by omega
    have ho := own_iff e1 hX hk hr5
    have h4 := hX r hr5
    rw [wyM, wy_e h hk n (r + 1) (by omega)]
    by_cases z : aSum (c.1 22) k ≤ r ∧ r < aSum (c.1 22) k + c.1 22 k
    · have hO := ho.mpr z
      have hx : c.1 30 r = r - aSum (c.1 22) k := by have := e1 r hr5; rw [hO] at this; omega
      rw [if_pos (by rw [hO]), show min (r - aSum (c.1 22) k) (c.1 22 k) = r - aSum (c.1 22) k by omega, show min (r + 1 - aSum (c.1 22) k) (c.1 22 k) = r - aSum (c.1 22) k + 1 by omega]
      obtain ⟨n', hn'⟩ : ∃ n', c.1 22 k - (r - aSum (c.1 22) k) = n' + 1 := ⟨c.1 22 k - (r - aSum (c.1 22) k) - 1, by omega⟩
      rw [hn', show c.1 22 k - (r - aSum (c.1 22) k + 1) = n' by omega, wyB]
      congr 1
      have ec := h.crW (w := 1) (by decide) hr5
      have e2' := cl2_W h (w := 1) (by decide) hr5
      rw [hO, hx] at ec e2'
      have hq := h.1.2.2.2.2.2 r hr5
      have hq2 := h.2.2.1.2.2.1 r hr5
      have hb := h.2.2.1.2.2.2.2.2.2.1 r
      have hrw := rwW_lt h.2.2.1 hr5
      have hgo := (h.2.2.1.2.2.2.2.2.2.2.2.2 r hr5).1
      have et : cTT q 1 k (r - aSum (c.1 22) k) = c.1 33 r := cTT_e h ec (by omega) hq.1.2.1 hq2.2.2.1
      have ect := ct_e h hb.2.2.1 ec (by omega) hq.1.1 hq.1.2.1 hq2.2.2.1 hq2.2.2.2 hq.1.2.2
      rw [et, e2', nmf_N h hgo, wyP, ← ect, j32, j36, j22]; simp only [List.append_assoc]
    · rw [if_neg (fun w => z (ho.mp ((nI_eq (by omega) (by omega)).mp w))), show min (r + 1 - aSum (c.1 22) k) (c.1 22 k) = min (r - aSum (c.1 22) k) (c.1 22 k) by omega, List.nil_append]
theorem co_e (h : CQ c q x) {k : Nat} (hk : k < c.1 4 0) : coB q (nI k) (cTT q 0 k) (cpart q (nI k) 1).toNatClampNeg = coM c k := by
  have hg := h.2.2.1.1.2.2.1 k hk
  have hc := cpart_c h.1.1 (show k < q.1.1 by rw [h.q1.1]; exact hk)
  have hr := ru_e h hk (c.1 5 0) 0 (by omega)
  rw [Nat.zero_sub, Nat.zero_min, Nat.sub_zero] at hr
  have hq := h.1.2.2.1 k hk
  unfold coB coM
  rw [hc.1, hc.2.1, hq.2.1, hq.2.2, nI_clamp (by omega), nmf_C h hk, ← hr, j21, j22, j34]
  simp only [List.append_assoc]
theorem nd_e (h : CQ c q x) {k : Nat} (hk : k < c.1 6 0) : ndB q (nI k) (cTT q 1 k) (npart q (nI k) 0).toNatClampNeg = ndM c k := by
  have hg := h.2.2.1.1.2.2.2 k hk
  have h6 := h.nN.2
  have hr := wy_e h hk (c.1 7 0) 0 (by omega)
  rw [Nat.zero_sub, Nat.zero_min, Nat.sub_zero] at hr
  have hq := h.1.2.2.2.1 k hk
  have e0 : npart q (nI k) 0 = nI (c.1 22 k) := by rw [npart, h.hw (by decide) hk, if_neg (nI_m1 (by omega)), if_pos rfl, nI_clamp (by omega), hq.2]
  unfold ndB ndM
  rw [e0, nI_clamp (by omega), nmf_N h hk, ← hr, j35, j34]
  simp only [List.append_assoc]
theorem cs_e (h : CQ c q x) : ∀ n k, k + n = c.1 4 0 → prC q n k = cosM c n k
  | 0, _, _ => rfl
  | n + 1, k, hk => by rw [prC, cosM, co_e h (by omega), cs_e h n (k + 1) (by omega)]
theorem ns_e (h : CQ c q x) : ∀ n k, k + n = c.1 6 0 → prN q n k = ndsM c n k
  | 0, _, _ => rfl
  | n + 1, k, hk => by rw [prN, ndsM, nd_e h (by omega), ns_e h n (k + 1) (by omega)]
theorem pr_e (h : CQ c q x) : prA q = prM c := by
  unfold prA prM
  rw [h.q1.1, h.q1.2.1, cs_e h _ 0 (by omega), ns_e h _ 0 (by omega)]
end Pr
