/-! PRINTER: an object w over the policy p and the bytes o; s = (bytes laid, they, did all fit) -/
abbrev aW : Type := Nat × (Nat → Nat) × Bool
def WR (σ : aS) (w p o cap : Nat) (s : aW) : Prop := σ.2.2 w = some (.inr (3, [.ref p, .ref o, .int (bI s.2.2)])) ∧ BY σ o cap s.1 s.2.1
/-- one byte more, or one that doesn't fit -/
def put1 (cap : Nat) (s : aW) (c : Nat) : aW := if s.1 < cap then (s.1 + 1, updN s.2.1 s.1 c, s.2.2) else (s.1, s.2.1, false)
def putL (cap : Nat) (s : aW) (l : List Nat) : aW := l.foldl (put1 cap) s
theorem putL_cons {cap : Nat} {s : aW} {c : Nat} {l : List Nat} : putL cap s (c :: l) = putL cap (put1 cap s c) l := rfl
theorem putL_app {cap : Nat} {s : aW} {l r : List Nat} : putL cap s (l ++ r) = putL cap (putL cap s l) r := List.foldl_append
/-- nothing changed but w, o and o + 1 -/
def a_fw (σ τ : aS) (w o : Nat) : Prop := τ.1 = σ.1 ∧ τ.2.1 = σ.2.1 ∧ ∀ a : Nat, a ≠ w → a ≠ o → a ≠ o + 1 → τ.2.2 a = σ.2.2 a
theorem a_fw.rf {σ : aS} {w o : Nat} : a_fw σ σ w o := ⟨rfl, rfl, fun _ _ _ _ => rfl⟩
theorem a_fw.trans {σ τ υ : aS} {w o : Nat} (h : a_fw σ τ w o) (g : a_fw τ υ w o) : a_fw σ υ w o := ⟨g.1.trans h.1, g.2.1.trans h.2.1, fun a h1 h2 h3 => (g.2.2 a h1 h2 h3).trans (h.2.2 a h1 h2 h3)⟩
section ModW
variable {G : aG} {σ : aS} {K : Option Value → aS → Prop} {w p o cap : Nat} {s : aW}
theorem a_addfit {μ : aM} {d lo pc ia ip c : Nat} {lv : List (Nat × Value)} {st : List Value} {v : Int32} (hd1 : decode μ.2.1 pc = .ok (.invokevirtual ia, 3)) (hL : a_lk μ.1.cls ia m_B_add 1) (hd2 : decode μ.2.1 (pc + 3) = .ok (.iand, 1)) (hd3 : decode μ.2.1 (pc + 4) = .ok (.putfield ip, 3)) (hP : a_fp μ.1.cls ip 3 2 .boolean false) (hW : WR σ w p o cap s) (hdis : w < o ∨ o + 1 < w) (hv : v.toBitVec.toNat % 256 = c) (hr : ((Value.int (bI s.2.2) :: Value.ref w :: st).map fun v => v.category).sum ≤ 8) (hb : 2 ≤ d ∧ 46 ≤ lo)
    (k : ∀ τ, a_fw σ τ w o → WR τ w p o cap (put1 cap s c) → a_J G μ d lo (pc + 7) lv st τ K) : a_J G μ d lo pc lv (.int v :: .ref o :: .int (bI s.2.2) :: .ref w :: st) σ K := by
  obtain ⟨hW0, hB⟩ := hW
  obtain ⟨g, hB0, hB1, hBr⟩ := id hB
  refine a_callV (ci := 0) 1 25 [_] _ hd1 hL ⟨im_B_add, se_B_add⟩ rfl rfl rfl rfl hr ⟨hb.1, hb.2⟩ hB0 ?_
  refine sp_B_add hB (fun e => ?_) (fun e τ hf hB2 => ?_)
  · refine a_iand hd2 ?_
    have e0 : bI s.2.2 &&& 0 = 0 := by cases s.2.2 <;> rfl
    rw [e0]
    refine a_putfield hd3 hP hW0 rfl rfl (Nat.le_of_ble_eq_true rfl) ?_
    have e1 : put1 cap s c = (s.1, s.2.1, false) := by rw [put1, if_neg (by omega)]
    rw [e1] at k
    exact k _ ⟨rfl, rfl, fun a h1 _ _ => a_un h1 rfl⟩ ⟨a_us, hB.fr (a_fr.rf.upd (Nat.le_refl w) (Nat.lt_succ_self w)) (by omega)⟩
  · refine a_iand hd2 ?_
    have e0 : bI s.2.2 &&& 1 = bI s.2.2 := by cases s.2.2 <;> rfl
    have hW1 : τ.2.2 w = some (.inr (3, [.ref p, .ref o, .int (bI s.2.2)])) := (hf.2.2 w (by omega)).trans hW0
    have en : narrow .boolean (.int (bI s.2.2)) = .int (bI s.2.2) := by cases s.2.2 <;> rfl
    have ef : fits .boolean (.int (bI s.2.2)) = true := by cases s.2.2 <;> rfl
    rw [e0]
    refine a_putfield hd3 hP hW1 en ef (Nat.le_of_ble_eq_true rfl) ?_
    have e1 : put1 cap s c = (s.1 + 1, updN s.2.1 s.1 c, s.2.2) := by rw [put1, if_pos e]
    rw [e1] at k
    rw [hv] at hB2
    exact k _ ⟨hf.1, hf.2.1, fun a h1 h2 h3 => (a_un h1 rfl).trans (hf.2.2 a (by omega))⟩ ⟨a_us, hB2.fr (a_fr.rf.upd (Nat.le_refl w) (Nat.lt_succ_self w)) (by omega)⟩
set_option maxHeartbeats 4000000 in
set_option maxRecDepth 100000 in
theorem lp_W_writeText {j : Nat} (hj : j < nJ) (hdis : w < o ∨ o + 1 < w) : ∀ (m i : Nat) {σ : aS} {s : aW}, WR σ w p o cap s → i + m = (jS j).length → (∀ τ, a_fw σ τ w o → WR τ w p o cap (putL cap s ((jS j).drop i)) → K none τ) → a_J G m_W_writeText 4 85 2 [(0, .ref w), (1, .ref (G.2.2.2.2.1 j)), (2, .int (nI i))] [] σ K := by
  have hl := jS_len hj
  intro m
  induction m with
  | zero =>
    intro i σ s hW hi hK
    obtain ⟨hW0, hB⟩ := id hW
    refine a_iload_n d_W_writeText_2 rfl rfl ?_
    refine a_aload_n d_W_writeText_3 rfl rfl ?_
    refine a_callVS 1 20 [] _ d_W_writeText_4 l_W_111 ⟨im_S_length, se_S_length⟩ rfl rfl rfl (Nat.le_of_ble_eq_true rfl) ⟨Nat.le_of_ble_eq_true rfl, Nat.le_of_ble_eq_true rfl⟩ hj ?_
    refine sp_S_length hj ?_
    refine a_icmp_ge (tgt := 37) d_W_writeText_7 (by decide) (fun c_1 => ?_) (fun n9 => absurd (by rw [show i = (jS j).length by omega]; exact Int32.le_refl _) n9)
    refine a_return d_W_writeText_37 rfl ?_
    rw [List.drop_eq_nil_of_le (by omega)] at hK
    exact hK σ a_fw.rf hW
  | succ m ih =>
    intro i σ s hW hi hK
    obtain ⟨hW0, hB⟩ := id hW
    refine a_iload_n d_W_writeText_2 rfl rfl ?_
    refine a_aload_n d_W_writeText_3 rfl rfl ?_
    refine a_callVS 1 20 [] _ d_W_writeText_4 l_W_111 ⟨im_S_length, se_S_length⟩ rfl rfl rfl (Nat.le_of_ble_eq_true rfl) ⟨Nat.le_of_ble_eq_true rfl, Nat.le_of_ble_eq_true rfl⟩ hj ?_
    refine sp_S_length hj ?_
    refine a_icmp_ge (tgt := 37) d_W_writeText_7 (by decide) (fun n9 => absurd n9 (nI_ge (show i < (jS j).length by omega) (by omega))) (fun c_1 => ?_)
    refine a_aload_n d_W_writeText_10 rfl rfl ?_
    refine a_dup d_W_writeText_11 rfl ?_
    apply a_getfield d_W_writeText_12 f_W_19
    · (repeat (first | with_reducible assumption | with_reducible exact a_us | with_reducible exact a_ns | refine a_un (by first | with_reducible assumption | omega) ?_ | refine a_nn (by first | with_reducible assumption | omega | (simp only [a_upd_1, a_new_1]; omega)) ?_ | exact a_us | exact a_ns))
    · rfl
    refine a_aload_n d_W_writeText_15 rfl rfl ?_
    apply a_getfield d_W_writeText_16 f_W_15
    · (repeat (first | with_reducible assumption | with_reducible exact a_us | with_reducible exact a_ns | refine a_un (by first | with_reducible assumption | omega) ?_ | refine a_nn (by first | with_reducible assumption | omega | (simp only [a_upd_1, a_new_1]; omega)) ?_ | exact a_us | exact a_ns))
    · rfl
    refine a_aload_n d_W_writeText_19 rfl rfl ?_
    refine a_iload_n d_W_writeText_20 rfl rfl ?_
    refine a_callVS 3 64 [_] _ d_W_writeText_21 l_W_117 ⟨im_S_charAt, se_S_charAt⟩ rfl rfl rfl (Nat.le_of_ble_eq_true rfl) ⟨Nat.le_of_ble_eq_true rfl, Nat.le_of_ble_eq_true rfl⟩ hj ?_
    refine sp_S_charAt hj (show i < (jS j).length by omega) ?_
    have hc := jS_lt (i := i) hj
    refine a_addfit (c := (jS j).getD i 0) d_W_writeText_24 l_W_101 d_W_writeText_27 d_W_writeText_28 p_W_19 hW hdis (by rw [nI_bv]; omega) (Nat.le_of_ble_eq_true rfl) ⟨Nat.le_of_ble_eq_true rfl, Nat.le_of_ble_eq_true rfl⟩ (fun τ hf hW2 => ?_)
    refine a_iinc (c0 := 1) d_W_writeText_31 rfl (by decide) (by decide) ?_
    refine a_goto (tgt := 2) d_W_writeText_34 (by decide) ?_
    refine a_lvk (ih (i + 1) hW2 (by omega) (fun υ hf2 hW3 => ?_)) ⟨rfl, rfl, by rw [← nI_1]; rfl, trivial⟩
    have ed : (jS j).drop i = (jS j).getD i 0 :: (jS j).drop (i + 1) := by rw [List.drop_eq_getElem_cons (show i < (jS j).length by omega), List.getD_eq_getElem?_getD, List.getElem?_eq_getElem (show i < (jS j).length by omega)]; rfl
    rw [ed, putL_cons] at hK
    exact hK υ (hf.trans hf2) hW3

set_option maxHeartbeats 4000000 in
set_option maxRecDepth 100000 in
theorem sp_W_writeText {j : Nat} (hj : j < nJ) (hdis : w < o ∨ o + 1 < w) (hW : WR σ w p o cap s) (hK : ∀ τ, a_fw σ τ w o → WR τ w p o cap (putL cap s (jS j)) → K none τ) : a_C G m_W_writeText 4 85 [.ref w, .ref (G.2.2.2.2.1 j)] σ K := by
  refine a_enter rfl (Nat.le_of_ble_eq_true rfl) ?_
  refine a_iconst (v := 0) d_W_writeText_0 (by decide) ?_
  refine a_istore_n d_W_writeText_1 rfl (by decide) ?_
  exact a_lvk (lp_W_writeText hj hdis (jS j).length 0 hW (by omega) hK) ⟨rfl, rfl, rfl, trivial⟩

end ModW
