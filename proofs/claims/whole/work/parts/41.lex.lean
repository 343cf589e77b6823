/-! LEXICAL: a name's letters as a list of bytes, its numbers in two bases; what a token is -/
def nlE (n : Nat) (f : Nat → Nat) : Nat → Nat → List Nat
  | 0, _ => []
  | m + 1, p => if leF (atF n f (nI p)) = 0 then [] else f p :: nlE n f m (p + 1)
def nl (n : Nat) (f : Nat → Nat) (p : Nat) : List Nat := nlE n f 12 p
/-- base B, from the left -/
def nB (B v : Nat) (l : List Nat) : Nat := l.foldl (fun v x => v * B + (x - 96)) v
theorem nB_nil (B v : Nat) : nB B v [] = v := rfl
theorem nB_cons (B v x : Nat) (l : List Nat) : nB B v (x :: l) = nB B (v * B + (x - 96)) l := by unfold nB; rw [List.foldl_cons]
def gdL (l : List Nat) : Prop := ∀ x, x ∈ l → 97 ≤ x ∧ x ≤ 122
def seg (f : Nat → Nat) : Nat → Nat → List Nat
  | _, 0 => []
  | p, m + 1 => f p :: seg f (p + 1) m
theorem seg_len (f : Nat → Nat) : ∀ m p, (seg f p m).length = m
  | 0, _ => rfl
  | m + 1, p => by rw [seg, List.length_cons, seg_len f m (p + 1)]
theorem le_in {x : Nat} (h : x < 2 ^ 31) : ¬ leF (nI x) = 0 ↔ 97 ≤ x ∧ x ≤ 122 := by
  unfold leF
  by_cases h1 : x < 97
  · rw [if_pos (show nI x < 97 from nI_lt (b := 97) h1 (by decide))]
    exact ⟨fun e => absurd rfl e, fun e => absurd e.1 (by omega)⟩
  · rw [if_neg (show ¬ nI x < 97 from nI_nlt (b := 97) (by omega) h)]
    by_cases h2 : 122 < x
    · rw [if_pos (show (122 : Int32) < nI x from nI_lt (a := 122) h2 h)]
      exact ⟨fun e => absurd rfl e, fun e => absurd e.2 (by omega)⟩
    · rw [if_neg (show ¬ (122 : Int32) < nI x from nI_nlt (a := 122) (by omega) (by decide))]
      exact ⟨fun _ => ⟨by omega, by omega⟩, fun _ => by decide⟩
theorem le_wd {b : Int32} (h : wdF b = 0) : leF b = 0 := by
  unfold wdF at h
  by_cases e : leF b = 0
  · exact e
  · rw [if_neg e] at h; exact absurd h (by decide)
theorem atL_in {n p : Nat} {f : Nat → Nat} (hp : p < 2 ^ 31) (hn : n < 65536) (h : ¬ leF (atF n f (nI p)) = 0) : p < n ∧ atF n f (nI p) = nI (f p) := by
  by_cases e : n ≤ p
  · rw [atF_out e hp] at h
    exact absurd (by decide) h
  · exact ⟨by omega, atF_in (by omega) (by omega)⟩
theorem nI_sub {a b : Nat} (h : b ≤ a) : nI a - nI b = nI (a - b) := by
  have e : nI (a - b) + nI b = nI a := by rw [nI_add]; congr 1; omega
  rw [← e, Int32.add_sub_cancel]
theorem nlE_gd {n : Nat} {f : Nat → Nat} (hn : n < 65536) (hf : ∀ k, k < n → f k < 256) : ∀ m p, p + m < 2 ^ 31 → gdL (nlE n f m p)
  | 0, _, _ => fun x hx => by cases hx
  | m + 1, p, hp => by
    unfold nlE
    by_cases e : leF (atF n f (nI p)) = 0
    · rw [if_pos e]; exact fun x hx => by cases hx
    · rw [if_neg e]
      obtain ⟨h1, h2⟩ := atL_in (by omega) hn e
      intro x hx
      rcases List.mem_cons.mp hx with rfl | hx
      · rw [h2] at e
        exact (le_in (by have := hf p h1; omega)).mp e
      · exact nlE_gd hn hf m (p + 1) (by omega) x hx
theorem nlE_len (n : Nat) (f : Nat → Nat) : ∀ m p, (nlE n f m p).length ≤ m
  | 0, _ => Nat.le_refl _
  | m + 1, p => by
    unfold nlE
    by_cases e : leF (atF n f (nI p)) = 0
    · rw [if_pos e]; exact Nat.zero_le _
    · rw [if_neg e, List.length_cons]; exact Nat.succ_le_succ (nlE_len n f m (p + 1))
theorem nB_lt {B : Nat} (hB : 27 ≤ B) : ∀ (l : List Nat) (v : Nat), gdL l → nB B v l < (v + 1) * B ^ l.length
  | [], v, _ => by rw [nB_nil, List.length_nil, Nat.pow_zero, Nat.mul_one]; exact Nat.lt_succ_self v
  | x :: l, v, h => by
    have hx := h x (List.mem_cons_self)
    have ih := nB_lt hB l (v * B + (x - 96)) (fun y hy => h y (List.mem_cons_of_mem _ hy))
    rw [nB_cons, List.length_cons, Nat.pow_succ]
    have h2 : v * B + (x - 96) + 1 ≤ (v + 1) * B := by rw [Nat.add_mul]; omega
    have h3 := Nat.mul_le_mul_right (B ^ l.length) h2
    have h4 : (v + 1) * B * B ^ l.length = (v + 1) * (B ^ l.length * B) := by rw [Nat.mul_assoc, Nat.mul_comm B]
    omega
theorem nB_snoc (B : Nat) : ∀ (l : List Nat) (v x : Nat), nB B v (l ++ [x]) = nB B v l * B + (x - 96)
  | [], v, x => by rw [List.nil_append, nB_cons, nB_nil, nB_nil]
  | y :: l, v, x => by rw [List.cons_append, nB_cons, nB_cons, nB_snoc B l]
theorem nB_rev {B : Nat} (hB : 27 ≤ B) : ∀ (l m : List Nat), gdL l → gdL m → nB B 0 l.reverse = nB B 0 m.reverse → l = m
  | [], [], _, _, _ => rfl
  | [], y :: m, _, h2, e => by
    rw [List.reverse_cons, nB_snoc] at e
    have := h2 y (List.mem_cons_self)
    have e0 : nB B 0 ([] : List Nat).reverse = 0 := rfl
    omega
  | x :: l, [], h1, _, e => by
    rw [List.reverse_cons, nB_snoc] at e
    have := h1 x (List.mem_cons_self)
    have e0 : nB B 0 ([] : List Nat).reverse = 0 := rfl
    omega
  | x :: l, y :: m, h1, h2, e => by
    have hx := h1 x (List.mem_cons_self)
    have hy := h2 y (List.mem_cons_self)
    rw [List.reverse_cons, nB_snoc, List.reverse_cons, nB_snoc] at e
    have em : (nB B 0 l.reverse * B + (x - 96)) % B = (nB B 0 m.reverse * B + (y - 96)) % B := by rw [e]
    rw [Nat.mul_comm, Nat.mul_add_mod, Nat.mul_comm, Nat.mul_add_mod, Nat.mod_eq_of_lt (by omega), Nat.mod_eq_of_lt (by omega)] at em
    have eq : nB B 0 l.reverse * B = nB B 0 m.reverse * B := by omega
    have eq2 := Nat.eq_of_mul_eq_mul_right (by omega : 0 < B) eq
    rw [nB_rev hB l m (fun z hz => h1 z (List.mem_cons_of_mem _ hz)) (fun z hz => h2 z (List.mem_cons_of_mem _ hz)) eq2, show x = y by omega]
theorem nB_inj {B : Nat} (hB : 27 ≤ B) {l m : List Nat} (h1 : gdL l) (h2 : gdL m) (e : nB B 0 l = nB B 0 m) : l = m := by
  have := nB_rev hB l.reverse m.reverse (fun x hx => h1 x (List.mem_reverse.mp hx)) (fun x hx => h2 x (List.mem_reverse.mp hx)) (by rw [List.reverse_reverse, List.reverse_reverse]; exact e)
  rw [← List.reverse_reverse l, this, List.reverse_reverse]
/-- the class's number of a name, the reference's -/
def e32 (l : List Nat) : Int64 := lN (nB 32 0 l)
def e27 (l : List Nat) : Int64 := lN (nB 27 0 l)
def nmG (l : List Nat) : Prop := gdL l ∧ l.length ≤ 12
theorem nB32_lt {l : List Nat} (h : nmG l) : nB 32 0 l < 2 ^ 63 := by
  have h1 := nB_lt (B := 32) (by omega) l 0 h.1
  have h2 : 32 ^ l.length ≤ 32 ^ 12 := Nat.pow_le_pow_right (by omega) h.2
  have h3 : (32 : Nat) ^ 12 = 2 ^ 60 := by decide
  omega
theorem nB27_lt {l : List Nat} (h : nmG l) : nB 27 0 l < 2 ^ 63 := by
  have h1 := nB_lt (B := 27) (by omega) l 0 h.1
  have h2 : 27 ^ l.length ≤ 27 ^ 12 := Nat.pow_le_pow_right (by omega) h.2
  have h3 : (27 : Nat) ^ 12 < 2 ^ 60 := by decide
  omega
theorem e32_inj {l m : List Nat} (h1 : nmG l) (h2 : nmG m) : e32 l = e32 m ↔ l = m :=
  ⟨fun e => nB_inj (by omega) h1.1 h2.1 ((pk_lEQ (nB32_lt h1) (nB32_lt h2)).mp e), fun e => by rw [e]⟩
theorem e27_inj {l m : List Nat} (h1 : nmG l) (h2 : nmG m) : e27 l = e27 m ↔ l = m :=
  ⟨fun e => nB_inj (by omega) h1.1 h2.1 ((pk_lEQ (nB27_lt h1) (nB27_lt h2)).mp e), fun e => by rw [e]⟩
theorem nmE_nB {n : Nat} {f : Nat → Nat} (hn : n < 65536) (hf : ∀ k, k < n → f k < 256) : ∀ (m p v : Nat), p + m < 2 ^ 31 → m ≤ 12 → v < 32 ^ (12 - m) → nmE n f m p (lN v) = lN (nB 32 v (nlE n f m p))
  | 0, _, _, _, _, _ => rfl
  | m + 1, p, v, hp, hm, hv => by
    unfold nmE nlE
    by_cases e : leF (atF n f (nI p)) = 0
    · rw [if_pos e, if_pos e]; rfl
    · rw [if_neg e, if_neg e]
      obtain ⟨h1, h2⟩ := atL_in (by omega) hn e
      have hb := hf p h1
      have hl := (le_in (by omega)).mp (h2 ▸ e)
      have h60 : 32 ^ (12 - (m + 1)) * 32 = 32 ^ (12 - m) := by rw [← Nat.pow_succ]; congr 1; omega
      have hle : 32 ^ (12 - m) ≤ 32 ^ 12 := Nat.pow_le_pow_right (by omega) (by omega)
      have h12 : (32 : Nat) ^ 12 = 2 ^ 60 := by decide
      have hv2 : v * 32 + (f p - 96) < 32 ^ (12 - m) := by omega
      rw [h2, show (97 : Int32) = nI 97 from rfl, nI_sub hl.1, nI_1, show f p - 97 + 1 = f p - 96 by omega, nI_l (by omega), show (5 : Int32) = nI 5 from rfl, wb_shl v (by decide), show v * 2 ^ 5 = v * 32 from rfl, g_or (k := 5) (p := 32) rfl (by omega) (by omega), nmE_nB hn hf m (p + 1) _ (by omega) (by omega) hv2, nB_cons]
theorem nm32_e {n : Nat} {f : Nat → Nat} (hn : n < 65536) (hf : ∀ k, k < n → f k < 256) {p : Nat} (hp : p < 65536) : nm32 n f p = e32 (nl n f p) := nmE_nB hn hf 12 p 0 (by omega) (by omega) (by decide)
theorem nl_G {n : Nat} {f : Nat → Nat} (hn : n < 65536) (hf : ∀ k, k < n → f k < 256) {p : Nat} (hp : p < 65536) : nmG (nl n f p) := ⟨nlE_gd hn hf 12 p (by omega), nlE_len n f 12 p⟩
theorem nlE_seg {n : Nat} {f : Nat → Nat} (hn : n < 65536) : ∀ (m p : Nat), p ≤ n → wen f (n - p) p - p ≤ m → ¬ alL f (wen f (n - p) p - p) p = 0 → nlE n f m p = seg f p (wen f (n - p) p - p)
  | m, p, hp, hm, ha => by
    by_cases he : p = n ∨ wdF (nI (f p)) = 0
    · have e0 : wen f (n - p) p = p := by
        rcases he with e | e
        · rw [e, Nat.sub_self]; rfl
        · match h : n - p with
          | 0 => rfl
          | x + 1 => rw [wen, if_pos e]
      have e1 : leF (atF n f (nI p)) = 0 := by
        rcases he with e | e
        · rw [atF_out (by omega) (by omega)]; decide
        · by_cases hpn : p < n
          · rw [atF_in hpn (by omega)]; exact le_wd e
          · rw [atF_out (by omega) (by omega)]; decide
      rw [e0, Nat.sub_self, seg]
      match m with
      | 0 => rfl
      | m + 1 => rw [nlE, if_pos e1]
    · have hpn : p < n := by omega
      have hw : ¬ wdF (nI (f p)) = 0 := fun e => he (Or.inr e)
      have e0 : wen f (n - p) p = wen f (n - (p + 1)) (p + 1) := by
        rw [show n - p = (n - (p + 1)) + 1 by omega, wen, if_neg hw]
      have hle := (wen_le f (n - (p + 1)) (p + 1)).1
      rw [e0] at hm ha ⊢
      rw [show wen f (n - (p + 1)) (p + 1) - p = (wen f (n - (p + 1)) (p + 1) - (p + 1)) + 1 by omega] at hm ha ⊢
      rw [alL] at ha
      by_cases hl : leF (nI (f p)) = 0
      · rw [if_pos hl] at ha; exact absurd rfl ha
      · rw [if_neg hl] at ha
        match m, hm with
        | m + 1, hm => rw [nlE, atF_in hpn (by omega), if_neg hl, seg, nlE_seg hn m (p + 1) (by omega) (by omega) ha]
theorem lx_le (n : Nat) (f : Nat → Nat) {a : Nat} (ha : a ≤ n) : a ≤ lxP n f a ∧ lxP n f a ≤ n ∧ lxP n f a ≤ lxE n f a ∧ lxE n f a ≤ n := by
  have h1 := skp_le f (n - a) a
  have hp : lxP n f a = skp f (n - a) a := rfl
  have h2 := wen_le f (n - lxP n f a) (lxP n f a)
  refine ⟨by omega, by omega, ?_, ?_⟩
  · unfold lxE
    split
    · omega
    · split
      · omega
      · omega
  · unfold lxE
    split
    · omega
    · split
      · omega
      · omega
theorem nk_cases (f : Nat → Nat) (p e : Nat) : nkF f p e = 5 ∨ (nkF f p e = 4 ∧ ∃ x, nvW f p e = some x) := by
  unfold nkF
  match h : nvW f p e with
  | none => exact Or.inl rfl
  | some x =>
    by_cases e2 : nI e ≤ nI (tq f p)
    · exact Or.inl (if_pos e2)
    · exact Or.inr ⟨if_neg e2, x, rfl⟩
/-- a name -/
theorem lx_3 {n : Nat} {f : Nat → Nat} (hn : n < 65536) {a : Nat} (ha : a ≤ n) (h : lxK n f a = 3) : lxP n f a < lxE n f a ∧ lxE n f a - lxP n f a ≤ 12 ∧ nl n f (lxP n f a) = seg f (lxP n f a) (lxE n f a - lxP n f a) := by
  have hle := lx_le n f ha
  unfold lxK at h
  by_cases h1 : n ≤ lxP n f a
  · rw [if_pos h1] at h; exact absurd h (by decide)
  · rw [if_neg h1] at h
    by_cases h2 : wdF (nI (f (lxP n f a))) = 0
    · rw [if_pos h2] at h
      split at h
      · exact absurd h (by decide)
      · split at h <;> exact absurd h (by decide)
    · rw [if_neg h2] at h
      have eE : lxE n f a = wen f (n - lxP n f a) (lxP n f a) := by rw [lxE, if_neg h1, if_neg h2]
      rw [← eE] at h
      unfold wkF at h
      have hk : nkF f (lxP n f a) (lxE n f a) ≠ 3 := by
        rcases nk_cases f (lxP n f a) (lxE n f a) with e | ⟨e, -⟩ <;> rw [e] <;> decide
      by_cases h3 : alL f (lxE n f a - lxP n f a) (lxP n f a) = 0
      · rw [if_pos h3] at h; exact absurd h hk
      · rw [if_neg h3] at h
        by_cases h4 : (12 : Int32) < nI (lxE n f a) - nI (lxP n f a)
        · rw [if_pos h4] at h; exact absurd h hk
        · have h5 : lxE n f a - lxP n f a ≤ 12 := by
            rw [nI_sub hle.2.2.1] at h4
            exact Nat.le_of_not_lt fun c => h4 (nI_lt (a := 12) c (by omega))
          have hlt : lxP n f a < lxE n f a := by
            rw [eE]; exact wen_gt h2 (by omega)
          refine ⟨hlt, h5, ?_⟩
          have := nlE_seg hn 12 (lxP n f a) (by omega) (by rw [← eE]; exact h5) (by rw [← eE]; exact h3)
          rw [← eE] at this
          exact this
theorem lx_4 {n : Nat} {f : Nat → Nat} {a : Nat} (h : lxK n f a = 4) : ∃ x, nvW f (lxP n f a) (lxE n f a) = some x := by
  unfold lxK at h
  by_cases h1 : n ≤ lxP n f a
  · rw [if_pos h1] at h; exact absurd h (by decide)
  · rw [if_neg h1] at h
    by_cases h2 : wdF (nI (f (lxP n f a))) = 0
    · rw [if_pos h2] at h
      split at h
      · exact absurd h (by decide)
      · split at h <;> exact absurd h (by decide)
    · rw [if_neg h2] at h
      have eE : lxE n f a = wen f (n - lxP n f a) (lxP n f a) := by rw [lxE, if_neg h1, if_neg h2]
      rw [← eE] at h
      unfold wkF at h
      rcases nk_cases f (lxP n f a) (lxE n f a) with e | ⟨e, hx⟩
      · rw [e] at h
        split at h
        · exact absurd h (by decide)
        · split at h <;> exact absurd h (by decide)
      · exact hx
/-- the token at a: kind, place, end, name, number -/
abbrev aK : Type := Int32 × Nat × Nat × List Nat × Int32
def tkV (n : Nat) (f : Nat → Nat) (a : Nat) : Int32 := match nvW f (lxP n f a) (lxE n f a) with
  | some x => sgF f (lxP n f a) x
  | none => 0
def tok (n : Nat) (f : Nat → Nat) (a : Nat) : aK := (lxK n f a, lxP n f a, lxE n f a, nl n f (lxP n f a), tkV n f a)
theorem eqB_seg {n : Nat} {f : Nat → Nat} (hn : n < 65536) (hf : ∀ k, k < n → f k < 256) {p j : Nat} (hj : j < nJ) : ∀ m i, i + m = (jS j).length → p + i + m ≤ n → eqB n f p j m i = if seg f (p + i) m = (jS j).drop i then 1 else 0
  | 0, i, h, _ => by
    rw [eqB, seg, if_pos]
    rw [List.drop_eq_nil_of_le (by omega)]
  | m + 1, i, h, hp => by
    have hi : i < (jS j).length := by omega
    have hg : (jS j).getD i 0 = (jS j)[i] := by simp [hi]
    have hl := jS_lt (i := i) hj
    have hfp := hf (p + i) (by omega)
    rw [eqB, seg, List.drop_eq_getElem_cons hi, atF_in (by omega) (by omega), hg, eqB_seg hn hf hj m (i + 1) (by omega) (by omega)]
    rw [hg] at hl
    by_cases e : f (p + i) = (jS j)[i]
    · rw [e, if_pos rfl]
      by_cases e2 : seg f (p + (i + 1)) m = List.drop (i + 1) (jS j)
      · rw [if_pos e2, if_pos]
        rw [← e2]; rfl
      · rw [if_neg e2, if_neg]
        intro c
        exact e2 (List.cons.inj c).2
    · rw [if_neg (fun c => e ((nI_eq (by omega) (by omega)).mp c)), if_neg (fun c => e (List.cons.inj c).1)]
theorem isw_eq {n : Nat} {f : Nat → Nat} (hn : n < 65536) (hf : ∀ k, k < n → f k < 256) {a : Nat} (ha : a ≤ n) {k : aT} {nm : Int64} {nu : Int32} (hk : k = (lxE n f a, lxK n f a, lxP n f a, nm, nu)) {j : Nat} (hj : j < nJ) : isw n f k j = if lxK n f a = 3 ∧ nl n f (lxP n f a) = jS j then 1 else 0 := by
  subst hk
  have hle := lx_le n f ha
  have hjl := jS_len hj
  unfold isw
  dsimp only
  by_cases h3 : lxK n f a = 3
  · obtain ⟨q1, q2, q3⟩ := lx_3 hn ha h3
    rw [if_pos h3, nI_sub hle.2.2.1]
    by_cases hlen : lxE n f a - lxP n f a = (jS j).length
    · rw [if_pos (by rw [hlen]), eqB_seg hn hf hj _ 0 (by omega) (by omega), q3, hlen, Nat.add_zero, List.drop_zero]
      by_cases e : seg f (lxP n f a) (jS j).length = jS j
      · rw [if_pos e, if_pos ⟨h3, e⟩]
      · rw [if_neg e, if_neg (fun c => e c.2)]
    · rw [if_neg (fun c => hlen ((nI_eq (by omega) (by omega)).mp c)), if_neg]
      intro c
      apply hlen
      rw [← c.2, q3, seg_len]
  · rw [if_neg h3, if_neg (fun c => h3 c.1)]
