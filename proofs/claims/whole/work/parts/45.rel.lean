/-! The class's reader against the machine: its token, its tests, its pictures -/
def TKR (n : Nat) (f : Nat → Nat) (a : Nat) (k : aT) : Prop := ∃ (nm : Int64) (nu : Int32), k = (lxE n f a, lxK n f a, lxP n f a, nm, nu) ∧ (lxK n f a = 3 → nm = e32 (nl n f (lxP n f a))) ∧ (lxK n f a = 4 → nu = tkV n f a)
theorem orF_0 : ∀ l : List Int32, orF l = 0 ↔ ∀ x, x ∈ l → x = 0
  | [] => ⟨fun _ x hx => (by cases hx), fun _ => rfl⟩
  | x :: l => by
    unfold orF
    by_cases e : x = 0
    · rw [if_pos e, orF_0 l]
      exact ⟨fun h y hy => (List.mem_cons.mp hy).elim (fun g => g ▸ e) (h y), fun h y hy => h y (List.mem_cons_of_mem _ hy)⟩
    · rw [if_neg e]
      exact ⟨fun h => absurd h (by decide), fun h => absurd (h x (List.mem_cons_self)) e⟩
section Rel
variable {n : Nat} {f : Nat → Nat} {a : Nat} {k : aT} (hn : n < 65536) (hf : ∀ k, k < n → f k < 256) (ha : a ≤ n)
theorem L_isw (hn : n < 65536) (hf : ∀ k, k < n → f k < 256) (ha : a ≤ n) (hk : TKR n f a k) {j : Nat} (hj : j < nJ) : isw n f k j = if (tok n f a).1 = 3 ∧ (tok n f a).2.2.2.1 = jS j then 1 else 0 := by
  obtain ⟨nm, nu, e, -, -⟩ := hk
  exact isw_eq hn hf ha e hj
theorem L_isw0 (hn : n < 65536) (hf : ∀ k, k < n → f k < 256) (ha : a ≤ n) (hk : TKR n f a k) {j : Nat} (hj : j < nJ) : isw n f k j = 0 ↔ ¬ ((tok n f a).1 = 3 ∧ (tok n f a).2.2.2.1 = jS j) := by
  rw [L_isw hn hf ha hk hj]
  split
  · rename_i h; exact ⟨fun e => absurd e (by decide), fun e => absurd h e⟩
  · rename_i h; exact ⟨fun _ => h, fun _ => rfl⟩
theorem L_kd (hk : TKR n f a k) : k.2.1 = (tok n f a).1 := by obtain ⟨nm, nu, rfl, -, -⟩ := hk; rfl
theorem L_pl (hk : TKR n f a k) : k.2.2.1 = (tok n f a).2.1 := by obtain ⟨nm, nu, rfl, -, -⟩ := hk; rfl
theorem L_en (hk : TKR n f a k) : k.1 = (tok n f a).2.2.1 := by obtain ⟨nm, nu, rfl, -, -⟩ := hk; rfl
theorem L_nm (hk : TKR n f a k) (h : (tok n f a).1 = 3) : k.2.2.2.1 = e32 (tok n f a).2.2.2.1 := by obtain ⟨nm, nu, rfl, h1, -⟩ := hk; exact h1 h
theorem L_nu (hk : TKR n f a k) (h : (tok n f a).1 = 4) : k.2.2.2.2 = (tok n f a).2.2.2.2 := by obtain ⟨nm, nu, rfl, -, h1⟩ := hk; exact h1 h
theorem L_fr (hn : n < 65536) (hf : ∀ k, k < n → f k < 256) (ha : a ≤ n) (hk : TKR n f a k) : frF n f k = if fre (tok n f a) then 1 else 0 := by
  have hj : ∀ j, j < nJ → (isw n f k j = 0 ↔ ¬ ((tok n f a).1 = 3 ∧ (tok n f a).2.2.2.1 = jS j)) := fun j h => L_isw0 hn hf ha hk h
  unfold frF
  rw [L_kd hk]
  by_cases h3 : (tok n f a).1 = 3
  · rw [if_pos h3]
    by_cases hm : (tok n f a).2.2.2.1 ∈ rsv
    · rw [if_neg (fun h : fre (tok n f a) => h.2 hm)]
      by_cases ho : opens n f k = 0
      · rw [if_pos ho]
        refine if_neg fun hs => ?_
        have ho' := (orF_0 _).mp ho
        have hs' := (orF_0 _).mp hs
        simp only [rsv, List.mem_cons, List.not_mem_nil, or_false] at hm
        have go : ∀ j, j < nJ → isw n f k j = 0 → ¬ (tok n f a).2.2.2.1 = jS j := fun j h e g => (hj j h).mp e ⟨h3, g⟩
        rcases hm with e | e | e | e | e | e | e | e | e | e | e | e
        · exact go 2 (by decide) (ho' _ (by simp)) e
        · exact go 3 (by decide) (ho' _ (by simp)) e
        · exact go 4 (by decide) (ho' _ (by simp)) e
        · exact go 5 (by decide) (ho' _ (by simp)) e
        · exact go 6 (by decide) (ho' _ (by simp)) e
        · exact go 7 (by decide) (ho' _ (by simp)) e
        · exact go 8 (by decide) (ho' _ (by simp)) e
        · exact go 9 (by decide) (ho' _ (by simp)) e
        · exact go 10 (by decide) (hs' _ (by simp)) e
        · exact go 11 (by decide) (hs' _ (by simp)) e
        · exact go 12 (by decide) (hs' _ (by simp)) e
        · exact go 13 (by decide) (hs' _ (by simp)) e
      · rw [if_neg ho]
    · rw [if_pos (show fre (tok n f a) from ⟨h3, hm⟩)]
      have hm2 := hm
      simp only [rsv, List.mem_cons, List.not_mem_nil, or_false, not_or] at hm2
      have go : ∀ j, j < nJ → ¬ (tok n f a).2.2.2.1 = jS j → isw n f k j = 0 := fun j h e => (hj j h).mpr fun g => e g.2
      have ho : opens n f k = 0 := by
        refine (orF_0 _).mpr fun x hx => ?_
        simp only [List.mem_cons, List.not_mem_nil, or_false] at hx
        rcases hx with rfl | rfl | rfl | rfl | rfl | rfl | rfl | rfl
        · exact go 2 (by decide) hm2.1
        · exact go 3 (by decide) hm2.2.1
        · exact go 4 (by decide) hm2.2.2.1
        · exact go 5 (by decide) hm2.2.2.2.1
        · exact go 6 (by decide) hm2.2.2.2.2.1
        · exact go 7 (by decide) hm2.2.2.2.2.2.1
        · exact go 8 (by decide) hm2.2.2.2.2.2.2.1
        · exact go 9 (by decide) hm2.2.2.2.2.2.2.2.1
      have hs : says n f k = 0 := by
        refine (orF_0 _).mpr fun x hx => ?_
        simp only [List.mem_cons, List.not_mem_nil, or_false] at hx
        rcases hx with rfl | rfl | rfl | rfl
        · exact go 10 (by decide) hm2.2.2.2.2.2.2.2.2.1
        · exact go 11 (by decide) hm2.2.2.2.2.2.2.2.2.2.1
        · exact go 12 (by decide) hm2.2.2.2.2.2.2.2.2.2.2.1
        · exact go 13 (by decide) hm2.2.2.2.2.2.2.2.2.2.2.2
      rw [if_pos ho, if_pos hs]
  · rw [if_neg h3, if_neg (fun h : fre (tok n f a) => h3 h.1)]
theorem L_num (hk : TKR n f a k) (x y : Int32) : (if k.2.1 = 4 then (if k.2.2.2.2 < x then (0 : Int32) else if y < k.2.2.2.2 then 0 else 1) else 0) = if (tok n f a).1 = 4 ∧ x ≤ (tok n f a).2.2.2.2 ∧ (tok n f a).2.2.2.2 ≤ y then 1 else 0 := by
  rw [L_kd hk]
  by_cases h : (tok n f a).1 = 4
  · rw [if_pos h, L_nu hk h]
    by_cases h1 : (tok n f a).2.2.2.2 < x
    · rw [if_pos h1, if_neg (fun g => (Int32.not_le.mpr h1) g.2.1)]
    · rw [if_neg h1]
      by_cases h2 : y < (tok n f a).2.2.2.2
      · rw [if_pos h2, if_neg (fun g => (Int32.not_le.mpr h2) g.2.2)]
      · rw [if_neg h2, if_pos ⟨h, Int32.not_lt.mp h1, Int32.not_lt.mp h2⟩]
  · rw [if_neg h, if_neg (fun g => h g.1)]
end Rel
