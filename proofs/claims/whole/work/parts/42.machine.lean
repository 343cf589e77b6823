/-! THE READING MACHINE, apart from any heap: c = (numbers by field and index, names, bounds) -/
abbrev aN : Type := (Nat → Nat → Nat) × (Nat → Nat → List Nat) × (Nat → Int32)
def xN (N : Nat → Nat → Nat) (i k v : Nat) : Nat → Nat → Nat := fun a => if a = i then (fun j => if j = k then v else N i j) else N a
def xL (N : Nat → Nat → List Nat) (i k : Nat) (v : List Nat) : Nat → Nat → List Nat := fun a => if a = i then (fun j => if j = k then v else N i j) else N a
def rsv : List (List Nat) := [jS 2, jS 3, jS 4, jS 5, jS 6, jS 7, jS 8, jS 9, jS 10, jS 11, jS 12, jS 13]
abbrev fre (t : aK) : Prop := t.1 = 3 ∧ ¬ t.2.2.2.1 ∈ rsv
/-- the first of m names from k on that is nm -/
def afd (g : Nat → List Nat) (nm : List Nat) (k : Nat) : Nat → Option Nat
  | 0 => none
  | m + 1 => if g k = nm then some k else afd g nm (k + 1) m
def wr (t : aK) (c : aN) : aN := ((xN (xN (xN c.1 2 (0) (if t.1 = 5 then 1 else if t.1 = 0 then 3 else 2)) 3 (0) (t.2.1)) 0 (0) (99)), c.2.1, c.2.2)
def gt (t : aK) (c : aN) (s : Nat) : aN := ((xN (xN c.1 0 (0) (s)) 1 (0) (t.2.2.1)), c.2.1, c.2.2)
def acm (c : aN) : Nat := if (c.1 10 0) = 0 then c.1 28 ((c.1 5 0) - 1) else c.1 33 ((c.1 7 0) - 1)
def acl (c : aN) : Nat := if (c.1 10 0) = 0 then c.1 25 ((c.1 5 0) - 1) else c.1 31 ((c.1 7 0) - 1)
def a1 (t : aK) (c : aN) : aN := if t.1 = 0 then (if (c.1 6 0) = 0 then ((xN (xN (xN c.1 2 (0) (4)) 3 (0) (t.2.1)) 0 (0) (0)), c.2.1, c.2.2) else ((xN c.1 0 (0) (0)), c.2.1, c.2.2)) else if t.1 = 1 ∧ (c.1 6 0) < 24 then gt t c 2 else wr t c
def a2 (t : aK) (c : aN) : aN := if (t.1 = 3 ∧ t.2.2.2.1 = jS 0) then gt t c 5 else if (t.1 = 3 ∧ t.2.2.2.1 = jS 1) ∧ (c.1 6 0) = 0 ∧ (c.1 4 0) < 6 then gt t c 3 else wr t c
def ahc (c : aN) (l : List Nat) : aN := ((xN (xN (xN (xN c.1 20 ((c.1 4 0)) (0)) 21 ((c.1 4 0)) (0)) 10 (0) (0)) 4 (0) ((c.1 4 0) + 1)), (xL c.2.1 0 ((c.1 4 0)) (l)), c.2.2)
def ahn (c : aN) (l : List Nat) : aN := ((xN (xN (xN c.1 22 ((c.1 6 0)) (0)) 10 (0) (1)) 6 (0) ((c.1 6 0) + 1)), (xL c.2.1 1 ((c.1 6 0)) (l)), c.2.2)
def a3 (t : aK) (c : aN) : aN := if fre t ∧ afd (c.2.1 0) t.2.2.2.1 0 (c.1 4 0) = none then gt t (ahc c t.2.2.2.1) 4 else wr t c
def a4 (t : aK) (c : aN) : aN := if (t.1 = 4 ∧ 1 ≤ t.2.2.2.2 ∧ t.2.2.2.2 ≤ 15) then gt t ((xN c.1 20 ((c.1 4 0) - 1) (t.2.2.2.2.toNatClampNeg)), c.2.1, c.2.2) 6 else wr t c
def a5 (t : aK) (c : aN) : aN := if fre t ∧ afd (c.2.1 1) t.2.2.2.1 0 (c.1 6 0) = none then gt t (ahn c t.2.2.2.1) 6 else wr t c
def a6 (t : aK) (c : aN) : aN := if t.1 = 2 then gt t c 1 else if t.1 = 1 ∧ (if (c.1 10 0) = 0 then c.1 21 ((c.1 4 0) - 1) < 4 else c.1 22 ((c.1 6 0) - 1) < 8) then gt t c 7 else wr t c
def a7 (t : aK) (c : aN) : aN := if (c.1 10 0) = 0 then (if (t.1 = 3 ∧ t.2.2.2.1 = jS 15) then gt t ((xN c.1 11 (0) (1)), c.2.1, c.2.2) 8 else if (t.1 = 3 ∧ t.2.2.2.1 = jS 16) then gt t ((xN c.1 11 (0) (0)), c.2.1, c.2.2) 8 else wr t c) else if (t.1 = 3 ∧ t.2.2.2.1 = jS 14) then gt t c 8 else wr t c
def adc (c : aN) (n : Nat) : aN := if (c.1 10 0) = 0 then ((xN (xN (xN (xN (xN (xN (xN (xN c.1 23 ((c.1 5 0)) ((c.1 4 0) - 1)) 24 ((c.1 5 0)) (c.1 21 ((c.1 4 0) - 1))) 25 ((c.1 5 0)) (n)) 26 ((c.1 5 0)) ((c.1 11 0))) 27 ((c.1 5 0)) ((c.1 8 0))) 28 ((c.1 5 0)) (0)) 21 ((c.1 4 0) - 1) (c.1 21 ((c.1 4 0) - 1) + 1)) 5 (0) ((c.1 5 0) + 1)), c.2.1, c.2.2) else ((xN (xN (xN (xN (xN (xN (xN c.1 29 ((c.1 7 0)) ((c.1 6 0) - 1)) 30 ((c.1 7 0)) (c.1 22 ((c.1 6 0) - 1))) 31 ((c.1 7 0)) (n)) 32 ((c.1 7 0)) ((c.1 8 0))) 33 ((c.1 7 0)) (0)) 22 ((c.1 6 0) - 1) (c.1 22 ((c.1 6 0) - 1) + 1)) 7 (0) ((c.1 7 0) + 1)), c.2.1, c.2.2)
def a8 (t : aK) (c : aN) : aN := if (t.1 = 3 ∧ t.2.2.2.1 = jS 17) then gt t (adc c 16) 9 else if (t.1 = 4 ∧ 0 ≤ t.2.2.2.2 ∧ t.2.2.2.2 ≤ 15) then gt t (adc c t.2.2.2.2.toNatClampNeg) 9 else wr t c
def alk (c : aN) (w o l p : Nat) : aN := ((xN (xN (xN (xN (xN c.1 41 ((c.1 9 0)) (w)) 42 ((c.1 9 0)) (o)) 43 ((c.1 9 0)) (l)) 44 ((c.1 9 0)) (p)) 9 (0) ((c.1 9 0) + 1)), c.2.1, c.2.2)
def a9 (t : aK) (c : aN) : aN := if t.1 = 1 ∧ acm c < 4 then gt t ((xN c.1 12 (0) (0)), c.2.1, c.2.2) 11 else if (c.1 10 0) = 0 then (if t.1 = 2 then gt t c 6 else wr t c) else if fre t then gt t (alk ((xN c.1 35 ((c.1 7 0) - 1) (t.2.1)), (xL c.2.1 3 ((c.1 7 0) - 1) (t.2.2.2.1)), c.2.2) 1 ((c.1 7 0) - 1) 0 t.2.1) 10 else wr t c
def a10 (t : aK) (c : aN) : aN := if t.1 = 2 then gt t c 6 else wr t c
def a11 (t : aK) (c : aN) : aN := if (t.1 = 3 ∧ t.2.2.2.1 = jS 18) then gt t ((xN c.1 12 (0) ((c.1 12 0) + 1)), c.2.1, c.2.2) 12 else if (t.1 = 3 ∧ t.2.2.2.1 = jS 19) then gt t c 13 else if (t.1 = 3 ∧ t.2.2.2.1 = jS 20) then gt t c 14 else wr t c
def a12 (t : aK) (c : aN) : aN := if t.1 = 1 then gt t c 11 else wr t c
def a13 (t : aK) (c : aN) : aN := if (t.1 = 4 ∧ 0 ≤ t.2.2.2.2 ∧ t.2.2.2.2 ≤ 2) then gt t (alk ((xN (xN (xN c.1 14 (0) (0)) 15 (0) (t.2.2.2.2.toNatClampNeg)) 16 (0) (t.2.1)), c.2.1, c.2.2) 2 (c.1 8 0) (acl c) t.2.1) 15 else wr t c
def a14 (t : aK) (c : aN) : aN := if fre t then gt t (alk ((xN (xN (xN c.1 14 (0) (1)) 15 (0) (0)) 16 (0) (t.2.1)), (xL c.2.1 4 (0) (t.2.2.2.1)), c.2.2) 0 (c.1 8 0) (acl c) t.2.1) 15 else wr t c
def a15 (t : aK) (c : aN) : aN := if (t.1 = 3 ∧ t.2.2.2.1 = jS 11) then gt t ((xN c.1 17 (0) (0)), c.2.1, c.2.2) 16 else if (t.1 = 3 ∧ t.2.2.2.1 = jS 12) then gt t ((xN c.1 17 (0) (1)), c.2.1, c.2.2) 16 else if (t.1 = 3 ∧ t.2.2.2.1 = jS 13) then gt t ((xN c.1 17 (0) (2)), c.2.1, c.2.2) 16 else wr t c
def adt (c : aN) (v : Int32) : aN := if (c.1 10 0) = 0 then ((xN (xN (xN (xN (xN (xN (xN (xN c.1 36 ((c.1 8 0)) ((c.1 14 0))) 37 ((c.1 8 0)) ((c.1 15 0))) 38 ((c.1 8 0)) ((c.1 17 0))) 39 ((c.1 8 0)) ((c.1 12 0) % 2)) 40 ((c.1 8 0)) ((c.1 16 0))) 13 (0) ((c.1 12 0) + 1)) 8 (0) ((c.1 8 0) + 1)) 28 ((c.1 5 0) - 1) (c.1 28 ((c.1 5 0) - 1) + 1)), (xL c.2.1 2 ((c.1 8 0)) (c.2.1 4 (0))), (upd c.2.2 ((c.1 8 0)) (v))) else ((xN (xN (xN (xN (xN (xN (xN (xN c.1 36 ((c.1 8 0)) ((c.1 14 0))) 37 ((c.1 8 0)) ((c.1 15 0))) 38 ((c.1 8 0)) ((c.1 17 0))) 39 ((c.1 8 0)) ((c.1 12 0) % 2)) 40 ((c.1 8 0)) ((c.1 16 0))) 13 (0) ((c.1 12 0) + 1)) 8 (0) ((c.1 8 0) + 1)) 33 ((c.1 7 0) - 1) (c.1 33 ((c.1 7 0) - 1) + 1)), (xL c.2.1 2 ((c.1 8 0)) (c.2.1 4 (0))), (upd c.2.2 ((c.1 8 0)) (v)))
def a16 (t : aK) (c : aN) : aN := if t.1 = 4 then gt t (adt c t.2.2.2.2) 17 else wr t c
def a17 (t : aK) (c : aN) : aN := if t.1 = 2 then gt t ((xN c.1 13 (0) ((c.1 13 0) - 1)), c.2.1, c.2.2) (if 0 < (c.1 13 0) - 1 then 17 else 9) else wr t c
def stT (t : aK) (c : aN) : aN := if (c.1 0 0) = 1 then a1 t c else if (c.1 0 0) = 2 then a2 t c else if (c.1 0 0) = 3 then a3 t c else if (c.1 0 0) = 4 then a4 t c else if (c.1 0 0) = 5 then a5 t c else if (c.1 0 0) = 6 then a6 t c else if (c.1 0 0) = 7 then a7 t c else if (c.1 0 0) = 8 then a8 t c else if (c.1 0 0) = 9 then a9 t c else if (c.1 0 0) = 10 then a10 t c else if (c.1 0 0) = 11 then a11 t c else if (c.1 0 0) = 12 then a12 t c else if (c.1 0 0) = 13 then a13 t c else if (c.1 0 0) = 14 then a14 t c else if (c.1 0 0) = 15 then a15 t c else if (c.1 0 0) = 16 then a16 t c else if (c.1 0 0) = 17 then a17 t c else c
def stp (n : Nat) (f : Nat → Nat) (c : aN) : aN := if (c.1 2 0) = 0 ∧ ¬ (c.1 0 0) = 0 then stT (tok n f (c.1 1 0)) c else c
def ait (n : Nat) (f : Nat → Nat) : Nat → aN → aN
  | 0, c => c
  | m + 1, c => ait n f m (stp n f c)
/-- c comes to d -/
def aRc (n : Nat) (f : Nat → Nat) (c d : aN) : Prop := ∃ m, ait n f m c = d
theorem ait_add (n : Nat) (f : Nat → Nat) : ∀ (m k : Nat) (c : aN), ait n f (m + k) c = ait n f k (ait n f m c)
  | 0, k, c => by rw [Nat.zero_add]; rfl
  | m + 1, k, c => by rw [show m + 1 + k = (m + k) + 1 by omega, ait, ait_add n f m k, ait]
theorem aRc.rf {n : Nat} {f : Nat → Nat} {c : aN} : aRc n f c c := ⟨0, rfl⟩
theorem aRc.trans {n : Nat} {f : Nat → Nat} {c d e : aN} (h : aRc n f c d) (g : aRc n f d e) : aRc n f c e := by
  obtain ⟨m, rfl⟩ := h
  obtain ⟨k, rfl⟩ := g
  exact ⟨m + k, ait_add n f m k c⟩
theorem aRc.step {n : Nat} {f : Nat → Nat} {c d : aN} (h : aRc n f c d) : aRc n f c (stp n f d) := h.trans ⟨1, rfl⟩
def aStop (c : aN) : Prop := ¬ (c.1 2 0) = 0 ∨ (c.1 0 0) = 0
theorem ait_stop {n : Nat} {f : Nat → Nat} {c : aN} (h : aStop c) : ∀ m, ait n f m c = c
  | 0 => rfl
  | m + 1 => by
    have e : stp n f c = c := by
      unfold stp
      refine if_neg fun g => ?_
      rcases h with h | h
      · exact h g.1
      · exact g.2 h
    rw [ait, e, ait_stop h m]
/-- the machine has one end -/
theorem aRc_end {n : Nat} {f : Nat → Nat} {c d e : aN} (h : aRc n f c d) (hd : aStop d) (g : aRc n f c e) (he : aStop e) : d = e := by
  obtain ⟨m, rfl⟩ := h
  obtain ⟨k, rfl⟩ := g
  rcases Nat.le_total m k with l | l
  · obtain ⟨j, rfl⟩ := Nat.exists_eq_add_of_le l
    rw [ait_add, ait_stop hd]
  · obtain ⟨j, rfl⟩ := Nat.exists_eq_add_of_le l
    rw [ait_add, ait_stop he]
def aC0 : aN := (fun i _ => if i = 0 then 1 else 0, fun _ _ => [], fun _ => 0)
