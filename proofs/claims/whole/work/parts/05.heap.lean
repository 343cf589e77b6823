theorem a_X.tk {G : aG} {μ : aM} {d lo : Nat} {p : Program} {R : Room} {s : State} {m : MethodId} {args : Array Value} {meth : Method} {c : Code} (h : a_X G μ d lo p R s m args meth c) : va_K G.2.2.1 vwCl (a_tys G.2.2.2.1) s := va_K.moved h.2.2.2.2.2.2.2.2.2.1.alike h.2.2.2.2.2.2.2.2.1.1
theorem a_X.own {G : aG} {μ : aM} {d lo : Nat} {p : Program} {R : Room} {s : State} {m : MethodId} {args : Array Value} {meth : Method} {c : Code} (h : a_X G μ d lo p R s m args meth c) : s.vm.findClass μ.1.cls = some m.cls := h.2.2.2.2.1
theorem a_X.ts {G : aG} {μ : aM} {d lo : Nat} {p : Program} {R : Room} {s : State} {m : MethodId} {args : Array Value} {meth : Method} {c : Code} (h : a_X G μ d lo p R s m args meth c) : ∀ w ∈ aTs, w.before args s = true := h.2.2.2.2.2.1
theorem a_X.fr {G : aG} {μ : aM} {d lo : Nat} {p : Program} {R : Room} {s : State} {m : MethodId} {args : Array Value} {meth : Method} {c : Code} (h : a_X G μ d lo p R s m args meth c) : d ≤ R.frames ∧ lo ≤ R.locals := h.2.2.2.2.2.2.2.2.2.2
theorem a_X.al {G : aG} {μ : aM} {d lo : Nat} {p : Program} {R : Room} {s : State} {m : MethodId} {args : Array Value} {meth : Method} {c : Code} (h : a_X G μ d lo p R s m args meth c) : G.2.1.WarmedH s.vm := h.2.2.2.2.2.2.2.2.2.1
/-- a field's link: class ci of the table, place k -/
def a_fl (own : String) (idx ci k : Nat) : Prop := ∃ (C : String) (T : u_T) (N : Nat), vwCl[ci]? = some (C, T, N) ∧ k < N ∧ (∀ w ∈ u_ws C T N, w ∈ aTs) ∧ Cond.fieldLink own idx (T k).1 (T k).2.1 (T k).2.2.1 ∈ aTs
def a_fp (own : String) (idx ci k : Nat) (ty : FieldType) (fin : Bool) : Prop := ∃ (C : String) (T : u_T) (N : Nat) (ty0 : Nat → FieldType), vwCl[ci]? = some (C, T, N) ∧ k < N ∧ (∀ w ∈ u_ws C T N, w ∈ aTs) ∧ Cond.fieldLink own idx (T k).1 (T k).2.1 (T k).2.2.1 ∈ aTs ∧ (∀ k, k < N → parseFieldDescriptor (T k).2.2.1 = some (ty0 k)) ∧ (∀ a, a < N → ∀ b, b < N → a ≠ b → (T a).2.1 ≠ (T b).2.1) ∧ (T k).2.2.2 = fin ∧ parseFieldDescriptor (T k).2.2.1 = some ty ∧ (fin = true → (T k).1 = own)
def a_nw (own : String) (idx ci N : Nat) (fs : List Value) : Prop := ∃ (C : String) (T : u_T) (ty : Nat → FieldType), vwCl[ci]? = some (C, T, N) ∧ (∀ w ∈ u_ws C T N, w ∈ aTs) ∧ (∀ k, k < N → parseFieldDescriptor (T k).2.2.1 = some (ty k)) ∧ Cond.classLink own idx C ∈ aTs ∧ Cond.instantiable C N ∈ aTs ∧ Cond.initialized C ∈ aTs ∧ ∀ j, j < N → defaultValue (ty j) = vp_V fs j
/-- a call's link -/
def a_lk (own : String) (idx : Nat) (μ : aM) (n : Nat) : Prop := Cond.methodLink own idx μ.1 ∈ aTs ∧ Cond.initialized μ.1.cls ∈ aTs ∧ Cond.code μ.1 μ.2.1 μ.2.2.1 μ.2.2.2 ∈ aTs ∧ (μ.1.cls ≠ "java/lang/invoke/MethodHandle" ∧ μ.1.cls ≠ "java/lang/invoke/VarHandle") ∧ (parseMethodDescriptor μ.1.desc).map (fun d => d.parameters.length) = some n
section Core3
variable {G : aG} {μ : aM} {d lo pc : Nat} {lv : List (Nat × Value)} {st : List Value} {σ : aS} {K : Option Value → aS → Prop}
theorem a_getfield {idx ci k a : Nat} {fs : List Value} {v : Value} (hd : decode μ.2.1 pc = .ok (.getfield idx, 3)) (hL : a_fl μ.1.cls idx ci k) (hc : σ.2.2 a = some (.inr (ci, fs))) (hv : fs[k]? = some v) (kk : a_J G μ d lo (pc + 3) lv (v :: st) σ K) : a_J G μ d lo pc lv (.ref a :: st) σ K := by
  obtain ⟨C, T, N, h1, h2, h3, h4⟩ := hL
  exact a_step kk (fun hX hR _ kk => va_get hX.1 hX.2.1 hX.ts h3 hX.own hX.tk (a_P1 (hR.cell hc)) 0 rfl h1 k h2 (hX.ts _ h4) (fun _ h9 => h9) hv hd kk)
theorem a_lcs {locs : List Loc} {a i : Nat} (hlc : ∀ q ∈ locs, G.2.1.heap.size ≤ q.base) (ha : G.2.1.heap.size ≤ a) : ∀ q ∈ locs ++ [(⟨a, i⟩ : Loc)], G.2.1.heap.size ≤ q.base := by
  intro q hq
  rcases List.mem_append.mp hq with h | h
  · exact hlc q h
  · rw [List.mem_singleton.mp h]
    exact ha
theorem a_putfield {idx ci k a : Nat} {fs : List Value} {v : Value} {ty : FieldType} (hd : decode μ.2.1 pc = .ok (.putfield idx, 3)) (hL : a_fp μ.1.cls idx ci k ty false) (hc : σ.2.2 a = some (.inr (ci, fs))) (hn : narrow ty v = v) (hf : fits ty v = true) (hl : k < fs.length)
    (kk : a_J G μ d lo (pc + 3) lv st (a_upd σ a (.inr (ci, fs.set k v))) K) : a_J G μ d lo pc lv (v :: .ref a :: st) σ K := by
  obtain ⟨C, T, N, ty0, h1, h2, h3, h4, h5, h6, h7, h8, -⟩ := hL
  obtain ⟨v', τ, hK, g1, g2, hW⟩ := kk
  refine ⟨v', τ, hK, g1, g2, ?_⟩
  intro p e R s m args below meth c H locs cells slots ls hX hR hlc hlv hcc hss
  have hts := hX.ts
  have hKs := hX.tk
  have hap := va_apart (own := μ.1.cls) hts h3 ty0 h5 h6 hKs h1
  have hba := (hR.2.2.2 a _ hc).1
  obtain ⟨r, q0, cell, q1, q2, q3, q4⟩ := hR.cell hc
  have hr : r = (C, T, N) := Option.some.inj (q0.symm.trans h1)
  subst hr
  obtain ⟨hS, hfc, kC, hkC, hkind⟩ := hKs.1 ci _ h1
  obtain ⟨cf, kf, fi, f, hi, hsl⟩ := hS k h2
  have hlay := hts _ (h3 _ (u_in_lay h2))
  unfold u_lay at hlay
  rw [if_neg (by rw [h7]; decide)] at hlay
  have hst := (u_facts hfc hkC (u_lays hts h3 h2) hi).1
  have hsd := u_store hfc hkC hkind hlay hi h8 hn hf
  refine W.putK hX.1 hX.2.1 (f := f) ⟨hX.own, hts _ h4, ⟨_, _, _, hi⟩, hst⟩ (by rw [q2]; exact hsd) q1 q3 (by rw [hsl]; exact k2_hasslot (q4 k h2)) rfl rfl hd fun H' e1 e2 e3 => ?_
  rw [hsl] at e1
  exact hW p e R s m args below meth c H' _ cells slots ls hX (hR.upd hba e2 e3 ⟨_, h1, t_OB.to (V := updV (vp_V fs) k v) ⟨_, e1, q2, q3, t_set q4 hap h2 v⟩ (fun j _ => vp_updV_set hl v j)⟩) (a_lcs hlc hba) hlv hcc hss
theorem a_putfinal {idx ci k a : Nat} {fs : List Value} {v : Value} {ty : FieldType} (hd : decode μ.2.1 pc = .ok (.putfield idx, 3)) (hL : a_fp μ.1.cls idx ci k ty true) (hnm : μ.1.name = "<init>") (hc : σ.2.2 a = some (.inr (ci, fs))) (hn : narrow ty v = v) (hf : fits ty v = true) (hl : k < fs.length)
    (kk : a_J G μ d lo (pc + 3) lv st (a_upd σ a (.inr (ci, fs.set k v))) K) : a_J G μ d lo pc lv (v :: .ref a :: st) σ K := by
  obtain ⟨C, T, N, ty0, h1, h2, h3, h4, h5, h6, h7, h8, h9⟩ := hL
  obtain ⟨v', τ, hK, g1, g2, hW⟩ := kk
  refine ⟨v', τ, hK, g1, g2, ?_⟩
  intro p e R s m args below meth c H locs cells slots ls hX hR hlc hlv hcc hss
  have hts := hX.ts
  have hKs := hX.tk
  have hap := va_apart (own := μ.1.cls) hts h3 ty0 h5 h6 hKs h1
  have hba := (hR.2.2.2 a _ hc).1
  obtain ⟨r, q0, cell, q1, q2, q3, q4⟩ := hR.cell hc
  have hr : r = (C, T, N) := Option.some.inj (q0.symm.trans h1)
  subst hr
  obtain ⟨hS, hfc, kC, hkC, hkind⟩ := hKs.1 ci _ h1
  obtain ⟨cf, kf, fi, f, hi, hsl⟩ := hS k h2
  have hlay := hts _ (h3 _ (u_in_lay h2))
  unfold u_lay at hlay
  rw [if_pos h7] at hlay
  have hst := (u_facts hfc hkC (u_lays hts h3 h2) hi).1
  have hcf : m.cls = cf := by
    obtain ⟨_, _, c', _, _, _, -, -, hf', -, -, -, hown2, -⟩ := Cond.laysFinal_spec hlay
    have e1 : c' = cf := by have := hi.symm.trans hf'; simp at this; exact this.1.symm
    rw [h9 rfl] at hown2
    rw [← e1]; exact Option.some.inj (hX.own.symm.trans hown2)
  have hsd := u_fits hfc hkC hkind (Or.inr hlay) hi h8 hn hf
  refine W.putFinK hX.1 hX.2.1 hX.own (hts _ h4) hi hst hcf (hX.2.2.2.2.2.2.2.1 hnm) (by rw [q2]; exact hsd) q1 q3 (by rw [hsl]; exact k2_hasslot (q4 k h2)) rfl rfl hd fun H' e1 e2 e3 => ?_
  rw [hsl] at e1
  exact hW p e R s m args below meth c H' _ cells slots ls hX (hR.upd hba e2 e3 ⟨_, h1, t_OB.to (V := updV (vp_V fs) k v) ⟨_, e1, q2, q3, t_set q4 hap h2 v⟩ (fun j _ => vp_updV_set hl v j)⟩) (a_lcs hlc hba) hlv hcc hss
theorem a_iald {a n t0 : Nat} {f : Nat → Int32} {i : Int32} (hd : decode μ.2.1 pc = .ok (.iaload, 1)) (ht : aTy[t0]? = some .int) (hc : σ.2.2 a = some (.inl (.int, n, .inl f))) (hin : vp_in i n) (kk : a_J G μ d lo (pc + 1) lv (.int (f i.toNatClampNeg) :: st) σ K) : a_J G μ d lo pc lv (.int i :: .ref a :: st) σ K :=
  a_step kk (fun hX hR _ kk => va_iald hX.1 hX.2.1 hX.tk (a_P1 (hR.cell hc)) 0 t0 rfl (by rw [a_tys, List.getElem?_map, ht]; rfl) hin hd kk)
theorem a_iast {a n t0 : Nat} {f : Nat → Int32} {i : Int32} {x : Int32} (hd : decode μ.2.1 pc = .ok (.iastore, 1)) (ht : aTy[t0]? = some .int) (hc : σ.2.2 a = some (.inl (.int, n, .inl f))) (hin : vp_in i n) (kk : a_J G μ d lo (pc + 1) lv st (a_upd σ a (.inl (.int, n, .inl (upd f i.toNatClampNeg x)))) K) : a_J G μ d lo pc lv (.int x :: .int i :: .ref a :: st) σ K := by
  obtain ⟨v', τ, hK, g1, g2, hW⟩ := kk
  refine ⟨v', τ, hK, g1, g2, ?_⟩
  intro p e R s m args below meth c H locs cells slots ls hX hR hlc hlv hcc hss
  have hba := (hR.2.2.2 a _ hc).1
  have htt : (a_tys G.2.2.2.1)[t0]? = some (G.2.2.2.1 .int, .int) := by rw [a_tys, List.getElem?_map, ht]; rfl
  refine W.iast hX.1 hX.2.1 (hR.cell hc) ((hX.tk.2 t0 _ htt).1 n (fun j => .int (f j))) (fun q => by cases q) (by show ¬ (i < 0 ∨ (arrV _ _ _).slots.size ≤ _); rw [arrV_size]; exact hin) rfl rfl hd fun H1 e1 z oq => ?_
  refine hW p e R s m args below meth c H1 _ cells slots ls hX (hR.upd hba z oq ?_) (a_lcs hlc hba) hlv hcc hss
  show H1[a]? = some (vp_cell _ _)
  rw [e1]
  show some ((vp_cell _ (n, .inl f)).setSlot _ _) = _
  rw [vp_cell_i, vp_cell_i, arrV_store]
  congr 2
  funext q
  by_cases hq : q = i.toNatClampNeg
  · subst hq
    simp [updV, upd]
    try rfl
  · simp [updV, upd, hq]
theorem a_lald {a n t0 : Nat} {f : Nat → Int64} {i : Int32} (hd : decode μ.2.1 pc = .ok (.laload, 1)) (ht : aTy[t0]? = some .long) (hc : σ.2.2 a = some (.inl (.long, n, .inr (.inl f)))) (hin : vp_in i n) (kk : a_J G μ d lo (pc + 1) lv (.long (f i.toNatClampNeg) :: st) σ K) : a_J G μ d lo pc lv (.int i :: .ref a :: st) σ K :=
  a_step kk (fun hX hR _ kk => va_lald hX.1 hX.2.1 hX.tk (a_P1 (hR.cell hc)) 0 t0 rfl (by rw [a_tys, List.getElem?_map, ht]; rfl) hin hd kk)
theorem a_last {a n t0 : Nat} {f : Nat → Int64} {i : Int32} {x : Int64} (hd : decode μ.2.1 pc = .ok (.lastore, 1)) (ht : aTy[t0]? = some .long) (hc : σ.2.2 a = some (.inl (.long, n, .inr (.inl f)))) (hin : vp_in i n) (kk : a_J G μ d lo (pc + 1) lv st (a_upd σ a (.inl (.long, n, .inr (.inl (vp_updL f i.toNatClampNeg x))))) K) : a_J G μ d lo pc lv (.long x :: .int i :: .ref a :: st) σ K := by
  obtain ⟨v', τ, hK, g1, g2, hW⟩ := kk
  refine ⟨v', τ, hK, g1, g2, ?_⟩
  intro p e R s m args below meth c H locs cells slots ls hX hR hlc hlv hcc hss
  have hba := (hR.2.2.2 a _ hc).1
  have htt : (a_tys G.2.2.2.1)[t0]? = some (G.2.2.2.1 .long, .long) := by rw [a_tys, List.getElem?_map, ht]; rfl
  refine W.last hX.1 hX.2.1 (hR.cell hc) ((hX.tk.2 t0 _ htt).1 n (fun j => .long (f j))) (fun q => by cases q) (by show ¬ (i < 0 ∨ (arrV _ _ _).slots.size ≤ _); rw [arrV_size]; exact hin) rfl rfl hd fun H1 e1 z oq => ?_
  refine hW p e R s m args below meth c H1 _ cells slots ls hX (hR.upd hba z oq ?_) (a_lcs hlc hba) hlv hcc hss
  show H1[a]? = some (vp_cell _ _)
  rw [e1]
  show some ((vp_cell _ (n, .inr (.inl f))).setSlot _ _) = _
  rw [vp_cell_l, vp_cell_l, arrV_store]
  congr 2
  funext q
  by_cases hq : q = i.toNatClampNeg
  · subst hq
    simp [updV, vp_updL]
    try rfl
  · simp [updV, vp_updL, hq]
theorem a_bald {a n t0 : Nat} {f : Nat → Int32} {i : Int32} (hd : decode μ.2.1 pc = .ok (.baload, 1)) (ht : aTy[t0]? = some .byte) (hc : σ.2.2 a = some (.inl (.byte, n, .inl f))) (hin : vp_in i n) (kk : a_J G μ d lo (pc + 1) lv (.int (f i.toNatClampNeg) :: st) σ K) : a_J G μ d lo pc lv (.int i :: .ref a :: st) σ K :=
  a_step kk (fun hX hR _ kk => va_bald hX.1 hX.2.1 hX.tk (a_P1 (hR.cell hc)) 0 t0 rfl (by rw [a_tys, List.getElem?_map, ht]; rfl) hin hd kk)
theorem a_bast {a n t0 : Nat} {f : Nat → Int32} {i : Int32} {x : Int32} (hd : decode μ.2.1 pc = .ok (.bastore, 1)) (ht : aTy[t0]? = some .byte) (hc : σ.2.2 a = some (.inl (.byte, n, .inl f))) (hin : vp_in i n) (kk : a_J G μ d lo (pc + 1) lv st (a_upd σ a (.inl (.byte, n, .inl (upd f i.toNatClampNeg (vp_nar .byte x))))) K) : a_J G μ d lo pc lv (.int x :: .int i :: .ref a :: st) σ K := by
  obtain ⟨v', τ, hK, g1, g2, hW⟩ := kk
  refine ⟨v', τ, hK, g1, g2, ?_⟩
  intro p e R s m args below meth c H locs cells slots ls hX hR hlc hlv hcc hss
  have hba := (hR.2.2.2 a _ hc).1
  have htt : (a_tys G.2.2.2.1)[t0]? = some (G.2.2.2.1 .byte, .byte) := by rw [a_tys, List.getElem?_map, ht]; rfl
  refine W.bast hX.1 hX.2.1 (hR.cell hc) ((hX.tk.2 t0 _ htt).1 n (fun j => .int (f j))) (fun q => by cases q) (by show ¬ (i < 0 ∨ (arrV _ _ _).slots.size ≤ _); rw [arrV_size]; exact hin) rfl rfl hd fun H1 e1 z oq => ?_
  refine hW p e R s m args below meth c H1 _ cells slots ls hX (hR.upd hba z oq ?_) (a_lcs hlc hba) hlv hcc hss
  show H1[a]? = some (vp_cell _ _)
  rw [e1]
  show some ((vp_cell _ (n, .inl f)).setSlot _ _) = _
  rw [vp_cell_i, vp_cell_i, arrV_store]
  congr 2
  funext q
  by_cases hq : q = i.toNatClampNeg
  · subst hq
    simp [updV, upd, vp_nar]
    try rfl
  · simp [updV, upd, vp_nar, hq]
theorem a_zald {a n t0 : Nat} {f : Nat → Int32} {i : Int32} (hd : decode μ.2.1 pc = .ok (.baload, 1)) (ht : aTy[t0]? = some .boolean) (hc : σ.2.2 a = some (.inl (.boolean, n, .inl f))) (hin : vp_in i n) (kk : a_J G μ d lo (pc + 1) lv (.int (f i.toNatClampNeg) :: st) σ K) : a_J G μ d lo pc lv (.int i :: .ref a :: st) σ K :=
  a_step kk (fun hX hR _ kk => va_zald hX.1 hX.2.1 hX.tk (a_P1 (hR.cell hc)) 0 t0 rfl (by rw [a_tys, List.getElem?_map, ht]; rfl) hin hd kk)
theorem a_zast {a n t0 : Nat} {f : Nat → Int32} {i : Int32} {x : Int32} (hd : decode μ.2.1 pc = .ok (.bastore, 1)) (ht : aTy[t0]? = some .boolean) (hc : σ.2.2 a = some (.inl (.boolean, n, .inl f))) (hin : vp_in i n) (kk : a_J G μ d lo (pc + 1) lv st (a_upd σ a (.inl (.boolean, n, .inl (upd f i.toNatClampNeg (vp_nar .boolean x))))) K) : a_J G μ d lo pc lv (.int x :: .int i :: .ref a :: st) σ K := by
  obtain ⟨v', τ, hK, g1, g2, hW⟩ := kk
  refine ⟨v', τ, hK, g1, g2, ?_⟩
  intro p e R s m args below meth c H locs cells slots ls hX hR hlc hlv hcc hss
  have hba := (hR.2.2.2 a _ hc).1
  have htt : (a_tys G.2.2.2.1)[t0]? = some (G.2.2.2.1 .boolean, .boolean) := by rw [a_tys, List.getElem?_map, ht]; rfl
  refine W.zast hX.1 hX.2.1 (hR.cell hc) ((hX.tk.2 t0 _ htt).1 n (fun j => .int (f j))) (fun q => by cases q) (by show ¬ (i < 0 ∨ (arrV _ _ _).slots.size ≤ _); rw [arrV_size]; exact hin) rfl rfl hd fun H1 e1 z oq => ?_
  refine hW p e R s m args below meth c H1 _ cells slots ls hX (hR.upd hba z oq ?_) (a_lcs hlc hba) hlv hcc hss
  show H1[a]? = some (vp_cell _ _)
  rw [e1]
  show some ((vp_cell _ (n, .inl f)).setSlot _ _) = _
  rw [vp_cell_i, vp_cell_i, arrV_store]
  congr 2
  funext q
  by_cases hq : q = i.toNatClampNeg
  · subst hq
    simp [updV, upd, vp_nar]
    try rfl
  · simp [updV, upd, vp_nar, hq]
theorem a_cald {a n t0 : Nat} {f : Nat → Int32} {i : Int32} (hd : decode μ.2.1 pc = .ok (.caload, 1)) (ht : aTy[t0]? = some .char) (hc : σ.2.2 a = some (.inl (.char, n, .inl f))) (hin : vp_in i n) (kk : a_J G μ d lo (pc + 1) lv (.int (f i.toNatClampNeg) :: st) σ K) : a_J G μ d lo pc lv (.int i :: .ref a :: st) σ K :=
  a_step kk (fun hX hR _ kk => va_cald hX.1 hX.2.1 hX.tk (a_P1 (hR.cell hc)) 0 t0 rfl (by rw [a_tys, List.getElem?_map, ht]; rfl) hin hd kk)
theorem a_cast {a n t0 : Nat} {f : Nat → Int32} {i : Int32} {x : Int32} (hd : decode μ.2.1 pc = .ok (.castore, 1)) (ht : aTy[t0]? = some .char) (hc : σ.2.2 a = some (.inl (.char, n, .inl f))) (hin : vp_in i n) (kk : a_J G μ d lo (pc + 1) lv st (a_upd σ a (.inl (.char, n, .inl (upd f i.toNatClampNeg (vp_nar .char x))))) K) : a_J G μ d lo pc lv (.int x :: .int i :: .ref a :: st) σ K := by
  obtain ⟨v', τ, hK, g1, g2, hW⟩ := kk
  refine ⟨v', τ, hK, g1, g2, ?_⟩
  intro p e R s m args below meth c H locs cells slots ls hX hR hlc hlv hcc hss
  have hba := (hR.2.2.2 a _ hc).1
  have htt : (a_tys G.2.2.2.1)[t0]? = some (G.2.2.2.1 .char, .char) := by rw [a_tys, List.getElem?_map, ht]; rfl
  refine W.cast hX.1 hX.2.1 (hR.cell hc) ((hX.tk.2 t0 _ htt).1 n (fun j => .int (f j))) (fun q => by cases q) (by show ¬ (i < 0 ∨ (arrV _ _ _).slots.size ≤ _); rw [arrV_size]; exact hin) rfl rfl hd fun H1 e1 z oq => ?_
  refine hW p e R s m args below meth c H1 _ cells slots ls hX (hR.upd hba z oq ?_) (a_lcs hlc hba) hlv hcc hss
  show H1[a]? = some (vp_cell _ _)
  rw [e1]
  show some ((vp_cell _ (n, .inl f)).setSlot _ _) = _
  rw [vp_cell_i, vp_cell_i, arrV_store]
  congr 2
  funext q
  by_cases hq : q = i.toNatClampNeg
  · subst hq
    simp [updV, upd, vp_nar]
    try rfl
  · simp [updV, upd, vp_nar, hq]
theorem a_alen {a t0 : Nat} {ty : FieldType} {x : vp_A} (hd : decode μ.2.1 pc = .ok (.arraylength, 1)) (ht : aTy[t0]? = some ty) (hc : σ.2.2 a = some (.inl (ty, x))) (kk : a_J G μ d lo (pc + 1) lv (.int (nI x.1) :: st) σ K) : a_J G μ d lo pc lv (.ref a :: st) σ K :=
  a_step kk (fun hX hR _ kk => va_alen hX.1 hX.2.1 hX.tk (a_P1 (hR.cell hc)) 0 t0 rfl (by rw [a_tys, List.getElem?_map, ht]; rfl) rfl hd kk)
theorem a_newobj {idx ci N : Nat} {fs : List Value} (hd : decode μ.2.1 pc = .ok (.new idx, 3)) (hL : a_nw μ.1.cls idx ci N fs) (kk : a_J G μ d lo (pc + 3) lv (.ref σ.1 :: st) (a_new σ N (.inr (ci, fs))) K) : a_J G μ d lo pc lv st σ K := by
  obtain ⟨C, T, ty, h1, h2, h3, h4, h5, h6, h7⟩ := hL
  obtain ⟨v', τ, hK, g1, g2, hW⟩ := kk
  have g1' : σ.1 + 1 ≤ τ.1 := g1
  have g2' : σ.2.1 + N ≤ τ.2.1 := g2
  refine ⟨v', τ, hK, by omega, by omega, ?_⟩
  intro p e R s m args below meth c H locs cells slots ls hX hR hlc hlv hcc hss
  have hKn := hX.tk.1 ci _ h1
  refine W.newcK hX.1 hX.2.1 hX.own (hX.ts _ h4) (hX.ts _ h5) (hX.ts _ h6) rfl hd (by omega) (by omega) hKn.2.1 hR.1 fun H1 kC hkC e1 z1 o1 => ?_
  have hw := hW p e R s m args below meth c H1 locs (cells + 1) (slots + N) ls hX (hR.new z1 o1 ⟨_, h1, (u_born ty hX.ts h2 hKn hkC e1 h3).to h7⟩) hlc hlv (by show cells + 1 + (τ.1 - (σ.1 + 1)) ≤ _; omega) (by show slots + N + (τ.2.1 - (σ.2.1 + N)) ≤ _; omega)
  have e3 : cells + 1 + (τ.1 - (a_new σ N (.inr (ci, fs))).1) = cells + (τ.1 - σ.1) := by show cells + 1 + (τ.1 - (σ.1 + 1)) = _; omega
  have e4 : slots + N + (τ.2.1 - (a_new σ N (.inr (ci, fs))).2.1) = slots + (τ.2.1 - σ.2.1) := by show slots + N + (τ.2.1 - (σ.2.1 + N)) = _; omega
  rw [e3, e4] at hw
  exact hw
theorem a_newarr {atype : ArrayType} {ty : FieldType} {t0 N : Nat} {n : Int32} {x : vp_A} (hd : decode μ.2.1 pc = .ok (.newarray atype, 2)) (hty : newarray.typeOf atype = ty) (ht : aTy[t0]? = some ty) (hw : Cond.arrayClass ty ∈ aTs) (ha : ∀ cA : ClassId, vp_cell cA x = arrV cA N (fun _ => defaultValue ty)) (hn : ¬ n < 0) (hN : n.toNatClampNeg = N) (hb : N * componentBytes ty ≤ 536870912)
    (kk : a_J G μ d lo (pc + 2) lv (.ref σ.1 :: st) (a_new σ N (.inl (ty, x))) K) : a_J G μ d lo pc lv (.int n :: st) σ K := by
  obtain ⟨v', τ, hK, g1, g2, hW⟩ := kk
  have g1' : σ.1 + 1 ≤ τ.1 := g1
  have g2' : σ.2.1 + N ≤ τ.2.1 := g2
  refine ⟨v', τ, hK, by omega, by omega, ?_⟩
  intro p e R s m args below meth c H locs cells slots ls hX hR hlc hlv hcc hss
  subst hty
  have htt : (a_tys G.2.2.2.1)[t0]? = some (G.2.2.2.1 (newarray.typeOf atype), newarray.typeOf atype) := by rw [a_tys, List.getElem?_map, ht]; rfl
  have hRA := (hX.tk.2 t0 _ htt).2
  refine va_newaK hX.1 hX.2.1 (hX.ts _ hw) rfl hd rfl hn hN hb (by omega) (by omega) hR.1 fun H1 cA e1 z1 o1 hAr hNm => ?_
  have hcA : G.2.2.2.1 (newarray.typeOf atype) = cA := by
    have h5 : s.vm.findClass ("[" ++ (newarray.typeOf atype).toString) = some (G.2.2.2.1 (newarray.typeOf atype)) := by
      revert hRA
      cases atype <;> exact fun h => h
    exact Option.some.inj (h5.symm.trans hNm)
  have hw := hW p e R s m args below meth c H1 locs (cells + 1) (slots + N) ls hX (hR.new z1 o1 (by show H1[σ.1]? = some (vp_cell _ _); rw [ha, hcA]; exact e1)) hlc hlv (by show cells + 1 + (τ.1 - (σ.1 + 1)) ≤ _; omega) (by show slots + N + (τ.2.1 - (σ.2.1 + N)) ≤ _; omega)
  have e3 : cells + 1 + (τ.1 - (a_new σ N (.inl (newarray.typeOf atype, x))).1) = cells + (τ.1 - σ.1) := by show cells + 1 + (τ.1 - (σ.1 + 1)) = _; omega
  have e4 : slots + N + (τ.2.1 - (a_new σ N (.inl (newarray.typeOf atype, x))).2.1) = slots + (τ.2.1 - σ.2.1) := by show slots + N + (τ.2.1 - (σ.2.1 + N)) = _; omega
  rw [e3, e4] at hw
  exact hw
theorem a_objinit {idx a : Nat} (hd : decode μ.2.1 pc = .ok (.invokespecial idx, 3)) (hw : Cond.methodLink μ.1.cls idx Lib.objectInit ∈ aTs ∧ Cond.instanceMethod Lib.objectInit ∈ aTs ∧ Cond.code Lib.objectInit ⟨#[0xb1]⟩ 1 none ∈ aTs) (hr : (st.map fun v => v.category).sum ≤ 8) (hb : 1 ≤ d ∧ 20 ≤ lo) (kk : a_J G μ d lo (pc + 3) lv st σ K) : a_J G μ d lo pc lv (.ref a :: st) σ K :=
  a_step kk (fun hX _ hl kk => W.objInit hX.1 hX.2.1 hX.own (hX.ts _ hw.1) (hX.ts _ hw.2.1) (hX.ts _ hw.2.2) rfl (hl.1.trans hX.2.2.2.1.symm) rfl hd (by have := hX.fr; omega) (by have := hX.fr; show 2 * 0 + _ + 12 ≤ _; omega) kk)
theorem a_call {μ' : aM} {d' lo' idx : Nat} {own : String} {As rest : List Value} {ins : Instr} {av : List Value}
    (k : a_C G μ' d' lo' av σ (fun v τ => a_J G μ d lo (pc + 3) lv (v.toList ++ rest) τ K))
    (hrun : ∀ {p : Program} {e : Env} {R : Room} {s : State} {m : MethodId} {args : Array Value} {below : List Frame} {meth : Method} {c : Code} {H : Heap} {locs : List Loc} {cells slots : Nat} {ls : Array Slot} {v1 : Option Value} {σ1 : aS}, a_X G μ d lo p R s m args meth c → a_R G σ H → lv_has ls μ.2.2.1 lv → cells + (σ1.1 - σ.1) ≤ R.cells → slots + (σ1.2.1 - σ.2.1) ≤ R.slots →
      Met G.1 μ'.1 (a_ws μ') { frames := d', cells := σ1.1 - σ.1, slots := σ1.2.1 - σ.2.1, locals := lo' } (va_Pc av (fun U => a_K G ∧ a_R G σ U.heap ∧ G.2.1.WarmedH U.vm)) (a_Q G v1 σ1) (σ1.1 - σ.1) (σ1.2.1 - σ.2.1) (fun q => G.2.1.heap.size ≤ q) →
      va_Run p G.1 e R s m args below meth c H locs cells slots (σ1.1 - σ.1) (σ1.2.1 - σ.2.1) (F0 m pc ls st) rest (a_Q G v1 σ1 av.toArray) (fun q => G.2.1.heap.size ≤ q)) : a_J G μ d lo pc lv st σ K := by
  obtain ⟨v1, σ1, ⟨v, τ, hK, g1, g2, hW⟩, h1, h2, hM⟩ := k
  refine ⟨v, τ, hK, Nat.le_trans h1 g1, Nat.le_trans h2 g2, ?_⟩
  intro p e R s m args below meth c H locs cells slots ls hX hR hlc hlv hcc hss
  have hr := hrun (e := e) (below := below) (locs := locs) hX hR hlv (show cells + (σ1.1 - σ.1) ≤ R.cells by omega) (show slots + (σ1.2.1 - σ.2.1) ≤ R.slots by omega) hM
  intro T hT X
  obtain ⟨v', st₀, t, T', L, h0, X', hL, e1, e2, ⟨hv, hR'⟩, st'⟩ := hr T hT X
  cases hv
  have hw := hW p e R s m args below meth c T'.heap (locs ++ L) (cells + (σ1.1 - σ.1)) (slots + (σ1.2.1 - σ.2.1)) ls hX (by rw [e1]; exact hR') (fun q hq => (List.mem_append.mp hq).elim (hlc q) (hL q)) hlv (by omega) (by omega)
  have e3 : cells + (σ1.1 - σ.1) + (τ.1 - σ1.1) = cells + (τ.1 - σ.1) := by omega
  have e4 : slots + (σ1.2.1 - σ.2.1) + (τ.2.1 - σ1.2.1) = slots + (τ.2.1 - σ.2.1) := by omega
  rw [e3, e4] at hw
  obtain ⟨t2, a1, b1⟩ := hw T' rfl X'
  exact ⟨t2, st' t2 a1, b1⟩
theorem a_blind {av : List Value} : FrameBlind (va_Pc av (fun U => a_K G ∧ a_R G σ U.heap ∧ G.2.1.WarmedH U.vm)) := fun a U g mk q => ⟨q.1, q.2.1, q.2.2.1, q.2.2.2⟩
theorem a_callB {μ' : aM} {d' lo' idx n : Nat} {p : Program} {R : Room} {s : State} {m : MethodId} {args : Array Value} {meth : Method} {c : Code} {mc ms : Nat} (hX : a_X G μ d lo p R s m args meth c) (hL : a_lk μ.1.cls idx μ' n) (hb : d' + 1 ≤ d ∧ lo' + (19 + μ'.2.2.1) ≤ lo) : CallB R s args μ.1.cls idx μ'.1 μ'.2.1 μ'.2.2.1 μ'.2.2.2 (a_ws μ') { frames := d', cells := mc, slots := ms, locals := lo' } mc ms n := by
  obtain ⟨h1, h2, h3, h4, h5⟩ := hL
  have hg : GoodIn aTs (a_ws μ') := fun w hw => by
    rcases List.mem_cons.mp hw with rfl | hw
    · exact ⟨h3, Or.inl (by first | rfl | simp [Cond.onTables, Cond.keeps, Cond.steady])⟩
    · exact aTs_good w hw
  refine callB_of n hX.ts hg rfl rfl rfl (hX.ts _ h2) (hX.ts _ h1) ⟨h4.1, h4.2, h5⟩ ⟨Nat.le_trans hb.1 hX.fr.1, ?_⟩
  have h7 := hX.fr.2
  have h8 := hb.2
  show 8 + (μ'.2.2.1 + 11) + lo' ≤ R.locals
  omega
theorem a_callVg {μ' : aM} {idx n a : Nat} (d' lo' : Nat) (As rest : List Value) (hd : decode μ.2.1 pc = .ok (.invokevirtual idx, 3)) (hL : a_lk μ.1.cls idx μ' n) (hL2 : Cond.instanceMethod μ'.1 ∈ aTs ∧ Cond.selects μ'.1.cls μ'.1 μ'.1 ∈ aTs) (hn : As.length = n) (hst : st = As.reverse ++ .ref a :: rest) (hr : (rest.map fun v => v.category).sum ≤ 8) (hb : d' + 1 ≤ d ∧ lo' + (19 + μ'.2.2.1) ≤ lo)
    (hrecv : ∀ {p : Program} {R : Room} {s : State} {m : MethodId} {args : Array Value} {meth : Method} {c : Code} {H : Heap}, a_X G μ d lo p R s m args meth c → a_R G σ H → ∃ cell : Cell, H[a]? = some cell ∧ cell.vm.isStatics = false ∧ s.vm.findClass μ'.1.cls = some cell.cls)
    (k : a_C G μ' d' lo' (.ref a :: As) σ (fun v τ => a_J G μ d lo (pc + 3) lv (v.toList ++ rest) τ K)) : a_J G μ d lo pc lv st σ K := by
  refine a_call (idx := idx) (own := μ.1.cls) (As := As) (ins := .nop) k fun hX hR hlv hcc hss hM => ?_
  exact va_runV (As := As) (C := μ'.1.cls) (Ts := aTs) (cc := μ.2.1) (nL := μ.2.2.1) (n := n) ⟨hX.1, hX.2.1, hX.2.2.2.1, hX.own, hX.ts⟩ hM ⟨a_callB hX hL hb, hX.ts _ hL2.1, hX.ts _ hL2.2⟩ ⟨a_blind, hrecv hX hR, fun U hU hW => ⟨rfl, hX.2.2.2.2.2.2.2.2.1, by rw [hU]; exact hR, State.WarmedH.trans hX.al hW⟩⟩ rfl hn hlv.1 hst (lv_room hr) hd ⟨hcc, hss⟩
theorem a_callV {μ' : aM} {idx n a ci : Nat} {fs : List Value} {r : vw_C} (d' lo' : Nat) (As rest : List Value) (hd : decode μ.2.1 pc = .ok (.invokevirtual idx, 3)) (hL : a_lk μ.1.cls idx μ' n) (hL2 : Cond.instanceMethod μ'.1 ∈ aTs ∧ Cond.selects μ'.1.cls μ'.1 μ'.1 ∈ aTs) (hcl : vwCl[ci]? = some r) (hrc : r.1 = μ'.1.cls) (hn : As.length = n) (hst : st = As.reverse ++ .ref a :: rest) (hr : (rest.map fun v => v.category).sum ≤ 8) (hb : d' + 1 ≤ d ∧ lo' + (19 + μ'.2.2.1) ≤ lo) (hc : σ.2.2 a = some (.inr (ci, fs)))
    (k : a_C G μ' d' lo' (.ref a :: As) σ (fun v τ => a_J G μ d lo (pc + 3) lv (v.toList ++ rest) τ K)) : a_J G μ d lo pc lv st σ K := by
  refine a_callVg d' lo' As rest hd hL hL2 hn hst hr hb (fun hX hR => ?_) k
  have h5 := va_recv hX.tk (a_P1 (hR.cell hc)) (ci := ci) (q0 := 0) hcl rfl
  rw [hrc] at h5
  exact h5
theorem a_callS {μ' : aM} {idx n : Nat} (d' lo' : Nat) (As rest : List Value) (hd : decode μ.2.1 pc = .ok (.invokestatic idx, 3)) (hL : a_lk μ.1.cls idx μ' n) (hL2 : Cond.static μ'.1 ∈ aTs) (hn : As.length = n) (hst : st = As.reverse ++ rest) (hr : (rest.map fun v => v.category).sum ≤ 8) (hb : d' + 1 ≤ d ∧ lo' + (19 + μ'.2.2.1) ≤ lo)
    (k : a_C G μ' d' lo' As σ (fun v τ => a_J G μ d lo (pc + 3) lv (v.toList ++ rest) τ K)) : a_J G μ d lo pc lv st σ K := by
  refine a_call (idx := idx) (own := μ.1.cls) (As := As) (ins := .nop) k fun hX hR hlv hcc hss hM => ?_
  exact va_runS (As := As) (Ts := aTs) (cc := μ.2.1) (nL := μ.2.2.1) (n := n) ⟨hX.1, hX.2.1, hX.2.2.2.1, hX.own, hX.ts⟩ hM ⟨a_callB hX hL hb, hX.ts _ hL2⟩ ⟨a_blind, fun U hU hW => ⟨rfl, hX.2.2.2.2.2.2.2.2.1, by rw [hU]; exact hR, State.WarmedH.trans hX.al hW⟩⟩ rfl hn hlv.1 hst (lv_room hr) hd ⟨hcc, hss⟩
theorem a_callI {y : MethodName} {bs : ByteArray} {mx : Nat} {idx n a : Nat} (d' lo' : Nat) (As rest : List Value) (hd : decode μ.2.1 pc = .ok (.invokespecial idx, 3)) (hL : a_lk μ.1.cls idx (y, bs, mx, none) n) (hL2 : Cond.instanceMethod y ∈ aTs) (hy : y.name = "<init>") (hn : As.length = n) (hst : st = As.reverse ++ .ref a :: rest) (hr : (rest.map fun v => v.category).sum ≤ 8) (hb : d' + 1 ≤ d ∧ lo' + (19 + mx) ≤ lo)
    (k : a_C G (y, bs, mx, none) d' lo' (.ref a :: As) σ (fun v τ => a_J G μ d lo (pc + 3) lv (v.toList ++ rest) τ K)) : a_J G μ d lo pc lv st σ K := by
  refine a_call (idx := idx) (own := μ.1.cls) (As := As) (ins := .nop) k fun hX hR hlv hcc hss hM => ?_
  exact va_runI (As := As) (Ts := aTs) (cc := μ.2.1) (nL := μ.2.2.1) (n := n) ⟨hX.1, hX.2.1, hX.2.2.2.1, hX.own, hX.ts⟩ hM ⟨a_callB hX hL hb, hy, hX.ts _ hL2⟩ ⟨a_blind, fun U hU hW => ⟨rfl, hX.2.2.2.2.2.2.2.2.1, by rw [hU]; exact hR, State.WarmedH.trans hX.al hW⟩⟩ rfl hn hlv.1 hst (lv_room hr) hd ⟨hcc, hss⟩
end Core3
