/-! THE ABSTRACT MACHINE. A state is (heap size, slots used, cells by address); a_R ties it to the machine's heap; a_J is a frame's judgement, a_C a call's: both by continuation K. -/
abbrev aE : Type := (FieldType × vp_A) ⊕ (Nat × List Value)
abbrev aS : Type := Nat × Nat × (Nat → Option aE)
abbrev aG : Type := Launch × State × va_G × (FieldType → ClassId) × (Nat → Nat) × (Nat → Nat) × (Nat × Nat × (Nat → Int32)) × Option Nat
abbrev aM : Type := MethodName × ByteArray × Nat × Option FieldType
def a_e (dA : FieldType → ClassId) (e : aE) : va_E := match e with
  | .inl a => .inl (dA a.1, a.2)
  | .inr o => .inr o
def a_tys (dA : FieldType → ClassId) : List (ClassId × FieldType) := aTy.map fun t => (dA t, t)
def a_R (G : aG) (σ : aS) (H : Heap) : Prop := H.size = σ.1 ∧ G.2.1.heap.size ≤ σ.1 ∧ (∀ q : Nat, q < G.2.1.heap.size → H[q]? = G.2.1.heap[q]?) ∧ ∀ (a : Nat) (e : aE), σ.2.2 a = some e → G.2.1.heap.size ≤ a ∧ va_at G.2.2.1 vwCl (a, a_e G.2.2.2.1 e) H
/-- what the law makes lies from here on; what lay before is read alone -/
def a_A (G : aG) : Nat → Prop := fun q => G.2.1.heap.size ≤ q
/-- literal j: its object and its bytes -/
def a_str (G : aG) (j : Nat) : Prop := vk_R (jO j).1 (jO j).2.1 (jO j).2.2 (G.2.2.2.2.1 j) G.2.1 ∧ va_O "java/lang/String" (G.2.2.2.2.1 j) (a_A G) G.2.1 G.2.1.heap ∧ va_OF "java/lang/String" "coder" "B" (.int 0) (G.2.2.2.2.1 j) (a_A G) G.2.1 G.2.1.heap ∧ va_OF "java/lang/String" "value" "[B" (.ref (G.2.2.2.2.2.1 j)) (G.2.2.2.2.1 j) (a_A G) G.2.1 G.2.1.heap ∧ va_T .byte (G.2.2.2.2.2.1 j) (jS j).length (fun i => .int (nI ((jS j).getD i 0))) (a_A G) G.2.1 G.2.1.heap
def a_K (G : aG) : Prop := va_K G.2.2.1 vwCl (a_tys G.2.2.2.1) G.2.1 ∧ (∀ j, j < nJ → a_str G j) ∧ va_Z "java/lang/String" "COMPACT_STRINGS" "Z" (.int 1) (a_A G) G.2.1 G.2.1.heap ∧ va_Z "jdk/internal/util/Preconditions" "SIOOBE_FORMATTER" "Ljava/util/function/BiFunction;" (va_rf G.2.2.2.2.2.2.2) (a_A G) G.2.1 G.2.1.heap ∧ va_X G.2.2.2.2.2.2.1.1 G.2.2.2.2.2.2.1.2.1 G.2.2.2.2.2.2.1.2.2 G.2.1 G.2.1.heap ∧ G.2.2.2.2.2.2.1.1 < G.2.1.heap.size ∧ va_Nw (.methodLinkNest "PolicyText" 45 m_C_init.1 "PolicyText") G.2.1
def a_Q (G : aG) (v : Option Value) (τ : aS) : Array Value → State → Outcome → State → Prop := fun _ _ o t => o = .returned v ∧ a_R G τ t.heap
def a_X (G : aG) (μ : aM) (d lo : Nat) (p : Program) (R : Room) (s : State) (m : MethodId) (args : Array Value) (meth : Method) (c : Code) : Prop :=
  p.tables.exec = Jvm.exec ∧ c.code = μ.2.1 ∧ meth.sig.returnType = μ.2.2.2 ∧ c.maxLocals = μ.2.2.1 ∧ s.vm.findClass μ.1.cls = some m.cls ∧ (∀ w ∈ aTs, w.before args s = true) ∧ meth.locks = false ∧ (μ.1.name = "<init>" → meth.name = "<init>") ∧ a_K G ∧ G.2.1.WarmedH s.vm ∧ d ≤ R.frames ∧ lo ≤ R.locals
def a_J (G : aG) (μ : aM) (d lo pc : Nat) (lv : List (Nat × Value)) (st : List Value) (σ : aS) (K : Option Value → aS → Prop) : Prop :=
  ∃ (v : Option Value) (τ : aS), K v τ ∧ σ.1 ≤ τ.1 ∧ σ.2.1 ≤ τ.2.1 ∧
    ∀ (p : Program) (e : Env) (R : Room) (s : State) (m : MethodId) (args : Array Value) (below : List Frame) (meth : Method) (c : Code) (H : Heap) (locs : List Loc) (cells slots : Nat) (ls : Array Slot),
      a_X G μ d lo p R s m args meth c → a_R G σ H → (∀ q ∈ locs, G.2.1.heap.size ≤ q.base) → lv_has ls μ.2.2.1 lv → cells + (τ.1 - σ.1) ≤ R.cells → slots + (τ.2.1 - σ.2.1) ≤ R.slots →
      W p G.1 e R s m args below meth c H locs cells slots (MQ below (a_Q G v τ) args s (cells + (τ.1 - σ.1)) (slots + (τ.2.1 - σ.2.1)) (fun q => G.2.1.heap.size ≤ q)) (F0 m pc ls st)
def a_ws (μ : aM) : List Cond := Cond.code μ.1 μ.2.1 μ.2.2.1 μ.2.2.2 :: aTs
def a_C (G : aG) (μ : aM) (d lo : Nat) (av : List Value) (σ : aS) (K : Option Value → aS → Prop) : Prop :=
  ∃ (v : Option Value) (τ : aS), K v τ ∧ σ.1 ≤ τ.1 ∧ σ.2.1 ≤ τ.2.1 ∧
    Met G.1 μ.1 (a_ws μ) { frames := d, cells := τ.1 - σ.1, slots := τ.2.1 - σ.2.1, locals := lo } (va_Pc av (fun U => a_K G ∧ a_R G σ U.heap ∧ G.2.1.WarmedH U.vm)) (a_Q G v τ) (τ.1 - σ.1) (τ.2.1 - σ.2.1) (fun q => G.2.1.heap.size ≤ q)
section Core
variable {G : aG} {μ : aM} {d lo pc : Nat} {lv : List (Nat × Value)} {st : List Value} {σ : aS} {K : Option Value → aS → Prop}
theorem a_J.mono {K' : Option Value → aS → Prop} (h : a_J G μ d lo pc lv st σ K) (hk : ∀ v τ, K v τ → K' v τ) : a_J G μ d lo pc lv st σ K' := by
  obtain ⟨v, τ, h1, h2⟩ := h
  exact ⟨v, τ, hk _ _ h1, h2⟩
theorem a_C.mono {av : List Value} {K' : Option Value → aS → Prop} (h : a_C G μ d lo av σ K) (hk : ∀ v τ, K v τ → K' v τ) : a_C G μ d lo av σ K' := by
  obtain ⟨v, τ, h1, h2⟩ := h
  exact ⟨v, τ, hk _ _ h1, h2⟩
theorem a_enter {av : List Value} (hy : plainName μ.1.cls = true) (hl : (lg_sl av).length ≤ μ.2.2.1) (h : a_J G μ d lo 0 (lv_args 0 av) [] σ K) : a_C G μ d lo av σ K := by
  obtain ⟨v, τ, hK, h1, h2, hW⟩ := h
  refine ⟨v, τ, hK, h1, h2, ?_⟩
  refine Met.ofW (cc := μ.2.1) (maxL := μ.2.2.1) (ret := μ.2.2.2) hy rfl ?_
  intro p e s m args below meth c s₁ B hml hv
  obtain ⟨rfl, hKG, hR, hA⟩ := hv
  have hx : a_X G μ d lo p (headSpec (a_ws μ) { frames := d, cells := τ.1 - σ.1, slots := τ.2.1 - σ.2.1, locals := lo }).room s m av.toArray meth c :=
    ⟨B.exec, B.bytes, B.returns, hml, findClass_of_methodNamed B.named, fun w hw => atoms_spec (ws := a_ws μ) B.pre w (List.mem_cons_of_mem _ hw), B.notSynchronized, fun h => (name_of_methodNamed B.named B.method).1.trans h, hKG, hA, Nat.le_refl _, Nat.le_refl _⟩
  have hw := hW p e _ s m av.toArray below meth c s.heap [] 0 0 _ hx hR (fun _ h => by cases h) (lv_entry av hl) (by rw [Nat.zero_add]; exact Nat.le_refl _) (by rw [Nat.zero_add]; exact Nat.le_refl _)
  rw [lg_entry_eq]
  rw [Nat.zero_add, Nat.zero_add] at hw
  exact hw
/-- a step that leaves heap and locals: from the kit's row -/
theorem a_step {pc' : Nat} {st' : List Value} (k : a_J G μ d lo pc' lv st' σ K)
    (h : ∀ {p : Program} {e : Env} {R : Room} {s : State} {m : MethodId} {args : Array Value} {below : List Frame} {meth : Method} {c : Code} {H : Heap} {locs : List Loc} {cells slots : Nat} {ls : Array Slot} {Q : State → Prop}, a_X G μ d lo p R s m args meth c → a_R G σ H → lv_has ls μ.2.2.1 lv →
      W p G.1 e R s m args below meth c H locs cells slots Q (F0 m pc' ls st') → W p G.1 e R s m args below meth c H locs cells slots Q (F0 m pc ls st)) : a_J G μ d lo pc lv st σ K := by
  obtain ⟨v, τ, hK, h1, h2, hW⟩ := k
  exact ⟨v, τ, hK, h1, h2, fun p e R s m args below meth c H locs cells slots ls hX hR hlc hl hc hs => h hX hR hl (hW p e R s m args below meth c H locs cells slots ls hX hR hlc hl hc hs)⟩
/-- a step that changes the locals -/
theorem a_stepL {pc' : Nat} {lv' : List (Nat × Value)} {st' : List Value} (k : a_J G μ d lo pc' lv' st' σ K)
    (h : ∀ {p : Program} {e : Env} {R : Room} {s : State} {m : MethodId} {args : Array Value} {below : List Frame} {meth : Method} {c : Code} {H : Heap} {locs : List Loc} {cells slots : Nat} {ls : Array Slot} {Q : State → Prop}, a_X G μ d lo p R s m args meth c → lv_has ls μ.2.2.1 lv →
      (∀ ls', lv_has ls' μ.2.2.1 lv' → W p G.1 e R s m args below meth c H locs cells slots Q (F0 m pc' ls' st')) → W p G.1 e R s m args below meth c H locs cells slots Q (F0 m pc ls st)) : a_J G μ d lo pc lv st σ K := by
  obtain ⟨v, τ, hK, h1, h2, hW⟩ := k
  exact ⟨v, τ, hK, h1, h2, fun p e R s m args below meth c H locs cells slots ls hX hR hlc hl hc hs => h hX hl (fun ls' hl' => hW p e R s m args below meth c H locs cells slots ls' hX hR hlc hl' hc hs)⟩
end Core
/-- the locals by number -/
def a_get : List (Nat × Value) → Nat → Option Value
  | [], _ => none
  | q :: r, i => bif Nat.beq q.1 i then some q.2 else a_get r i
theorem a_get_mem : ∀ {lv : List (Nat × Value)} {i : Nat} {v : Value}, a_get lv i = some v → (i, v) ∈ lv
  | [], _, _, h => by simp [a_get] at h
  | q :: r, i, v, h => by
    unfold a_get at h
    cases hb : Nat.beq q.1 i with
    | true =>
      rw [hb] at h
      have e1 : q.1 = i := Nat.eq_of_beq_eq_true hb
      have e2 : q.2 = v := Option.some.inj h
      rw [← e1, ← e2]
      exact List.mem_cons_self
    | false =>
      rw [hb] at h
      exact List.mem_cons_of_mem _ (a_get_mem h)
theorem a_at {ls : Array Slot} {n : Nat} {lv : List (Nat × Value)} {i : Nat} {v : Value} (h : lv_has ls n lv) (hg : a_get lv i = some v) : ls[i]? = some (.val v) := h.2.2 (i, v) (a_get_mem hg)
def a_put1 (i : Nat) (v : Value) (lv : List (Nat × Value)) : List (Nat × Value) := (i, v) :: lv.filter (fun q => !(q.1 == i) && !(q.1 + 1 == i && q.2.category == 2))
def a_put2 (i : Nat) (v : Value) (lv : List (Nat × Value)) : List (Nat × Value) := (i, v) :: lv.filter (fun q => !(q.1 == i) && (!(q.1 == i + 1) && !(q.1 + 1 == i && q.2.category == 2)))
def a_has (lv : List (Nat × Value)) : List (Nat × Value) → Prop
  | [] => True
  | q :: r => a_get lv q.1 = some q.2 ∧ a_has lv r
theorem a_has_mem {lv : List (Nat × Value)} : ∀ {l : List (Nat × Value)}, a_has lv l → ∀ q ∈ l, q ∈ lv
  | [], _, q, hq => by cases hq
  | x :: r, h, q, hq => by
    rcases List.mem_cons.mp hq with rfl | hq
    · exact a_get_mem h.1
    · exact a_has_mem h.2 q hq
def a_upd (σ : aS) (a : Nat) (e : aE) : aS := (σ.1, σ.2.1, fun b => if b = a then some e else σ.2.2 b)
def a_new (σ : aS) (n : Nat) (e : aE) : aS := (σ.1 + 1, σ.2.1 + n, fun b => if b = σ.1 then some e else σ.2.2 b)
theorem a_us {σ : aS} {a : Nat} {e : aE} : (a_upd σ a e).2.2 a = some e := by simp [a_upd]
theorem a_un {σ : aS} {a b : Nat} {e : aE} {f : Option aE} (h : b ≠ a) (hc : σ.2.2 b = f) : (a_upd σ a e).2.2 b = f := by simp [a_upd, h, hc]
theorem a_ns {σ : aS} {n : Nat} {e : aE} : (a_new σ n e).2.2 σ.1 = some e := by simp [a_new]
theorem a_nn {σ : aS} {n b : Nat} {e : aE} {f : Option aE} (h : b ≠ σ.1) (hc : σ.2.2 b = f) : (a_new σ n e).2.2 b = f := by simp [a_new, h, hc]
/-- nothing changed but cells lo .. hi - 1 -/
def a_fr (σ τ : aS) (lo hi : Nat) : Prop := τ.1 = σ.1 ∧ τ.2.1 = σ.2.1 ∧ ∀ a : Nat, (a < lo ∨ hi ≤ a) → τ.2.2 a = σ.2.2 a
theorem a_fr.rf {σ : aS} {lo hi : Nat} : a_fr σ σ lo hi := ⟨rfl, rfl, fun _ _ => rfl⟩
theorem a_fr.trans {σ τ υ : aS} {lo hi : Nat} (h : a_fr σ τ lo hi) (g : a_fr τ υ lo hi) : a_fr σ υ lo hi := ⟨g.1.trans h.1, g.2.1.trans h.2.1, fun a ha => (g.2.2 a ha).trans (h.2.2 a ha)⟩
theorem a_fr.upd {σ τ : aS} {lo hi a : Nat} {e : aE} (h : a_fr σ τ lo hi) (h1 : lo ≤ a) (h2 : a < hi) : a_fr σ (a_upd τ a e) lo hi := ⟨h.1, h.2.1, fun b hb => (a_un (by omega) rfl).trans (h.2.2 b hb)⟩
theorem a_fr.wide {σ τ : aS} {lo hi lo' hi' : Nat} (h : a_fr σ τ lo hi) (h1 : lo' ≤ lo) (h2 : hi ≤ hi') : a_fr σ τ lo' hi' := ⟨h.1, h.2.1, fun b hb => h.2.2 b (by omega)⟩
theorem a_P1 {D : va_G} {cl : List vw_C} {q : Nat × va_E} {H : Heap} (h : va_at D cl q H) : va_P D cl [q] H := by
  intro k x hk
  have hz : k < 1 := (List.getElem?_eq_some_iff.mp hk).1
  rw [show k = 0 by omega] at hk
  cases hk
  exact h
section Core2
variable {G : aG} {μ : aM} {d lo pc : Nat} {lv : List (Nat × Value)} {st : List Value} {σ : aS} {K : Option Value → aS → Prop}
theorem a_lv (l : List (Nat × Value)) (h : a_has lv l) (k : a_J G μ d lo pc l st σ K) : a_J G μ d lo pc lv st σ K := by
  obtain ⟨v, τ, hK, h1, h2, hW⟩ := k
  exact ⟨v, τ, hK, h1, h2, fun p e R s m args below meth c H locs cells slots ls hX hR hlc hl hc hs => hW p e R s m args below meth c H locs cells slots ls hX hR hlc ⟨hl.1, hl.2.1, fun q hq => hl.2.2 q (a_has_mem h q hq)⟩ hc hs⟩
theorem a_R.cell {H : Heap} {a : Nat} {e : aE} (h : a_R G σ H) (hc : σ.2.2 a = some e) : va_at G.2.2.1 vwCl (a, a_e G.2.2.2.1 e) H := (h.2.2.2 a e hc).2
theorem a_R.upd {H H1 : Heap} {a : Nat} {e : aE} (h : a_R G σ H) (ha : G.2.1.heap.size ≤ a) (hz : H1.size = H.size) (ho : ∀ q : Nat, q ≠ a → H1[q]? = H[q]?) (he : va_at G.2.2.1 vwCl (a, a_e G.2.2.2.1 e) H1) : a_R G (a_upd σ a e) H1 := by
  obtain ⟨h1, h2, h3, h4⟩ := h
  refine ⟨hz.trans h1, h2, fun q hq => (ho q (by omega)).trans (h3 q hq), fun b f hf => ?_⟩
  by_cases hb : b = a
  · subst hb
    have : f = e := by simpa [a_upd] using hf.symm
    subst this
    exact ⟨ha, he⟩
  · have hf' : σ.2.2 b = some f := by simpa [a_upd, hb] using hf
    exact ⟨(h4 b f hf').1, (h4 b f hf').2.kept (ho b hb)⟩
theorem a_R.new {H H1 : Heap} {n : Nat} {e : aE} (h : a_R G σ H) (hz : H1.size = σ.1 + 1) (ho : ∀ q : Nat, q < σ.1 → H1[q]? = H[q]?) (he : va_at G.2.2.1 vwCl (σ.1, a_e G.2.2.2.1 e) H1) : a_R G (a_new σ n e) H1 := by
  obtain ⟨h1, h2, h3, h4⟩ := h
  refine ⟨hz, Nat.le_succ_of_le h2, fun q hq => (ho q (by omega)).trans (h3 q hq), fun b f hf => ?_⟩
  by_cases hb : b = σ.1
  · subst hb
    have : f = e := by simpa [a_new] using hf.symm
    subst this
    exact ⟨h2, he⟩
  · have hf' : σ.2.2 b = some f := by simpa [a_new, hb] using hf
    have h5 := h4 b f hf'
    have hlt : b < H.size := h5.2.lt
    exact ⟨h5.1, h5.2.kept (ho b (by omega))⟩
theorem a_iconst {n : Int} {v : Int32} (hd : decode μ.2.1 pc = .ok (.iconst n, 1)) (hv : Int32.ofInt n = v) (k : a_J G μ d lo (pc + 1) lv (.int v :: st) σ K) : a_J G μ d lo pc lv (st) σ K := a_step k (fun hX _ _ k => lv_iconst hX.1 hX.2.1 hd hv k)
theorem a_bipush {n : Int} {v : Int32} (hd : decode μ.2.1 pc = .ok (.bipush n, 2)) (hv : (Int8.ofInt n).toInt32 = v) (k : a_J G μ d lo (pc + 2) lv (.int v :: st) σ K) : a_J G μ d lo pc lv (st) σ K := a_step k (fun hX _ _ k => lv_bipush hX.1 hX.2.1 hd hv k)
theorem a_sipush {n : Int} {v : Int32} (hd : decode μ.2.1 pc = .ok (.sipush n, 3)) (hv : (Int16.ofInt n).toInt32 = v) (k : a_J G μ d lo (pc + 3) lv (.int v :: st) σ K) : a_J G μ d lo pc lv (st) σ K := a_step k (fun hX _ _ k => lv_sipush hX.1 hX.2.1 hd hv k)
theorem a_lconst {n : Fin 2} {v : Int64} (hd : decode μ.2.1 pc = .ok (.lconst n, 1)) (hv : Int64.ofNat (n : Nat) = v) (k : a_J G μ d lo (pc + 1) lv (.long v :: st) σ K) : a_J G μ d lo pc lv (st) σ K := a_step k (fun hX _ _ k => lv_lconst hX.1 hX.2.1 hd hv k)
theorem a_iadd {x y : Int32} (hd : decode μ.2.1 pc = .ok (.iadd, 1)) (k : a_J G μ d lo (pc + 1) lv (.int (x + y) :: st) σ K) : a_J G μ d lo pc lv (.int y :: .int x :: st) σ K := a_step k (fun hX _ _ k => lv_iadd hX.1 hX.2.1 hd k)
theorem a_isub {x y : Int32} (hd : decode μ.2.1 pc = .ok (.isub, 1)) (k : a_J G μ d lo (pc + 1) lv (.int (x - y) :: st) σ K) : a_J G μ d lo pc lv (.int y :: .int x :: st) σ K := a_step k (fun hX _ _ k => lv_isub hX.1 hX.2.1 hd k)
theorem a_imul {x y : Int32} (hd : decode μ.2.1 pc = .ok (.imul, 1)) (k : a_J G μ d lo (pc + 1) lv (.int (x * y) :: st) σ K) : a_J G μ d lo pc lv (.int y :: .int x :: st) σ K := a_step k (fun hX _ _ k => lv_imul hX.1 hX.2.1 hd k)
theorem a_iand {x y : Int32} (hd : decode μ.2.1 pc = .ok (.iand, 1)) (k : a_J G μ d lo (pc + 1) lv (.int (x &&& y) :: st) σ K) : a_J G μ d lo pc lv (.int y :: .int x :: st) σ K := a_step k (fun hX _ _ k => lv_iand hX.1 hX.2.1 hd k)
theorem a_ior {x y : Int32} (hd : decode μ.2.1 pc = .ok (.ior, 1)) (k : a_J G μ d lo (pc + 1) lv (.int (x ||| y) :: st) σ K) : a_J G μ d lo pc lv (.int y :: .int x :: st) σ K := a_step k (fun hX _ _ k => lv_ior hX.1 hX.2.1 hd k)
theorem a_ixor {x y : Int32} (hd : decode μ.2.1 pc = .ok (.ixor, 1)) (k : a_J G μ d lo (pc + 1) lv (.int (x ^^^ y) :: st) σ K) : a_J G μ d lo pc lv (.int y :: .int x :: st) σ K := a_step k (fun hX _ _ k => lv_ixor hX.1 hX.2.1 hd k)
theorem a_ishl {x y : Int32} (hd : decode μ.2.1 pc = .ok (.ishl, 1)) (k : a_J G μ d lo (pc + 1) lv (.int (x <<< (y &&& 31)) :: st) σ K) : a_J G μ d lo pc lv (.int y :: .int x :: st) σ K := a_step k (fun hX _ _ k => lv_ishl hX.1 hX.2.1 hd k)
theorem a_ishr {x y : Int32} (hd : decode μ.2.1 pc = .ok (.ishr, 1)) (k : a_J G μ d lo (pc + 1) lv (.int (x >>> (y &&& 31)) :: st) σ K) : a_J G μ d lo pc lv (.int y :: .int x :: st) σ K := a_step k (fun hX _ _ k => lv_ishr hX.1 hX.2.1 hd k)
theorem a_iushr {x y : Int32} (hd : decode μ.2.1 pc = .ok (.iushr, 1)) (k : a_J G μ d lo (pc + 1) lv (.int (x.toUInt32 >>> (y.toUInt32 &&& Int32.toUInt32 31)).toInt32 :: st) σ K) : a_J G μ d lo pc lv (.int y :: .int x :: st) σ K := a_step k (fun hX _ _ k => lv_iushr hX.1 hX.2.1 hd rfl k)
theorem a_idiv {x y : Int32} (hd : decode μ.2.1 pc = .ok (.idiv, 1)) (hne : ¬ y = 0) (k : a_J G μ d lo (pc + 1) lv (.int (x / y) :: st) σ K) : a_J G μ d lo pc lv (.int y :: .int x :: st) σ K := a_step k (fun hX _ _ k => lv_idiv hX.1 hX.2.1 hd hne k)
theorem a_irem {x y : Int32} (hd : decode μ.2.1 pc = .ok (.irem, 1)) (hne : ¬ y = 0) (k : a_J G μ d lo (pc + 1) lv (.int (x - x / y * y) :: st) σ K) : a_J G μ d lo pc lv (.int y :: .int x :: st) σ K := a_step k (fun hX _ _ k => lv_irem hX.1 hX.2.1 hd hne k)
theorem a_ineg {x : Int32} (hd : decode μ.2.1 pc = .ok (.ineg, 1)) (k : a_J G μ d lo (pc + 1) lv (.int (-x) :: st) σ K) : a_J G μ d lo pc lv (.int x :: st) σ K := a_step k (fun hX _ _ k => lv_ineg hX.1 hX.2.1 hd k)
theorem a_ladd {x y : Int64} (hd : decode μ.2.1 pc = .ok (.ladd, 1)) (k : a_J G μ d lo (pc + 1) lv (.long (x + y) :: st) σ K) : a_J G μ d lo pc lv (.long y :: .long x :: st) σ K := a_step k (fun hX _ _ k => lv_ladd hX.1 hX.2.1 hd k)
theorem a_lsub {x y : Int64} (hd : decode μ.2.1 pc = .ok (.lsub, 1)) (k : a_J G μ d lo (pc + 1) lv (.long (x - y) :: st) σ K) : a_J G μ d lo pc lv (.long y :: .long x :: st) σ K := a_step k (fun hX _ _ k => lv_lsub hX.1 hX.2.1 hd k)
theorem a_lmul {x y : Int64} (hd : decode μ.2.1 pc = .ok (.lmul, 1)) (k : a_J G μ d lo (pc + 1) lv (.long (x * y) :: st) σ K) : a_J G μ d lo pc lv (.long y :: .long x :: st) σ K := a_step k (fun hX _ _ k => lv_lmul hX.1 hX.2.1 hd k)
theorem a_land {x y : Int64} (hd : decode μ.2.1 pc = .ok (.land, 1)) (k : a_J G μ d lo (pc + 1) lv (.long (x &&& y) :: st) σ K) : a_J G μ d lo pc lv (.long y :: .long x :: st) σ K := a_step k (fun hX _ _ k => lv_land hX.1 hX.2.1 hd k)
theorem a_lor {x y : Int64} (hd : decode μ.2.1 pc = .ok (.lor, 1)) (k : a_J G μ d lo (pc + 1) lv (.long (x ||| y) :: st) σ K) : a_J G μ d lo pc lv (.long y :: .long x :: st) σ K := a_step k (fun hX _ _ k => lv_lor hX.1 hX.2.1 hd k)
theorem a_lxor {x y : Int64} (hd : decode μ.2.1 pc = .ok (.lxor, 1)) (k : a_J G μ d lo (pc + 1) lv (.long (x ^^^ y) :: st) σ K) : a_J G μ d lo pc lv (.long y :: .long x :: st) σ K := a_step k (fun hX _ _ k => lv_lxor hX.1 hX.2.1 hd k)
theorem a_ldiv {x y : Int64} (hd : decode μ.2.1 pc = .ok (.ldiv, 1)) (hne : ¬ y = 0) (k : a_J G μ d lo (pc + 1) lv (.long (x / y) :: st) σ K) : a_J G μ d lo pc lv (.long y :: .long x :: st) σ K := a_step k (fun hX _ _ k => lv_ldiv hX.1 hX.2.1 hd hne k)
theorem a_lrem {x y : Int64} (hd : decode μ.2.1 pc = .ok (.lrem, 1)) (hne : ¬ y = 0) (k : a_J G μ d lo (pc + 1) lv (.long (x - x / y * y) :: st) σ K) : a_J G μ d lo pc lv (.long y :: .long x :: st) σ K := a_step k (fun hX _ _ k => lv_lrem hX.1 hX.2.1 hd hne k)
theorem a_lneg {x : Int64} (hd : decode μ.2.1 pc = .ok (.lneg, 1)) (k : a_J G μ d lo (pc + 1) lv (.long (-x) :: st) σ K) : a_J G μ d lo pc lv (.long x :: st) σ K := a_step k (fun hX _ _ k => lv_lneg hX.1 hX.2.1 hd k)
theorem a_lushr {x : Int64} {y : Int32} (hd : decode μ.2.1 pc = .ok (.lushr, 1)) (k : a_J G μ d lo (pc + 1) lv (.long (x.toUInt64 >>> (y.toInt64.toUInt64 &&& Int64.toUInt64 63)).toInt64 :: st) σ K) : a_J G μ d lo pc lv (.int y :: .long x :: st) σ K := a_step k (fun hX _ _ k => lv_lushr hX.1 hX.2.1 hd rfl k)
theorem a_lshl {x : Int64} {y : Int32} (hd : decode μ.2.1 pc = .ok (.lshl, 1)) (k : a_J G μ d lo (pc + 1) lv (.long (x <<< (y.toInt64 &&& 63)) :: st) σ K) : a_J G μ d lo pc lv (.int y :: .long x :: st) σ K := a_step k (fun hX _ _ k => lv_lshl hX.1 hX.2.1 hd rfl k)
theorem a_lshr {x : Int64} {y : Int32} (hd : decode μ.2.1 pc = .ok (.lshr, 1)) (k : a_J G μ d lo (pc + 1) lv (.long (x >>> (y.toInt64 &&& 63)) :: st) σ K) : a_J G μ d lo pc lv (.int y :: .long x :: st) σ K := a_step k (fun hX _ _ k => lv_lshr hX.1 hX.2.1 hd rfl k)
theorem a_i2l {x : Int32} (hd : decode μ.2.1 pc = .ok (.i2l, 1)) (k : a_J G μ d lo (pc + 1) lv (.long x.toInt64 :: st) σ K) : a_J G μ d lo pc lv (.int x :: st) σ K := a_step k (fun hX _ _ k => lv_i2l hX.1 hX.2.1 hd rfl k)
theorem a_l2i {x : Int64} (hd : decode μ.2.1 pc = .ok (.l2i, 1)) (k : a_J G μ d lo (pc + 1) lv (.int x.toInt32 :: st) σ K) : a_J G μ d lo pc lv (.long x :: st) σ K := a_step k (fun hX _ _ k => lv_l2i hX.1 hX.2.1 hd rfl k)
theorem a_i2b {x : Int32} (hd : decode μ.2.1 pc = .ok (.i2b, 1)) (k : a_J G μ d lo (pc + 1) lv (.int x.toInt8.toInt32 :: st) σ K) : a_J G μ d lo pc lv (.int x :: st) σ K := a_step k (fun hX _ _ k => lv_i2b hX.1 hX.2.1 hd rfl k)
theorem a_i2c {x : Int32} (hd : decode μ.2.1 pc = .ok (.i2c, 1)) (k : a_J G μ d lo (pc + 1) lv (.int (x.toUInt32 % 65536).toInt32 :: st) σ K) : a_J G μ d lo pc lv (.int x :: st) σ K := a_step k (fun hX _ _ k => lv_i2c hX.1 hX.2.1 hd rfl k)
theorem a_lcmp {x y : Int64} (hd : decode μ.2.1 pc = .ok (.lcmp, 1)) (k : a_J G μ d lo (pc + 1) lv (.int (lg_cmp x y) :: st) σ K) : a_J G μ d lo pc lv (.long y :: .long x :: st) σ K := a_step k (fun hX _ _ k => W.lcmp hX.1 hX.2.1 hd k)
theorem a_dup {va : Value} (hd : decode μ.2.1 pc = .ok (.dup, 1)) (h1 : va.category = 1) (k : a_J G μ d lo (pc + 1) lv (va :: va :: st) σ K) : a_J G μ d lo pc lv (va :: st) σ K := a_step k (fun hX _ _ k => lv_dup hX.1 hX.2.1 hd h1 k)
theorem a_pop {va : Value} (hd : decode μ.2.1 pc = .ok (.pop, 1)) (h1 : va.category = 1) (k : a_J G μ d lo (pc + 1) lv (st) σ K) : a_J G μ d lo pc lv (va :: st) σ K := a_step k (fun hX _ _ k => lv_pop hX.1 hX.2.1 hd h1 k)
theorem a_dup_x1 {va vb : Value} (hd : decode μ.2.1 pc = .ok (.dup_x1, 1)) (h1 : va.category = 1) (h2 : vb.category = 1) (k : a_J G μ d lo (pc + 1) lv (va :: vb :: va :: st) σ K) : a_J G μ d lo pc lv (va :: vb :: st) σ K := a_step k (fun hX _ _ k => lv_dup_x1 hX.1 hX.2.1 hd h1 h2 k)
theorem a_dup_x2 {va vb vd : Value} (hd : decode μ.2.1 pc = .ok (.dup_x2, 1)) (h1 : va.category = 1) (h2 : vb.category = 1) (h3 : vd.category = 1) (k : a_J G μ d lo (pc + 1) lv (va :: vb :: vd :: va :: st) σ K) : a_J G μ d lo pc lv (va :: vb :: vd :: st) σ K := a_step k (fun hX _ _ k => lv_dup_x2 hX.1 hX.2.1 hd h1 h2 h3 k)
theorem a_dup2 {va vb : Value} (hd : decode μ.2.1 pc = .ok (.dup2, 1)) (h1 : va.category = 1) (h2 : vb.category = 1) (k : a_J G μ d lo (pc + 1) lv (va :: vb :: va :: vb :: st) σ K) : a_J G μ d lo pc lv (va :: vb :: st) σ K := a_step k (fun hX _ _ k => lv_dup2_11 hX.1 hX.2.1 hd h1 h2 k)
theorem a_dup2L {va : Value} (hd : decode μ.2.1 pc = .ok (.dup2, 1)) (h1 : va.category = 2) (k : a_J G μ d lo (pc + 1) lv (va :: va :: st) σ K) : a_J G μ d lo pc lv (va :: st) σ K := a_step k (fun hX _ _ k => lv_dup2_2 hX.1 hX.2.1 hd h1 k)
theorem a_iload_n {i : Nat} {q : Fin 4} {x : Int32} (hd : decode μ.2.1 pc = .ok (.iload_n q, 1)) (hi : (q : Nat) = i) (hg : a_get lv i = some (.int x)) (k : a_J G μ d lo (pc + 1) lv (.int x :: st) σ K) : a_J G μ d lo pc lv st σ K := a_step k (fun hX _ hl k => lv_iload_n hX.1 hX.2.1 hd hi (a_at hl hg) k)
theorem a_iload {i : Nat} {x : Int32} (hd : decode μ.2.1 pc = .ok (.iload i, 2)) (hg : a_get lv i = some (.int x)) (k : a_J G μ d lo (pc + 2) lv (.int x :: st) σ K) : a_J G μ d lo pc lv st σ K := a_step k (fun hX _ hl k => lv_iload hX.1 hX.2.1 hd (a_at hl hg) k)
theorem a_istore_n {i : Nat} {q : Fin 4} {x : Int32} (hd : decode μ.2.1 pc = .ok (.istore_n q, 1)) (hi : (q : Nat) = i) (hn : i < μ.2.2.1) (k : a_J G μ d lo (pc + 1) (a_put1 i (.int x) lv) st σ K) : a_J G μ d lo pc lv (.int x :: st) σ K := a_stepL k (fun hX hl k => lv_istore_n hX.1 hX.2.1 hd hi hl hn rfl k)
theorem a_istore {i : Nat} {x : Int32} (hd : decode μ.2.1 pc = .ok (.istore i, 2)) (hn : i < μ.2.2.1) (k : a_J G μ d lo (pc + 2) (a_put1 i (.int x) lv) st σ K) : a_J G μ d lo pc lv (.int x :: st) σ K := a_stepL k (fun hX hl k => lv_istore hX.1 hX.2.1 hd hl hn rfl k)
theorem a_lload_n {i : Nat} {q : Fin 4} {x : Int64} (hd : decode μ.2.1 pc = .ok (.lload_n q, 1)) (hi : (q : Nat) = i) (hg : a_get lv i = some (.long x)) (k : a_J G μ d lo (pc + 1) lv (.long x :: st) σ K) : a_J G μ d lo pc lv st σ K := a_step k (fun hX _ hl k => lv_lload_n hX.1 hX.2.1 hd hi (a_at hl hg) k)
theorem a_lload {i : Nat} {x : Int64} (hd : decode μ.2.1 pc = .ok (.lload i, 2)) (hg : a_get lv i = some (.long x)) (k : a_J G μ d lo (pc + 2) lv (.long x :: st) σ K) : a_J G μ d lo pc lv st σ K := a_step k (fun hX _ hl k => lv_lload hX.1 hX.2.1 hd (a_at hl hg) k)
theorem a_lstore_n {i : Nat} {q : Fin 4} {x : Int64} (hd : decode μ.2.1 pc = .ok (.lstore_n q, 1)) (hi : (q : Nat) = i) (hn : i + 1 < μ.2.2.1) (k : a_J G μ d lo (pc + 1) (a_put2 i (.long x) lv) st σ K) : a_J G μ d lo pc lv (.long x :: st) σ K := a_stepL k (fun hX hl k => lv_lstore_n hX.1 hX.2.1 hd hi hl hn rfl k)
theorem a_lstore {i : Nat} {x : Int64} (hd : decode μ.2.1 pc = .ok (.lstore i, 2)) (hn : i + 1 < μ.2.2.1) (k : a_J G μ d lo (pc + 2) (a_put2 i (.long x) lv) st σ K) : a_J G μ d lo pc lv (.long x :: st) σ K := a_stepL k (fun hX hl k => lv_lstore hX.1 hX.2.1 hd hl hn rfl k)
theorem a_aload_n {i : Nat} {q : Fin 4} {x : Nat} (hd : decode μ.2.1 pc = .ok (.aload_n q, 1)) (hi : (q : Nat) = i) (hg : a_get lv i = some (.ref x)) (k : a_J G μ d lo (pc + 1) lv (.ref x :: st) σ K) : a_J G μ d lo pc lv st σ K := a_step k (fun hX _ hl k => lv_aload_n hX.1 hX.2.1 hd hi (a_at hl hg) k)
theorem a_aload {i : Nat} {x : Nat} (hd : decode μ.2.1 pc = .ok (.aload i, 2)) (hg : a_get lv i = some (.ref x)) (k : a_J G μ d lo (pc + 2) lv (.ref x :: st) σ K) : a_J G μ d lo pc lv st σ K := a_step k (fun hX _ hl k => lv_aload hX.1 hX.2.1 hd (a_at hl hg) k)
theorem a_astore_n {i : Nat} {q : Fin 4} {x : Nat} (hd : decode μ.2.1 pc = .ok (.astore_n q, 1)) (hi : (q : Nat) = i) (hn : i < μ.2.2.1) (k : a_J G μ d lo (pc + 1) (a_put1 i (.ref x) lv) st σ K) : a_J G μ d lo pc lv (.ref x :: st) σ K := a_stepL k (fun hX hl k => lv_astore_n hX.1 hX.2.1 hd hi hl hn rfl k)
theorem a_astore {i : Nat} {x : Nat} (hd : decode μ.2.1 pc = .ok (.astore i, 2)) (hn : i < μ.2.2.1) (k : a_J G μ d lo (pc + 2) (a_put1 i (.ref x) lv) st σ K) : a_J G μ d lo pc lv (.ref x :: st) σ K := a_stepL k (fun hX hl k => lv_astore hX.1 hX.2.1 hd hl hn rfl k)
theorem a_iinc {i : Nat} {n : Int} {x c0 : Int32} (hd : decode μ.2.1 pc = .ok (.iinc i n, 3)) (hg : a_get lv i = some (.int x)) (hc : Int32.ofInt n = c0) (hn : i < μ.2.2.1) (k : a_J G μ d lo (pc + 3) (a_put1 i (.int (x + c0)) lv) st σ K) : a_J G μ d lo pc lv st σ K := by
  obtain ⟨j, hj⟩ := List.getElem?_of_mem (a_get_mem hg)
  exact a_stepL k (fun hX hl k => lv_iinc hX.1 hX.2.1 hd hl (k := j) hj (by rw [hc]) hn rfl k)
theorem a_goto {off : Int} {tgt : Nat} (hd : decode μ.2.1 pc = .ok (.goto off, 3)) (ht : (pc : Int) + off = (tgt : Int)) (k : a_J G μ d lo tgt lv st σ K) : a_J G μ d lo pc lv st σ K := a_step k (fun hX _ _ k => lv_goto hX.1 hX.2.1 hd ht k)
theorem a_if_eq {x : Int32} {off : Int} {tgt : Nat} (hd : decode μ.2.1 pc = .ok (.ifCond .eq off, 3)) (ht : (pc : Int) + off = (tgt : Int)) (kt : x = 0 → a_J G μ d lo tgt lv st σ K) (kf : ¬ (x = 0) → a_J G μ d lo (pc + 3) lv st σ K) : a_J G μ d lo pc lv (.int x :: st) σ K := by
  by_cases hP : x = 0
  · exact a_step (kt hP) (fun hX _ _ k => lv_if_eq hX.1 hX.2.1 hd ht (fun _ => k) (fun n => absurd hP n))
  · exact a_step (kf hP) (fun hX _ _ k => lv_if_eq hX.1 hX.2.1 hd ht (fun n => absurd n hP) (fun _ => k))
theorem a_icmp_eq {x y : Int32} {off : Int} {tgt : Nat} (hd : decode μ.2.1 pc = .ok (.if_icmp .eq off, 3)) (ht : (pc : Int) + off = (tgt : Int)) (kt : x = y → a_J G μ d lo tgt lv st σ K) (kf : ¬ (x = y) → a_J G μ d lo (pc + 3) lv st σ K) : a_J G μ d lo pc lv (.int y :: .int x :: st) σ K := by
  by_cases hP : x = y
  · exact a_step (kt hP) (fun hX _ _ k => lv_icmp_eq hX.1 hX.2.1 hd ht (fun _ => k) (fun n => absurd hP n))
  · exact a_step (kf hP) (fun hX _ _ k => lv_icmp_eq hX.1 hX.2.1 hd ht (fun n => absurd n hP) (fun _ => k))
theorem a_if_ne {x : Int32} {off : Int} {tgt : Nat} (hd : decode μ.2.1 pc = .ok (.ifCond .ne off, 3)) (ht : (pc : Int) + off = (tgt : Int)) (kt : ¬ x = 0 → a_J G μ d lo tgt lv st σ K) (kf : x = 0 → a_J G μ d lo (pc + 3) lv st σ K) : a_J G μ d lo pc lv (.int x :: st) σ K := by
  by_cases hP : ¬ x = 0
  · exact a_step (kt hP) (fun hX _ _ k => lv_if_ne hX.1 hX.2.1 hd ht (fun _ => k) (fun n => absurd n hP))
  · exact a_step (kf (Decidable.not_not.mp hP)) (fun hX _ _ k => lv_if_ne hX.1 hX.2.1 hd ht (fun n => absurd n hP) (fun _ => k))
theorem a_icmp_ne {x y : Int32} {off : Int} {tgt : Nat} (hd : decode μ.2.1 pc = .ok (.if_icmp .ne off, 3)) (ht : (pc : Int) + off = (tgt : Int)) (kt : ¬ x = y → a_J G μ d lo tgt lv st σ K) (kf : x = y → a_J G μ d lo (pc + 3) lv st σ K) : a_J G μ d lo pc lv (.int y :: .int x :: st) σ K := by
  by_cases hP : ¬ x = y
  · exact a_step (kt hP) (fun hX _ _ k => lv_icmp_ne hX.1 hX.2.1 hd ht (fun _ => k) (fun n => absurd n hP))
  · exact a_step (kf (Decidable.not_not.mp hP)) (fun hX _ _ k => lv_icmp_ne hX.1 hX.2.1 hd ht (fun n => absurd n hP) (fun _ => k))
theorem a_if_lt {x : Int32} {off : Int} {tgt : Nat} (hd : decode μ.2.1 pc = .ok (.ifCond .lt off, 3)) (ht : (pc : Int) + off = (tgt : Int)) (kt : x < 0 → a_J G μ d lo tgt lv st σ K) (kf : ¬ (x < 0) → a_J G μ d lo (pc + 3) lv st σ K) : a_J G μ d lo pc lv (.int x :: st) σ K := by
  by_cases hP : x < 0
  · exact a_step (kt hP) (fun hX _ _ k => lv_if_lt hX.1 hX.2.1 hd ht (fun _ => k) (fun n => absurd hP n))
  · exact a_step (kf hP) (fun hX _ _ k => lv_if_lt hX.1 hX.2.1 hd ht (fun n => absurd n hP) (fun _ => k))
theorem a_icmp_lt {x y : Int32} {off : Int} {tgt : Nat} (hd : decode μ.2.1 pc = .ok (.if_icmp .lt off, 3)) (ht : (pc : Int) + off = (tgt : Int)) (kt : x < y → a_J G μ d lo tgt lv st σ K) (kf : ¬ (x < y) → a_J G μ d lo (pc + 3) lv st σ K) : a_J G μ d lo pc lv (.int y :: .int x :: st) σ K := by
  by_cases hP : x < y
  · exact a_step (kt hP) (fun hX _ _ k => lv_icmp_lt hX.1 hX.2.1 hd ht (fun _ => k) (fun n => absurd hP n))
  · exact a_step (kf hP) (fun hX _ _ k => lv_icmp_lt hX.1 hX.2.1 hd ht (fun n => absurd n hP) (fun _ => k))
theorem a_if_ge {x : Int32} {off : Int} {tgt : Nat} (hd : decode μ.2.1 pc = .ok (.ifCond .ge off, 3)) (ht : (pc : Int) + off = (tgt : Int)) (kt : 0 ≤ x → a_J G μ d lo tgt lv st σ K) (kf : ¬ (0 ≤ x) → a_J G μ d lo (pc + 3) lv st σ K) : a_J G μ d lo pc lv (.int x :: st) σ K := by
  by_cases hP : 0 ≤ x
  · exact a_step (kt hP) (fun hX _ _ k => lv_if_ge hX.1 hX.2.1 hd ht (fun _ => k) (fun n => absurd hP n))
  · exact a_step (kf hP) (fun hX _ _ k => lv_if_ge hX.1 hX.2.1 hd ht (fun n => absurd n hP) (fun _ => k))
theorem a_icmp_ge {x y : Int32} {off : Int} {tgt : Nat} (hd : decode μ.2.1 pc = .ok (.if_icmp .ge off, 3)) (ht : (pc : Int) + off = (tgt : Int)) (kt : y ≤ x → a_J G μ d lo tgt lv st σ K) (kf : ¬ (y ≤ x) → a_J G μ d lo (pc + 3) lv st σ K) : a_J G μ d lo pc lv (.int y :: .int x :: st) σ K := by
  by_cases hP : y ≤ x
  · exact a_step (kt hP) (fun hX _ _ k => lv_icmp_ge hX.1 hX.2.1 hd ht (fun _ => k) (fun n => absurd hP n))
  · exact a_step (kf hP) (fun hX _ _ k => lv_icmp_ge hX.1 hX.2.1 hd ht (fun n => absurd n hP) (fun _ => k))
theorem a_if_gt {x : Int32} {off : Int} {tgt : Nat} (hd : decode μ.2.1 pc = .ok (.ifCond .gt off, 3)) (ht : (pc : Int) + off = (tgt : Int)) (kt : 0 < x → a_J G μ d lo tgt lv st σ K) (kf : ¬ (0 < x) → a_J G μ d lo (pc + 3) lv st σ K) : a_J G μ d lo pc lv (.int x :: st) σ K := by
  by_cases hP : 0 < x
  · exact a_step (kt hP) (fun hX _ _ k => lv_if_gt hX.1 hX.2.1 hd ht (fun _ => k) (fun n => absurd hP n))
  · exact a_step (kf hP) (fun hX _ _ k => lv_if_gt hX.1 hX.2.1 hd ht (fun n => absurd n hP) (fun _ => k))
theorem a_icmp_gt {x y : Int32} {off : Int} {tgt : Nat} (hd : decode μ.2.1 pc = .ok (.if_icmp .gt off, 3)) (ht : (pc : Int) + off = (tgt : Int)) (kt : y < x → a_J G μ d lo tgt lv st σ K) (kf : ¬ (y < x) → a_J G μ d lo (pc + 3) lv st σ K) : a_J G μ d lo pc lv (.int y :: .int x :: st) σ K := by
  by_cases hP : y < x
  · exact a_step (kt hP) (fun hX _ _ k => lv_icmp_gt hX.1 hX.2.1 hd ht (fun _ => k) (fun n => absurd hP n))
  · exact a_step (kf hP) (fun hX _ _ k => lv_icmp_gt hX.1 hX.2.1 hd ht (fun n => absurd n hP) (fun _ => k))
theorem a_if_le {x : Int32} {off : Int} {tgt : Nat} (hd : decode μ.2.1 pc = .ok (.ifCond .le off, 3)) (ht : (pc : Int) + off = (tgt : Int)) (kt : x ≤ 0 → a_J G μ d lo tgt lv st σ K) (kf : ¬ (x ≤ 0) → a_J G μ d lo (pc + 3) lv st σ K) : a_J G μ d lo pc lv (.int x :: st) σ K := by
  by_cases hP : x ≤ 0
  · exact a_step (kt hP) (fun hX _ _ k => lv_if_le hX.1 hX.2.1 hd ht (fun _ => k) (fun n => absurd hP n))
  · exact a_step (kf hP) (fun hX _ _ k => lv_if_le hX.1 hX.2.1 hd ht (fun n => absurd n hP) (fun _ => k))
theorem a_icmp_le {x y : Int32} {off : Int} {tgt : Nat} (hd : decode μ.2.1 pc = .ok (.if_icmp .le off, 3)) (ht : (pc : Int) + off = (tgt : Int)) (kt : x ≤ y → a_J G μ d lo tgt lv st σ K) (kf : ¬ (x ≤ y) → a_J G μ d lo (pc + 3) lv st σ K) : a_J G μ d lo pc lv (.int y :: .int x :: st) σ K := by
  by_cases hP : x ≤ y
  · exact a_step (kt hP) (fun hX _ _ k => lv_icmp_le hX.1 hX.2.1 hd ht (fun _ => k) (fun n => absurd hP n))
  · exact a_step (kf hP) (fun hX _ _ k => lv_icmp_le hX.1 hX.2.1 hd ht (fun n => absurd n hP) (fun _ => k))
theorem a_tableOut {dflt lw hi : Int} {offs : Array Int} {len : Nat} {x : Int32} {tgt : Nat} (hd : decode μ.2.1 pc = .ok (.tableswitch dflt lw hi offs, len)) (h : x.toInt < lw ∨ hi < x.toInt) (ht : (pc : Int) + dflt = (tgt : Int)) (k : a_J G μ d lo tgt lv st σ K) : a_J G μ d lo pc lv (.int x :: st) σ K := a_step k (fun hX _ _ k => lv_tableOut hX.1 hX.2.1 hd h ht k)
theorem a_tableIn {dflt lw hi : Int} {offs : Array Int} {len : Nat} {x : Int32} {off : Int} {tgt : Nat} (hd : decode μ.2.1 pc = .ok (.tableswitch dflt lw hi offs, len)) (h1 : ¬ x.toInt < lw) (h2 : ¬ hi < x.toInt) (ho : offs[(x.toInt - lw).toNat]? = some off) (ht : (pc : Int) + off = (tgt : Int)) (k : a_J G μ d lo tgt lv st σ K) : a_J G μ d lo pc lv (.int x :: st) σ K := a_step k (fun hX _ _ k => lv_tableIn hX.1 hX.2.1 hd h1 h2 ho ht k)
theorem a_lookup {dflt : Int} {ps : Array (Int × Int)} {len : Nat} {x : Int32} {off : Int} {tgt : Nat} (hd : decode μ.2.1 pc = .ok (.lookupswitch dflt ps, len)) (hp : (ps.toList.zip (ps.toList.drop 1)).all (fun (a, next) => a.1 < next.1) = true) (ho : Op.lookupswitch.offset ps.toList dflt x.toInt = off) (ht : (pc : Int) + off = (tgt : Int)) (k : a_J G μ d lo tgt lv st σ K) : a_J G μ d lo pc lv (.int x :: st) σ K := a_step k (fun hX _ _ k => lv_lookup hX.1 hX.2.1 hd hp ho ht k)
theorem a_ldc {index : Nat} {v : Int32} (hd : decode μ.2.1 pc = .ok (.ldc index, 2)) (hw : Jvm.Cond.constant μ.1.cls index v ∈ aTs) (k : a_J G μ d lo (pc + 2) lv (.int v :: st) σ K) : a_J G μ d lo pc lv st σ K := a_step k (fun hX _ _ k => lv_ldc hX.1 hX.2.1 hX.2.2.2.2.1 (hX.2.2.2.2.2.1 _ hw) hd k)
theorem a_ldc2 {index : Nat} {v : Int64} (hd : decode μ.2.1 pc = .ok (.ldc2_w index, 3)) (hw : Jvm.Cond.constantLong μ.1.cls index v ∈ aTs) (k : a_J G μ d lo (pc + 3) lv (.long v :: st) σ K) : a_J G μ d lo pc lv st σ K := a_step k (fun hX _ _ k => lv_ldc2 hX.1 hX.2.1 hX.2.2.2.2.1 (hX.2.2.2.2.2.1 _ hw) hd k)
theorem a_ireturn {x : Int32} {ty : FieldType} (hd : decode μ.2.1 pc = .ok (.ireturn, 1)) (hr : μ.2.2.2 = some ty) (hn : narrow ty (.int x) = .int x) (hK : K (some (.int x)) σ) : a_J G μ d lo pc lv [.int x] σ K := by
  refine ⟨some (.int x), σ, hK, Nat.le_refl _, Nat.le_refl _, ?_⟩
  intro p e R s m args below meth c H locs cells slots ls hX hR hlc hl hc hs
  rw [Nat.sub_self, Nat.sub_self, Nat.add_zero, Nat.add_zero]
  exact W.zret hX.1 hX.2.1 (hX.2.2.1.trans hr) hn (fun t ht _ => ⟨rfl, by rw [ht]; exact hR⟩) hlc hd hX.2.2.2.2.2.2.1
theorem a_lreturn {x : Int64} (hd : decode μ.2.1 pc = .ok (.lreturn, 1)) (hr : μ.2.2.2 = some .long) (hK : K (some (.long x)) σ) : a_J G μ d lo pc lv [.long x] σ K := by
  refine ⟨some (.long x), σ, hK, Nat.le_refl _, Nat.le_refl _, ?_⟩
  intro p e R s m args below meth c H locs cells slots ls hX hR hlc hl hc hs
  rw [Nat.sub_self, Nat.sub_self, Nat.add_zero, Nat.add_zero]
  exact W.lret hX.1 hX.2.1 (hX.2.2.1.trans hr) (fun t ht _ => ⟨rfl, by rw [ht]; exact hR⟩) hlc hd hX.2.2.2.2.2.2.1
theorem a_return (hd : decode μ.2.1 pc = .ok (.return_, 1)) (hr : μ.2.2.2 = none) (hK : K none σ) : a_J G μ d lo pc lv [] σ K := by
  refine ⟨none, σ, hK, Nat.le_refl _, Nat.le_refl _, ?_⟩
  intro p e R s m args below meth c H locs cells slots ls hX hR hlc hl hc hs
  rw [Nat.sub_self, Nat.sub_self, Nat.add_zero, Nat.add_zero]
  exact W.vret hX.1 hX.2.1 (hX.2.2.1.trans hr) (fun t ht _ => ⟨rfl, by rw [ht]; exact hR⟩) hlc hd hX.2.2.2.2.2.2.1
theorem a_areturn {v : Value} {rt : FieldType} (hd : decode μ.2.1 pc = .ok (.areturn, 1)) (hr : μ.2.2.2 = some rt) (hrt : (∃ n, rt = .object n) ∨ ∃ t, rt = .array t) (hv : v = .null ∨ ∃ a, v = .ref a) (hK : K (some v) σ) : a_J G μ d lo pc lv [v] σ K := by
  refine ⟨some v, σ, hK, Nat.le_refl _, Nat.le_refl _, ?_⟩
  intro p e R s m args below meth c H locs cells slots ls hX hR hlc hl hc hs
  rw [Nat.sub_self, Nat.sub_self, Nat.add_zero, Nat.add_zero]
  exact W.aret hX.1 hX.2.1 (hX.2.2.1.trans hr) hrt hv (fun t ht _ => ⟨rfl, by rw [ht]; exact hR⟩) hlc hd hX.2.2.2.2.2.2.1
end Core2
