/-! THE SMALL MACHINE. Cells have numbers; a cell is an array of ints (false) or booleans (true) with its length and contents, or an object: its class's number and its fields. A reference is a cell's number; retAddr 0 stands for the script. -/
abbrev ax_C : Type := (Bool × Nat × (Nat → Int32)) ⊕ (Nat × List Value)
/-- the heap: cells, how many there are, how many cells and slots may still be made -/
abbrev ax_H : Type := (Nat → ax_C) × Nat × Nat × Nat
abbrev ax_K : Type := Option Value → ax_H → Prop
abbrev ax_J : Type := Nat → Nat → List (Option Value) → List Value → ax_H → ax_K → Prop
abbrev ax_S : Type := Nat × (Nat → Int32)
def ax_v (b : Nat) (ad : Nat → Nat) : Value → Value
  | .ref i => .ref (ad i)
  | .retAddr _ => .ref b
  | .int x => .int x
  | .long x => .long x
  | .float x => .float x
  | .double x => .double x
  | .null => .null
def ax_e (b : Nat) (cI cZ : ClassId) (ad : Nat → Nat) : ax_C → va_E
  | .inl a => .inl (if a.1 then cZ else cI, a.2.1, .inl a.2.2)
  | .inr o => .inr (o.1, o.2.map (ax_v b ad))
def ax_w (b : Nat) (cI cZ : ClassId) (ad : Nat → Nat) (σ : Nat → ax_C) (n : Nat) : va_W := (List.range n).map fun i => (ad i, ax_e b cI cZ ad (σ i))
def ax_ok (n : Nat) (v : Value) : Prop := ∀ i, v = .ref i → i < n
def ax_okC (n : Nat) (x : ax_C) : Prop := ∀ o, x = .inr o → ∀ v ∈ o.2, ax_ok n v
def ax_pr (b : Nat) (ad : Nat → Nat) (ls : List (Option Value)) : List (Nat × Value) := (List.range ls.length).filterMap fun i => (ls[i]?.join).map fun v => (i, ax_v b ad v)
def ax_ps (v : Option Value) (st : List Value) : List Value := match v with
  | none => st
  | some x => x :: st
theorem ax_cat1 {b : Nat} {ad : Nat → Nat} {v : Value} (h : v.category = 1) : (ax_v b ad v).category = 1 := by cases v <;> first | rfl | exact h
theorem ax_cat0 {b : Nat} {ad : Nat → Nat} {v : Value} : (ax_v b ad v).category = v.category := by cases v <;> rfl
theorem ax_oi {n : Nat} {z : Int32} {st : List Value} (h : ∀ v ∈ st, ax_ok n v) : ∀ v ∈ (Value.int z :: st), ax_ok n v := by
  intro v hv i e
  rcases List.mem_cons.mp hv with rfl | hv
  · cases e
  · exact h v hv i e
theorem ax_on {n : Nat} {st : List Value} (h : ∀ v ∈ st, ax_ok n v) : ∀ v ∈ (Value.null :: st), ax_ok n v := by
  intro v hv i e
  rcases List.mem_cons.mp hv with rfl | hv
  · cases e
  · exact h v hv i e
theorem ax_oc {n : Nat} {x : Value} {st : List Value} (hx : ax_ok n x) (h : ∀ v ∈ st, ax_ok n v) : ∀ v ∈ (x :: st), ax_ok n v := by
  intro v hv
  rcases List.mem_cons.mp hv with rfl | hv
  · exact hx
  · exact h v hv
theorem ax_ot {n : Nat} {x : Value} {st : List Value} (h : ∀ v ∈ (x :: st), ax_ok n v) : ∀ v ∈ st, ax_ok n v := fun v hv => h v (List.mem_cons_of_mem _ hv)
theorem ax_oh {n : Nat} {x : Value} {st : List Value} (h : ∀ v ∈ (x :: st), ax_ok n v) : ax_ok n x := h x List.mem_cons_self
theorem ax_pr_mem {b : Nat} {ad : Nat → Nat} {ls : List (Option Value)} {q : Nat × Value} : q ∈ ax_pr b ad ls ↔ ∃ v, ls[q.1]? = some (some v) ∧ q.2 = ax_v b ad v := by
  unfold ax_pr
  rw [List.mem_filterMap]
  constructor
  · rintro ⟨i, hi, h⟩
    cases hj : ls[i]? with
    | none =>
      rw [hj] at h
      have h' : (none : Option (Nat × Value)) = some q := h
      cases h'
    | some o =>
      cases o with
      | none =>
        rw [hj] at h
        have h' : (none : Option (Nat × Value)) = some q := h
        cases h'
      | some v =>
        rw [hj] at h
        have h' : some (i, ax_v b ad v) = some q := h
        cases h'
        exact ⟨v, hj, rfl⟩
  · rintro ⟨v, h1, h2⟩
    refine ⟨q.1, List.mem_range.mpr (List.getElem?_eq_some_iff.mp h1).1, ?_⟩
    rw [h1]
    obtain ⟨q1, q2⟩ := q
    subst h2
    rfl
theorem ax_w_len {b : Nat} {cI cZ : ClassId} {ad : Nat → Nat} {σ : Nat → ax_C} {n : Nat} : (ax_w b cI cZ ad σ n).length = n := by simp [ax_w]
theorem ax_w_get {b : Nat} {cI cZ : ClassId} {ad : Nat → Nat} {σ : Nat → ax_C} {n i : Nat} (h : i < n) : (ax_w b cI cZ ad σ n)[i]? = some (ad i, ax_e b cI cZ ad (σ i)) := by
  unfold ax_w
  rw [List.getElem?_map, List.getElem?_range h]
  rfl
theorem ax_w_inv {b : Nat} {cI cZ : ClassId} {ad : Nat → Nat} {σ : Nat → ax_C} {n i : Nat} {q : Nat × va_E} (h : (ax_w b cI cZ ad σ n)[i]? = some q) : i < n ∧ q = (ad i, ax_e b cI cZ ad (σ i)) := by
  have hi : i < n := by
    have := (List.getElem?_eq_some_iff.mp h).1
    rwa [ax_w_len] at this
  rw [ax_w_get hi] at h
  exact ⟨hi, (Option.some.inj h).symm⟩
theorem ax_w_set {b : Nat} {cI cZ : ClassId} {ad : Nat → Nat} {σ : Nat → ax_C} {n i : Nat} {x : ax_C} {e : va_E} (he : ax_e b cI cZ ad x = e) : (ax_w b cI cZ ad σ n).set i (ad i, e) = ax_w b cI cZ ad (va_up σ i x) n := by
  subst he
  apply List.ext_getElem?
  intro j
  by_cases hj : j < n
  · rw [ax_w_get hj, List.getElem?_set]
    by_cases hij : i = j
    · subst hij
      rw [if_pos rfl, if_pos (by rw [ax_w_len]; exact hj)]
      simp [va_up]
    · rw [if_neg hij, ax_w_get hj]
      simp [va_up, Ne.symm hij]
  · rw [List.getElem?_eq_none (by rw [List.length_set, ax_w_len]; omega), List.getElem?_eq_none (by rw [ax_w_len]; omega)]
theorem ax_v_ag {b n : Nat} {ad ad' : Nat → Nat} (ha : ∀ i, i < n → ad' i = ad i) {v : Value} (h : ax_ok n v) : ax_v b ad' v = ax_v b ad v := by
  cases v with
  | ref i =>
    have := h i rfl
    show Value.ref _ = Value.ref _
    rw [ha i this]
  | _ => rfl
theorem ax_e_ag {b : Nat} {cI cZ : ClassId} {n : Nat} {ad ad' : Nat → Nat} (ha : ∀ i, i < n → ad' i = ad i) {x : ax_C} (h : ax_okC n x) : ax_e b cI cZ ad' x = ax_e b cI cZ ad x := by
  cases x with
  | inl a => rfl
  | inr o =>
    show Sum.inr (o.1, o.2.map (ax_v b ad')) = Sum.inr (o.1, o.2.map (ax_v b ad))
    rw [List.map_congr_left (fun v hv => ax_v_ag ha (h o rfl v hv))]
theorem ax_st_ag {b n : Nat} {ad ad' : Nat → Nat} (ha : ∀ i, i < n → ad' i = ad i) {st : List Value} (h : ∀ v ∈ st, ax_ok n v) : st.map (ax_v b ad') = st.map (ax_v b ad) := List.map_congr_left (fun v hv => ax_v_ag ha (h v hv))
theorem ax_pr_ag {b n : Nat} {ad ad' : Nat → Nat} (ha : ∀ i, i < n → ad' i = ad i) {ls : List (Option Value)} (h : ∀ v, some v ∈ ls → v.category = 1 ∧ ax_ok n v) : ax_pr b ad' ls = ax_pr b ad ls := by
  unfold ax_pr
  congr 1
  funext i
  cases hj : ls[i]? with
  | none => rfl
  | some o =>
    cases o with
    | none => rfl
    | some v =>
      show some (i, ax_v b ad' v) = some (i, ax_v b ad v)
      rw [ax_v_ag ha (h v (List.mem_of_getElem? hj)).2]
theorem ax_ag_up {n q : Nat} {ad : Nat → Nat} : ∀ i, i < n → va_up ad n q i = ad i := fun i hi => if_neg (by omega)
theorem ax_w_push {b : Nat} {cI cZ : ClassId} {ad : Nat → Nat} {σ : Nat → ax_C} {n q : Nat} {x : ax_C} {e : va_E} (hc : ∀ i, i < n → ax_okC n (σ i)) (he : ax_e b cI cZ (va_up ad n q) x = e) : ax_w b cI cZ ad σ n ++ [(q, e)] = ax_w b cI cZ (va_up ad n q) (va_up σ n x) (n + 1) := by
  subst he
  unfold ax_w
  rw [List.range_succ, List.map_append]
  congr 1
  · apply List.map_congr_left
    intro i hi
    have hi := List.mem_range.mp hi
    have hσ : va_up σ n x i = σ i := if_neg (by omega)
    rw [ax_ag_up i hi, hσ, ax_e_ag ax_ag_up (hc i hi)]
  · simp [va_up]
theorem ax_okC_mono {n n' : Nat} (h : n ≤ n') {x : ax_C} (hx : ax_okC n x) : ax_okC n' x := fun o e v hv i ei => Nat.lt_of_lt_of_le (hx o e v hv i ei) h
theorem ax_ok_mono {n n' : Nat} (h : n ≤ n') {x : Value} (hx : ax_ok n x) : ax_ok n' x := fun i ei => Nat.lt_of_lt_of_le (hx i ei) h
theorem ax_okC_up {n : Nat} {σ : Nat → ax_C} {i : Nat} {x : ax_C} (h : ∀ j, j < n → ax_okC n (σ j)) (hx : ax_okC n x) : ∀ j, j < n → ax_okC n (va_up σ i x j) := by
  intro j hj
  by_cases e : j = i
  · rw [show va_up σ i x j = x from if_pos e]; exact hx
  · rw [show va_up σ i x j = σ j from if_neg e]; exact h j hj
theorem ax_okC_arr {n : Nat} {a : Bool × Nat × (Nat → Int32)} : ax_okC n (.inl a) := fun o e => by cases e
theorem ax_fits {b : Nat} {ad : Nat → Nat} {ty : FieldType} {v : Value} (h : fits ty v = true) : fits ty (ax_v b ad v) = true := by
  cases v <;> first | exact h | (cases ty <;> first | exact h | exact absurd h (by simp [fits]))
theorem ax_narrow {b : Nat} {ad : Nat → Nat} {ty : FieldType} {v : Value} (h : narrow ty v = v) : narrow ty (ax_v b ad v) = ax_v b ad v := by
  cases v <;> first | exact h | (cases ty <;> rfl)
/-- the words of a field: class number ci, field j, seen from class own at index idx -/
def ax_fld (own : String) (idx ci j : Nat) : Prop := ∃ (C : String) (T : u_T) (N : Nat), classes[ci]? = some (C, T, N) ∧ j < N ∧ (Cond.fieldLink own idx (T j).1 (T j).2.1 (T j).2.2.1) ∈ gw ∧ (∀ w ∈ u_ws C T N, w ∈ gw)
/-- the same for a field that may be written: of type ty, final or not -/
def ax_fldW (own : String) (idx ci j : Nat) (ty : FieldType) (fin : Bool) : Prop := ∃ (C : String) (T : u_T) (N : Nat) (ty0 : Nat → FieldType), classes[ci]? = some (C, T, N) ∧ j < N ∧ (Cond.fieldLink own idx (T j).1 (T j).2.1 (T j).2.2.1) ∈ gw ∧ (∀ w ∈ u_ws C T N, w ∈ gw) ∧ (∀ k, k < N → parseFieldDescriptor (T k).2.2.1 = some (ty0 k)) ∧ (∀ a, a < N → ∀ b, b < N → a ≠ b → (T a).2.1 ≠ (T b).2.1) ∧ ty0 j = ty ∧ (T j).2.2.2 = fin ∧ (fin = true → (T j).1 = own)
/-- the words of a class of which an object is made: number ci, N slots, the fields' first values -/
def ax_cls (own : String) (idx ci N : Nat) (fs : List Value) : Prop := ∃ (C : String) (T : u_T) (ty : Nat → FieldType), classes[ci]? = some (C, T, N) ∧ (∀ w ∈ u_ws C T N, w ∈ gw) ∧ (∀ j, j < N → parseFieldDescriptor (T j).2.2.1 = some (ty j)) ∧ (Cond.classLink own idx C) ∈ gw ∧ (Cond.instantiable C N) ∈ gw ∧ (Cond.initialized C) ∈ gw ∧ (∀ j, j < N → defaultValue (ty j) = vp_V fs j) ∧ (∀ v ∈ fs, v = .null ∨ v = .int 0)
/-- the words of a method that is called, with na arguments beside its object -/
def ax_mok (z na : Nat) : Prop := (Cond.code (g_m z).1 (g_m z).2.1 (g_m z).2.2.1 (g_m z).2.2.2) ∈ gw ∧ (Cond.initialized (g_m z).1.cls) ∈ gw ∧ ((g_m z).1.cls ≠ "java/lang/invoke/MethodHandle" ∧ (g_m z).1.cls ≠ "java/lang/invoke/VarHandle" ∧ (parseMethodDescriptor (g_m z).1.desc).map (fun d => d.parameters.length) = some na) ∧ plainName (g_m z).1.cls = true
def ax_lV (own : String) (idx z ci : Nat) : Prop := (Cond.methodLink own idx (g_m z).1) ∈ gw ∧ (Cond.instanceMethod (g_m z).1) ∈ gw ∧ (Cond.selects (g_m z).1.cls (g_m z).1 (g_m z).1) ∈ gw ∧ (classes[ci]?).map (fun q => q.1) = some (g_m z).1.cls
def ax_lS (own : String) (idx z : Nat) : Prop := (Cond.methodLink own idx (g_m z).1) ∈ gw ∧ (Cond.static (g_m z).1) ∈ gw
def ax_lI (own : String) (idx z : Nat) : Prop := (Cond.methodLink own idx (g_m z).1) ∈ gw ∧ (Cond.instanceMethod (g_m z).1) ∈ gw ∧ (g_m z).1.name = "<init>"
def ax_up (z k : Nat) : Prop := g_fr z + 1 ≤ g_fr k ∧ 8 + ((g_m z).2.2.1 + 11) + g_lo z ≤ g_lo k
def ax_en (z : Nat) (vs : List Value) : List (Option Value) := vs.map some ++ List.replicate ((g_m z).2.2.1 - vs.length) none
/-- what the last instruction must be -/
def ax_rk (k pc : Nat) (v : Option Value) : Prop := match v with
  | none => decode (g_m k).2.1 pc = .ok (.return_, 1) ∧ (g_m k).2.2.2 = none
  | some (.int x) => decode (g_m k).2.1 pc = .ok (.ireturn, 1) ∧ ∃ ty, (g_m k).2.2.2 = some ty ∧ narrow ty (.int x) = .int x
  | some _ => False
/-- what stays through a method: machine, code, words, tables, room, script -/
def ax_At (sc : ax_S) (k : Nat) (p : Program) (R : Room) (s : State) (m : MethodId) (args : Array Value) (meth : Method) (c : Code) (D : va_G) (cI cZ : ClassId) (b : Nat) (A : Nat → Prop) : Prop :=
  p.tables.exec = Jvm.exec ∧ c.code = (g_m k).2.1 ∧ c.maxLocals = (g_m k).2.2.1 ∧ s.vm.findClass (g_m k).1.cls = some m.cls ∧ (∀ w ∈ gw, w.before args s = true) ∧ va_K D classes [(cI, .int), (cZ, .boolean)] s ∧ (∀ q : Nat, s.heap.size ≤ q → A q) ∧ (g_fr k ≤ R.frames ∧ g_lo k ≤ R.locals) ∧ meth.name = (g_m k).1.name ∧ va_X b sc.1 sc.2 s s.heap ∧ b < s.heap.size ∧ ¬ A b
def ax_Wd (D : va_G) (cI cZ : ClassId) (b : Nat) (A : Nat → Prop) (ad : Nat → Nat) (h : ax_H) (H0 H : Heap) (locs : List Loc) : Prop :=
  va_P D classes (ax_w b cI cZ ad h.1 h.2.1) H ∧ va_D A (ax_w b cI cZ ad h.1 h.2.1) ∧ va_S A H0 H locs ∧ ∀ i, i < h.2.1 → ax_okC h.2.1 (h.1 i)
def ax_Fm (k b : Nat) (ad : Nat → Nat) (n : Nat) (ls' : Array Slot) (ls : List (Option Value)) (st : List Value) : Prop :=
  lv_has ls' ls.length (ax_pr b ad ls) ∧ (∀ v, some v ∈ ls → v.category = 1 ∧ ax_ok n v) ∧ (∀ v ∈ st, ax_ok n v) ∧ ls.length = (g_m k).2.2.1
def ax_Bd (R : Room) (h : ax_H) (cells slots : Nat) : Prop := cells + h.2.2.1 ≤ R.cells ∧ slots + h.2.2.2 ≤ R.slots
def ax_Ret (k : Nat) (p : Program) (l : Launch) (e : Env) (R : Room) (s : State) (m : MethodId) (args : Array Value) (below : List Frame) (meth : Method) (c : Code) (D : va_G) (cI cZ : ClassId) (b : Nat) (A : Nat → Prop) (n : Nat) (ad : Nat → Nat) (Q : State → Prop) (K : ax_K) : Prop :=
  ∀ (v : Option Value) (h2 : ax_H) (ad2 : Nat → Nat) (H2 : Heap) (locs2 : List Loc) (c2 s2 pc2 : Nat) (ls2 : Array Slot), K v h2 → (∀ i, i < n → ad2 i = ad i) → n ≤ h2.2.1 → ax_rk k pc2 v → ax_Wd D cI cZ b A ad2 h2 s.heap H2 locs2 → c2 ≤ R.cells → s2 ≤ R.slots → W p l e R s m args below meth c H2 locs2 c2 s2 Q (F0 m pc2 ls2 (v.toList.map (ax_v b ad2)))
/-- a run of the small machine is a walk of the real one -/
def ax_PW (l : Launch) (sc : ax_S) : ax_J := fun k pc ls st h K =>
  ∀ (p : Program) (e : Env) (R : Room) (s : State) (m : MethodId) (args : Array Value) (below : List Frame) (meth : Method) (c : Code) (D : va_G) (cI cZ : ClassId) (b : Nat) (A : Nat → Prop) (ad : Nat → Nat) (H : Heap) (locs : List Loc) (cells slots : Nat) (ls' : Array Slot) (Q : State → Prop),
    ax_At sc k p R s m args meth c D cI cZ b A → ax_Wd D cI cZ b A ad h s.heap H locs → ax_Fm k b ad h.2.1 ls' ls st → ax_Bd R h cells slots → ax_Ret k p l e R s m args below meth c D cI cZ b A h.2.1 ad Q K →
    W p l e R s m args below meth c H locs cells slots Q (F0 m pc ls' (st.map (ax_v b ad)))
theorem ax_tl {k b : Nat} {ad : Nat → Nat} {n : Nat} {ls' : Array Slot} {ls : List (Option Value)} {x : Value} {st : List Value} (h : ax_Fm k b ad n ls' ls (x :: st)) : ax_Fm k b ad n ls' ls st := ⟨h.1, h.2.1, ax_ot h.2.2.1, h.2.2.2⟩
theorem ax_store {k b : Nat} {ad : Nat → Nat} {n : Nat} {ls' ls2 : Array Slot} {ls : List (Option Value)} {x : Value} {st : List Value} {i : Nat} {lv : List (Nat × Value)} (h : ax_Fm k b ad n ls' ls st) (hi : i < ls.length) (h2 : lv_has ls2 ls.length lv) (hlv : lv = (i, ax_v b ad x) :: (ax_pr b ad ls).filter (fun q => !(q.1 == i) && !(q.1 + 1 == i && q.2.category == 2))) (hc : x.category = 1) (hx : ax_ok n x) : ax_Fm k b ad n ls2 (ls.set i (some x)) st := by
  refine ⟨⟨by rw [List.length_set]; exact h2.1, h2.2.1, fun q hq => ?_⟩, fun v hv => ?_, h.2.2.1, by rw [List.length_set]; exact h.2.2.2⟩
  · obtain ⟨v, h3, h4⟩ := ax_pr_mem.mp hq
    apply h2.2.2
    rw [hlv]
    rw [List.getElem?_set] at h3
    obtain ⟨q1, q2⟩ := q
    by_cases hq1 : i = q1
    · rw [if_pos hq1, if_pos hi] at h3
      cases h3
      subst hq1
      rw [show q2 = ax_v b ad x from h4]
      exact List.mem_cons_self
    · rw [if_neg hq1] at h3
      apply List.mem_cons_of_mem
      refine List.mem_filter.mpr ⟨ax_pr_mem.mpr ⟨v, h3, h4⟩, ?_⟩
      have hcat : (ax_v b ad v).category = 1 := ax_cat1 (h.2.1 v (List.mem_of_getElem? h3)).1
      have h5 : q2 = ax_v b ad v := h4
      have h6 : ¬ q1 = i := fun e => hq1 e.symm
      subst h5
      simp [hcat, h6]
  · rcases List.mem_or_eq_of_mem_set hv with hv | hv
    · exact h.2.1 v hv
    · cases hv
      exact ⟨hc, hx⟩
theorem ax_retup {k : Nat} {p : Program} {l : Launch} {e : Env} {R : Room} {s : State} {m : MethodId} {args : Array Value} {below : List Frame} {meth : Method} {c : Code} {D : va_G} {cI cZ : ClassId} {b : Nat} {A : Nat → Prop} {n n2 : Nat} {ad ad2 : Nat → Nat} {Q : State → Prop} {K : ax_K} (h : ax_Ret k p l e R s m args below meth c D cI cZ b A n ad Q K) (hn : n ≤ n2) (ha : ∀ i, i < n → ad2 i = ad i) : ax_Ret k p l e R s m args below meth c D cI cZ b A n2 ad2 Q K :=
  fun v h2 ad3 H2 locs2 c2 s2 pc2 ls2 hK hag hn2 => h v h2 ad3 H2 locs2 c2 s2 pc2 ls2 hK (fun i hi => (hag i (Nat.lt_of_lt_of_le hi hn)).trans (ha i hi)) (Nat.le_trans hn hn2)
set_option maxHeartbeats 1000000 in
theorem ax_made {l : Launch} {sc : ax_S} {k pcq : Nat} {ls : List (Option Value)} {st : List Value} {h : ax_H} {K : ax_K} {x : ax_C} {N : Nat} (P0 : ax_PW l sc k pcq ls (.ref h.2.1 :: st) (va_up h.1 h.2.1 x, h.2.1 + 1, h.2.2.1 - 1, h.2.2.2 - N) K)
    {p : Program} {e : Env} {R : Room} {s : State} {m : MethodId} {args : Array Value} {below : List Frame} {meth : Method} {c : Code} {D : va_G} {cI cZ : ClassId} {b : Nat} {A : Nat → Prop} {ad : Nat → Nat} {H : Heap} {locs : List Loc} {cells slots : Nat} {ls' : Array Slot} {Q : State → Prop}
    (hA : ax_At sc k p R s m args meth c D cI cZ b A) (hW : ax_Wd D cI cZ b A ad h s.heap H locs) (hF : ax_Fm k b ad h.2.1 ls' ls st) (hB : ax_Bd R h cells slots) (hR : ax_Ret k p l e R s m args below meth c D cI cZ b A h.2.1 ad Q K)
    {q : Nat} {H2 : Heap} {ee : va_E} (he : ax_e b cI cZ (va_up ad h.2.1 q) x = ee) (hP : va_P D classes (ax_w b cI cZ ad h.1 h.2.1 ++ [(q, ee)]) H2) (hD : va_D A (ax_w b cI cZ ad h.1 h.2.1 ++ [(q, ee)])) (hS : va_S A s.heap H2 locs) (hx : ax_okC h.2.1 x) (hb1 : 1 ≤ h.2.2.1) (hb2 : N ≤ h.2.2.2) :
    W p l e R s m args below meth c H2 locs (cells + 1) (slots + N) Q (F0 m pcq ls' (.ref q :: st.map (ax_v b ad))) := by
  rw [ax_w_push hW.2.2.2 he] at hP hD
  have hle : h.2.1 ≤ h.2.1 + 1 := Nat.le_succ _
  have hst : (Value.ref h.2.1 :: st).map (ax_v b (va_up ad h.2.1 q)) = .ref q :: st.map (ax_v b ad) := by
    show Value.ref (va_up ad h.2.1 q h.2.1) :: st.map (ax_v b (va_up ad h.2.1 q)) = _
    rw [ax_st_ag ax_ag_up hF.2.2.1, show va_up ad h.2.1 q h.2.1 = q from if_pos rfl]
  rw [← hst]
  refine P0 p e R s m args below meth c D cI cZ b A (va_up ad h.2.1 q) H2 locs (cells + 1) (slots + N) ls' Q hA ⟨hP, hD, hS, fun i hi => ?_⟩ ⟨?_, fun v hv => ⟨(hF.2.1 v hv).1, ax_ok_mono hle (hF.2.1 v hv).2⟩, fun v hv => ?_, hF.2.2.2⟩ ⟨?_, ?_⟩ (ax_retup hR hle ax_ag_up)
  · show ax_okC (h.2.1 + 1) (va_up h.1 h.2.1 x i)
    have hi2 : i < h.2.1 + 1 := hi
    by_cases e1 : i = h.2.1
    · rw [show va_up h.1 h.2.1 x i = x from if_pos e1]; exact ax_okC_mono hle hx
    · rw [show va_up h.1 h.2.1 x i = h.1 i from if_neg e1]; exact ax_okC_mono hle (hW.2.2.2 i (by omega))
  · rw [ax_pr_ag ax_ag_up hF.2.1]; exact hF.1
  · rcases List.mem_cons.mp hv with rfl | hv
    · intro i e1
      cases e1
      exact Nat.lt_succ_self _
    · exact ax_ok_mono hle (hF.2.2.1 v hv)
  · have := hB.1
    show cells + 1 + (h.2.2.1 - 1) ≤ R.cells
    omega
  · have := hB.2
    show slots + N + (h.2.2.2 - N) ≤ R.slots
    omega
theorem ax_args (b : Nat) (ad : Nat → Nat) : ∀ (vs : List Value) (j i : Nat) (v : Value), (∀ v ∈ vs, v.category = 1) → vs[i]? = some v → (j + i, ax_v b ad v) ∈ lv_args j (vs.map (ax_v b ad))
  | [], _, i, _, _, h => by simp at h
  | a :: vs, j, i, v, hc, h => by
    have ha : (ax_v b ad a).category = 1 := ax_cat1 (hc a List.mem_cons_self)
    show _ ∈ (j, ax_v b ad a) :: lv_args (if (ax_v b ad a).category = 2 then j + 2 else j + 1) (vs.map (ax_v b ad))
    rw [ha, if_neg (by decide)]
    cases i with
    | zero =>
      cases h
      exact List.mem_cons_self
    | succ i =>
      apply List.mem_cons_of_mem
      have := ax_args b ad vs (j + 1) i v (fun v hv => hc v (List.mem_cons_of_mem _ hv)) h
      rwa [show j + 1 + i = j + (i + 1) by omega] at this
theorem ax_sl (b : Nat) (ad : Nat → Nat) : ∀ (vs : List Value), (∀ v ∈ vs, v.category = 1) → (lg_sl (vs.map (ax_v b ad))).length = vs.length
  | [], _ => rfl
  | a :: vs, hc => by
    have ha : (ax_v b ad a).category = 1 := ax_cat1 (hc a List.mem_cons_self)
    have ih := ax_sl b ad vs (fun v hv => hc v (List.mem_cons_of_mem _ hv))
    unfold lg_sl at ih ⊢
    rw [List.map_cons, List.flatMap_cons, ha, if_neg (by decide), List.length_append, ih]
    simp
    omega
theorem ax_en_len {z : Nat} {vs : List Value} (h : vs.length ≤ (g_m z).2.2.1) : (ax_en z vs).length = (g_m z).2.2.1 := by
  unfold ax_en
  rw [List.length_append, List.length_map, List.length_replicate]
  omega
theorem ax_en_get {z i : Nat} {vs : List Value} {v : Value} (h : (ax_en z vs)[i]? = some (some v)) : vs[i]? = some v := by
  unfold ax_en at h
  by_cases hi : i < vs.length
  · rw [List.getElem?_append_left (by rw [List.length_map]; exact hi), List.getElem?_map] at h
    cases hv : vs[i]? with
    | none => rw [hv] at h; cases h
    | some x => rw [hv] at h; cases h; rfl
  · rw [List.getElem?_append_right (by rw [List.length_map]; omega)] at h
    have := List.eq_of_mem_replicate (List.mem_of_getElem? h)
    cases this
theorem ax_en_mem {z : Nat} {vs : List Value} {v : Value} (h : some v ∈ ax_en z vs) : v ∈ vs := by
  obtain ⟨i, hi⟩ := List.getElem?_of_mem h
  exact List.mem_of_getElem? (ax_en_get hi)
/-- a callee's start and end -/
def ax_Pc (sc : ax_S) (D : va_G) (cI cZ : ClassId) (b : Nat) (ad : Nat → Nat) (σ : Nat → ax_C) (n : Nat) (vs : List Value) (sz : Nat) : Array Value → State → Prop := fun a U =>
  a = (vs.map (ax_v b ad)).toArray ∧ U.heap.size = sz ∧ va_P D classes (ax_w b cI cZ ad σ n) U.heap ∧ va_K D classes [(cI, .int), (cZ, .boolean)] U ∧ va_X b sc.1 sc.2 U U.heap
def ax_Qc (D : va_G) (cI cZ : ClassId) (b : Nat) (ad : Nat → Nat) (σ : Nat → ax_C) (n : Nat) (sz : Nat) (K : ax_K) : Array Value → State → Outcome → State → Prop := fun _ st oc t =>
  ∃ (v : Option Value) (h2 : ax_H) (ad2 : Nat → Nat), K v h2 ∧ (∀ i, i < n → ad2 i = ad i) ∧ n ≤ h2.2.1 ∧ oc = .returned (v.map (ax_v b ad2)) ∧ (∀ x, v = some x → ∃ y, x = .int y) ∧ va_P D classes (ax_w b cI cZ ad2 h2.1 h2.2.1) t.heap ∧ va_D (va_A (ax_w b cI cZ ad σ n) sz) (ax_w b cI cZ ad2 h2.1 h2.2.1) ∧ (∀ i, i < h2.2.1 → ax_okC h2.2.1 (h2.1 i)) ∧ va_F (va_A (ax_w b cI cZ ad σ n) sz) st t
def ax_rm (z mc ms : Nat) : Room := { frames := g_fr z, cells := mc, slots := ms, locals := g_lo z }
def ax_ws (z : Nat) : List Cond := Cond.code (g_m z).1 (g_m z).2.1 (g_m z).2.2.1 (g_m z).2.2.2 :: gw
set_option maxHeartbeats 2000000 in
theorem ax_met {l : Launch} {sc : ax_S} {z na : Nat} {vs : List Value} {σ : Nat → ax_C} {n mc ms : Nat} {K : ax_K} (P0 : ax_PW l sc z 0 (ax_en z vs) [] (σ, n, mc, ms) K) (hz : ax_mok z na) (hc : ∀ v ∈ vs, v.category = 1) (hl : vs.length ≤ (g_m z).2.2.1)
    {D : va_G} {cI cZ : ClassId} {b : Nat} {ad : Nat → Nat} {sz : Nat} (hn : ∀ v ∈ vs, ax_ok n v) (hσ : ∀ i, i < n → ax_okC n (σ i)) (hbl : b < sz) {A : Nat → Prop} (hD : va_D A (ax_w b cI cZ ad σ n)) (hbA : ¬ A b) :
    Met l (g_m z).1 (ax_ws z) (ax_rm z mc ms) (ax_Pc sc D cI cZ b ad σ n vs sz) (ax_Qc D cI cZ b ad σ n sz K) mc ms (va_A (ax_w b cI cZ ad σ n) sz) := by
  refine Met.ofW (cc := (g_m z).2.1) (maxL := (g_m z).2.2.1) (ret := (g_m z).2.2.2) hz.2.2.2 rfl ?_
  intro p e s m args below meth c s₁ B hml hv
  obtain ⟨rfl, hsz, hP, hK, hX⟩ := hv
  subst hsz
  have hts := atoms_spec (ws := ax_ws z) B.pre
  have hlocks := B.notSynchronized
  have hD2 : va_D (va_A (ax_w b cI cZ ad σ n) s.heap.size) (ax_w b cI cZ ad σ n) := hD.self
  have hbA2 : ¬ va_A (ax_w b cI cZ ad σ n) s.heap.size b := by
    intro h
    rcases h with ⟨k, e0, h⟩ | h
    · exact hbA (hD.2 k _ h)
    · omega
  have hent := lv_entry (vs.map (ax_v b ad)) (n := (g_m z).2.2.1) (by rw [ax_sl b ad vs hc]; exact hl)
  rw [lg_entry_eq]
  generalize (lg_sl (vs.map (ax_v b ad)) ++ List.replicate ((g_m z).2.2.1 - (lg_sl (vs.map (ax_v b ad))).length) Slot.unset).toArray = ls at hent ⊢
  refine P0 p e (headSpec (ax_ws z) (ax_rm z mc ms)).room s m _ below meth c D cI cZ b (va_A (ax_w b cI cZ ad σ n) s.heap.size) ad s.heap [] 0 0 ls _ ⟨B.exec, B.bytes, hml, findClass_of_methodNamed B.named, fun w hw => hts w (List.mem_cons_of_mem _ hw), hK, fun q h => Or.inr h, ⟨Nat.le_refl _, Nat.le_refl _⟩, (name_of_methodNamed B.named B.method).1, hX, hbl, hbA2⟩ ⟨hP, hD2, va_S.rf, hσ⟩ ⟨?_, fun v hv => ⟨hc v (ax_en_mem hv), hn v (ax_en_mem hv)⟩, fun v hv => (by cases hv), ax_en_len hl⟩ ⟨?_, ?_⟩ ?_
  · refine ⟨hent.1.trans (ax_en_len hl).symm, hent.2.1, fun q hq => ?_⟩
    obtain ⟨v, h1, h2⟩ := ax_pr_mem.mp hq
    apply hent.2.2
    obtain ⟨q1, q2⟩ := q
    have := ax_args b ad vs 0 q1 v hc (ax_en_get h1)
    rw [Nat.zero_add] at this
    rw [show q2 = ax_v b ad v from h2]
    exact this
  · show 0 + mc ≤ mc
    omega
  · show 0 + ms ≤ ms
    omega
  · intro v h2 ad2 H2 locs2 c2 s2 pc2 ls2 hKv hag hnn hrk hWd hc2 hs2
    refine W.widen (k := mc) (n := ms) hc2 hs2 ?_
    cases v with
    | none => exact W.vret B.exec B.bytes (B.returns.trans hrk.2) (fun t ht _ => ⟨none, h2, ad2, hKv, hag, hnn, rfl, fun x e => (by cases e), by rw [ht]; exact hWd.1, hWd.2.1, hWd.2.2.2, hWd.2.2.1.F ht⟩) hWd.2.2.1.2.2 hrk.1
    | some x =>
      cases x with
      | int y =>
        obtain ⟨h1, ty, h3, h4⟩ := hrk
        exact W.zret B.exec B.bytes (B.returns.trans h3) h4 (fun t ht _ => ⟨some (.int y), h2, ad2, hKv, hag, hnn, rfl, fun x e => ⟨y, (Option.some.inj e).symm⟩, by rw [ht]; exact hWd.1, hWd.2.1, hWd.2.2.2, hWd.2.2.1.F ht⟩) hWd.2.2.1.2.2 h1
      | _ => exact hrk.elim
theorem ax_good (z : Nat) (na : Nat) (hz : ax_mok z na) {args : Array Value} {s : State} (ht : ∀ w ∈ gw, w.before args s = true) : ∀ w ∈ ax_ws z, ∀ (a' : Array Value) (U : State), s.WarmedH U.vm → w.before a' U = true := by
  refine pay_in ht (fun w hw => ?_)
  rcases List.mem_cons.mp hw with rfl | hw
  · exact ⟨hz.1, gw_good _ hz.1⟩
  · exact ⟨hw, gw_good _ hw⟩
theorem ax_blind {sc : ax_S} {D : va_G} {cI cZ : ClassId} {b : Nat} {ad : Nat → Nat} {σ : Nat → ax_C} {n : Nat} {vs : List Value} {sz : Nat} : FrameBlind (ax_Pc sc D cI cZ b ad σ n vs sz) := by
  intro a U g mk q
  obtain ⟨q0, q1, qP, qK, qX⟩ := q
  exact ⟨q0, q1, qP, va_K.moved (u := U) (U := U.calling g mk a) (Vm.Alike.refl U.vm) qK, va_X.moved (u := U) (U := U.calling g mk a) (Vm.Alike.refl U.vm) qX⟩
theorem ax_pre {sc : ax_S} {k : Nat} {p : Program} {R : Room} {s : State} {m : MethodId} {args : Array Value} {meth : Method} {c : Code} {D : va_G} {cI cZ : ClassId} {b : Nat} {A : Nat → Prop} {ad : Nat → Nat} {h : ax_H} {H : Heap} {locs : List Loc} (vs : List Value) (hA : ax_At sc k p R s m args meth c D cI cZ b A) (hW : ax_Wd D cI cZ b A ad h s.heap H locs) : ∀ U : State, U.heap = H → s.WarmedH U.vm → ax_Pc sc D cI cZ b ad h.1 h.2.1 vs H.size (vs.map (ax_v b ad)).toArray U := by
  intro U hU hWm
  have hX := hA.2.2.2.2.2.2.2.2.2
  refine ⟨rfl, by rw [hU], by rw [hU]; exact hW.1, va_K.moved hWm.alike hA.2.2.2.2.2.1, ?_⟩
  rw [hU]
  exact va_X.moved hWm.alike (hX.1.kept (hW.2.2.1.2.1 b hX.2.1 hX.2.2))
set_option maxHeartbeats 2000000 in
/-- behind a call -/
theorem ax_back {l : Launch} {sc : ax_S} {k pc q : Nat} {ls : List (Option Value)} {st rest : List Value} {h : ax_H} {K : ax_K} {z : Nat} {vs : List Value} {mc ms : Nat}
    {p : Program} {e : Env} {R : Room} {s : State} {m : MethodId} {args : Array Value} {below : List Frame} {meth : Method} {c : Code} {D : va_G} {cI cZ : ClassId} {b : Nat} {A : Nat → Prop} {ad : Nat → Nat} {H : Heap} {locs : List Loc} {cells slots : Nat} {ls' : Array Slot} {Q : State → Prop} {st0 : List Value} {aa : Array Value}
    (hq : pc + 3 = q) (hmc : mc ≤ h.2.2.1) (hms : ms ≤ h.2.2.2)
    (hA : ax_At sc k p R s m args meth c D cI cZ b A) (hW : ax_Wd D cI cZ b A ad h s.heap H locs) (hF : ax_Fm k b ad h.2.1 ls' ls rest) (hB : ax_Bd R h cells slots) (hR : ax_Ret k p l e R s m args below meth c D cI cZ b A h.2.1 ad Q K)
    (hr : va_Run p l e R s m args below meth c H locs cells slots mc ms (F0 m pc ls' st0) (rest.map (ax_v b ad)) (ax_Qc D cI cZ b ad h.1 h.2.1 H.size (fun v h2 => ax_PW l sc k q ls (ax_ps v rest) (h2.1, h2.2.1, h.2.2.1 - mc, h.2.2.2 - ms) K) aa) (va_A (ax_w b cI cZ ad h.1 h.2.1) H.size)) :
    W p l e R s m args below meth c H locs cells slots Q (F0 m pc ls' st0) := by
  subst hq
  intro T hT X
  obtain ⟨v, st₀, t, T', L, h0, X', hL, e1, e2, hQ, stp⟩ := hr T hT X
  obtain ⟨v2, h2, ad2, hK2, hag, hnn, hv2, hint, hP2, hD2, hok2, hz, hk⟩ := hQ
  rw [h0] at hz hk
  have hfree : ∀ q, va_A (ax_w b cI cZ ad h.1 h.2.1) H.size q → A q := by
    intro q hq
    rcases hq with ⟨i, e0, hq⟩ | hq
    · exact hW.2.1.2 i _ hq
    · exact hA.2.2.2.2.2.2.1 q (Nat.le_trans hW.2.2.1.1 hq)
  have hS2 : va_S A s.heap T'.heap (locs ++ L) := by
    refine ⟨Nat.le_trans hW.2.2.1.1 (by rw [e1]; exact hz), fun q h1 h3 => ?_, fun q hq => ?_⟩
    · rw [e1, hk q (Nat.lt_of_lt_of_le h1 hW.2.2.1.1) (fun z => h3 (hfree q z))]
      exact hW.2.2.1.2.1 q h1 h3
    · rcases List.mem_append.mp hq with hq | hq
      · exact hW.2.2.1.2.2 q hq
      · exact hfree _ (hL q hq)
  have hveq : v = v2.map (ax_v b ad2) := by cases hv2; rfl
  have hstk : v.toList ++ rest.map (ax_v b ad) = (ax_ps v2 rest).map (ax_v b ad2) := by
    rw [hveq, ← ax_st_ag (b := b) hag hF.2.2.1]
    cases v2 <;> rfl
  have hps : ∀ w ∈ ax_ps v2 rest, ax_ok h2.2.1 w := by
    intro w hw
    cases v2 with
    | none => exact ax_ok_mono hnn (hF.2.2.1 w hw)
    | some x =>
      obtain ⟨y, rfl⟩ := hint x rfl
      exact ax_oi (fun w hw => ax_ok_mono hnn (hF.2.2.1 w hw)) w hw
  have K1 := hK2 p e R s m args below meth c D cI cZ b A ad2 T'.heap (locs ++ L) (cells + mc) (slots + ms) ls' Q hA ⟨by rw [e1]; exact hP2, hD2.weaken (fun i x _ hx => hfree x.1 hx), hS2, hok2⟩ ⟨by rw [ax_pr_ag hag hF.2.1]; exact hF.1, fun w hw => ⟨(hF.2.1 w hw).1, ax_ok_mono hnn (hF.2.1 w hw).2⟩, hps, hF.2.2.2⟩ ⟨by
    have := hB.1
    show cells + mc + (h.2.2.1 - mc) ≤ R.cells
    omega, by
    have := hB.2
    show slots + ms + (h.2.2.2 - ms) ≤ R.slots
    omega⟩ (ax_retup hR hnn hag) T' rfl X'
  obtain ⟨t2, a1, b1⟩ := K1
  refine ⟨t2, stp t2 ?_, b1⟩
  show Steps p.tables e below (T'.setTop (F0 m (pc + 3) ls' (v.toList ++ rest.map (ax_v b ad)))) t2
  rw [hstk]
  exact a1
theorem ax_sum {b : Nat} {ad : Nat → Nat} {st : List Value} : ((st.map (ax_v b ad)).map fun v => v.category).sum = (st.map fun v => v.category).sum := by
  rw [List.map_map]
  congr 1
  apply List.map_congr_left
  intro v _
  exact ax_cat0
def ax_in (a lo hi : Int64) : Int32 := if lo ≤ a ∧ a ≤ hi then 1 else 0
set_option maxHeartbeats 2000000 in
theorem ax_met_in {l : Launch} {sc : ax_S} {a lo hi : Int64} {σ : Nat → ax_C} {n : Nat} {K : ax_K} (P0 : K (some (.int (ax_in a lo hi))) (σ, n, 0, 0)) (hz : ax_mok 66 3)
    {D : va_G} {cI cZ : ClassId} {b : Nat} {ad : Nat → Nat} {sz : Nat} (hσ : ∀ i, i < n → ax_okC n (σ i)) (hbl : b < sz) {A : Nat → Prop} (hD : va_D A (ax_w b cI cZ ad σ n)) (hbA : ¬ A b) :
    Met l (g_m 66).1 (ax_ws 66) (ax_rm 66 0 0) (ax_Pc sc D cI cZ b ad σ n [.long a, .long lo, .long hi] sz) (ax_Qc D cI cZ b ad σ n sz K) 0 0 (va_A (ax_w b cI cZ ad σ n) sz) := by
  refine Met.ofW (cc := (g_m 66).2.1) (maxL := (g_m 66).2.2.1) (ret := (g_m 66).2.2.2) hz.2.2.2 rfl ?_
  intro p e s m args below meth c s₁ B hml hv
  obtain ⟨rfl, hsz, hP, hK, hX⟩ := hv
  subst hsz
  have hlocks := B.notSynchronized
  have hx := B.exec
  have hb := B.bytes
  have hD2 : va_D (va_A (ax_w b cI cZ ad σ n) s.heap.size) (ax_w b cI cZ ad σ n) := hD.self
  have hl := lv_entry ([.long a, .long lo, .long hi] : List Value) (n := 6) (Nat.le_of_ble_eq_true rfl)
  show W p l e _ s m _ below meth c s.heap [] 0 0 _ (entryFrame m ([.long a, .long lo, .long hi] : List Value).toArray 6)
  rw [lg_entry_eq]
  generalize (lg_sl ([.long a, .long lo, .long hi] : List Value) ++ List.replicate (6 - (lg_sl ([.long a, .long lo, .long hi] : List Value)).length) Slot.unset).toArray = ls at hl ⊢
  have hl : lv_has ls 6 [(0, .long a), (2, .long lo), (4, .long hi)] := hl
  have fin : ∀ (r : Int32), (r = 0 ∨ r = 1) → r = ax_in a lo hi → W p l e (headSpec (ax_ws 66) (ax_rm 66 0 0)).room s m ([.long a, .long lo, .long hi] : List Value).toArray below meth c s.heap [] 0 0 (MQ below (ax_Qc D cI cZ b ad σ n s.heap.size K) ([.long a, .long lo, .long hi] : List Value).toArray s 0 0 (va_A (ax_w b cI cZ ad σ n) s.heap.size)) (F0 m 18 ls [.int r]) := by
    intro r hr he
    refine W.zret (ty := .boolean) hx hb B.returns (by rcases hr with rfl | rfl <;> rfl) (fun t ht _ => ⟨some (.int r), (σ, n, 0, 0), ad, by rw [he]; exact P0, fun _ _ => rfl, Nat.le_refl _, rfl, fun x e => ⟨r, (Option.some.inj e).symm⟩, by rw [ht]; exact hP, hD2, hσ, (va_S.rf (A := va_A (ax_w b cI cZ ad σ n) s.heap.size) (H0 := s.heap)).F ht⟩) (fun q hq => by cases hq) d_66_18
  refine lv_lload_n hx hb d_66_0 rfl (lv_at hl 0 rfl) ?_
  refine lv_lload_n hx hb d_66_1 rfl (lv_at hl 1 rfl) ?_
  refine W.lcmp hx hb d_66_2 ?_
  refine lv_if_lt (tgt := 17) hx hb d_66_3 (by decide) (fun c1 => ?_) (fun c1 => ?_)
  · refine lv_iconst (v := 0) hx hb d_66_17 (by decide) ?_
    refine fin 0 (Or.inl rfl) ?_
    unfold ax_in
    rw [if_neg]
    intro h
    rw [lg_cmp_lt] at c1
    exact Int64.not_lt.mpr h.1 c1
  · refine lv_lload_n hx hb d_66_6 rfl (lv_at hl 0 rfl) ?_
    refine lv_lload hx hb d_66_7 (lv_at hl 2 rfl) ?_
    refine W.lcmp hx hb d_66_9 ?_
    refine lv_if_gt (tgt := 17) hx hb d_66_10 (by decide) (fun c2 => ?_) (fun c2 => ?_)
    · refine lv_iconst (v := 0) hx hb d_66_17 (by decide) ?_
      refine fin 0 (Or.inl rfl) ?_
      unfold ax_in
      rw [if_neg]
      intro h
      rw [lg_cmp_gt] at c2
      exact Int64.not_lt.mpr h.2 c2
    · refine lv_iconst (v := 1) hx hb d_66_13 (by decide) ?_
      refine lv_goto (tgt := 18) hx hb d_66_14 (by decide) ?_
      refine fin 1 (Or.inr rfl) ?_
      unfold ax_in
      rw [if_pos]
      rw [lg_cmp_lt] at c1
      rw [lg_cmp_gt] at c2
      exact ⟨Int64.not_lt.mp c1, Int64.not_lt.mp c2⟩
def ax_R_mono (sc : ax_S) (P : ax_J) : Prop := ∀ (k : Nat) (pc : Nat) (ls : List (Option Value)) (st : List Value) (h : ax_H) (K : ax_K) (K2 : ax_K), (∀ v h2, K v h2 → K2 v h2) → (P k pc ls st h K) → P k pc ls st h K2
def ax_R_iconst (sc : ax_S) (P : ax_J) : Prop := ∀ (k : Nat) (pc : Nat) (q : Nat) (ls : List (Option Value)) (st : List Value) (h : ax_H) (K : ax_K) (n : Int) (v : Int32), (decode (g_m k).2.1 pc = .ok (.iconst n, 1)) → (pc + 1 = q) → (Int32.ofInt n = v) → (P k q ls (.int v :: st) h K) → P k pc ls (st) h K
def ax_R_bipush (sc : ax_S) (P : ax_J) : Prop := ∀ (k : Nat) (pc : Nat) (q : Nat) (ls : List (Option Value)) (st : List Value) (h : ax_H) (K : ax_K) (n : Int) (v : Int32), (decode (g_m k).2.1 pc = .ok (.bipush n, 2)) → (pc + 2 = q) → ((Int8.ofInt n).toInt32 = v) → (P k q ls (.int v :: st) h K) → P k pc ls (st) h K
def ax_R_sipush (sc : ax_S) (P : ax_J) : Prop := ∀ (k : Nat) (pc : Nat) (q : Nat) (ls : List (Option Value)) (st : List Value) (h : ax_H) (K : ax_K) (n : Int) (v : Int32), (decode (g_m k).2.1 pc = .ok (.sipush n, 3)) → (pc + 3 = q) → ((Int16.ofInt n).toInt32 = v) → (P k q ls (.int v :: st) h K) → P k pc ls (st) h K
def ax_R_ldc (sc : ax_S) (P : ax_J) : Prop := ∀ (k : Nat) (pc : Nat) (q : Nat) (ls : List (Option Value)) (st : List Value) (h : ax_H) (K : ax_K) (idx : Nat) (v : Int32), (decode (g_m k).2.1 pc = .ok (.ldc idx, 2)) → (pc + 2 = q) → ((Cond.constant (g_m k).1.cls idx v) ∈ gw) → (P k q ls (.int v :: st) h K) → P k pc ls (st) h K
def ax_R_ldcw (sc : ax_S) (P : ax_J) : Prop := ∀ (k : Nat) (pc : Nat) (q : Nat) (ls : List (Option Value)) (st : List Value) (h : ax_H) (K : ax_K) (idx : Nat) (v : Int32), (decode (g_m k).2.1 pc = .ok (.ldc_w idx, 3)) → (pc + 3 = q) → ((Cond.constant (g_m k).1.cls idx v) ∈ gw) → (P k q ls (.int v :: st) h K) → P k pc ls (st) h K
def ax_R_null (sc : ax_S) (P : ax_J) : Prop := ∀ (k : Nat) (pc : Nat) (q : Nat) (ls : List (Option Value)) (st : List Value) (h : ax_H) (K : ax_K), (decode (g_m k).2.1 pc = .ok (.aconst_null, 1)) → (pc + 1 = q) → (P k q ls (.null :: st) h K) → P k pc ls (st) h K
def ax_R_iload (sc : ax_S) (P : ax_J) : Prop := ∀ (k : Nat) (pc : Nat) (q : Nat) (ls : List (Option Value)) (st : List Value) (h : ax_H) (K : ax_K) (i : Nat) (x : Int32), (decode (g_m k).2.1 pc = .ok (.iload i, 2)) → (pc + 2 = q) → (ls[i]? = some (some (.int x))) → (P k q ls (.int x :: st) h K) → P k pc ls (st) h K
def ax_R_iload_n (sc : ax_S) (P : ax_J) : Prop := ∀ (k : Nat) (pc : Nat) (q : Nat) (ls : List (Option Value)) (st : List Value) (h : ax_H) (K : ax_K) (i : Nat) (x : Int32) (j : Fin 4), (decode (g_m k).2.1 pc = .ok (.iload_n j, 1)) → (pc + 1 = q) → ((j : Nat) = i) → (ls[i]? = some (some (.int x))) → (P k q ls (.int x :: st) h K) → P k pc ls (st) h K
def ax_R_aload (sc : ax_S) (P : ax_J) : Prop := ∀ (k : Nat) (pc : Nat) (q : Nat) (ls : List (Option Value)) (st : List Value) (h : ax_H) (K : ax_K) (i : Nat) (o : Nat), (decode (g_m k).2.1 pc = .ok (.aload i, 2)) → (pc + 2 = q) → (ls[i]? = some (some (.ref o))) → (P k q ls (.ref o :: st) h K) → P k pc ls (st) h K
def ax_R_aload_n (sc : ax_S) (P : ax_J) : Prop := ∀ (k : Nat) (pc : Nat) (q : Nat) (ls : List (Option Value)) (st : List Value) (h : ax_H) (K : ax_K) (i : Nat) (o : Nat) (j : Fin 4), (decode (g_m k).2.1 pc = .ok (.aload_n j, 1)) → (pc + 1 = q) → ((j : Nat) = i) → (ls[i]? = some (some (.ref o))) → (P k q ls (.ref o :: st) h K) → P k pc ls (st) h K
def ax_R_aloadS (sc : ax_S) (P : ax_J) : Prop := ∀ (k : Nat) (pc : Nat) (q : Nat) (ls : List (Option Value)) (st : List Value) (h : ax_H) (K : ax_K) (i : Nat) (o : Nat), (decode (g_m k).2.1 pc = .ok (.aload i, 2)) → (pc + 2 = q) → (ls[i]? = some (some (.retAddr o))) → (P k q ls (.retAddr o :: st) h K) → P k pc ls (st) h K
def ax_R_aload_nS (sc : ax_S) (P : ax_J) : Prop := ∀ (k : Nat) (pc : Nat) (q : Nat) (ls : List (Option Value)) (st : List Value) (h : ax_H) (K : ax_K) (i : Nat) (o : Nat) (j : Fin 4), (decode (g_m k).2.1 pc = .ok (.aload_n j, 1)) → (pc + 1 = q) → ((j : Nat) = i) → (ls[i]? = some (some (.retAddr o))) → (P k q ls (.retAddr o :: st) h K) → P k pc ls (st) h K
def ax_R_istore (sc : ax_S) (P : ax_J) : Prop := ∀ (k : Nat) (pc : Nat) (q : Nat) (ls : List (Option Value)) (st : List Value) (h : ax_H) (K : ax_K) (i : Nat) (x : Int32), (decode (g_m k).2.1 pc = .ok (.istore i, 2)) → (pc + 2 = q) → (i < ls.length) → (P k q (ls.set i (some (.int x))) st h K) → P k pc ls (.int x :: st) h K
def ax_R_istore_n (sc : ax_S) (P : ax_J) : Prop := ∀ (k : Nat) (pc : Nat) (q : Nat) (ls : List (Option Value)) (st : List Value) (h : ax_H) (K : ax_K) (i : Nat) (x : Int32) (j : Fin 4), (decode (g_m k).2.1 pc = .ok (.istore_n j, 1)) → (pc + 1 = q) → ((j : Nat) = i) → (i < ls.length) → (P k q (ls.set i (some (.int x))) st h K) → P k pc ls (.int x :: st) h K
def ax_R_astore (sc : ax_S) (P : ax_J) : Prop := ∀ (k : Nat) (pc : Nat) (q : Nat) (ls : List (Option Value)) (st : List Value) (h : ax_H) (K : ax_K) (i : Nat) (o : Nat), (decode (g_m k).2.1 pc = .ok (.astore i, 2)) → (pc + 2 = q) → (i < ls.length) → (P k q (ls.set i (some (.ref o))) st h K) → P k pc ls (.ref o :: st) h K
def ax_R_astore_n (sc : ax_S) (P : ax_J) : Prop := ∀ (k : Nat) (pc : Nat) (q : Nat) (ls : List (Option Value)) (st : List Value) (h : ax_H) (K : ax_K) (i : Nat) (o : Nat) (j : Fin 4), (decode (g_m k).2.1 pc = .ok (.astore_n j, 1)) → (pc + 1 = q) → ((j : Nat) = i) → (i < ls.length) → (P k q (ls.set i (some (.ref o))) st h K) → P k pc ls (.ref o :: st) h K
def ax_R_iinc (sc : ax_S) (P : ax_J) : Prop := ∀ (k : Nat) (pc : Nat) (q : Nat) (ls : List (Option Value)) (st : List Value) (h : ax_H) (K : ax_K) (i : Nat) (n : Int) (x : Int32) (v : Int32), (decode (g_m k).2.1 pc = .ok (.iinc i n, 3)) → (pc + 3 = q) → (ls[i]? = some (some (.int x))) → (x + Int32.ofInt n = v) → (P k q (ls.set i (some (.int v))) st h K) → P k pc ls st h K
def ax_R_iadd (sc : ax_S) (P : ax_J) : Prop := ∀ (k : Nat) (pc : Nat) (q : Nat) (ls : List (Option Value)) (st : List Value) (h : ax_H) (K : ax_K) (x : Int32) (y : Int32), (decode (g_m k).2.1 pc = .ok (.iadd, 1)) → (pc + 1 = q) → (P k q ls (.int (x + y) :: st) h K) → P k pc ls (.int y :: .int x :: st) h K
def ax_R_isub (sc : ax_S) (P : ax_J) : Prop := ∀ (k : Nat) (pc : Nat) (q : Nat) (ls : List (Option Value)) (st : List Value) (h : ax_H) (K : ax_K) (x : Int32) (y : Int32), (decode (g_m k).2.1 pc = .ok (.isub, 1)) → (pc + 1 = q) → (P k q ls (.int (x - y) :: st) h K) → P k pc ls (.int y :: .int x :: st) h K
def ax_R_imul (sc : ax_S) (P : ax_J) : Prop := ∀ (k : Nat) (pc : Nat) (q : Nat) (ls : List (Option Value)) (st : List Value) (h : ax_H) (K : ax_K) (x : Int32) (y : Int32), (decode (g_m k).2.1 pc = .ok (.imul, 1)) → (pc + 1 = q) → (P k q ls (.int (x * y) :: st) h K) → P k pc ls (.int y :: .int x :: st) h K
def ax_R_iand (sc : ax_S) (P : ax_J) : Prop := ∀ (k : Nat) (pc : Nat) (q : Nat) (ls : List (Option Value)) (st : List Value) (h : ax_H) (K : ax_K) (x : Int32) (y : Int32), (decode (g_m k).2.1 pc = .ok (.iand, 1)) → (pc + 1 = q) → (P k q ls (.int (x &&& y) :: st) h K) → P k pc ls (.int y :: .int x :: st) h K
def ax_R_ior (sc : ax_S) (P : ax_J) : Prop := ∀ (k : Nat) (pc : Nat) (q : Nat) (ls : List (Option Value)) (st : List Value) (h : ax_H) (K : ax_K) (x : Int32) (y : Int32), (decode (g_m k).2.1 pc = .ok (.ior, 1)) → (pc + 1 = q) → (P k q ls (.int (x ||| y) :: st) h K) → P k pc ls (.int y :: .int x :: st) h K
def ax_R_ixor (sc : ax_S) (P : ax_J) : Prop := ∀ (k : Nat) (pc : Nat) (q : Nat) (ls : List (Option Value)) (st : List Value) (h : ax_H) (K : ax_K) (x : Int32) (y : Int32), (decode (g_m k).2.1 pc = .ok (.ixor, 1)) → (pc + 1 = q) → (P k q ls (.int (x ^^^ y) :: st) h K) → P k pc ls (.int y :: .int x :: st) h K
def ax_R_ishl (sc : ax_S) (P : ax_J) : Prop := ∀ (k : Nat) (pc : Nat) (q : Nat) (ls : List (Option Value)) (st : List Value) (h : ax_H) (K : ax_K) (x : Int32) (y : Int32), (decode (g_m k).2.1 pc = .ok (.ishl, 1)) → (pc + 1 = q) → (P k q ls (.int (x <<< (y &&& 31)) :: st) h K) → P k pc ls (.int y :: .int x :: st) h K
def ax_R_ishr (sc : ax_S) (P : ax_J) : Prop := ∀ (k : Nat) (pc : Nat) (q : Nat) (ls : List (Option Value)) (st : List Value) (h : ax_H) (K : ax_K) (x : Int32) (y : Int32), (decode (g_m k).2.1 pc = .ok (.ishr, 1)) → (pc + 1 = q) → (P k q ls (.int (x >>> (y &&& 31)) :: st) h K) → P k pc ls (.int y :: .int x :: st) h K
def ax_R_iushr (sc : ax_S) (P : ax_J) : Prop := ∀ (k : Nat) (pc : Nat) (q : Nat) (ls : List (Option Value)) (st : List Value) (h : ax_H) (K : ax_K) (x : Int32) (y : Int32), (decode (g_m k).2.1 pc = .ok (.iushr, 1)) → (pc + 1 = q) → (P k q ls (.int ((x.toUInt32 >>> (y.toUInt32 &&& Int32.toUInt32 31)).toInt32) :: st) h K) → P k pc ls (.int y :: .int x :: st) h K
def ax_R_idiv (sc : ax_S) (P : ax_J) : Prop := ∀ (k : Nat) (pc : Nat) (q : Nat) (ls : List (Option Value)) (st : List Value) (h : ax_H) (K : ax_K) (x : Int32) (y : Int32), (decode (g_m k).2.1 pc = .ok (.idiv, 1)) → (pc + 1 = q) → (¬ y = 0) → (P k q ls (.int (x / y) :: st) h K) → P k pc ls (.int y :: .int x :: st) h K
def ax_R_irem (sc : ax_S) (P : ax_J) : Prop := ∀ (k : Nat) (pc : Nat) (q : Nat) (ls : List (Option Value)) (st : List Value) (h : ax_H) (K : ax_K) (x : Int32) (y : Int32), (decode (g_m k).2.1 pc = .ok (.irem, 1)) → (pc + 1 = q) → (¬ y = 0) → (P k q ls (.int (x - x / y * y) :: st) h K) → P k pc ls (.int y :: .int x :: st) h K
def ax_R_ineg (sc : ax_S) (P : ax_J) : Prop := ∀ (k : Nat) (pc : Nat) (q : Nat) (ls : List (Option Value)) (st : List Value) (h : ax_H) (K : ax_K) (x : Int32), (decode (g_m k).2.1 pc = .ok (.ineg, 1)) → (pc + 1 = q) → (P k q ls (.int (-x) :: st) h K) → P k pc ls (.int x :: st) h K
def ax_R_dup (sc : ax_S) (P : ax_J) : Prop := ∀ (k : Nat) (pc : Nat) (q : Nat) (ls : List (Option Value)) (st : List Value) (h : ax_H) (K : ax_K) (x : Value), (decode (g_m k).2.1 pc = .ok (.dup, 1)) → (pc + 1 = q) → (x.category = 1) → (P k q ls (x :: x :: st) h K) → P k pc ls (x :: st) h K
def ax_R_pop (sc : ax_S) (P : ax_J) : Prop := ∀ (k : Nat) (pc : Nat) (q : Nat) (ls : List (Option Value)) (st : List Value) (h : ax_H) (K : ax_K) (x : Value), (decode (g_m k).2.1 pc = .ok (.pop, 1)) → (pc + 1 = q) → (x.category = 1) → (P k q ls (st) h K) → P k pc ls (x :: st) h K
def ax_R_dup_x1 (sc : ax_S) (P : ax_J) : Prop := ∀ (k : Nat) (pc : Nat) (q : Nat) (ls : List (Option Value)) (st : List Value) (h : ax_H) (K : ax_K) (x : Value) (y : Value), (decode (g_m k).2.1 pc = .ok (.dup_x1, 1)) → (pc + 1 = q) → (x.category = 1) → (y.category = 1) → (P k q ls (x :: y :: x :: st) h K) → P k pc ls (x :: y :: st) h K
def ax_R_dup_x2 (sc : ax_S) (P : ax_J) : Prop := ∀ (k : Nat) (pc : Nat) (q : Nat) (ls : List (Option Value)) (st : List Value) (h : ax_H) (K : ax_K) (x : Value) (y : Value) (z : Value), (decode (g_m k).2.1 pc = .ok (.dup_x2, 1)) → (pc + 1 = q) → (x.category = 1) → (y.category = 1) → (z.category = 1) → (P k q ls (x :: y :: z :: x :: st) h K) → P k pc ls (x :: y :: z :: st) h K
def ax_R_dup2 (sc : ax_S) (P : ax_J) : Prop := ∀ (k : Nat) (pc : Nat) (q : Nat) (ls : List (Option Value)) (st : List Value) (h : ax_H) (K : ax_K) (x : Value) (y : Value), (decode (g_m k).2.1 pc = .ok (.dup2, 1)) → (pc + 1 = q) → (x.category = 1) → (y.category = 1) → (P k q ls (x :: y :: x :: y :: st) h K) → P k pc ls (x :: y :: st) h K
def ax_R_goto (sc : ax_S) (P : ax_J) : Prop := ∀ (k : Nat) (pc : Nat) (ls : List (Option Value)) (st : List Value) (h : ax_H) (K : ax_K) (off : Int) (t : Nat), (decode (g_m k).2.1 pc = .ok (.goto off, 3)) → ((pc : Int) + off = (t : Int)) → (P k t ls st h K) → P k pc ls st h K
def ax_R_if_eq (sc : ax_S) (P : ax_J) : Prop := ∀ (k : Nat) (pc : Nat) (q : Nat) (ls : List (Option Value)) (st : List Value) (h : ax_H) (K : ax_K) (off : Int) (t : Nat) (x : Int32), (decode (g_m k).2.1 pc = .ok (.ifCond .eq off, 3)) → ((pc : Int) + off = (t : Int)) → (pc + 3 = q) → ((x = 0) → P k t ls st h K) → (¬ (x = 0) → P k q ls st h K) → P k pc ls (.int x :: st) h K
def ax_R_if_ne (sc : ax_S) (P : ax_J) : Prop := ∀ (k : Nat) (pc : Nat) (q : Nat) (ls : List (Option Value)) (st : List Value) (h : ax_H) (K : ax_K) (off : Int) (t : Nat) (x : Int32), (decode (g_m k).2.1 pc = .ok (.ifCond .ne off, 3)) → ((pc : Int) + off = (t : Int)) → (pc + 3 = q) → ((¬ x = 0) → P k t ls st h K) → (x = 0 → P k q ls st h K) → P k pc ls (.int x :: st) h K
def ax_R_if_lt (sc : ax_S) (P : ax_J) : Prop := ∀ (k : Nat) (pc : Nat) (q : Nat) (ls : List (Option Value)) (st : List Value) (h : ax_H) (K : ax_K) (off : Int) (t : Nat) (x : Int32), (decode (g_m k).2.1 pc = .ok (.ifCond .lt off, 3)) → ((pc : Int) + off = (t : Int)) → (pc + 3 = q) → ((x < 0) → P k t ls st h K) → (¬ (x < 0) → P k q ls st h K) → P k pc ls (.int x :: st) h K
def ax_R_if_ge (sc : ax_S) (P : ax_J) : Prop := ∀ (k : Nat) (pc : Nat) (q : Nat) (ls : List (Option Value)) (st : List Value) (h : ax_H) (K : ax_K) (off : Int) (t : Nat) (x : Int32), (decode (g_m k).2.1 pc = .ok (.ifCond .ge off, 3)) → ((pc : Int) + off = (t : Int)) → (pc + 3 = q) → ((0 ≤ x) → P k t ls st h K) → (¬ (0 ≤ x) → P k q ls st h K) → P k pc ls (.int x :: st) h K
def ax_R_if_gt (sc : ax_S) (P : ax_J) : Prop := ∀ (k : Nat) (pc : Nat) (q : Nat) (ls : List (Option Value)) (st : List Value) (h : ax_H) (K : ax_K) (off : Int) (t : Nat) (x : Int32), (decode (g_m k).2.1 pc = .ok (.ifCond .gt off, 3)) → ((pc : Int) + off = (t : Int)) → (pc + 3 = q) → ((0 < x) → P k t ls st h K) → (¬ (0 < x) → P k q ls st h K) → P k pc ls (.int x :: st) h K
def ax_R_if_le (sc : ax_S) (P : ax_J) : Prop := ∀ (k : Nat) (pc : Nat) (q : Nat) (ls : List (Option Value)) (st : List Value) (h : ax_H) (K : ax_K) (off : Int) (t : Nat) (x : Int32), (decode (g_m k).2.1 pc = .ok (.ifCond .le off, 3)) → ((pc : Int) + off = (t : Int)) → (pc + 3 = q) → ((x ≤ 0) → P k t ls st h K) → (¬ (x ≤ 0) → P k q ls st h K) → P k pc ls (.int x :: st) h K
def ax_R_icmp_eq (sc : ax_S) (P : ax_J) : Prop := ∀ (k : Nat) (pc : Nat) (q : Nat) (ls : List (Option Value)) (st : List Value) (h : ax_H) (K : ax_K) (off : Int) (t : Nat) (x : Int32) (y : Int32), (decode (g_m k).2.1 pc = .ok (.if_icmp .eq off, 3)) → ((pc : Int) + off = (t : Int)) → (pc + 3 = q) → ((x = y) → P k t ls st h K) → (¬ (x = y) → P k q ls st h K) → P k pc ls (.int y :: .int x :: st) h K
def ax_R_icmp_ne (sc : ax_S) (P : ax_J) : Prop := ∀ (k : Nat) (pc : Nat) (q : Nat) (ls : List (Option Value)) (st : List Value) (h : ax_H) (K : ax_K) (off : Int) (t : Nat) (x : Int32) (y : Int32), (decode (g_m k).2.1 pc = .ok (.if_icmp .ne off, 3)) → ((pc : Int) + off = (t : Int)) → (pc + 3 = q) → ((¬ x = y) → P k t ls st h K) → (x = y → P k q ls st h K) → P k pc ls (.int y :: .int x :: st) h K
def ax_R_icmp_lt (sc : ax_S) (P : ax_J) : Prop := ∀ (k : Nat) (pc : Nat) (q : Nat) (ls : List (Option Value)) (st : List Value) (h : ax_H) (K : ax_K) (off : Int) (t : Nat) (x : Int32) (y : Int32), (decode (g_m k).2.1 pc = .ok (.if_icmp .lt off, 3)) → ((pc : Int) + off = (t : Int)) → (pc + 3 = q) → ((x < y) → P k t ls st h K) → (¬ (x < y) → P k q ls st h K) → P k pc ls (.int y :: .int x :: st) h K
def ax_R_icmp_ge (sc : ax_S) (P : ax_J) : Prop := ∀ (k : Nat) (pc : Nat) (q : Nat) (ls : List (Option Value)) (st : List Value) (h : ax_H) (K : ax_K) (off : Int) (t : Nat) (x : Int32) (y : Int32), (decode (g_m k).2.1 pc = .ok (.if_icmp .ge off, 3)) → ((pc : Int) + off = (t : Int)) → (pc + 3 = q) → ((y ≤ x) → P k t ls st h K) → (¬ (y ≤ x) → P k q ls st h K) → P k pc ls (.int y :: .int x :: st) h K
def ax_R_icmp_gt (sc : ax_S) (P : ax_J) : Prop := ∀ (k : Nat) (pc : Nat) (q : Nat) (ls : List (Option Value)) (st : List Value) (h : ax_H) (K : ax_K) (off : Int) (t : Nat) (x : Int32) (y : Int32), (decode (g_m k).2.1 pc = .ok (.if_icmp .gt off, 3)) → ((pc : Int) + off = (t : Int)) → (pc + 3 = q) → ((y < x) → P k t ls st h K) → (¬ (y < x) → P k q ls st h K) → P k pc ls (.int y :: .int x :: st) h K
def ax_R_icmp_le (sc : ax_S) (P : ax_J) : Prop := ∀ (k : Nat) (pc : Nat) (q : Nat) (ls : List (Option Value)) (st : List Value) (h : ax_H) (K : ax_K) (off : Int) (t : Nat) (x : Int32) (y : Int32), (decode (g_m k).2.1 pc = .ok (.if_icmp .le off, 3)) → ((pc : Int) + off = (t : Int)) → (pc + 3 = q) → ((x ≤ y) → P k t ls st h K) → (¬ (x ≤ y) → P k q ls st h K) → P k pc ls (.int y :: .int x :: st) h K
def ax_R_tableIn (sc : ax_S) (P : ax_J) : Prop := ∀ (k : Nat) (pc : Nat) (ls : List (Option Value)) (st : List Value) (h : ax_H) (K : ax_K) (d : Int) (lo : Int) (hi : Int) (offs : Array Int) (len : Nat) (x : Int32) (off : Int) (t : Nat), (decode (g_m k).2.1 pc = .ok (.tableswitch d lo hi offs, len)) → (¬ x.toInt < lo) → (¬ hi < x.toInt) → (offs[(x.toInt - lo).toNat]? = some off) → ((pc : Int) + off = (t : Int)) → (P k t ls st h K) → P k pc ls (.int x :: st) h K
def ax_R_tableOut (sc : ax_S) (P : ax_J) : Prop := ∀ (k : Nat) (pc : Nat) (ls : List (Option Value)) (st : List Value) (h : ax_H) (K : ax_K) (d : Int) (lo : Int) (hi : Int) (offs : Array Int) (len : Nat) (x : Int32) (t : Nat), (decode (g_m k).2.1 pc = .ok (.tableswitch d lo hi offs, len)) → ((x.toInt < lo ∨ hi < x.toInt)) → ((pc : Int) + d = (t : Int)) → (P k t ls st h K) → P k pc ls (.int x :: st) h K
def ax_R_get (sc : ax_S) (P : ax_J) : Prop := ∀ (k : Nat) (pc : Nat) (q : Nat) (ls : List (Option Value)) (st : List Value) (h : ax_H) (K : ax_K) (idx : Nat) (o : Nat) (ci : Nat) (j : Nat) (fs : List Value) (v : Value), (decode (g_m k).2.1 pc = .ok (.getfield idx, 3)) → (pc + 3 = q) → (ax_fld (g_m k).1.cls idx ci j) → (o < h.2.1) → (h.1 o = .inr (ci, fs)) → (fs[j]? = some v) → (P k q ls (v :: st) h K) → P k pc ls (.ref o :: st) h K
def ax_R_put (sc : ax_S) (P : ax_J) : Prop := ∀ (k : Nat) (pc : Nat) (q : Nat) (ls : List (Option Value)) (st : List Value) (h : ax_H) (K : ax_K) (idx : Nat) (o : Nat) (ci : Nat) (j : Nat) (fs : List Value) (v : Value) (ty : FieldType), (decode (g_m k).2.1 pc = .ok (.putfield idx, 3)) → (pc + 3 = q) → (ax_fldW (g_m k).1.cls idx ci j ty false) → (o < h.2.1) → (h.1 o = .inr (ci, fs)) → (j < fs.length) → (narrow ty v = v) → (fits ty v = true) → (P k q ls st (va_up h.1 o (.inr (ci, fs.set j v)), h.2) K) → P k pc ls (v :: .ref o :: st) h K
def ax_R_putF (sc : ax_S) (P : ax_J) : Prop := ∀ (k : Nat) (pc : Nat) (q : Nat) (ls : List (Option Value)) (st : List Value) (h : ax_H) (K : ax_K) (idx : Nat) (o : Nat) (ci : Nat) (j : Nat) (fs : List Value) (v : Value) (ty : FieldType), (decode (g_m k).2.1 pc = .ok (.putfield idx, 3)) → (pc + 3 = q) → (ax_fldW (g_m k).1.cls idx ci j ty true) → (o < h.2.1) → (h.1 o = .inr (ci, fs)) → (j < fs.length) → (narrow ty v = v) → (fits ty v = true) → ((g_m k).1.name = "<init>") → (P k q ls st (va_up h.1 o (.inr (ci, fs.set j v)), h.2) K) → P k pc ls (v :: .ref o :: st) h K
def ax_R_iald (sc : ax_S) (P : ax_J) : Prop := ∀ (k : Nat) (pc : Nat) (q : Nat) (ls : List (Option Value)) (st : List Value) (h : ax_H) (K : ax_K) (o : Nat) (n : Nat) (f : Nat → Int32) (i : Int32), (decode (g_m k).2.1 pc = .ok (.iaload, 1)) → (pc + 1 = q) → (o < h.2.1) → (h.1 o = .inl (false, n, f)) → (vp_in i n) → (P k q ls (.int (f i.toNatClampNeg) :: st) h K) → P k pc ls (.int i :: .ref o :: st) h K
def ax_R_zald (sc : ax_S) (P : ax_J) : Prop := ∀ (k : Nat) (pc : Nat) (q : Nat) (ls : List (Option Value)) (st : List Value) (h : ax_H) (K : ax_K) (o : Nat) (n : Nat) (f : Nat → Int32) (i : Int32), (decode (g_m k).2.1 pc = .ok (.baload, 1)) → (pc + 1 = q) → (o < h.2.1) → (h.1 o = .inl (true, n, f)) → (vp_in i n) → (P k q ls (.int (f i.toNatClampNeg) :: st) h K) → P k pc ls (.int i :: .ref o :: st) h K
def ax_R_iast (sc : ax_S) (P : ax_J) : Prop := ∀ (k : Nat) (pc : Nat) (q : Nat) (ls : List (Option Value)) (st : List Value) (h : ax_H) (K : ax_K) (o : Nat) (n : Nat) (f : Nat → Int32) (i : Int32) (x : Int32), (decode (g_m k).2.1 pc = .ok (.iastore, 1)) → (pc + 1 = q) → (o < h.2.1) → (h.1 o = .inl (false, n, f)) → (vp_in i n) → (P k q ls st (va_up h.1 o (.inl (false, n, upd f i.toNatClampNeg x)), h.2) K) → P k pc ls (.int x :: .int i :: .ref o :: st) h K
def ax_R_zast (sc : ax_S) (P : ax_J) : Prop := ∀ (k : Nat) (pc : Nat) (q : Nat) (ls : List (Option Value)) (st : List Value) (h : ax_H) (K : ax_K) (o : Nat) (n : Nat) (f : Nat → Int32) (i : Int32) (x : Int32), (decode (g_m k).2.1 pc = .ok (.bastore, 1)) → (pc + 1 = q) → (o < h.2.1) → (h.1 o = .inl (true, n, f)) → (vp_in i n) → (P k q ls st (va_up h.1 o (.inl (true, n, upd f i.toNatClampNeg (vp_nar .boolean x))), h.2) K) → P k pc ls (.int x :: .int i :: .ref o :: st) h K
def ax_R_alen (sc : ax_S) (P : ax_J) : Prop := ∀ (k : Nat) (pc : Nat) (q : Nat) (ls : List (Option Value)) (st : List Value) (h : ax_H) (K : ax_K) (o : Nat) (n : Nat) (z : Bool) (f : Nat → Int32), (decode (g_m k).2.1 pc = .ok (.arraylength, 1)) → (pc + 1 = q) → (o < h.2.1) → (h.1 o = .inl (z, n, f)) → (P k q ls (.int (nI n) :: st) h K) → P k pc ls (.ref o :: st) h K
def ax_R_newI (sc : ax_S) (P : ax_J) : Prop := ∀ (k : Nat) (pc : Nat) (q : Nat) (ls : List (Option Value)) (st : List Value) (h : ax_H) (K : ax_K) (i : Int32) (n : Nat), (decode (g_m k).2.1 pc = .ok (.newarray .int, 2)) → (pc + 2 = q) → ((Cond.arrayClass .int) ∈ gw) → (¬ i < 0) → (i.toNatClampNeg = n) → (n ≤ 100000) → (1 ≤ h.2.2.1) → (n ≤ h.2.2.2) → (P k q ls (.ref h.2.1 :: st) (va_up h.1 h.2.1 (.inl (false, n, fun _ => 0)), h.2.1 + 1, h.2.2.1 - 1, h.2.2.2 - n) K) → P k pc ls (.int i :: st) h K
def ax_R_newZ (sc : ax_S) (P : ax_J) : Prop := ∀ (k : Nat) (pc : Nat) (q : Nat) (ls : List (Option Value)) (st : List Value) (h : ax_H) (K : ax_K) (i : Int32) (n : Nat), (decode (g_m k).2.1 pc = .ok (.newarray .boolean, 2)) → (pc + 2 = q) → ((Cond.arrayClass .boolean) ∈ gw) → (¬ i < 0) → (i.toNatClampNeg = n) → (n ≤ 100000) → (1 ≤ h.2.2.1) → (n ≤ h.2.2.2) → (P k q ls (.ref h.2.1 :: st) (va_up h.1 h.2.1 (.inl (true, n, fun _ => 0)), h.2.1 + 1, h.2.2.1 - 1, h.2.2.2 - n) K) → P k pc ls (.int i :: st) h K
def ax_R_new (sc : ax_S) (P : ax_J) : Prop := ∀ (k : Nat) (pc : Nat) (q : Nat) (ls : List (Option Value)) (st : List Value) (h : ax_H) (K : ax_K) (idx : Nat) (ci : Nat) (N : Nat) (fs : List Value), (decode (g_m k).2.1 pc = .ok (.new idx, 3)) → (pc + 3 = q) → (ax_cls (g_m k).1.cls idx ci N fs) → (1 ≤ h.2.2.1) → (N ≤ h.2.2.2) → (P k q ls (.ref h.2.1 :: st) (va_up h.1 h.2.1 (.inr (ci, fs)), h.2.1 + 1, h.2.2.1 - 1, h.2.2.2 - N) K) → P k pc ls st h K
def ax_R_sld (sc : ax_S) (P : ax_J) : Prop := ∀ (k : Nat) (pc : Nat) (q : Nat) (ls : List (Option Value)) (st : List Value) (h : ax_H) (K : ax_K) (o : Nat) (i : Int32), (decode (g_m k).2.1 pc = .ok (.iaload, 1)) → (pc + 1 = q) → (vp_in i sc.1) → (P k q ls (.int (sc.2 i.toNatClampNeg) :: st) h K) → P k pc ls (.int i :: .retAddr o :: st) h K
def ax_R_slen (sc : ax_S) (P : ax_J) : Prop := ∀ (k : Nat) (pc : Nat) (q : Nat) (ls : List (Option Value)) (st : List Value) (h : ax_H) (K : ax_K) (o : Nat), (decode (g_m k).2.1 pc = .ok (.arraylength, 1)) → (pc + 1 = q) → (P k q ls (.int (nI sc.1) :: st) h K) → P k pc ls (.retAddr o :: st) h K
def ax_R_iret (sc : ax_S) (P : ax_J) : Prop := ∀ (k : Nat) (pc : Nat) (ls : List (Option Value)) (h : ax_H) (K : ax_K) (x : Int32) (ty : FieldType), (decode (g_m k).2.1 pc = .ok (.ireturn, 1)) → ((g_m k).2.2.2 = some ty) → (narrow ty (.int x) = .int x) → (K (some (.int x)) h) → P k pc ls [.int x] h K
def ax_R_vret (sc : ax_S) (P : ax_J) : Prop := ∀ (k : Nat) (pc : Nat) (ls : List (Option Value)) (h : ax_H) (K : ax_K), (decode (g_m k).2.1 pc = .ok (.return_, 1)) → ((g_m k).2.2.2 = none) → (K none h) → P k pc ls [] h K
def ax_R_mmax (sc : ax_S) (P : ax_J) : Prop := ∀ (k : Nat) (pc : Nat) (q : Nat) (ls : List (Option Value)) (st : List Value) (h : ax_H) (K : ax_K) (idx : Nat) (x : Int32) (y : Int32), (decode (g_m k).2.1 pc = .ok (.invokestatic idx, 3)) → (pc + 3 = q) → ((Cond.methodLink (g_m k).1.cls idx Lib.Math.max.name) ∈ gw) → ((Cond.static Lib.Math.max.name) ∈ gw) → ((Cond.initialized "java/lang/Math") ∈ gw) → ((Cond.code Lib.Math.max.name Lib.Math.max.code 2 (some .int)) ∈ gw) → (1 ≤ g_fr k ∧ 30 ≤ g_lo k) → ((st.map fun v => v.category).sum ≤ 8) → (P k q ls (.int (if x < y then y else x) :: st) h K) → P k pc ls (.int y :: .int x :: st) h K
def ax_R_mmin (sc : ax_S) (P : ax_J) : Prop := ∀ (k : Nat) (pc : Nat) (q : Nat) (ls : List (Option Value)) (st : List Value) (h : ax_H) (K : ax_K) (idx : Nat) (x : Int32) (y : Int32), (decode (g_m k).2.1 pc = .ok (.invokestatic idx, 3)) → (pc + 3 = q) → ((Cond.methodLink (g_m k).1.cls idx Lib.Math.min.name) ∈ gw) → ((Cond.static Lib.Math.min.name) ∈ gw) → ((Cond.initialized "java/lang/Math") ∈ gw) → ((Cond.code Lib.Math.min.name Lib.Math.min.code 2 (some .int)) ∈ gw) → (1 ≤ g_fr k ∧ 30 ≤ g_lo k) → ((st.map fun v => v.category).sum ≤ 8) → (P k q ls (.int (if y < x then y else x) :: st) h K) → P k pc ls (.int y :: .int x :: st) h K
def ax_R_mabs (sc : ax_S) (P : ax_J) : Prop := ∀ (k : Nat) (pc : Nat) (q : Nat) (ls : List (Option Value)) (st : List Value) (h : ax_H) (K : ax_K) (idx : Nat) (x : Int32), (decode (g_m k).2.1 pc = .ok (.invokestatic idx, 3)) → (pc + 3 = q) → ((Cond.methodLink (g_m k).1.cls idx Lib.Math.abs.name) ∈ gw) → ((Cond.static Lib.Math.abs.name) ∈ gw) → ((Cond.initialized "java/lang/Math") ∈ gw) → ((Cond.code Lib.Math.abs.name Lib.Math.abs.code 1 (some .int)) ∈ gw) → (1 ≤ g_fr k ∧ 30 ≤ g_lo k) → ((st.map fun v => v.category).sum ≤ 8) → (P k q ls (.int (if 0 ≤ x then x else 0 - x) :: st) h K) → P k pc ls (.int x :: st) h K
def ax_R_acopy (sc : ax_S) (P : ax_J) : Prop := ∀ (k : Nat) (pc : Nat) (q : Nat) (ls : List (Option Value)) (st : List Value) (h : ax_H) (K : ax_K) (idx : Nat) (o0 : Nat) (o1 : Nat) (n0 : Nat) (n1 : Nat) (f : Nat → Int32) (g : Nat → Int32) (sp : Int32) (dp : Int32) (n : Int32), (decode (g_m k).2.1 pc = .ok (.invokestatic idx, 3)) → (pc + 3 = q) → ((Cond.methodLink (g_m k).1.cls idx arraycopyName) ∈ gw) → ((Cond.native arraycopyName) ∈ gw) → ((Cond.static arraycopyName) ∈ gw) → ((Cond.initialized "java/lang/System") ∈ gw) → (1 ≤ g_fr k ∧ 8 + (nativeFrameWords "java/lang/System" "arraycopy" 5 + 11) ≤ g_lo k) → ((st.map fun v => v.category).sum ≤ 8) → (o0 < h.2.1) → (o1 < h.2.1) → (h.1 o0 = .inl (false, n0, f)) → (h.1 o1 = .inl (false, n1, g)) → (¬ sp < 0) → (¬ dp < 0) → (¬ n < 0) → (sp.toNatClampNeg + n.toNatClampNeg ≤ n0) → (dp.toNatClampNeg + n.toNatClampNeg ≤ n1) → (P k q ls st (va_up h.1 o1 (.inl (false, n1, va_cpy f g sp.toNatClampNeg dp.toNatClampNeg n.toNatClampNeg)), h.2) K) → P k pc ls (.int n :: .int dp :: .ref o1 :: .int sp :: .ref o0 :: st) h K
def ax_R_objInit (sc : ax_S) (P : ax_J) : Prop := ∀ (k : Nat) (pc : Nat) (q : Nat) (ls : List (Option Value)) (st : List Value) (h : ax_H) (K : ax_K) (idx : Nat) (o : Nat), (decode (g_m k).2.1 pc = .ok (.invokespecial idx, 3)) → (pc + 3 = q) → ((Cond.methodLink (g_m k).1.cls idx Lib.objectInit) ∈ gw) → ((Cond.instanceMethod Lib.objectInit) ∈ gw) → ((Cond.code Lib.objectInit ⟨#[0xb1]⟩ 1 none) ∈ gw) → (1 ≤ g_fr k ∧ 20 ≤ g_lo k) → ((st.map fun v => v.category).sum ≤ 8) → (P k q ls (st) h K) → P k pc ls (.ref o :: st) h K
def ax_R_callV (sc : ax_S) (P : ax_J) : Prop := ∀ (k : Nat) (pc : Nat) (q : Nat) (ls : List (Option Value)) (rest : List Value) (h : ax_H) (K : ax_K) (idx : Nat) (z : Nat) (na : Nat) (vs : List Value) (mc : Nat) (ms : Nat) (o : Nat) (ci : Nat) (fs : List Value), (decode (g_m k).2.1 pc = .ok (.invokevirtual idx, 3)) → (pc + 3 = q) → (ax_lV (g_m k).1.cls idx z ci) → (ax_mok z na) → (ax_up z k) → (vs.length = na) → (∀ v ∈ (Value.ref o :: vs), v.category = 1) → ((Value.ref o :: vs).length ≤ (g_m z).2.2.1) → ((rest.map fun v => v.category).sum ≤ 8) → (mc ≤ h.2.2.1) → (ms ≤ h.2.2.2) → (o < h.2.1) → (h.1 o = .inr (ci, fs)) → (P z 0 (ax_en z (Value.ref o :: vs)) [] (h.1, h.2.1, mc, ms) (fun v h2 => P k q ls (ax_ps v rest) (h2.1, h2.2.1, h.2.2.1 - mc, h.2.2.2 - ms) K)) → P k pc ls (vs.reverse ++ .ref o :: rest) h K
def ax_R_callS (sc : ax_S) (P : ax_J) : Prop := ∀ (k : Nat) (pc : Nat) (q : Nat) (ls : List (Option Value)) (rest : List Value) (h : ax_H) (K : ax_K) (idx : Nat) (z : Nat) (na : Nat) (vs : List Value) (mc : Nat) (ms : Nat), (decode (g_m k).2.1 pc = .ok (.invokestatic idx, 3)) → (pc + 3 = q) → (ax_lS (g_m k).1.cls idx z) → (ax_mok z na) → (ax_up z k) → (vs.length = na) → (∀ v ∈ (vs), v.category = 1) → ((vs).length ≤ (g_m z).2.2.1) → ((rest.map fun v => v.category).sum ≤ 8) → (mc ≤ h.2.2.1) → (ms ≤ h.2.2.2) → (P z 0 (ax_en z (vs)) [] (h.1, h.2.1, mc, ms) (fun v h2 => P k q ls (ax_ps v rest) (h2.1, h2.2.1, h.2.2.1 - mc, h.2.2.2 - ms) K)) → P k pc ls (vs.reverse ++ rest) h K
def ax_R_callI (sc : ax_S) (P : ax_J) : Prop := ∀ (k : Nat) (pc : Nat) (q : Nat) (ls : List (Option Value)) (rest : List Value) (h : ax_H) (K : ax_K) (idx : Nat) (z : Nat) (na : Nat) (vs : List Value) (mc : Nat) (ms : Nat) (o : Nat), (decode (g_m k).2.1 pc = .ok (.invokespecial idx, 3)) → (pc + 3 = q) → (ax_lI (g_m k).1.cls idx z) → (ax_mok z na) → (ax_up z k) → (vs.length = na) → (∀ v ∈ (Value.ref o :: vs), v.category = 1) → ((Value.ref o :: vs).length ≤ (g_m z).2.2.1) → ((rest.map fun v => v.category).sum ≤ 8) → (mc ≤ h.2.2.1) → (ms ≤ h.2.2.2) → (o < h.2.1) → ((g_m z).2.2.2 = none) → (P z 0 (ax_en z (Value.ref o :: vs)) [] (h.1, h.2.1, mc, ms) (fun v h2 => P k q ls (ax_ps v rest) (h2.1, h2.2.1, h.2.2.1 - mc, h.2.2.2 - ms) K)) → P k pc ls (vs.reverse ++ .ref o :: rest) h K
def ax_R_lconst (sc : ax_S) (P : ax_J) : Prop := ∀ (k : Nat) (pc : Nat) (q : Nat) (ls : List (Option Value)) (st : List Value) (h : ax_H) (K : ax_K) (n : Fin 2) (v : Int64), (decode (g_m k).2.1 pc = .ok (.lconst n, 1)) → (pc + 1 = q) → (Int64.ofNat (n : Nat) = v) → (P k q ls (.long v :: st) h K) → P k pc ls (st) h K
def ax_R_ldc2 (sc : ax_S) (P : ax_J) : Prop := ∀ (k : Nat) (pc : Nat) (q : Nat) (ls : List (Option Value)) (st : List Value) (h : ax_H) (K : ax_K) (idx : Nat) (v : Int64), (decode (g_m k).2.1 pc = .ok (.ldc2_w idx, 3)) → (pc + 3 = q) → ((Cond.constantLong (g_m k).1.cls idx v) ∈ gw) → (P k q ls (.long v :: st) h K) → P k pc ls (st) h K
def ax_R_i2l (sc : ax_S) (P : ax_J) : Prop := ∀ (k : Nat) (pc : Nat) (q : Nat) (ls : List (Option Value)) (st : List Value) (h : ax_H) (K : ax_K) (x : Int32) (v : Int64), (decode (g_m k).2.1 pc = .ok (.i2l, 1)) → (pc + 1 = q) → (x.toInt64 = v) → (P k q ls (.long v :: st) h K) → P k pc ls (.int x :: st) h K
def ax_R_inL (sc : ax_S) (P : ax_J) : Prop := ∀ (k : Nat) (pc : Nat) (q : Nat) (ls : List (Option Value)) (st : List Value) (h : ax_H) (K : ax_K) (idx : Nat) (a : Int64) (lo : Int64) (hi : Int64), (decode (g_m k).2.1 pc = .ok (.invokestatic idx, 3)) → (pc + 3 = q) → (ax_lS (g_m k).1.cls idx 66) → (ax_mok 66 3) → (ax_up 66 k) → ((st.map fun v => v.category).sum ≤ 8) → (P k q ls (.int (ax_in a lo hi) :: st) h K) → P k pc ls (.long hi :: .long lo :: .long a :: st) h K
def ax_G0 (sc : ax_S) (P : ax_J) : Prop := ax_R_mono sc P ∧ ax_R_iconst sc P ∧ ax_R_bipush sc P ∧ ax_R_sipush sc P ∧ ax_R_ldc sc P ∧ ax_R_ldcw sc P ∧ ax_R_null sc P ∧ ax_R_iload sc P ∧ ax_R_iload_n sc P
def ax_G1 (sc : ax_S) (P : ax_J) : Prop := ax_R_aload sc P ∧ ax_R_aload_n sc P ∧ ax_R_aloadS sc P ∧ ax_R_aload_nS sc P ∧ ax_R_istore sc P ∧ ax_R_istore_n sc P ∧ ax_R_astore sc P ∧ ax_R_astore_n sc P ∧ ax_R_iinc sc P
def ax_G2 (sc : ax_S) (P : ax_J) : Prop := ax_R_iadd sc P ∧ ax_R_isub sc P ∧ ax_R_imul sc P ∧ ax_R_iand sc P ∧ ax_R_ior sc P ∧ ax_R_ixor sc P ∧ ax_R_ishl sc P ∧ ax_R_ishr sc P ∧ ax_R_iushr sc P
def ax_G3 (sc : ax_S) (P : ax_J) : Prop := ax_R_idiv sc P ∧ ax_R_irem sc P ∧ ax_R_ineg sc P ∧ ax_R_dup sc P ∧ ax_R_pop sc P ∧ ax_R_dup_x1 sc P ∧ ax_R_dup_x2 sc P ∧ ax_R_dup2 sc P ∧ ax_R_goto sc P
def ax_G4 (sc : ax_S) (P : ax_J) : Prop := ax_R_if_eq sc P ∧ ax_R_if_ne sc P ∧ ax_R_if_lt sc P ∧ ax_R_if_ge sc P ∧ ax_R_if_gt sc P ∧ ax_R_if_le sc P ∧ ax_R_icmp_eq sc P ∧ ax_R_icmp_ne sc P ∧ ax_R_icmp_lt sc P
def ax_G5 (sc : ax_S) (P : ax_J) : Prop := ax_R_icmp_ge sc P ∧ ax_R_icmp_gt sc P ∧ ax_R_icmp_le sc P ∧ ax_R_tableIn sc P ∧ ax_R_tableOut sc P ∧ ax_R_get sc P ∧ ax_R_put sc P ∧ ax_R_putF sc P ∧ ax_R_iald sc P
def ax_G6 (sc : ax_S) (P : ax_J) : Prop := ax_R_zald sc P ∧ ax_R_iast sc P ∧ ax_R_zast sc P ∧ ax_R_alen sc P ∧ ax_R_newI sc P ∧ ax_R_newZ sc P ∧ ax_R_new sc P ∧ ax_R_sld sc P ∧ ax_R_slen sc P
def ax_G7 (sc : ax_S) (P : ax_J) : Prop := ax_R_iret sc P ∧ ax_R_vret sc P ∧ ax_R_mmax sc P ∧ ax_R_mmin sc P ∧ ax_R_mabs sc P ∧ ax_R_acopy sc P ∧ ax_R_objInit sc P ∧ ax_R_callV sc P ∧ ax_R_callS sc P
def ax_G8 (sc : ax_S) (P : ax_J) : Prop := ax_R_callI sc P ∧ ax_R_lconst sc P ∧ ax_R_ldc2 sc P ∧ ax_R_i2l sc P ∧ ax_R_inL sc P
def ax_Cl (sc : ax_S) (P : ax_J) : Prop := ax_G0 sc P ∧ ax_G1 sc P ∧ ax_G2 sc P ∧ ax_G3 sc P ∧ ax_G4 sc P ∧ ax_G5 sc P ∧ ax_G6 sc P ∧ ax_G7 sc P ∧ ax_G8 sc P
/-- the least judgement that keeps the rules -/
def Ex (sc : ax_S) : ax_J := fun k pc ls st h K => ∀ P : ax_J, ax_Cl sc P → P k pc ls st h K
theorem x_mono {sc : ax_S} {k : Nat} {pc : Nat} {ls : List (Option Value)} {st : List Value} {h : ax_H} {K : ax_K} {K2 : ax_K} (g0 : ∀ v h2, K v h2 → K2 v h2) (p0 : Ex sc k pc ls st h K) : Ex sc k pc ls st h K2 := fun P hP => hP.1.1 k pc ls st h K K2 g0 (p0 P hP)
theorem x_iconst {sc : ax_S} {k : Nat} {pc : Nat} {q : Nat} {ls : List (Option Value)} {st : List Value} {h : ax_H} {K : ax_K} {n : Int} {v : Int32} (g0 : decode (g_m k).2.1 pc = .ok (.iconst n, 1)) (g1 : pc + 1 = q) (g2 : Int32.ofInt n = v) (p0 : Ex sc k q ls (.int v :: st) h K) : Ex sc k pc ls (st) h K := fun P hP => hP.1.2.1 k pc q ls st h K n v g0 g1 g2 (p0 P hP)
theorem x_bipush {sc : ax_S} {k : Nat} {pc : Nat} {q : Nat} {ls : List (Option Value)} {st : List Value} {h : ax_H} {K : ax_K} {n : Int} {v : Int32} (g0 : decode (g_m k).2.1 pc = .ok (.bipush n, 2)) (g1 : pc + 2 = q) (g2 : (Int8.ofInt n).toInt32 = v) (p0 : Ex sc k q ls (.int v :: st) h K) : Ex sc k pc ls (st) h K := fun P hP => hP.1.2.2.1 k pc q ls st h K n v g0 g1 g2 (p0 P hP)
theorem x_sipush {sc : ax_S} {k : Nat} {pc : Nat} {q : Nat} {ls : List (Option Value)} {st : List Value} {h : ax_H} {K : ax_K} {n : Int} {v : Int32} (g0 : decode (g_m k).2.1 pc = .ok (.sipush n, 3)) (g1 : pc + 3 = q) (g2 : (Int16.ofInt n).toInt32 = v) (p0 : Ex sc k q ls (.int v :: st) h K) : Ex sc k pc ls (st) h K := fun P hP => hP.1.2.2.2.1 k pc q ls st h K n v g0 g1 g2 (p0 P hP)
theorem x_ldc {sc : ax_S} {k : Nat} {pc : Nat} {q : Nat} {ls : List (Option Value)} {st : List Value} {h : ax_H} {K : ax_K} {idx : Nat} {v : Int32} (g0 : decode (g_m k).2.1 pc = .ok (.ldc idx, 2)) (g1 : pc + 2 = q) (g2 : (Cond.constant (g_m k).1.cls idx v) ∈ gw) (p0 : Ex sc k q ls (.int v :: st) h K) : Ex sc k pc ls (st) h K := fun P hP => hP.1.2.2.2.2.1 k pc q ls st h K idx v g0 g1 g2 (p0 P hP)
theorem x_ldcw {sc : ax_S} {k : Nat} {pc : Nat} {q : Nat} {ls : List (Option Value)} {st : List Value} {h : ax_H} {K : ax_K} {idx : Nat} {v : Int32} (g0 : decode (g_m k).2.1 pc = .ok (.ldc_w idx, 3)) (g1 : pc + 3 = q) (g2 : (Cond.constant (g_m k).1.cls idx v) ∈ gw) (p0 : Ex sc k q ls (.int v :: st) h K) : Ex sc k pc ls (st) h K := fun P hP => hP.1.2.2.2.2.2.1 k pc q ls st h K idx v g0 g1 g2 (p0 P hP)
theorem x_null {sc : ax_S} {k : Nat} {pc : Nat} {q : Nat} {ls : List (Option Value)} {st : List Value} {h : ax_H} {K : ax_K} (g0 : decode (g_m k).2.1 pc = .ok (.aconst_null, 1)) (g1 : pc + 1 = q) (p0 : Ex sc k q ls (.null :: st) h K) : Ex sc k pc ls (st) h K := fun P hP => hP.1.2.2.2.2.2.2.1 k pc q ls st h K g0 g1 (p0 P hP)
theorem x_iload {sc : ax_S} {k : Nat} {pc : Nat} {q : Nat} {ls : List (Option Value)} {st : List Value} {h : ax_H} {K : ax_K} {i : Nat} {x : Int32} (g0 : decode (g_m k).2.1 pc = .ok (.iload i, 2)) (g1 : pc + 2 = q) (g2 : ls[i]? = some (some (.int x))) (p0 : Ex sc k q ls (.int x :: st) h K) : Ex sc k pc ls (st) h K := fun P hP => hP.1.2.2.2.2.2.2.2.1 k pc q ls st h K i x g0 g1 g2 (p0 P hP)
theorem x_iload_n {sc : ax_S} {k : Nat} {pc : Nat} {q : Nat} {ls : List (Option Value)} {st : List Value} {h : ax_H} {K : ax_K} {i : Nat} {x : Int32} {j : Fin 4} (g0 : decode (g_m k).2.1 pc = .ok (.iload_n j, 1)) (g1 : pc + 1 = q) (g2 : (j : Nat) = i) (g3 : ls[i]? = some (some (.int x))) (p0 : Ex sc k q ls (.int x :: st) h K) : Ex sc k pc ls (st) h K := fun P hP => hP.1.2.2.2.2.2.2.2.2 k pc q ls st h K i x j g0 g1 g2 g3 (p0 P hP)
theorem x_aload {sc : ax_S} {k : Nat} {pc : Nat} {q : Nat} {ls : List (Option Value)} {st : List Value} {h : ax_H} {K : ax_K} {i : Nat} {o : Nat} (g0 : decode (g_m k).2.1 pc = .ok (.aload i, 2)) (g1 : pc + 2 = q) (g2 : ls[i]? = some (some (.ref o))) (p0 : Ex sc k q ls (.ref o :: st) h K) : Ex sc k pc ls (st) h K := fun P hP => hP.2.1.1 k pc q ls st h K i o g0 g1 g2 (p0 P hP)
theorem x_aload_n {sc : ax_S} {k : Nat} {pc : Nat} {q : Nat} {ls : List (Option Value)} {st : List Value} {h : ax_H} {K : ax_K} {i : Nat} {o : Nat} {j : Fin 4} (g0 : decode (g_m k).2.1 pc = .ok (.aload_n j, 1)) (g1 : pc + 1 = q) (g2 : (j : Nat) = i) (g3 : ls[i]? = some (some (.ref o))) (p0 : Ex sc k q ls (.ref o :: st) h K) : Ex sc k pc ls (st) h K := fun P hP => hP.2.1.2.1 k pc q ls st h K i o j g0 g1 g2 g3 (p0 P hP)
theorem x_aloadS {sc : ax_S} {k : Nat} {pc : Nat} {q : Nat} {ls : List (Option Value)} {st : List Value} {h : ax_H} {K : ax_K} {i : Nat} {o : Nat} (g0 : decode (g_m k).2.1 pc = .ok (.aload i, 2)) (g1 : pc + 2 = q) (g2 : ls[i]? = some (some (.retAddr o))) (p0 : Ex sc k q ls (.retAddr o :: st) h K) : Ex sc k pc ls (st) h K := fun P hP => hP.2.1.2.2.1 k pc q ls st h K i o g0 g1 g2 (p0 P hP)
theorem x_aload_nS {sc : ax_S} {k : Nat} {pc : Nat} {q : Nat} {ls : List (Option Value)} {st : List Value} {h : ax_H} {K : ax_K} {i : Nat} {o : Nat} {j : Fin 4} (g0 : decode (g_m k).2.1 pc = .ok (.aload_n j, 1)) (g1 : pc + 1 = q) (g2 : (j : Nat) = i) (g3 : ls[i]? = some (some (.retAddr o))) (p0 : Ex sc k q ls (.retAddr o :: st) h K) : Ex sc k pc ls (st) h K := fun P hP => hP.2.1.2.2.2.1 k pc q ls st h K i o j g0 g1 g2 g3 (p0 P hP)
theorem x_istore {sc : ax_S} {k : Nat} {pc : Nat} {q : Nat} {ls : List (Option Value)} {st : List Value} {h : ax_H} {K : ax_K} {i : Nat} {x : Int32} (g0 : decode (g_m k).2.1 pc = .ok (.istore i, 2)) (g1 : pc + 2 = q) (g2 : i < ls.length) (p0 : Ex sc k q (ls.set i (some (.int x))) st h K) : Ex sc k pc ls (.int x :: st) h K := fun P hP => hP.2.1.2.2.2.2.1 k pc q ls st h K i x g0 g1 g2 (p0 P hP)
theorem x_istore_n {sc : ax_S} {k : Nat} {pc : Nat} {q : Nat} {ls : List (Option Value)} {st : List Value} {h : ax_H} {K : ax_K} {i : Nat} {x : Int32} {j : Fin 4} (g0 : decode (g_m k).2.1 pc = .ok (.istore_n j, 1)) (g1 : pc + 1 = q) (g2 : (j : Nat) = i) (g3 : i < ls.length) (p0 : Ex sc k q (ls.set i (some (.int x))) st h K) : Ex sc k pc ls (.int x :: st) h K := fun P hP => hP.2.1.2.2.2.2.2.1 k pc q ls st h K i x j g0 g1 g2 g3 (p0 P hP)
theorem x_astore {sc : ax_S} {k : Nat} {pc : Nat} {q : Nat} {ls : List (Option Value)} {st : List Value} {h : ax_H} {K : ax_K} {i : Nat} {o : Nat} (g0 : decode (g_m k).2.1 pc = .ok (.astore i, 2)) (g1 : pc + 2 = q) (g2 : i < ls.length) (p0 : Ex sc k q (ls.set i (some (.ref o))) st h K) : Ex sc k pc ls (.ref o :: st) h K := fun P hP => hP.2.1.2.2.2.2.2.2.1 k pc q ls st h K i o g0 g1 g2 (p0 P hP)
theorem x_astore_n {sc : ax_S} {k : Nat} {pc : Nat} {q : Nat} {ls : List (Option Value)} {st : List Value} {h : ax_H} {K : ax_K} {i : Nat} {o : Nat} {j : Fin 4} (g0 : decode (g_m k).2.1 pc = .ok (.astore_n j, 1)) (g1 : pc + 1 = q) (g2 : (j : Nat) = i) (g3 : i < ls.length) (p0 : Ex sc k q (ls.set i (some (.ref o))) st h K) : Ex sc k pc ls (.ref o :: st) h K := fun P hP => hP.2.1.2.2.2.2.2.2.2.1 k pc q ls st h K i o j g0 g1 g2 g3 (p0 P hP)
theorem x_iinc {sc : ax_S} {k : Nat} {pc : Nat} {q : Nat} {ls : List (Option Value)} {st : List Value} {h : ax_H} {K : ax_K} {i : Nat} {n : Int} {x : Int32} {v : Int32} (g0 : decode (g_m k).2.1 pc = .ok (.iinc i n, 3)) (g1 : pc + 3 = q) (g2 : ls[i]? = some (some (.int x))) (g3 : x + Int32.ofInt n = v) (p0 : Ex sc k q (ls.set i (some (.int v))) st h K) : Ex sc k pc ls st h K := fun P hP => hP.2.1.2.2.2.2.2.2.2.2 k pc q ls st h K i n x v g0 g1 g2 g3 (p0 P hP)
theorem x_iadd {sc : ax_S} {k : Nat} {pc : Nat} {q : Nat} {ls : List (Option Value)} {st : List Value} {h : ax_H} {K : ax_K} {x : Int32} {y : Int32} (g0 : decode (g_m k).2.1 pc = .ok (.iadd, 1)) (g1 : pc + 1 = q) (p0 : Ex sc k q ls (.int (x + y) :: st) h K) : Ex sc k pc ls (.int y :: .int x :: st) h K := fun P hP => hP.2.2.1.1 k pc q ls st h K x y g0 g1 (p0 P hP)
theorem x_isub {sc : ax_S} {k : Nat} {pc : Nat} {q : Nat} {ls : List (Option Value)} {st : List Value} {h : ax_H} {K : ax_K} {x : Int32} {y : Int32} (g0 : decode (g_m k).2.1 pc = .ok (.isub, 1)) (g1 : pc + 1 = q) (p0 : Ex sc k q ls (.int (x - y) :: st) h K) : Ex sc k pc ls (.int y :: .int x :: st) h K := fun P hP => hP.2.2.1.2.1 k pc q ls st h K x y g0 g1 (p0 P hP)
theorem x_imul {sc : ax_S} {k : Nat} {pc : Nat} {q : Nat} {ls : List (Option Value)} {st : List Value} {h : ax_H} {K : ax_K} {x : Int32} {y : Int32} (g0 : decode (g_m k).2.1 pc = .ok (.imul, 1)) (g1 : pc + 1 = q) (p0 : Ex sc k q ls (.int (x * y) :: st) h K) : Ex sc k pc ls (.int y :: .int x :: st) h K := fun P hP => hP.2.2.1.2.2.1 k pc q ls st h K x y g0 g1 (p0 P hP)
theorem x_iand {sc : ax_S} {k : Nat} {pc : Nat} {q : Nat} {ls : List (Option Value)} {st : List Value} {h : ax_H} {K : ax_K} {x : Int32} {y : Int32} (g0 : decode (g_m k).2.1 pc = .ok (.iand, 1)) (g1 : pc + 1 = q) (p0 : Ex sc k q ls (.int (x &&& y) :: st) h K) : Ex sc k pc ls (.int y :: .int x :: st) h K := fun P hP => hP.2.2.1.2.2.2.1 k pc q ls st h K x y g0 g1 (p0 P hP)
theorem x_ior {sc : ax_S} {k : Nat} {pc : Nat} {q : Nat} {ls : List (Option Value)} {st : List Value} {h : ax_H} {K : ax_K} {x : Int32} {y : Int32} (g0 : decode (g_m k).2.1 pc = .ok (.ior, 1)) (g1 : pc + 1 = q) (p0 : Ex sc k q ls (.int (x ||| y) :: st) h K) : Ex sc k pc ls (.int y :: .int x :: st) h K := fun P hP => hP.2.2.1.2.2.2.2.1 k pc q ls st h K x y g0 g1 (p0 P hP)
theorem x_ixor {sc : ax_S} {k : Nat} {pc : Nat} {q : Nat} {ls : List (Option Value)} {st : List Value} {h : ax_H} {K : ax_K} {x : Int32} {y : Int32} (g0 : decode (g_m k).2.1 pc = .ok (.ixor, 1)) (g1 : pc + 1 = q) (p0 : Ex sc k q ls (.int (x ^^^ y) :: st) h K) : Ex sc k pc ls (.int y :: .int x :: st) h K := fun P hP => hP.2.2.1.2.2.2.2.2.1 k pc q ls st h K x y g0 g1 (p0 P hP)
theorem x_ishl {sc : ax_S} {k : Nat} {pc : Nat} {q : Nat} {ls : List (Option Value)} {st : List Value} {h : ax_H} {K : ax_K} {x : Int32} {y : Int32} (g0 : decode (g_m k).2.1 pc = .ok (.ishl, 1)) (g1 : pc + 1 = q) (p0 : Ex sc k q ls (.int (x <<< (y &&& 31)) :: st) h K) : Ex sc k pc ls (.int y :: .int x :: st) h K := fun P hP => hP.2.2.1.2.2.2.2.2.2.1 k pc q ls st h K x y g0 g1 (p0 P hP)
theorem x_ishr {sc : ax_S} {k : Nat} {pc : Nat} {q : Nat} {ls : List (Option Value)} {st : List Value} {h : ax_H} {K : ax_K} {x : Int32} {y : Int32} (g0 : decode (g_m k).2.1 pc = .ok (.ishr, 1)) (g1 : pc + 1 = q) (p0 : Ex sc k q ls (.int (x >>> (y &&& 31)) :: st) h K) : Ex sc k pc ls (.int y :: .int x :: st) h K := fun P hP => hP.2.2.1.2.2.2.2.2.2.2.1 k pc q ls st h K x y g0 g1 (p0 P hP)
theorem x_iushr {sc : ax_S} {k : Nat} {pc : Nat} {q : Nat} {ls : List (Option Value)} {st : List Value} {h : ax_H} {K : ax_K} {x : Int32} {y : Int32} (g0 : decode (g_m k).2.1 pc = .ok (.iushr, 1)) (g1 : pc + 1 = q) (p0 : Ex sc k q ls (.int ((x.toUInt32 >>> (y.toUInt32 &&& Int32.toUInt32 31)).toInt32) :: st) h K) : Ex sc k pc ls (.int y :: .int x :: st) h K := fun P hP => hP.2.2.1.2.2.2.2.2.2.2.2 k pc q ls st h K x y g0 g1 (p0 P hP)
theorem x_idiv {sc : ax_S} {k : Nat} {pc : Nat} {q : Nat} {ls : List (Option Value)} {st : List Value} {h : ax_H} {K : ax_K} {x : Int32} {y : Int32} (g0 : decode (g_m k).2.1 pc = .ok (.idiv, 1)) (g1 : pc + 1 = q) (g2 : ¬ y = 0) (p0 : Ex sc k q ls (.int (x / y) :: st) h K) : Ex sc k pc ls (.int y :: .int x :: st) h K := fun P hP => hP.2.2.2.1.1 k pc q ls st h K x y g0 g1 g2 (p0 P hP)
theorem x_irem {sc : ax_S} {k : Nat} {pc : Nat} {q : Nat} {ls : List (Option Value)} {st : List Value} {h : ax_H} {K : ax_K} {x : Int32} {y : Int32} (g0 : decode (g_m k).2.1 pc = .ok (.irem, 1)) (g1 : pc + 1 = q) (g2 : ¬ y = 0) (p0 : Ex sc k q ls (.int (x - x / y * y) :: st) h K) : Ex sc k pc ls (.int y :: .int x :: st) h K := fun P hP => hP.2.2.2.1.2.1 k pc q ls st h K x y g0 g1 g2 (p0 P hP)
theorem x_ineg {sc : ax_S} {k : Nat} {pc : Nat} {q : Nat} {ls : List (Option Value)} {st : List Value} {h : ax_H} {K : ax_K} {x : Int32} (g0 : decode (g_m k).2.1 pc = .ok (.ineg, 1)) (g1 : pc + 1 = q) (p0 : Ex sc k q ls (.int (-x) :: st) h K) : Ex sc k pc ls (.int x :: st) h K := fun P hP => hP.2.2.2.1.2.2.1 k pc q ls st h K x g0 g1 (p0 P hP)
theorem x_dup {sc : ax_S} {k : Nat} {pc : Nat} {q : Nat} {ls : List (Option Value)} {st : List Value} {h : ax_H} {K : ax_K} {x : Value} (g0 : decode (g_m k).2.1 pc = .ok (.dup, 1)) (g1 : pc + 1 = q) (g2 : x.category = 1) (p0 : Ex sc k q ls (x :: x :: st) h K) : Ex sc k pc ls (x :: st) h K := fun P hP => hP.2.2.2.1.2.2.2.1 k pc q ls st h K x g0 g1 g2 (p0 P hP)
theorem x_pop {sc : ax_S} {k : Nat} {pc : Nat} {q : Nat} {ls : List (Option Value)} {st : List Value} {h : ax_H} {K : ax_K} {x : Value} (g0 : decode (g_m k).2.1 pc = .ok (.pop, 1)) (g1 : pc + 1 = q) (g2 : x.category = 1) (p0 : Ex sc k q ls (st) h K) : Ex sc k pc ls (x :: st) h K := fun P hP => hP.2.2.2.1.2.2.2.2.1 k pc q ls st h K x g0 g1 g2 (p0 P hP)
theorem x_dup_x1 {sc : ax_S} {k : Nat} {pc : Nat} {q : Nat} {ls : List (Option Value)} {st : List Value} {h : ax_H} {K : ax_K} {x : Value} {y : Value} (g0 : decode (g_m k).2.1 pc = .ok (.dup_x1, 1)) (g1 : pc + 1 = q) (g2 : x.category = 1) (g3 : y.category = 1) (p0 : Ex sc k q ls (x :: y :: x :: st) h K) : Ex sc k pc ls (x :: y :: st) h K := fun P hP => hP.2.2.2.1.2.2.2.2.2.1 k pc q ls st h K x y g0 g1 g2 g3 (p0 P hP)
theorem x_dup_x2 {sc : ax_S} {k : Nat} {pc : Nat} {q : Nat} {ls : List (Option Value)} {st : List Value} {h : ax_H} {K : ax_K} {x : Value} {y : Value} {z : Value} (g0 : decode (g_m k).2.1 pc = .ok (.dup_x2, 1)) (g1 : pc + 1 = q) (g2 : x.category = 1) (g3 : y.category = 1) (g4 : z.category = 1) (p0 : Ex sc k q ls (x :: y :: z :: x :: st) h K) : Ex sc k pc ls (x :: y :: z :: st) h K := fun P hP => hP.2.2.2.1.2.2.2.2.2.2.1 k pc q ls st h K x y z g0 g1 g2 g3 g4 (p0 P hP)
theorem x_dup2 {sc : ax_S} {k : Nat} {pc : Nat} {q : Nat} {ls : List (Option Value)} {st : List Value} {h : ax_H} {K : ax_K} {x : Value} {y : Value} (g0 : decode (g_m k).2.1 pc = .ok (.dup2, 1)) (g1 : pc + 1 = q) (g2 : x.category = 1) (g3 : y.category = 1) (p0 : Ex sc k q ls (x :: y :: x :: y :: st) h K) : Ex sc k pc ls (x :: y :: st) h K := fun P hP => hP.2.2.2.1.2.2.2.2.2.2.2.1 k pc q ls st h K x y g0 g1 g2 g3 (p0 P hP)
theorem x_goto {sc : ax_S} {k : Nat} {pc : Nat} {ls : List (Option Value)} {st : List Value} {h : ax_H} {K : ax_K} {off : Int} {t : Nat} (g0 : decode (g_m k).2.1 pc = .ok (.goto off, 3)) (g1 : (pc : Int) + off = (t : Int)) (p0 : Ex sc k t ls st h K) : Ex sc k pc ls st h K := fun P hP => hP.2.2.2.1.2.2.2.2.2.2.2.2 k pc ls st h K off t g0 g1 (p0 P hP)
theorem x_if_eq {sc : ax_S} {k : Nat} {pc : Nat} {q : Nat} {ls : List (Option Value)} {st : List Value} {h : ax_H} {K : ax_K} {off : Int} {t : Nat} {x : Int32} (g0 : decode (g_m k).2.1 pc = .ok (.ifCond .eq off, 3)) (g1 : (pc : Int) + off = (t : Int)) (g2 : pc + 3 = q) (p0 : (x = 0) → Ex sc k t ls st h K) (p1 : ¬ (x = 0) → Ex sc k q ls st h K) : Ex sc k pc ls (.int x :: st) h K := fun P hP => hP.2.2.2.2.1.1 k pc q ls st h K off t x g0 g1 g2 (fun c => p0 c P hP) (fun c => p1 c P hP)
theorem x_if_ne {sc : ax_S} {k : Nat} {pc : Nat} {q : Nat} {ls : List (Option Value)} {st : List Value} {h : ax_H} {K : ax_K} {off : Int} {t : Nat} {x : Int32} (g0 : decode (g_m k).2.1 pc = .ok (.ifCond .ne off, 3)) (g1 : (pc : Int) + off = (t : Int)) (g2 : pc + 3 = q) (p0 : (¬ x = 0) → Ex sc k t ls st h K) (p1 : x = 0 → Ex sc k q ls st h K) : Ex sc k pc ls (.int x :: st) h K := fun P hP => hP.2.2.2.2.1.2.1 k pc q ls st h K off t x g0 g1 g2 (fun c => p0 c P hP) (fun c => p1 c P hP)
theorem x_if_lt {sc : ax_S} {k : Nat} {pc : Nat} {q : Nat} {ls : List (Option Value)} {st : List Value} {h : ax_H} {K : ax_K} {off : Int} {t : Nat} {x : Int32} (g0 : decode (g_m k).2.1 pc = .ok (.ifCond .lt off, 3)) (g1 : (pc : Int) + off = (t : Int)) (g2 : pc + 3 = q) (p0 : (x < 0) → Ex sc k t ls st h K) (p1 : ¬ (x < 0) → Ex sc k q ls st h K) : Ex sc k pc ls (.int x :: st) h K := fun P hP => hP.2.2.2.2.1.2.2.1 k pc q ls st h K off t x g0 g1 g2 (fun c => p0 c P hP) (fun c => p1 c P hP)
theorem x_if_ge {sc : ax_S} {k : Nat} {pc : Nat} {q : Nat} {ls : List (Option Value)} {st : List Value} {h : ax_H} {K : ax_K} {off : Int} {t : Nat} {x : Int32} (g0 : decode (g_m k).2.1 pc = .ok (.ifCond .ge off, 3)) (g1 : (pc : Int) + off = (t : Int)) (g2 : pc + 3 = q) (p0 : (0 ≤ x) → Ex sc k t ls st h K) (p1 : ¬ (0 ≤ x) → Ex sc k q ls st h K) : Ex sc k pc ls (.int x :: st) h K := fun P hP => hP.2.2.2.2.1.2.2.2.1 k pc q ls st h K off t x g0 g1 g2 (fun c => p0 c P hP) (fun c => p1 c P hP)
theorem x_if_gt {sc : ax_S} {k : Nat} {pc : Nat} {q : Nat} {ls : List (Option Value)} {st : List Value} {h : ax_H} {K : ax_K} {off : Int} {t : Nat} {x : Int32} (g0 : decode (g_m k).2.1 pc = .ok (.ifCond .gt off, 3)) (g1 : (pc : Int) + off = (t : Int)) (g2 : pc + 3 = q) (p0 : (0 < x) → Ex sc k t ls st h K) (p1 : ¬ (0 < x) → Ex sc k q ls st h K) : Ex sc k pc ls (.int x :: st) h K := fun P hP => hP.2.2.2.2.1.2.2.2.2.1 k pc q ls st h K off t x g0 g1 g2 (fun c => p0 c P hP) (fun c => p1 c P hP)
theorem x_if_le {sc : ax_S} {k : Nat} {pc : Nat} {q : Nat} {ls : List (Option Value)} {st : List Value} {h : ax_H} {K : ax_K} {off : Int} {t : Nat} {x : Int32} (g0 : decode (g_m k).2.1 pc = .ok (.ifCond .le off, 3)) (g1 : (pc : Int) + off = (t : Int)) (g2 : pc + 3 = q) (p0 : (x ≤ 0) → Ex sc k t ls st h K) (p1 : ¬ (x ≤ 0) → Ex sc k q ls st h K) : Ex sc k pc ls (.int x :: st) h K := fun P hP => hP.2.2.2.2.1.2.2.2.2.2.1 k pc q ls st h K off t x g0 g1 g2 (fun c => p0 c P hP) (fun c => p1 c P hP)
theorem x_icmp_eq {sc : ax_S} {k : Nat} {pc : Nat} {q : Nat} {ls : List (Option Value)} {st : List Value} {h : ax_H} {K : ax_K} {off : Int} {t : Nat} {x : Int32} {y : Int32} (g0 : decode (g_m k).2.1 pc = .ok (.if_icmp .eq off, 3)) (g1 : (pc : Int) + off = (t : Int)) (g2 : pc + 3 = q) (p0 : (x = y) → Ex sc k t ls st h K) (p1 : ¬ (x = y) → Ex sc k q ls st h K) : Ex sc k pc ls (.int y :: .int x :: st) h K := fun P hP => hP.2.2.2.2.1.2.2.2.2.2.2.1 k pc q ls st h K off t x y g0 g1 g2 (fun c => p0 c P hP) (fun c => p1 c P hP)
theorem x_icmp_ne {sc : ax_S} {k : Nat} {pc : Nat} {q : Nat} {ls : List (Option Value)} {st : List Value} {h : ax_H} {K : ax_K} {off : Int} {t : Nat} {x : Int32} {y : Int32} (g0 : decode (g_m k).2.1 pc = .ok (.if_icmp .ne off, 3)) (g1 : (pc : Int) + off = (t : Int)) (g2 : pc + 3 = q) (p0 : (¬ x = y) → Ex sc k t ls st h K) (p1 : x = y → Ex sc k q ls st h K) : Ex sc k pc ls (.int y :: .int x :: st) h K := fun P hP => hP.2.2.2.2.1.2.2.2.2.2.2.2.1 k pc q ls st h K off t x y g0 g1 g2 (fun c => p0 c P hP) (fun c => p1 c P hP)
theorem x_icmp_lt {sc : ax_S} {k : Nat} {pc : Nat} {q : Nat} {ls : List (Option Value)} {st : List Value} {h : ax_H} {K : ax_K} {off : Int} {t : Nat} {x : Int32} {y : Int32} (g0 : decode (g_m k).2.1 pc = .ok (.if_icmp .lt off, 3)) (g1 : (pc : Int) + off = (t : Int)) (g2 : pc + 3 = q) (p0 : (x < y) → Ex sc k t ls st h K) (p1 : ¬ (x < y) → Ex sc k q ls st h K) : Ex sc k pc ls (.int y :: .int x :: st) h K := fun P hP => hP.2.2.2.2.1.2.2.2.2.2.2.2.2 k pc q ls st h K off t x y g0 g1 g2 (fun c => p0 c P hP) (fun c => p1 c P hP)
theorem x_icmp_ge {sc : ax_S} {k : Nat} {pc : Nat} {q : Nat} {ls : List (Option Value)} {st : List Value} {h : ax_H} {K : ax_K} {off : Int} {t : Nat} {x : Int32} {y : Int32} (g0 : decode (g_m k).2.1 pc = .ok (.if_icmp .ge off, 3)) (g1 : (pc : Int) + off = (t : Int)) (g2 : pc + 3 = q) (p0 : (y ≤ x) → Ex sc k t ls st h K) (p1 : ¬ (y ≤ x) → Ex sc k q ls st h K) : Ex sc k pc ls (.int y :: .int x :: st) h K := fun P hP => hP.2.2.2.2.2.1.1 k pc q ls st h K off t x y g0 g1 g2 (fun c => p0 c P hP) (fun c => p1 c P hP)
theorem x_icmp_gt {sc : ax_S} {k : Nat} {pc : Nat} {q : Nat} {ls : List (Option Value)} {st : List Value} {h : ax_H} {K : ax_K} {off : Int} {t : Nat} {x : Int32} {y : Int32} (g0 : decode (g_m k).2.1 pc = .ok (.if_icmp .gt off, 3)) (g1 : (pc : Int) + off = (t : Int)) (g2 : pc + 3 = q) (p0 : (y < x) → Ex sc k t ls st h K) (p1 : ¬ (y < x) → Ex sc k q ls st h K) : Ex sc k pc ls (.int y :: .int x :: st) h K := fun P hP => hP.2.2.2.2.2.1.2.1 k pc q ls st h K off t x y g0 g1 g2 (fun c => p0 c P hP) (fun c => p1 c P hP)
theorem x_icmp_le {sc : ax_S} {k : Nat} {pc : Nat} {q : Nat} {ls : List (Option Value)} {st : List Value} {h : ax_H} {K : ax_K} {off : Int} {t : Nat} {x : Int32} {y : Int32} (g0 : decode (g_m k).2.1 pc = .ok (.if_icmp .le off, 3)) (g1 : (pc : Int) + off = (t : Int)) (g2 : pc + 3 = q) (p0 : (x ≤ y) → Ex sc k t ls st h K) (p1 : ¬ (x ≤ y) → Ex sc k q ls st h K) : Ex sc k pc ls (.int y :: .int x :: st) h K := fun P hP => hP.2.2.2.2.2.1.2.2.1 k pc q ls st h K off t x y g0 g1 g2 (fun c => p0 c P hP) (fun c => p1 c P hP)
theorem x_tableIn {sc : ax_S} {k : Nat} {pc : Nat} {ls : List (Option Value)} {st : List Value} {h : ax_H} {K : ax_K} {d : Int} {lo : Int} {hi : Int} {offs : Array Int} {len : Nat} {x : Int32} {off : Int} {t : Nat} (g0 : decode (g_m k).2.1 pc = .ok (.tableswitch d lo hi offs, len)) (g1 : ¬ x.toInt < lo) (g2 : ¬ hi < x.toInt) (g3 : offs[(x.toInt - lo).toNat]? = some off) (g4 : (pc : Int) + off = (t : Int)) (p0 : Ex sc k t ls st h K) : Ex sc k pc ls (.int x :: st) h K := fun P hP => hP.2.2.2.2.2.1.2.2.2.1 k pc ls st h K d lo hi offs len x off t g0 g1 g2 g3 g4 (p0 P hP)
theorem x_tableOut {sc : ax_S} {k : Nat} {pc : Nat} {ls : List (Option Value)} {st : List Value} {h : ax_H} {K : ax_K} {d : Int} {lo : Int} {hi : Int} {offs : Array Int} {len : Nat} {x : Int32} {t : Nat} (g0 : decode (g_m k).2.1 pc = .ok (.tableswitch d lo hi offs, len)) (g1 : (x.toInt < lo ∨ hi < x.toInt)) (g2 : (pc : Int) + d = (t : Int)) (p0 : Ex sc k t ls st h K) : Ex sc k pc ls (.int x :: st) h K := fun P hP => hP.2.2.2.2.2.1.2.2.2.2.1 k pc ls st h K d lo hi offs len x t g0 g1 g2 (p0 P hP)
theorem x_get {sc : ax_S} {k : Nat} {pc : Nat} {q : Nat} {ls : List (Option Value)} {st : List Value} {h : ax_H} {K : ax_K} {idx : Nat} {o : Nat} {ci : Nat} {j : Nat} {fs : List Value} {v : Value} (g0 : decode (g_m k).2.1 pc = .ok (.getfield idx, 3)) (g1 : pc + 3 = q) (g2 : ax_fld (g_m k).1.cls idx ci j) (g3 : o < h.2.1) (g4 : h.1 o = .inr (ci, fs)) (g5 : fs[j]? = some v) (p0 : Ex sc k q ls (v :: st) h K) : Ex sc k pc ls (.ref o :: st) h K := fun P hP => hP.2.2.2.2.2.1.2.2.2.2.2.1 k pc q ls st h K idx o ci j fs v g0 g1 g2 g3 g4 g5 (p0 P hP)
theorem x_put {sc : ax_S} {k : Nat} {pc : Nat} {q : Nat} {ls : List (Option Value)} {st : List Value} {h : ax_H} {K : ax_K} {idx : Nat} {o : Nat} {ci : Nat} {j : Nat} {fs : List Value} {v : Value} {ty : FieldType} (g0 : decode (g_m k).2.1 pc = .ok (.putfield idx, 3)) (g1 : pc + 3 = q) (g2 : ax_fldW (g_m k).1.cls idx ci j ty false) (g3 : o < h.2.1) (g4 : h.1 o = .inr (ci, fs)) (g5 : j < fs.length) (g6 : narrow ty v = v) (g7 : fits ty v = true) (p0 : Ex sc k q ls st (va_up h.1 o (.inr (ci, fs.set j v)), h.2) K) : Ex sc k pc ls (v :: .ref o :: st) h K := fun P hP => hP.2.2.2.2.2.1.2.2.2.2.2.2.1 k pc q ls st h K idx o ci j fs v ty g0 g1 g2 g3 g4 g5 g6 g7 (p0 P hP)
theorem x_putF {sc : ax_S} {k : Nat} {pc : Nat} {q : Nat} {ls : List (Option Value)} {st : List Value} {h : ax_H} {K : ax_K} {idx : Nat} {o : Nat} {ci : Nat} {j : Nat} {fs : List Value} {v : Value} {ty : FieldType} (g0 : decode (g_m k).2.1 pc = .ok (.putfield idx, 3)) (g1 : pc + 3 = q) (g2 : ax_fldW (g_m k).1.cls idx ci j ty true) (g3 : o < h.2.1) (g4 : h.1 o = .inr (ci, fs)) (g5 : j < fs.length) (g6 : narrow ty v = v) (g7 : fits ty v = true) (g8 : (g_m k).1.name = "<init>") (p0 : Ex sc k q ls st (va_up h.1 o (.inr (ci, fs.set j v)), h.2) K) : Ex sc k pc ls (v :: .ref o :: st) h K := fun P hP => hP.2.2.2.2.2.1.2.2.2.2.2.2.2.1 k pc q ls st h K idx o ci j fs v ty g0 g1 g2 g3 g4 g5 g6 g7 g8 (p0 P hP)
theorem x_iald {sc : ax_S} {k : Nat} {pc : Nat} {q : Nat} {ls : List (Option Value)} {st : List Value} {h : ax_H} {K : ax_K} {o : Nat} {n : Nat} {f : Nat → Int32} {i : Int32} (g0 : decode (g_m k).2.1 pc = .ok (.iaload, 1)) (g1 : pc + 1 = q) (g2 : o < h.2.1) (g3 : h.1 o = .inl (false, n, f)) (g4 : vp_in i n) (p0 : Ex sc k q ls (.int (f i.toNatClampNeg) :: st) h K) : Ex sc k pc ls (.int i :: .ref o :: st) h K := fun P hP => hP.2.2.2.2.2.1.2.2.2.2.2.2.2.2 k pc q ls st h K o n f i g0 g1 g2 g3 g4 (p0 P hP)
theorem x_zald {sc : ax_S} {k : Nat} {pc : Nat} {q : Nat} {ls : List (Option Value)} {st : List Value} {h : ax_H} {K : ax_K} {o : Nat} {n : Nat} {f : Nat → Int32} {i : Int32} (g0 : decode (g_m k).2.1 pc = .ok (.baload, 1)) (g1 : pc + 1 = q) (g2 : o < h.2.1) (g3 : h.1 o = .inl (true, n, f)) (g4 : vp_in i n) (p0 : Ex sc k q ls (.int (f i.toNatClampNeg) :: st) h K) : Ex sc k pc ls (.int i :: .ref o :: st) h K := fun P hP => hP.2.2.2.2.2.2.1.1 k pc q ls st h K o n f i g0 g1 g2 g3 g4 (p0 P hP)
theorem x_iast {sc : ax_S} {k : Nat} {pc : Nat} {q : Nat} {ls : List (Option Value)} {st : List Value} {h : ax_H} {K : ax_K} {o : Nat} {n : Nat} {f : Nat → Int32} {i : Int32} {x : Int32} (g0 : decode (g_m k).2.1 pc = .ok (.iastore, 1)) (g1 : pc + 1 = q) (g2 : o < h.2.1) (g3 : h.1 o = .inl (false, n, f)) (g4 : vp_in i n) (p0 : Ex sc k q ls st (va_up h.1 o (.inl (false, n, upd f i.toNatClampNeg x)), h.2) K) : Ex sc k pc ls (.int x :: .int i :: .ref o :: st) h K := fun P hP => hP.2.2.2.2.2.2.1.2.1 k pc q ls st h K o n f i x g0 g1 g2 g3 g4 (p0 P hP)
theorem x_zast {sc : ax_S} {k : Nat} {pc : Nat} {q : Nat} {ls : List (Option Value)} {st : List Value} {h : ax_H} {K : ax_K} {o : Nat} {n : Nat} {f : Nat → Int32} {i : Int32} {x : Int32} (g0 : decode (g_m k).2.1 pc = .ok (.bastore, 1)) (g1 : pc + 1 = q) (g2 : o < h.2.1) (g3 : h.1 o = .inl (true, n, f)) (g4 : vp_in i n) (p0 : Ex sc k q ls st (va_up h.1 o (.inl (true, n, upd f i.toNatClampNeg (vp_nar .boolean x))), h.2) K) : Ex sc k pc ls (.int x :: .int i :: .ref o :: st) h K := fun P hP => hP.2.2.2.2.2.2.1.2.2.1 k pc q ls st h K o n f i x g0 g1 g2 g3 g4 (p0 P hP)
theorem x_alen {sc : ax_S} {k : Nat} {pc : Nat} {q : Nat} {ls : List (Option Value)} {st : List Value} {h : ax_H} {K : ax_K} {o : Nat} {n : Nat} {z : Bool} {f : Nat → Int32} (g0 : decode (g_m k).2.1 pc = .ok (.arraylength, 1)) (g1 : pc + 1 = q) (g2 : o < h.2.1) (g3 : h.1 o = .inl (z, n, f)) (p0 : Ex sc k q ls (.int (nI n) :: st) h K) : Ex sc k pc ls (.ref o :: st) h K := fun P hP => hP.2.2.2.2.2.2.1.2.2.2.1 k pc q ls st h K o n z f g0 g1 g2 g3 (p0 P hP)
theorem x_newI {sc : ax_S} {k : Nat} {pc : Nat} {q : Nat} {ls : List (Option Value)} {st : List Value} {h : ax_H} {K : ax_K} {i : Int32} {n : Nat} (g0 : decode (g_m k).2.1 pc = .ok (.newarray .int, 2)) (g1 : pc + 2 = q) (g2 : (Cond.arrayClass .int) ∈ gw) (g3 : ¬ i < 0) (g4 : i.toNatClampNeg = n) (g5 : n ≤ 100000) (g6 : 1 ≤ h.2.2.1) (g7 : n ≤ h.2.2.2) (p0 : Ex sc k q ls (.ref h.2.1 :: st) (va_up h.1 h.2.1 (.inl (false, n, fun _ => 0)), h.2.1 + 1, h.2.2.1 - 1, h.2.2.2 - n) K) : Ex sc k pc ls (.int i :: st) h K := fun P hP => hP.2.2.2.2.2.2.1.2.2.2.2.1 k pc q ls st h K i n g0 g1 g2 g3 g4 g5 g6 g7 (p0 P hP)
theorem x_newZ {sc : ax_S} {k : Nat} {pc : Nat} {q : Nat} {ls : List (Option Value)} {st : List Value} {h : ax_H} {K : ax_K} {i : Int32} {n : Nat} (g0 : decode (g_m k).2.1 pc = .ok (.newarray .boolean, 2)) (g1 : pc + 2 = q) (g2 : (Cond.arrayClass .boolean) ∈ gw) (g3 : ¬ i < 0) (g4 : i.toNatClampNeg = n) (g5 : n ≤ 100000) (g6 : 1 ≤ h.2.2.1) (g7 : n ≤ h.2.2.2) (p0 : Ex sc k q ls (.ref h.2.1 :: st) (va_up h.1 h.2.1 (.inl (true, n, fun _ => 0)), h.2.1 + 1, h.2.2.1 - 1, h.2.2.2 - n) K) : Ex sc k pc ls (.int i :: st) h K := fun P hP => hP.2.2.2.2.2.2.1.2.2.2.2.2.1 k pc q ls st h K i n g0 g1 g2 g3 g4 g5 g6 g7 (p0 P hP)
theorem x_new {sc : ax_S} {k : Nat} {pc : Nat} {q : Nat} {ls : List (Option Value)} {st : List Value} {h : ax_H} {K : ax_K} {idx : Nat} {ci : Nat} {N : Nat} {fs : List Value} (g0 : decode (g_m k).2.1 pc = .ok (.new idx, 3)) (g1 : pc + 3 = q) (g2 : ax_cls (g_m k).1.cls idx ci N fs) (g3 : 1 ≤ h.2.2.1) (g4 : N ≤ h.2.2.2) (p0 : Ex sc k q ls (.ref h.2.1 :: st) (va_up h.1 h.2.1 (.inr (ci, fs)), h.2.1 + 1, h.2.2.1 - 1, h.2.2.2 - N) K) : Ex sc k pc ls st h K := fun P hP => hP.2.2.2.2.2.2.1.2.2.2.2.2.2.1 k pc q ls st h K idx ci N fs g0 g1 g2 g3 g4 (p0 P hP)
theorem x_sld {sc : ax_S} {k : Nat} {pc : Nat} {q : Nat} {ls : List (Option Value)} {st : List Value} {h : ax_H} {K : ax_K} {o : Nat} {i : Int32} (g0 : decode (g_m k).2.1 pc = .ok (.iaload, 1)) (g1 : pc + 1 = q) (g2 : vp_in i sc.1) (p0 : Ex sc k q ls (.int (sc.2 i.toNatClampNeg) :: st) h K) : Ex sc k pc ls (.int i :: .retAddr o :: st) h K := fun P hP => hP.2.2.2.2.2.2.1.2.2.2.2.2.2.2.1 k pc q ls st h K o i g0 g1 g2 (p0 P hP)
theorem x_slen {sc : ax_S} {k : Nat} {pc : Nat} {q : Nat} {ls : List (Option Value)} {st : List Value} {h : ax_H} {K : ax_K} {o : Nat} (g0 : decode (g_m k).2.1 pc = .ok (.arraylength, 1)) (g1 : pc + 1 = q) (p0 : Ex sc k q ls (.int (nI sc.1) :: st) h K) : Ex sc k pc ls (.retAddr o :: st) h K := fun P hP => hP.2.2.2.2.2.2.1.2.2.2.2.2.2.2.2 k pc q ls st h K o g0 g1 (p0 P hP)
theorem x_iret {sc : ax_S} {k : Nat} {pc : Nat} {ls : List (Option Value)} {h : ax_H} {K : ax_K} {x : Int32} {ty : FieldType} (g0 : decode (g_m k).2.1 pc = .ok (.ireturn, 1)) (g1 : (g_m k).2.2.2 = some ty) (g2 : narrow ty (.int x) = .int x) (g3 : K (some (.int x)) h)  : Ex sc k pc ls [.int x] h K := fun P hP => hP.2.2.2.2.2.2.2.1.1 k pc ls h K x ty g0 g1 g2 g3 
theorem x_vret {sc : ax_S} {k : Nat} {pc : Nat} {ls : List (Option Value)} {h : ax_H} {K : ax_K} (g0 : decode (g_m k).2.1 pc = .ok (.return_, 1)) (g1 : (g_m k).2.2.2 = none) (g2 : K none h)  : Ex sc k pc ls [] h K := fun P hP => hP.2.2.2.2.2.2.2.1.2.1 k pc ls h K g0 g1 g2 
theorem x_mmax {sc : ax_S} {k : Nat} {pc : Nat} {q : Nat} {ls : List (Option Value)} {st : List Value} {h : ax_H} {K : ax_K} {idx : Nat} {x : Int32} {y : Int32} (g0 : decode (g_m k).2.1 pc = .ok (.invokestatic idx, 3)) (g1 : pc + 3 = q) (g2 : (Cond.methodLink (g_m k).1.cls idx Lib.Math.max.name) ∈ gw) (g3 : (Cond.static Lib.Math.max.name) ∈ gw) (g4 : (Cond.initialized "java/lang/Math") ∈ gw) (g5 : (Cond.code Lib.Math.max.name Lib.Math.max.code 2 (some .int)) ∈ gw) (g6 : 1 ≤ g_fr k ∧ 30 ≤ g_lo k) (g7 : (st.map fun v => v.category).sum ≤ 8) (p0 : Ex sc k q ls (.int (if x < y then y else x) :: st) h K) : Ex sc k pc ls (.int y :: .int x :: st) h K := fun P hP => hP.2.2.2.2.2.2.2.1.2.2.1 k pc q ls st h K idx x y g0 g1 g2 g3 g4 g5 g6 g7 (p0 P hP)
theorem x_mmin {sc : ax_S} {k : Nat} {pc : Nat} {q : Nat} {ls : List (Option Value)} {st : List Value} {h : ax_H} {K : ax_K} {idx : Nat} {x : Int32} {y : Int32} (g0 : decode (g_m k).2.1 pc = .ok (.invokestatic idx, 3)) (g1 : pc + 3 = q) (g2 : (Cond.methodLink (g_m k).1.cls idx Lib.Math.min.name) ∈ gw) (g3 : (Cond.static Lib.Math.min.name) ∈ gw) (g4 : (Cond.initialized "java/lang/Math") ∈ gw) (g5 : (Cond.code Lib.Math.min.name Lib.Math.min.code 2 (some .int)) ∈ gw) (g6 : 1 ≤ g_fr k ∧ 30 ≤ g_lo k) (g7 : (st.map fun v => v.category).sum ≤ 8) (p0 : Ex sc k q ls (.int (if y < x then y else x) :: st) h K) : Ex sc k pc ls (.int y :: .int x :: st) h K := fun P hP => hP.2.2.2.2.2.2.2.1.2.2.2.1 k pc q ls st h K idx x y g0 g1 g2 g3 g4 g5 g6 g7 (p0 P hP)
theorem x_mabs {sc : ax_S} {k : Nat} {pc : Nat} {q : Nat} {ls : List (Option Value)} {st : List Value} {h : ax_H} {K : ax_K} {idx : Nat} {x : Int32} (g0 : decode (g_m k).2.1 pc = .ok (.invokestatic idx, 3)) (g1 : pc + 3 = q) (g2 : (Cond.methodLink (g_m k).1.cls idx Lib.Math.abs.name) ∈ gw) (g3 : (Cond.static Lib.Math.abs.name) ∈ gw) (g4 : (Cond.initialized "java/lang/Math") ∈ gw) (g5 : (Cond.code Lib.Math.abs.name Lib.Math.abs.code 1 (some .int)) ∈ gw) (g6 : 1 ≤ g_fr k ∧ 30 ≤ g_lo k) (g7 : (st.map fun v => v.category).sum ≤ 8) (p0 : Ex sc k q ls (.int (if 0 ≤ x then x else 0 - x) :: st) h K) : Ex sc k pc ls (.int x :: st) h K := fun P hP => hP.2.2.2.2.2.2.2.1.2.2.2.2.1 k pc q ls st h K idx x g0 g1 g2 g3 g4 g5 g6 g7 (p0 P hP)
theorem x_acopy {sc : ax_S} {k : Nat} {pc : Nat} {q : Nat} {ls : List (Option Value)} {st : List Value} {h : ax_H} {K : ax_K} {idx : Nat} {o0 : Nat} {o1 : Nat} {n0 : Nat} {n1 : Nat} {f : Nat → Int32} {g : Nat → Int32} {sp : Int32} {dp : Int32} {n : Int32} (g0 : decode (g_m k).2.1 pc = .ok (.invokestatic idx, 3)) (g1 : pc + 3 = q) (g2 : (Cond.methodLink (g_m k).1.cls idx arraycopyName) ∈ gw) (g3 : (Cond.native arraycopyName) ∈ gw) (g4 : (Cond.static arraycopyName) ∈ gw) (g5 : (Cond.initialized "java/lang/System") ∈ gw) (g6 : 1 ≤ g_fr k ∧ 8 + (nativeFrameWords "java/lang/System" "arraycopy" 5 + 11) ≤ g_lo k) (g7 : (st.map fun v => v.category).sum ≤ 8) (g8 : o0 < h.2.1) (g9 : o1 < h.2.1) (g10 : h.1 o0 = .inl (false, n0, f)) (g11 : h.1 o1 = .inl (false, n1, g)) (g12 : ¬ sp < 0) (g13 : ¬ dp < 0) (g14 : ¬ n < 0) (g15 : sp.toNatClampNeg + n.toNatClampNeg ≤ n0) (g16 : dp.toNatClampNeg + n.toNatClampNeg ≤ n1) (p0 : Ex sc k q ls st (va_up h.1 o1 (.inl (false, n1, va_cpy f g sp.toNatClampNeg dp.toNatClampNeg n.toNatClampNeg)), h.2) K) : Ex sc k pc ls (.int n :: .int dp :: .ref o1 :: .int sp :: .ref o0 :: st) h K := fun P hP => hP.2.2.2.2.2.2.2.1.2.2.2.2.2.1 k pc q ls st h K idx o0 o1 n0 n1 f g sp dp n g0 g1 g2 g3 g4 g5 g6 g7 g8 g9 g10 g11 g12 g13 g14 g15 g16 (p0 P hP)
theorem x_objInit {sc : ax_S} {k : Nat} {pc : Nat} {q : Nat} {ls : List (Option Value)} {st : List Value} {h : ax_H} {K : ax_K} {idx : Nat} {o : Nat} (g0 : decode (g_m k).2.1 pc = .ok (.invokespecial idx, 3)) (g1 : pc + 3 = q) (g2 : (Cond.methodLink (g_m k).1.cls idx Lib.objectInit) ∈ gw) (g3 : (Cond.instanceMethod Lib.objectInit) ∈ gw) (g4 : (Cond.code Lib.objectInit ⟨#[0xb1]⟩ 1 none) ∈ gw) (g5 : 1 ≤ g_fr k ∧ 20 ≤ g_lo k) (g6 : (st.map fun v => v.category).sum ≤ 8) (p0 : Ex sc k q ls (st) h K) : Ex sc k pc ls (.ref o :: st) h K := fun P hP => hP.2.2.2.2.2.2.2.1.2.2.2.2.2.2.1 k pc q ls st h K idx o g0 g1 g2 g3 g4 g5 g6 (p0 P hP)
theorem x_callV {sc : ax_S} {k : Nat} {pc : Nat} {q : Nat} {ls : List (Option Value)} {rest : List Value} {h : ax_H} {K : ax_K} {idx : Nat} {z : Nat} {na : Nat} {vs : List Value} {mc : Nat} {ms : Nat} {o : Nat} {ci : Nat} {fs : List Value} (g0 : decode (g_m k).2.1 pc = .ok (.invokevirtual idx, 3)) (g1 : pc + 3 = q) (g2 : ax_lV (g_m k).1.cls idx z ci) (g3 : ax_mok z na) (g4 : ax_up z k) (g5 : vs.length = na) (g6 : ∀ v ∈ (Value.ref o :: vs), v.category = 1) (g7 : (Value.ref o :: vs).length ≤ (g_m z).2.2.1) (g8 : (rest.map fun v => v.category).sum ≤ 8) (g9 : mc ≤ h.2.2.1) (g10 : ms ≤ h.2.2.2) (g11 : o < h.2.1) (g12 : h.1 o = .inr (ci, fs)) (p0 : Ex sc z 0 (ax_en z (Value.ref o :: vs)) [] (h.1, h.2.1, mc, ms) (fun v h2 => Ex sc k q ls (ax_ps v rest) (h2.1, h2.2.1, h.2.2.1 - mc, h.2.2.2 - ms) K)) : Ex sc k pc ls (vs.reverse ++ .ref o :: rest) h K := fun P hP => hP.2.2.2.2.2.2.2.1.2.2.2.2.2.2.2.1 k pc q ls rest h K idx z na vs mc ms o ci fs g0 g1 g2 g3 g4 g5 g6 g7 g8 g9 g10 g11 g12 (hP.1.1 _ _ _ _ _ _ _ (fun v h2 hE => hE P hP) (p0 P hP))
theorem x_callS {sc : ax_S} {k : Nat} {pc : Nat} {q : Nat} {ls : List (Option Value)} {rest : List Value} {h : ax_H} {K : ax_K} {idx : Nat} {z : Nat} {na : Nat} {vs : List Value} {mc : Nat} {ms : Nat} (g0 : decode (g_m k).2.1 pc = .ok (.invokestatic idx, 3)) (g1 : pc + 3 = q) (g2 : ax_lS (g_m k).1.cls idx z) (g3 : ax_mok z na) (g4 : ax_up z k) (g5 : vs.length = na) (g6 : ∀ v ∈ (vs), v.category = 1) (g7 : (vs).length ≤ (g_m z).2.2.1) (g8 : (rest.map fun v => v.category).sum ≤ 8) (g9 : mc ≤ h.2.2.1) (g10 : ms ≤ h.2.2.2) (p0 : Ex sc z 0 (ax_en z (vs)) [] (h.1, h.2.1, mc, ms) (fun v h2 => Ex sc k q ls (ax_ps v rest) (h2.1, h2.2.1, h.2.2.1 - mc, h.2.2.2 - ms) K)) : Ex sc k pc ls (vs.reverse ++ rest) h K := fun P hP => hP.2.2.2.2.2.2.2.1.2.2.2.2.2.2.2.2 k pc q ls rest h K idx z na vs mc ms g0 g1 g2 g3 g4 g5 g6 g7 g8 g9 g10 (hP.1.1 _ _ _ _ _ _ _ (fun v h2 hE => hE P hP) (p0 P hP))
theorem x_callI {sc : ax_S} {k : Nat} {pc : Nat} {q : Nat} {ls : List (Option Value)} {rest : List Value} {h : ax_H} {K : ax_K} {idx : Nat} {z : Nat} {na : Nat} {vs : List Value} {mc : Nat} {ms : Nat} {o : Nat} (g0 : decode (g_m k).2.1 pc = .ok (.invokespecial idx, 3)) (g1 : pc + 3 = q) (g2 : ax_lI (g_m k).1.cls idx z) (g3 : ax_mok z na) (g4 : ax_up z k) (g5 : vs.length = na) (g6 : ∀ v ∈ (Value.ref o :: vs), v.category = 1) (g7 : (Value.ref o :: vs).length ≤ (g_m z).2.2.1) (g8 : (rest.map fun v => v.category).sum ≤ 8) (g9 : mc ≤ h.2.2.1) (g10 : ms ≤ h.2.2.2) (g11 : o < h.2.1) (g12 : (g_m z).2.2.2 = none) (p0 : Ex sc z 0 (ax_en z (Value.ref o :: vs)) [] (h.1, h.2.1, mc, ms) (fun v h2 => Ex sc k q ls (ax_ps v rest) (h2.1, h2.2.1, h.2.2.1 - mc, h.2.2.2 - ms) K)) : Ex sc k pc ls (vs.reverse ++ .ref o :: rest) h K := fun P hP => hP.2.2.2.2.2.2.2.2.1 k pc q ls rest h K idx z na vs mc ms o g0 g1 g2 g3 g4 g5 g6 g7 g8 g9 g10 g11 g12 (hP.1.1 _ _ _ _ _ _ _ (fun v h2 hE => hE P hP) (p0 P hP))
theorem x_lconst {sc : ax_S} {k : Nat} {pc : Nat} {q : Nat} {ls : List (Option Value)} {st : List Value} {h : ax_H} {K : ax_K} {n : Fin 2} {v : Int64} (g0 : decode (g_m k).2.1 pc = .ok (.lconst n, 1)) (g1 : pc + 1 = q) (g2 : Int64.ofNat (n : Nat) = v) (p0 : Ex sc k q ls (.long v :: st) h K) : Ex sc k pc ls (st) h K := fun P hP => hP.2.2.2.2.2.2.2.2.2.1 k pc q ls st h K n v g0 g1 g2 (p0 P hP)
theorem x_ldc2 {sc : ax_S} {k : Nat} {pc : Nat} {q : Nat} {ls : List (Option Value)} {st : List Value} {h : ax_H} {K : ax_K} {idx : Nat} {v : Int64} (g0 : decode (g_m k).2.1 pc = .ok (.ldc2_w idx, 3)) (g1 : pc + 3 = q) (g2 : (Cond.constantLong (g_m k).1.cls idx v) ∈ gw) (p0 : Ex sc k q ls (.long v :: st) h K) : Ex sc k pc ls (st) h K := fun P hP => hP.2.2.2.2.2.2.2.2.2.2.1 k pc q ls st h K idx v g0 g1 g2 (p0 P hP)
theorem x_i2l {sc : ax_S} {k : Nat} {pc : Nat} {q : Nat} {ls : List (Option Value)} {st : List Value} {h : ax_H} {K : ax_K} {x : Int32} {v : Int64} (g0 : decode (g_m k).2.1 pc = .ok (.i2l, 1)) (g1 : pc + 1 = q) (g2 : x.toInt64 = v) (p0 : Ex sc k q ls (.long v :: st) h K) : Ex sc k pc ls (.int x :: st) h K := fun P hP => hP.2.2.2.2.2.2.2.2.2.2.2.1 k pc q ls st h K x v g0 g1 g2 (p0 P hP)
theorem x_inL {sc : ax_S} {k : Nat} {pc : Nat} {q : Nat} {ls : List (Option Value)} {st : List Value} {h : ax_H} {K : ax_K} {idx : Nat} {a : Int64} {lo : Int64} {hi : Int64} (g0 : decode (g_m k).2.1 pc = .ok (.invokestatic idx, 3)) (g1 : pc + 3 = q) (g2 : ax_lS (g_m k).1.cls idx 66) (g3 : ax_mok 66 3) (g4 : ax_up 66 k) (g5 : (st.map fun v => v.category).sum ≤ 8) (p0 : Ex sc k q ls (.int (ax_in a lo hi) :: st) h K) : Ex sc k pc ls (.long hi :: .long lo :: .long a :: st) h K := fun P hP => hP.2.2.2.2.2.2.2.2.2.2.2.2 k pc q ls st h K idx a lo hi g0 g1 g2 g3 g4 g5 (p0 P hP)
