/-! the law from its entry -/
set_option maxHeartbeats 4000000 in
theorem w_law {sc : ax_S} {σ : Nat → ax_C} {K : ax_K} (hL : sc.1 ≤ 2050) (k : ∀ h, K (some (.int (zi 1))) h) : Ex sc 109 0 (ax_en 109 [.retAddr 0]) [] (σ, 0, 600000, 7302250) K := by
  show Ex sc 109 0 [some (.retAddr 0), none, none, none] [] (σ, 0, 600000, 7302250) K
  refine q_new (q := 3) d_109_0 rfl cl_L_7 (by decide) (by decide) rfl ?_
  refine x_dup (q := 4) d_109_3 rfl rfl ?_
  refine xsld_0 (q := 5) d_109_4 rfl ?_
  refine x_iconst (q := 6) (v := zi (0)) d_109_5 rfl rfl ?_
  refine xcS2 (q := 9) d_109_6 rfl lk_L_9 mo_63 ⟨by decide +kernel, by decide +kernel⟩ (by simp [Value.category]) (by decide +kernel) (by simp [Value.category])  ?_
  refine c_cell hL (by decide) ?_
  dsimp only [ax_ps]
  refine xsld_0 (q := 10) d_109_9 rfl ?_
  refine x_iconst (q := 11) (v := zi (1)) d_109_10 rfl rfl ?_
  refine xcS2 (q := 14) d_109_11 rfl lk_L_9 mo_63 ⟨by decide +kernel, by decide +kernel⟩ (by simp [Value.category]) (by decide +kernel) (by simp [Value.category])  ?_
  refine c_cell hL (by decide) ?_
  dsimp only [ax_ps]
  refine xcI2 (mc := 21) (ms := 7000) (q := 17) d_109_14 rfl lk_L_15 mo_0 ⟨by decide +kernel, by decide +kernel⟩ (by simp [Value.category]) (by decide +kernel) (by simp [Value.category]) (by decide) (by decide) (by decide) rfl ?_
  refine c_newX (cell_b sc _) (by decide) (by decide) ?_
  intro h1 b1 b2 e1
  subst e1
  dsimp only [ax_ps]
  refine xast_1 (q := 18) d_109_17 rfl ?_
  refine q_new (q := 21) d_109_18 rfl cl_L_18 (by decide) (by decide) rfl ?_
  refine x_dup (q := 22) d_109_21 rfl rfl ?_
  refine xsld_0 (q := 23) d_109_22 rfl ?_
  refine x_iconst (q := 24) (v := zi (0)) d_109_23 rfl rfl ?_
  refine xcS2 (q := 27) d_109_24 rfl lk_L_9 mo_63 ⟨by decide +kernel, by decide +kernel⟩ (by simp [Value.category]) (by decide +kernel) (by simp [Value.category])  ?_
  refine c_cell hL (by decide) ?_
  dsimp only [ax_ps]
  refine xsld_0 (q := 28) d_109_27 rfl ?_
  refine x_iconst (q := 29) (v := zi (1)) d_109_28 rfl rfl ?_
  refine xcS2 (q := 32) d_109_29 rfl lk_L_9 mo_63 ⟨by decide +kernel, by decide +kernel⟩ (by simp [Value.category]) (by decide +kernel) (by simp [Value.category])  ?_
  refine c_cell hL (by decide) ?_
  dsimp only [ax_ps]
  refine xcI2 (mc := 15) (ms := 70000) (q := 35) d_109_32 rfl lk_L_20 mo_64 ⟨by decide +kernel, by decide +kernel⟩ (by simp [Value.category]) (by decide +kernel) (by simp [Value.category]) (by decide) (by decide) (by decide) rfl ?_
  refine t_newM (cell_b sc _) (by decide) (by decide) ?_
  intro h1 b3 b4 e1
  subst e1
  dsimp only [ax_ps]
  rw [← vg_mg]
  refine xast_2 (q := 36) d_109_35 rfl ?_
  refine x_iconst (q := 37) (v := zi (2)) d_109_36 rfl rfl ?_
  refine xist_3 (q := 38) d_109_37 rfl ?_
  exact w_loop (Q := INV) hL (fun a b _ _ _ _ ha hb h => s_part ha hb h) (fun _ _ _ _ h => s_add h) (fun a _ _ _ _ ha h => s_take ha h) (fun a _ _ _ _ ha h => s_remove ha h) (fun a b _ _ _ _ ha hb h => s_bar ha hb h) (fun _ _ _ _ h => s_clean h) (fun a b _ _ _ _ ha hb h => s_rule ha hb h) (fun a _ _ _ _ ha h => s_exact ha h) (fun a b _ _ _ _ ha hb h => s_look ha hb h) (fun a b d _ _ _ _ ha hb hd h => s_brief ha hb hd h) (fun a b _ _ _ _ ha hb h => s_recall ha hb h) (fun a _ _ _ _ ha h => s_at ha h) (fun a _ _ _ _ ha h => s_far ha h) (fun a b _ _ _ _ ha hb h => s_between ha hb h) (fun _ _ _ _ h => s_steps h) (fun a _ _ _ _ ha h => s_level ha h) (fun _ _ _ _ h => s_entry h) (fun a b d _ _ _ _ ha hb hd h => s_neighbour ha hb hd h) (fun _ _ _ _ h => s_reached h) (fun a _ _ _ _ ha h => s_count ha h) k 2050 2 _ _ _ _ (by omega) (by decide) (by decide) (inv_0 _ _)
theorem kn_of {own : String} {idx ci N : Nat} {fs : List Value} (h : ax_cls own idx ci N fs) {args : Array Value} {s : State} (hts : ∀ w ∈ gw, w.before args s = true) : ∃ (cC : ClassId) (iS : Nat → Nat), ∀ q, classes[ci]? = some q → u_Kn s q.1 q.2.1 q.2.2 cC iS := by
  obtain ⟨C, T, ty, hcl, hws, _, _, hin, _⟩ := h
  obtain ⟨cC, iS, hk⟩ := u_known (C := C) (T := T) (N := N) (n := N) hts hws (hts _ hin)
  refine ⟨cC, iS, fun q hq => ?_⟩
  rw [hcl] at hq
  cases hq
  exact hk
theorem arr_of {ty : FieldType} {args : Array Value} {s : State} (h : (Cond.arrayClass ty).before args s = true) : ∃ cA : ClassId, ArrOfT s cA ty ∧ s.vm.findClass ("[" ++ ty.toString) = some cA := by
  obtain ⟨cA, kA, comp, h1, h2, h3⟩ := Cond.arrayClass_spec h
  exact ⟨cA, fun n z => ⟨fun k h => (by cases h), kA, h2, comp, h3⟩, h1⟩
/-! THE CLAIM OUT OF ONE WALK OF THE LAW'S BODY. Your part is whole_start (and what it stands on); all else here is the same for every law, but numbers. -/
def R_law : String := "VectorGraphsLaw"
def lw_P (b : Addr) (xs : List Int32) (args : Array Value) (s : State) : Prop := args = #[.ref b] ∧ s.IntsAt b xs ∧ xs.length ≤ 2050 ∧ (Jvm.Cond.and given_1 narrow_1).before args s = true
def lw_Q (_ : Array Value) (s : State) (o : Outcome) (t : State) : Prop := o = .returned (some (.int 1)) ∧ Framed s o t [] 600000 7302250
def lw_Z (below : List Frame) (a : Array Value) (s : State) : State → Prop := fun t => ∃ o, t.status = .running ∧ Ended t below o ∧ lw_Q a s o t
/-- the law's own end, with 1 on the stack, nothing written that was there before, its room as the claim has it -/
theorem lw_ret {p : Program} {l : Launch} {e : Env} {s : State} {m : MethodId} {below : List Frame} {meth : Method} {c : Code} {b : Nat} (hx : p.tables.exec = Jvm.exec) (hb : c.code = code) (hr : meth.sig.returnType = ret) (hlocks : meth.locks = false) {pc : Nat} {H : Heap} {ls : Array Slot} (hdg : decode code pc = .ok (.ireturn, 1)) : W p l e room_1 s m #[Value.ref b] below meth c H [] 600000 7302250 (lw_Z below #[Value.ref b] s) (F0 m pc ls [.int 1]) := by
  intro T hT X
  obtain ⟨fs, hret, hrun, hended, hW, hframe⟩ := X.leave (v := some (.int 1)) (hlocks := hlocks) (fun h => by rw [hr] at h; cases h)
  have hmeth' : T.vm.method? m = some meth := X.method'
  refine ⟨T.setFrames fs, ?_, .returned (some (.int 1)), hrun, hended, rfl, ⟨_, rfl⟩, hW, hframe⟩
  jvm_step X.here [X.here.top, hx, hb, hdg, hmeth', hr, ret, narrow_b1]
  (try refine ⟨rfl, ?_⟩); (try refine ⟨rfl, ?_⟩)
  first | (intro acts; rw [hret _ acts rfl rfl rfl]) | rw [hret _ _ rfl rfl rfl]
  exact Steps.refl _
/-- what holds at the law's entry: the machine, the code, the tables' words (any of lw_tbl by 'hts w (by decide +kernel)'), the script of L ints xs at the cell b, what the Statement gives of the start (any of its parts by flat_of_before) -/
def lw_At (p : Program) (s : State) (m : MethodId) (meth : Method) (c : Code) (b L : Nat) (xs : Nat → Int32) : Prop :=
  p.tables.exec = Jvm.exec ∧ c.code = code ∧ meth.sig.returnType = ret ∧ c.maxLocals = 4 ∧ s.vm.findClass R_law = some m.cls ∧ (∀ w ∈ lw_tbl, w.before #[Value.ref b] s = true) ∧ va_X b L xs s s.heap ∧ b < s.heap.size ∧ meth.locks = false ∧ (Jvm.Cond.and given_1 narrow_1).before #[Value.ref b] s = true ∧ meth.name = x.name
set_option maxHeartbeats 4000000 in
theorem whole_start {p : Program} {e : Env} {s : State} {m : MethodId} {below : List Frame} {meth : Method} {c : Code} (l : Launch) {b L : Nat} {xs : Nat → Int32} (hL : L ≤ 2050) (C0 : lw_At p s m meth c b L xs) : W p l e room_1 s m #[Value.ref b] below meth c s.heap [] 0 0 (lw_Z below #[Value.ref b] s) (entryFrame m ([Value.ref b] : List Value).toArray 4) := by
  obtain ⟨hx, hb, hr, hml, hown, hts, hX, hbl, hlocks, hgv, hnm⟩ := C0
  have hgw : ∀ w ∈ gw, w.before #[Value.ref b] s = true := fun w hw => hts w (List.mem_filter.mp hw).1
  obtain ⟨c0, i0, k0⟩ := kn_of cl_X_27 hgw
  obtain ⟨c1, i1, k1⟩ := kn_of cl_X_36 hgw
  obtain ⟨c2, i2, k2⟩ := kn_of cl_X_9 hgw
  obtain ⟨c3, i3, k3⟩ := kn_of cl_L_7 hgw
  obtain ⟨c4, i4, k4⟩ := kn_of cl_L_18 hgw
  obtain ⟨cI, aI, fI⟩ := arr_of (hgw _ wa_I)
  obtain ⟨cZ, aZ, fZ⟩ := arr_of (hgw _ wa_Z)
  have hKc : ∀ (k : Nat) (q : vw_C), classes[k]? = some q → u_Kn s q.1 q.2.1 q.2.2 (if k = 0 then c0 else if k = 1 then c1 else if k = 2 then c2 else if k = 3 then c3 else c4) (if k = 0 then i0 else if k = 1 then i1 else if k = 2 then i2 else if k = 3 then i3 else i4) := by
    intro k q hq
    match k, hq with
    | 0, hq => exact k0 q hq
    | 1, hq => exact k1 q hq
    | 2, hq => exact k2 q hq
    | 3, hq => exact k3 q hq
    | 4, hq => exact k4 q hq
    | k + 5, hq => simp [classes] at hq
  have hK : va_K (fun k => if k = 0 then c0 else if k = 1 then c1 else if k = 2 then c2 else if k = 3 then c3 else c4, fun k => if k = 0 then i0 else if k = 1 then i1 else if k = 2 then i2 else if k = 3 then i3 else i4) classes [(cI, .int), (cZ, .boolean)] s := by
    refine ⟨hKc, fun k q hq => ?_⟩
    match k, hq with
    | 0, hq => cases hq; exact ⟨aI, fI⟩
    | 1, hq => cases hq; exact ⟨aZ, fZ⟩
    | k + 2, hq => simp at hq
  have hc1 : ∀ v ∈ ([.retAddr 0] : List Value), v.category = 1 := by
    intro v hv
    rcases List.mem_singleton.mp hv with rfl
    rfl
  have hle : ([.retAddr 0] : List Value).length ≤ (g_m 109).2.2.1 := by decide +kernel
  have hent := lv_entry (([.retAddr 0] : List Value).map (ax_v b (fun _ => 0))) (n := (g_m 109).2.2.1) (by rw [ax_sl b (fun _ => 0) [.retAddr 0] hc1]; exact hle)
  change W p l e room_1 s m #[Value.ref b] below meth c s.heap [] 0 0 (lw_Z below #[Value.ref b] s) (entryFrame m (([.retAddr 0] : List Value).map (ax_v b (fun _ => 0))).toArray (g_m 109).2.2.1)
  rw [lg_entry_eq]
  generalize (lg_sl (([.retAddr 0] : List Value).map (ax_v b (fun _ => 0))) ++ List.replicate ((g_m 109).2.2.1 - (lg_sl (([.retAddr 0] : List Value).map (ax_v b (fun _ => 0)))).length) Slot.unset).toArray = ls at hent ⊢
  refine (w_law (sc := (L, xs)) (σ := fun _ => .inl (false, 0, fun _ => 0)) (K := fun v _ => v = some (.int 1)) hL (fun _ => rfl)).W (l := l) p e room_1 s m #[Value.ref b] below meth c _ cI cZ b (fun q => s.heap.size ≤ q) (fun _ => 0) s.heap [] 0 0 ls _ ⟨hx, hb, hml, hown, hgw, hK, fun _ h => h, ⟨by decide, by decide⟩, hnm, hX, hbl, Nat.not_le.mpr hbl⟩ ⟨fun k q h => (by simp [ax_w] at h), ⟨fun i j p q h => (by simp [ax_w] at h), fun k q h => (by simp [ax_w] at h)⟩, va_S.rf, fun i hi => absurd hi (Nat.not_lt_zero _)⟩ ⟨?_, fun v hv => ⟨hc1 v (ax_en_mem hv), fun i e => ?_⟩, fun v hv => (by cases hv), ax_en_len hle⟩ ⟨?_, ?_⟩ ?_
  · refine ⟨hent.1.trans (ax_en_len hle).symm, hent.2.1, fun q hq => ?_⟩
    obtain ⟨v, h1, h2⟩ := ax_pr_mem.mp hq
    apply hent.2.2
    obtain ⟨q1, q2⟩ := q
    have := ax_args b (fun _ => 0) [.retAddr 0] 0 q1 v hc1 (ax_en_get h1)
    rw [Nat.zero_add] at this
    rw [show q2 = ax_v b (fun _ => 0) v from h2]
    exact this
  · rcases List.mem_singleton.mp (ax_en_mem hv) with rfl
    cases e
  · show 0 + 600000 ≤ 600000
    decide
  · show 0 + 7302250 ≤ 7302250
    decide
  · intro v h2 ad2 H2 locs2 cc2 s2 pc2 ls2 hKv hag hnn hrk hWd hc2 hs2
    subst hKv
    refine va_forget (fun q hq => hWd.2.2.1.2.2 q hq) ?_
    refine W.widen (k := 600000) (n := 7302250) hc2 hs2 ?_
    exact lw_ret hx hb hr hlocks hrk.1
set_option maxHeartbeats 4000000 in
theorem lw_walk (l : Launch) (b : Addr) (xs : List Int32) : MetFree l x (headSpec (Jvm.Cond.code x code maxLocals ret :: tables_1) room_1) (lw_P b xs) (fun _ _ _ _ _ => True) lw_Q := by
  refine MetFree.of_bodyS (code := code) (maxLocals := maxLocals) (ret := ret) (by decide) ?_ ?_
  · intro args s m h hn
    obtain ⟨meth, c, h1, h2, h3, h4, h5, h6, -, -⟩ := Cond.code_spec hn (atoms_spec (ws := Jvm.Cond.code x code maxLocals ret :: tables_1) h _ List.mem_cons_self)
    exact ⟨meth, c, h1, h2, h3, h4, h5, h6⟩
  · intro p e s m args below meth c s₁ B hml0 hP _
    obtain ⟨rfl, hx, hbd, hgv⟩ := hP
    obtain ⟨scr, harrAt, hlist, hof, hsmall⟩ := hx
    obtain ⟨hcb, hkn, -, -⟩ := State.arrayAt?_spec harrAt
    have hown : s.vm.findClass R_law = some m.cls := findClass_of_methodNamed B.named
    have hts0 : ∀ c ∈ (Jvm.Cond.code x code maxLocals ret :: tables_1), c.before #[Value.ref b] s = true := atoms_spec (ws := Jvm.Cond.code x code maxLocals ret :: tables_1) B.pre
    have hts : ∀ w ∈ lw_tbl, w.before #[Value.ref b] s = true := k2_hts_sels lw_privs (fun w hw => hts0 w (List.mem_cons_of_mem _ hw)) lw_privs_ok
    have hml : c.maxLocals = 4 := B.maxLocals_eq (hts0 _ List.mem_cons_self)
    have X₀ : Stand p l e room_1 s m #[Value.ref b] below meth c s₁ [] 0 0 := Stand.of_body B
    have hh0 : s₁.heap = s.heap := by rw [B.state]; rfl
    have hsz : scr.slots.size = xs.length := by rw [← Array.length_toList, hlist, List.length_map]
    have hval : ∀ j : Nat, j < xs.length → scr.slots[j]? = some (.int (xs.getD j 0)) := fun j hj => by
      rw [← Array.getElem?_toList, hlist]
      simp [hj]
    have hbl : b < s.heap.size := (Array.getElem?_eq_some_iff.mp hcb).1
    have hX : va_X b xs.length (fun j => xs.getD j 0) s s.heap := ⟨scr, hcb, hof, hkn, hsz, hval⟩
    have K : W p l e room_1 s m #[Value.ref b] below meth c s₁.heap [] 0 0 (lw_Z below #[Value.ref b] s) (entryFrame m ([Value.ref b] : List Value).toArray 4) := by
      rw [hh0]
      exact whole_start l hbd ⟨B.exec, B.bytes, B.returns, hml, hown, hts, hX, hbl, B.notSynchronized, hgv, (name_of_methodNamed B.named B.method).1⟩
    obtain ⟨t, a1, o, b1, b2, b3⟩ := K s₁ rfl X₀
    exact ⟨t, o, a1, b1, b2, b3⟩
theorem lw_pre_spec {args : Array Value} {s : State} (h : (Jvm.Cond.and given_1 narrow_1).before args s = true) (hr : rest_1_c.before args s = true) : ∃ (b : Addr) (xs : List Int32), lw_P b xs args s := by
  have hs := flat_of_before _ h
  have hq := flat_of_before _ hr
  have hc : (Cond.count 1).before args s = true := hs _ (by decide +kernel)
  have harr : (Cond.arrayOf (.arg 0) .int).before args s = true := hs _ (by decide +kernel)
  have hle : (Cond.le (.length (.arg 0)) (.int 2050)).before args s = true := hs _ (by decide +kernel)
  have hlen : (Cond.isInt (.length (.arg 0))).before args s = true := hq _ (by decide +kernel)
  have hall : (Cond.all (.arg 0) (.isInt (.elem (.arg 0) (.index 0)))).before args s = true := hq _ (by decide +kernel)
  obtain ⟨b, xs, hb, hx⟩ := State.ints_of_pre rfl harr hlen hall
  have hsm : xs.length < 2 ^ 31 := hx.choose_spec.2.2.2
  have hev : (Term.length (.arg 0)).eval args s none [] s = some (.int xs.length.toInt32) := hx.length_eval hb
  have hv := Cond.le_ints hev (show (Term.int 2050).eval args s none [] s = some (.int 2050) from rfl)
  have hd : xs.length.toInt32 ≤ 2050 := by
    simpa [Cond.before, Cond.holds, hv] using hle
  have hN : xs.length ≤ 2050 := (Int32.ofNat_le_ofNat hsm (by decide)).mp (show Int32.ofNat xs.length ≤ Int32.ofNat 2050 from hd)
  exact ⟨b, xs, Cond.one_arg hc (show args[0]? = some (.ref b) from hb), hx, hN, h⟩
theorem lw_comes (l : Launch) : Comes l x (Jvm.Cond.code x code maxLocals ret :: tables_1) room_1 (fun tb e args s => Calls_1 tb e args s ∧ rest_1 tb e args s ∧ Pre_1 tb e args s)
    (fun _ _ args s o t => lw_Q args s o t) := by
  intro p e ha hc hk s m args below hf hfit hheap happ hpre
  obtain ⟨b, xs, hP⟩ := lw_pre_spec hpre.2.2 hpre.2.1
  obtain ⟨k, o, h1, h2, h3, hQ⟩ := lw_walk l b xs p e ha hc hk s m args below hf ((Spec.applies_iff_loose hf).mp happ).1 hP trivial
  exact ⟨k, o, h1, h2, h3, hQ⟩
theorem lw_frame {s t : State} {o : Outcome} {args : Array Value} (h : Framed s o t [] 600000 7302250) :
    Framed s o t (fieldLocs frame_1_writes args s ++ arrayLocs frame_1_arrays args s ++ staticLocs frame_1_statics s) 600000 7302250 := h
theorem lw_limb (L : Cond) (hL : ∀ (args : Array Value) (s t : State), L.after args s (.returned (some (.int 1))) t = true) :
    ArmFor flags0 classFile x code maxLocals ret World_1 tables_1 room_1 Calls_1 rest_1 Pre_1
      (fun tb e a s o t => postC L tb e a s o t ∧ Framed s o t (fieldLocs frame_1_writes a s ++ arrayLocs frame_1_arrays a s ++ staticLocs frame_1_statics s) 600000 7302250) := by
  intro l _ _ _ p e ha hc hk s m args below hf hfit hheap happ hpre
  obtain ⟨k, o, h1, h2, h3, rfl, hF⟩ := lw_comes l p e ha hc hk s m args below hf hfit hheap happ hpre
  exact ⟨k, _, h1, h2, h3, hL args s _, lw_frame hF⟩
theorem i_vc : Claimed_1_1 ∧ Claimed_1_2 := ⟨lw_limb limb_1_1 (fun args s t => by simp [limb_1_1, Cond.after, Cond.holds, Cond.value]), lw_limb limb_1_2 (fun args s t => Cond.after_iff.mpr (by
  first | (rw [show limb_1_2 = Cond.eq .result (.int 1) from rfl, Cond.eq_ints (x := 1) (y := 1) rfl rfl]; simp; done) | (simp [limb_1_2, Cond.value, Term.eval]; done)))⟩
