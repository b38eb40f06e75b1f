set_option maxHeartbeats 1000000 in
theorem ax_s_mono (l : Launch) (sc : ax_S) : ax_R_mono sc (ax_PW l sc) := by
  intro k pc ls st h K K2 hk P0 p e R s m args below meth c D cI cZ b A ad H locs cells slots ls' Q hA hW hF hB hR
  exact P0 p e R s m args below meth c D cI cZ b A ad H locs cells slots ls' Q hA hW hF hB (fun v h2 ad2 H2 locs2 c2 s2 pc2 ls2 hK => hR v h2 ad2 H2 locs2 c2 s2 pc2 ls2 (hk v h2 hK))
set_option maxHeartbeats 1000000 in
theorem ax_s_iconst (l : Launch) (sc : ax_S) : ax_R_iconst sc (ax_PW l sc) := by
  intro k pc q ls st h K n v g0 g1 g2 P0 p e R s m args below meth c D cI cZ b A ad H locs cells slots ls' Q hA hW hF hB hR
  subst g1
  exact lv_iconst hA.1 hA.2.1 g0 g2 (P0 p e R s m args below meth c D cI cZ b A ad H locs cells slots ls' Q hA hW ⟨hF.1, hF.2.1, ax_oi hF.2.2.1, hF.2.2.2⟩ hB hR)
set_option maxHeartbeats 1000000 in
theorem ax_s_bipush (l : Launch) (sc : ax_S) : ax_R_bipush sc (ax_PW l sc) := by
  intro k pc q ls st h K n v g0 g1 g2 P0 p e R s m args below meth c D cI cZ b A ad H locs cells slots ls' Q hA hW hF hB hR
  subst g1
  exact lv_bipush hA.1 hA.2.1 g0 g2 (P0 p e R s m args below meth c D cI cZ b A ad H locs cells slots ls' Q hA hW ⟨hF.1, hF.2.1, ax_oi hF.2.2.1, hF.2.2.2⟩ hB hR)
set_option maxHeartbeats 1000000 in
theorem ax_s_sipush (l : Launch) (sc : ax_S) : ax_R_sipush sc (ax_PW l sc) := by
  intro k pc q ls st h K n v g0 g1 g2 P0 p e R s m args below meth c D cI cZ b A ad H locs cells slots ls' Q hA hW hF hB hR
  subst g1
  exact lv_sipush hA.1 hA.2.1 g0 g2 (P0 p e R s m args below meth c D cI cZ b A ad H locs cells slots ls' Q hA hW ⟨hF.1, hF.2.1, ax_oi hF.2.2.1, hF.2.2.2⟩ hB hR)
set_option maxHeartbeats 1000000 in
theorem ax_s_ldc (l : Launch) (sc : ax_S) : ax_R_ldc sc (ax_PW l sc) := by
  intro k pc q ls st h K idx v g0 g1 g2 P0 p e R s m args below meth c D cI cZ b A ad H locs cells slots ls' Q hA hW hF hB hR
  subst g1
  exact lv_ldc hA.1 hA.2.1 hA.2.2.2.1 (hA.2.2.2.2.1 _ g2) g0 (P0 p e R s m args below meth c D cI cZ b A ad H locs cells slots ls' Q hA hW ⟨hF.1, hF.2.1, ax_oi hF.2.2.1, hF.2.2.2⟩ hB hR)
set_option maxHeartbeats 1000000 in
theorem ax_s_ldcw (l : Launch) (sc : ax_S) : ax_R_ldcw sc (ax_PW l sc) := by
  intro k pc q ls st h K idx v g0 g1 g2 P0 p e R s m args below meth c D cI cZ b A ad H locs cells slots ls' Q hA hW hF hB hR
  subst g1
  exact lv_ldcw hA.1 hA.2.1 hA.2.2.2.1 (hA.2.2.2.2.1 _ g2) g0 (P0 p e R s m args below meth c D cI cZ b A ad H locs cells slots ls' Q hA hW ⟨hF.1, hF.2.1, ax_oi hF.2.2.1, hF.2.2.2⟩ hB hR)
set_option maxHeartbeats 1000000 in
theorem ax_s_null (l : Launch) (sc : ax_S) : ax_R_null sc (ax_PW l sc) := by
  intro k pc q ls st h K g0 g1 P0 p e R s m args below meth c D cI cZ b A ad H locs cells slots ls' Q hA hW hF hB hR
  subst g1
  exact lv_null hA.1 hA.2.1 g0 (P0 p e R s m args below meth c D cI cZ b A ad H locs cells slots ls' Q hA hW ⟨hF.1, hF.2.1, ax_on hF.2.2.1, hF.2.2.2⟩ hB hR)
set_option maxHeartbeats 1000000 in
theorem ax_s_iload (l : Launch) (sc : ax_S) : ax_R_iload sc (ax_PW l sc) := by
  intro k pc q ls st h K i x g0 g1 g2 P0 p e R s m args below meth c D cI cZ b A ad H locs cells slots ls' Q hA hW hF hB hR
  subst g1
  exact lv_iload hA.1 hA.2.1 g0 (hF.1.2.2 (i, _) (ax_pr_mem.mpr ⟨_, g2, rfl⟩)) (P0 p e R s m args below meth c D cI cZ b A ad H locs cells slots ls' Q hA hW ⟨hF.1, hF.2.1, ax_oi hF.2.2.1, hF.2.2.2⟩ hB hR)
set_option maxHeartbeats 1000000 in
theorem ax_s_iload_n (l : Launch) (sc : ax_S) : ax_R_iload_n sc (ax_PW l sc) := by
  intro k pc q ls st h K i x j g0 g1 g2 g3 P0 p e R s m args below meth c D cI cZ b A ad H locs cells slots ls' Q hA hW hF hB hR
  subst g1
  exact lv_iload_n hA.1 hA.2.1 g0 g2 (hF.1.2.2 (i, _) (ax_pr_mem.mpr ⟨_, g3, rfl⟩)) (P0 p e R s m args below meth c D cI cZ b A ad H locs cells slots ls' Q hA hW ⟨hF.1, hF.2.1, ax_oi hF.2.2.1, hF.2.2.2⟩ hB hR)
set_option maxHeartbeats 1000000 in
theorem ax_s_aload (l : Launch) (sc : ax_S) : ax_R_aload sc (ax_PW l sc) := by
  intro k pc q ls st h K i o g0 g1 g2 P0 p e R s m args below meth c D cI cZ b A ad H locs cells slots ls' Q hA hW hF hB hR
  subst g1
  exact lv_aload hA.1 hA.2.1 g0 (hF.1.2.2 (i, _) (ax_pr_mem.mpr ⟨_, g2, rfl⟩)) (P0 p e R s m args below meth c D cI cZ b A ad H locs cells slots ls' Q hA hW ⟨hF.1, hF.2.1, ax_oc (hF.2.1 _ (List.mem_of_getElem? g2)).2 hF.2.2.1, hF.2.2.2⟩ hB hR)
set_option maxHeartbeats 1000000 in
theorem ax_s_aload_n (l : Launch) (sc : ax_S) : ax_R_aload_n sc (ax_PW l sc) := by
  intro k pc q ls st h K i o j g0 g1 g2 g3 P0 p e R s m args below meth c D cI cZ b A ad H locs cells slots ls' Q hA hW hF hB hR
  subst g1
  exact lv_aload_n hA.1 hA.2.1 g0 g2 (hF.1.2.2 (i, _) (ax_pr_mem.mpr ⟨_, g3, rfl⟩)) (P0 p e R s m args below meth c D cI cZ b A ad H locs cells slots ls' Q hA hW ⟨hF.1, hF.2.1, ax_oc (hF.2.1 _ (List.mem_of_getElem? g3)).2 hF.2.2.1, hF.2.2.2⟩ hB hR)
set_option maxHeartbeats 1000000 in
theorem ax_s_aloadS (l : Launch) (sc : ax_S) : ax_R_aloadS sc (ax_PW l sc) := by
  intro k pc q ls st h K i o g0 g1 g2 P0 p e R s m args below meth c D cI cZ b A ad H locs cells slots ls' Q hA hW hF hB hR
  subst g1
  exact lv_aload hA.1 hA.2.1 g0 (hF.1.2.2 (i, _) (ax_pr_mem.mpr ⟨_, g2, rfl⟩)) (P0 p e R s m args below meth c D cI cZ b A ad H locs cells slots ls' Q hA hW ⟨hF.1, hF.2.1, ax_oc (hF.2.1 _ (List.mem_of_getElem? g2)).2 hF.2.2.1, hF.2.2.2⟩ hB hR)
set_option maxHeartbeats 1000000 in
theorem ax_s_aload_nS (l : Launch) (sc : ax_S) : ax_R_aload_nS sc (ax_PW l sc) := by
  intro k pc q ls st h K i o j g0 g1 g2 g3 P0 p e R s m args below meth c D cI cZ b A ad H locs cells slots ls' Q hA hW hF hB hR
  subst g1
  exact lv_aload_n hA.1 hA.2.1 g0 g2 (hF.1.2.2 (i, _) (ax_pr_mem.mpr ⟨_, g3, rfl⟩)) (P0 p e R s m args below meth c D cI cZ b A ad H locs cells slots ls' Q hA hW ⟨hF.1, hF.2.1, ax_oc (hF.2.1 _ (List.mem_of_getElem? g3)).2 hF.2.2.1, hF.2.2.2⟩ hB hR)
set_option maxHeartbeats 1000000 in
theorem ax_s_istore (l : Launch) (sc : ax_S) : ax_R_istore sc (ax_PW l sc) := by
  intro k pc q ls st h K i x g0 g1 g2 P0 p e R s m args below meth c D cI cZ b A ad H locs cells slots ls' Q hA hW hF hB hR
  subst g1
  exact lv_istore hA.1 hA.2.1 g0 hF.1 g2 rfl (fun ls2 h2 => P0 p e R s m args below meth c D cI cZ b A ad H locs cells slots ls2 Q hA hW (ax_store (x := .int x) (ax_tl hF) g2 h2 rfl rfl (fun _ e => by cases e)) hB hR)
set_option maxHeartbeats 1000000 in
theorem ax_s_istore_n (l : Launch) (sc : ax_S) : ax_R_istore_n sc (ax_PW l sc) := by
  intro k pc q ls st h K i x j g0 g1 g2 g3 P0 p e R s m args below meth c D cI cZ b A ad H locs cells slots ls' Q hA hW hF hB hR
  subst g1
  exact lv_istore_n hA.1 hA.2.1 g0 g2 hF.1 g3 rfl (fun ls2 h2 => P0 p e R s m args below meth c D cI cZ b A ad H locs cells slots ls2 Q hA hW (ax_store (x := .int x) (ax_tl hF) g3 h2 rfl rfl (fun _ e => by cases e)) hB hR)
set_option maxHeartbeats 1000000 in
theorem ax_s_astore (l : Launch) (sc : ax_S) : ax_R_astore sc (ax_PW l sc) := by
  intro k pc q ls st h K i o g0 g1 g2 P0 p e R s m args below meth c D cI cZ b A ad H locs cells slots ls' Q hA hW hF hB hR
  subst g1
  exact lv_astore hA.1 hA.2.1 g0 hF.1 g2 rfl (fun ls2 h2 => P0 p e R s m args below meth c D cI cZ b A ad H locs cells slots ls2 Q hA hW (ax_store (x := .ref o) (ax_tl hF) g2 h2 rfl rfl (ax_oh hF.2.2.1)) hB hR)
set_option maxHeartbeats 1000000 in
theorem ax_s_astore_n (l : Launch) (sc : ax_S) : ax_R_astore_n sc (ax_PW l sc) := by
  intro k pc q ls st h K i o j g0 g1 g2 g3 P0 p e R s m args below meth c D cI cZ b A ad H locs cells slots ls' Q hA hW hF hB hR
  subst g1
  exact lv_astore_n hA.1 hA.2.1 g0 g2 hF.1 g3 rfl (fun ls2 h2 => P0 p e R s m args below meth c D cI cZ b A ad H locs cells slots ls2 Q hA hW (ax_store (x := .ref o) (ax_tl hF) g3 h2 rfl rfl (ax_oh hF.2.2.1)) hB hR)
set_option maxHeartbeats 1000000 in
theorem ax_s_iinc (l : Launch) (sc : ax_S) : ax_R_iinc sc (ax_PW l sc) := by
  intro k pc q ls st h K i n x v g0 g1 g2 g3 P0 p e R s m args below meth c D cI cZ b A ad H locs cells slots ls' Q hA hW hF hB hR
  subst g1
  have hm : (i, Value.int x) ∈ ax_pr b ad ls := ax_pr_mem.mpr ⟨_, g2, rfl⟩
  obtain ⟨j, hj⟩ := List.getElem?_of_mem hm
  have hil := (List.getElem?_eq_some_iff.mp g2).1
  exact lv_iinc hA.1 hA.2.1 g0 hF.1 hj g3 hil rfl (fun ls2 h2 => P0 p e R s m args below meth c D cI cZ b A ad H locs cells slots ls2 Q hA hW (ax_store (x := .int v) hF hil h2 rfl rfl (fun _ e => by cases e)) hB hR)
set_option maxHeartbeats 1000000 in
theorem ax_s_iadd (l : Launch) (sc : ax_S) : ax_R_iadd sc (ax_PW l sc) := by
  intro k pc q ls st h K x y g0 g1 P0 p e R s m args below meth c D cI cZ b A ad H locs cells slots ls' Q hA hW hF hB hR
  subst g1
  exact lv_iadd hA.1 hA.2.1 g0 (P0 p e R s m args below meth c D cI cZ b A ad H locs cells slots ls' Q hA hW ⟨hF.1, hF.2.1, ax_oi (ax_ot (ax_ot hF.2.2.1)), hF.2.2.2⟩ hB hR)
set_option maxHeartbeats 1000000 in
theorem ax_s_isub (l : Launch) (sc : ax_S) : ax_R_isub sc (ax_PW l sc) := by
  intro k pc q ls st h K x y g0 g1 P0 p e R s m args below meth c D cI cZ b A ad H locs cells slots ls' Q hA hW hF hB hR
  subst g1
  exact lv_isub hA.1 hA.2.1 g0 (P0 p e R s m args below meth c D cI cZ b A ad H locs cells slots ls' Q hA hW ⟨hF.1, hF.2.1, ax_oi (ax_ot (ax_ot hF.2.2.1)), hF.2.2.2⟩ hB hR)
set_option maxHeartbeats 1000000 in
theorem ax_s_imul (l : Launch) (sc : ax_S) : ax_R_imul sc (ax_PW l sc) := by
  intro k pc q ls st h K x y g0 g1 P0 p e R s m args below meth c D cI cZ b A ad H locs cells slots ls' Q hA hW hF hB hR
  subst g1
  exact lv_imul hA.1 hA.2.1 g0 (P0 p e R s m args below meth c D cI cZ b A ad H locs cells slots ls' Q hA hW ⟨hF.1, hF.2.1, ax_oi (ax_ot (ax_ot hF.2.2.1)), hF.2.2.2⟩ hB hR)
set_option maxHeartbeats 1000000 in
theorem ax_s_iand (l : Launch) (sc : ax_S) : ax_R_iand sc (ax_PW l sc) := by
  intro k pc q ls st h K x y g0 g1 P0 p e R s m args below meth c D cI cZ b A ad H locs cells slots ls' Q hA hW hF hB hR
  subst g1
  exact lv_iand hA.1 hA.2.1 g0 (P0 p e R s m args below meth c D cI cZ b A ad H locs cells slots ls' Q hA hW ⟨hF.1, hF.2.1, ax_oi (ax_ot (ax_ot hF.2.2.1)), hF.2.2.2⟩ hB hR)
set_option maxHeartbeats 1000000 in
theorem ax_s_ior (l : Launch) (sc : ax_S) : ax_R_ior sc (ax_PW l sc) := by
  intro k pc q ls st h K x y g0 g1 P0 p e R s m args below meth c D cI cZ b A ad H locs cells slots ls' Q hA hW hF hB hR
  subst g1
  exact lv_ior hA.1 hA.2.1 g0 (P0 p e R s m args below meth c D cI cZ b A ad H locs cells slots ls' Q hA hW ⟨hF.1, hF.2.1, ax_oi (ax_ot (ax_ot hF.2.2.1)), hF.2.2.2⟩ hB hR)
set_option maxHeartbeats 1000000 in
theorem ax_s_ixor (l : Launch) (sc : ax_S) : ax_R_ixor sc (ax_PW l sc) := by
  intro k pc q ls st h K x y g0 g1 P0 p e R s m args below meth c D cI cZ b A ad H locs cells slots ls' Q hA hW hF hB hR
  subst g1
  exact lv_ixor hA.1 hA.2.1 g0 (P0 p e R s m args below meth c D cI cZ b A ad H locs cells slots ls' Q hA hW ⟨hF.1, hF.2.1, ax_oi (ax_ot (ax_ot hF.2.2.1)), hF.2.2.2⟩ hB hR)
set_option maxHeartbeats 1000000 in
theorem ax_s_ishl (l : Launch) (sc : ax_S) : ax_R_ishl sc (ax_PW l sc) := by
  intro k pc q ls st h K x y g0 g1 P0 p e R s m args below meth c D cI cZ b A ad H locs cells slots ls' Q hA hW hF hB hR
  subst g1
  exact lv_ishl hA.1 hA.2.1 g0 (P0 p e R s m args below meth c D cI cZ b A ad H locs cells slots ls' Q hA hW ⟨hF.1, hF.2.1, ax_oi (ax_ot (ax_ot hF.2.2.1)), hF.2.2.2⟩ hB hR)
set_option maxHeartbeats 1000000 in
theorem ax_s_ishr (l : Launch) (sc : ax_S) : ax_R_ishr sc (ax_PW l sc) := by
  intro k pc q ls st h K x y g0 g1 P0 p e R s m args below meth c D cI cZ b A ad H locs cells slots ls' Q hA hW hF hB hR
  subst g1
  exact lv_ishr hA.1 hA.2.1 g0 (P0 p e R s m args below meth c D cI cZ b A ad H locs cells slots ls' Q hA hW ⟨hF.1, hF.2.1, ax_oi (ax_ot (ax_ot hF.2.2.1)), hF.2.2.2⟩ hB hR)
set_option maxHeartbeats 1000000 in
theorem ax_s_iushr (l : Launch) (sc : ax_S) : ax_R_iushr sc (ax_PW l sc) := by
  intro k pc q ls st h K x y g0 g1 P0 p e R s m args below meth c D cI cZ b A ad H locs cells slots ls' Q hA hW hF hB hR
  subst g1
  exact lv_iushr hA.1 hA.2.1 g0 rfl (P0 p e R s m args below meth c D cI cZ b A ad H locs cells slots ls' Q hA hW ⟨hF.1, hF.2.1, ax_oi (ax_ot (ax_ot hF.2.2.1)), hF.2.2.2⟩ hB hR)
set_option maxHeartbeats 1000000 in
theorem ax_s_idiv (l : Launch) (sc : ax_S) : ax_R_idiv sc (ax_PW l sc) := by
  intro k pc q ls st h K x y g0 g1 g2 P0 p e R s m args below meth c D cI cZ b A ad H locs cells slots ls' Q hA hW hF hB hR
  subst g1
  exact lv_idiv hA.1 hA.2.1 g0 g2 (P0 p e R s m args below meth c D cI cZ b A ad H locs cells slots ls' Q hA hW ⟨hF.1, hF.2.1, ax_oi (ax_ot (ax_ot hF.2.2.1)), hF.2.2.2⟩ hB hR)
set_option maxHeartbeats 1000000 in
theorem ax_s_irem (l : Launch) (sc : ax_S) : ax_R_irem sc (ax_PW l sc) := by
  intro k pc q ls st h K x y g0 g1 g2 P0 p e R s m args below meth c D cI cZ b A ad H locs cells slots ls' Q hA hW hF hB hR
  subst g1
  exact lv_irem hA.1 hA.2.1 g0 g2 (P0 p e R s m args below meth c D cI cZ b A ad H locs cells slots ls' Q hA hW ⟨hF.1, hF.2.1, ax_oi (ax_ot (ax_ot hF.2.2.1)), hF.2.2.2⟩ hB hR)
set_option maxHeartbeats 1000000 in
theorem ax_s_ineg (l : Launch) (sc : ax_S) : ax_R_ineg sc (ax_PW l sc) := by
  intro k pc q ls st h K x g0 g1 P0 p e R s m args below meth c D cI cZ b A ad H locs cells slots ls' Q hA hW hF hB hR
  subst g1
  exact lv_ineg hA.1 hA.2.1 g0 (P0 p e R s m args below meth c D cI cZ b A ad H locs cells slots ls' Q hA hW ⟨hF.1, hF.2.1, ax_oi (ax_ot hF.2.2.1), hF.2.2.2⟩ hB hR)
set_option maxHeartbeats 1000000 in
theorem ax_s_dup (l : Launch) (sc : ax_S) : ax_R_dup sc (ax_PW l sc) := by
  intro k pc q ls st h K x g0 g1 g2 P0 p e R s m args below meth c D cI cZ b A ad H locs cells slots ls' Q hA hW hF hB hR
  subst g1
  exact lv_dup hA.1 hA.2.1 g0 (ax_cat1 g2) (P0 p e R s m args below meth c D cI cZ b A ad H locs cells slots ls' Q hA hW ⟨hF.1, hF.2.1, ax_oc (ax_oh hF.2.2.1) hF.2.2.1, hF.2.2.2⟩ hB hR)
set_option maxHeartbeats 1000000 in
theorem ax_s_pop (l : Launch) (sc : ax_S) : ax_R_pop sc (ax_PW l sc) := by
  intro k pc q ls st h K x g0 g1 g2 P0 p e R s m args below meth c D cI cZ b A ad H locs cells slots ls' Q hA hW hF hB hR
  subst g1
  exact lv_pop hA.1 hA.2.1 g0 (ax_cat1 g2) (P0 p e R s m args below meth c D cI cZ b A ad H locs cells slots ls' Q hA hW ⟨hF.1, hF.2.1, ax_ot hF.2.2.1, hF.2.2.2⟩ hB hR)
set_option maxHeartbeats 1000000 in
theorem ax_s_dup_x1 (l : Launch) (sc : ax_S) : ax_R_dup_x1 sc (ax_PW l sc) := by
  intro k pc q ls st h K x y g0 g1 g2 g3 P0 p e R s m args below meth c D cI cZ b A ad H locs cells slots ls' Q hA hW hF hB hR
  subst g1
  exact lv_dup_x1 hA.1 hA.2.1 g0 (ax_cat1 g2) (ax_cat1 g3) (P0 p e R s m args below meth c D cI cZ b A ad H locs cells slots ls' Q hA hW ⟨hF.1, hF.2.1, ax_oc (ax_oh hF.2.2.1) (ax_oc (ax_oh (ax_ot hF.2.2.1)) (ax_oc (ax_oh hF.2.2.1) (ax_ot (ax_ot hF.2.2.1)))), hF.2.2.2⟩ hB hR)
set_option maxHeartbeats 1000000 in
theorem ax_s_dup_x2 (l : Launch) (sc : ax_S) : ax_R_dup_x2 sc (ax_PW l sc) := by
  intro k pc q ls st h K x y z g0 g1 g2 g3 g4 P0 p e R s m args below meth c D cI cZ b A ad H locs cells slots ls' Q hA hW hF hB hR
  subst g1
  exact lv_dup_x2 hA.1 hA.2.1 g0 (ax_cat1 g2) (ax_cat1 g3) (ax_cat1 g4) (P0 p e R s m args below meth c D cI cZ b A ad H locs cells slots ls' Q hA hW ⟨hF.1, hF.2.1, ax_oc (ax_oh hF.2.2.1) (ax_oc (ax_oh (ax_ot hF.2.2.1)) (ax_oc (ax_oh (ax_ot (ax_ot hF.2.2.1))) (ax_oc (ax_oh hF.2.2.1) (ax_ot (ax_ot (ax_ot hF.2.2.1)))))), hF.2.2.2⟩ hB hR)
set_option maxHeartbeats 1000000 in
theorem ax_s_dup2 (l : Launch) (sc : ax_S) : ax_R_dup2 sc (ax_PW l sc) := by
  intro k pc q ls st h K x y g0 g1 g2 g3 P0 p e R s m args below meth c D cI cZ b A ad H locs cells slots ls' Q hA hW hF hB hR
  subst g1
  exact lv_dup2_11 hA.1 hA.2.1 g0 (ax_cat1 g2) (ax_cat1 g3) (P0 p e R s m args below meth c D cI cZ b A ad H locs cells slots ls' Q hA hW ⟨hF.1, hF.2.1, ax_oc (ax_oh hF.2.2.1) (ax_oc (ax_oh (ax_ot hF.2.2.1)) hF.2.2.1), hF.2.2.2⟩ hB hR)
set_option maxHeartbeats 1000000 in
theorem ax_s_goto (l : Launch) (sc : ax_S) : ax_R_goto sc (ax_PW l sc) := by
  intro k pc ls st h K off t g0 g1 P0 p e R s m args below meth c D cI cZ b A ad H locs cells slots ls' Q hA hW hF hB hR
  exact lv_goto hA.1 hA.2.1 g0 g1 (P0 p e R s m args below meth c D cI cZ b A ad H locs cells slots ls' Q hA hW hF hB hR)
set_option maxHeartbeats 1000000 in
theorem ax_s_if_eq (l : Launch) (sc : ax_S) : ax_R_if_eq sc (ax_PW l sc) := by
  intro k pc q ls st h K off t x g0 g1 g2 P0 P1 p e R s m args below meth c D cI cZ b A ad H locs cells slots ls' Q hA hW hF hB hR
  subst g2
  exact lv_if_eq hA.1 hA.2.1 g0 g1 (fun z => P0 z p e R s m args below meth c D cI cZ b A ad H locs cells slots ls' Q hA hW (ax_tl hF) hB hR) (fun z => P1 z p e R s m args below meth c D cI cZ b A ad H locs cells slots ls' Q hA hW (ax_tl hF) hB hR)
set_option maxHeartbeats 1000000 in
theorem ax_s_if_ne (l : Launch) (sc : ax_S) : ax_R_if_ne sc (ax_PW l sc) := by
  intro k pc q ls st h K off t x g0 g1 g2 P0 P1 p e R s m args below meth c D cI cZ b A ad H locs cells slots ls' Q hA hW hF hB hR
  subst g2
  exact lv_if_ne hA.1 hA.2.1 g0 g1 (fun z => P0 z p e R s m args below meth c D cI cZ b A ad H locs cells slots ls' Q hA hW (ax_tl hF) hB hR) (fun z => P1 z p e R s m args below meth c D cI cZ b A ad H locs cells slots ls' Q hA hW (ax_tl hF) hB hR)
set_option maxHeartbeats 1000000 in
theorem ax_s_if_lt (l : Launch) (sc : ax_S) : ax_R_if_lt sc (ax_PW l sc) := by
  intro k pc q ls st h K off t x g0 g1 g2 P0 P1 p e R s m args below meth c D cI cZ b A ad H locs cells slots ls' Q hA hW hF hB hR
  subst g2
  exact lv_if_lt hA.1 hA.2.1 g0 g1 (fun z => P0 z p e R s m args below meth c D cI cZ b A ad H locs cells slots ls' Q hA hW (ax_tl hF) hB hR) (fun z => P1 z p e R s m args below meth c D cI cZ b A ad H locs cells slots ls' Q hA hW (ax_tl hF) hB hR)
set_option maxHeartbeats 1000000 in
theorem ax_s_if_ge (l : Launch) (sc : ax_S) : ax_R_if_ge sc (ax_PW l sc) := by
  intro k pc q ls st h K off t x g0 g1 g2 P0 P1 p e R s m args below meth c D cI cZ b A ad H locs cells slots ls' Q hA hW hF hB hR
  subst g2
  exact lv_if_ge hA.1 hA.2.1 g0 g1 (fun z => P0 z p e R s m args below meth c D cI cZ b A ad H locs cells slots ls' Q hA hW (ax_tl hF) hB hR) (fun z => P1 z p e R s m args below meth c D cI cZ b A ad H locs cells slots ls' Q hA hW (ax_tl hF) hB hR)
set_option maxHeartbeats 1000000 in
theorem ax_s_if_gt (l : Launch) (sc : ax_S) : ax_R_if_gt sc (ax_PW l sc) := by
  intro k pc q ls st h K off t x g0 g1 g2 P0 P1 p e R s m args below meth c D cI cZ b A ad H locs cells slots ls' Q hA hW hF hB hR
  subst g2
  exact lv_if_gt hA.1 hA.2.1 g0 g1 (fun z => P0 z p e R s m args below meth c D cI cZ b A ad H locs cells slots ls' Q hA hW (ax_tl hF) hB hR) (fun z => P1 z p e R s m args below meth c D cI cZ b A ad H locs cells slots ls' Q hA hW (ax_tl hF) hB hR)
set_option maxHeartbeats 1000000 in
theorem ax_s_if_le (l : Launch) (sc : ax_S) : ax_R_if_le sc (ax_PW l sc) := by
  intro k pc q ls st h K off t x g0 g1 g2 P0 P1 p e R s m args below meth c D cI cZ b A ad H locs cells slots ls' Q hA hW hF hB hR
  subst g2
  exact lv_if_le hA.1 hA.2.1 g0 g1 (fun z => P0 z p e R s m args below meth c D cI cZ b A ad H locs cells slots ls' Q hA hW (ax_tl hF) hB hR) (fun z => P1 z p e R s m args below meth c D cI cZ b A ad H locs cells slots ls' Q hA hW (ax_tl hF) hB hR)
set_option maxHeartbeats 1000000 in
theorem ax_s_icmp_eq (l : Launch) (sc : ax_S) : ax_R_icmp_eq sc (ax_PW l sc) := by
  intro k pc q ls st h K off t x y g0 g1 g2 P0 P1 p e R s m args below meth c D cI cZ b A ad H locs cells slots ls' Q hA hW hF hB hR
  subst g2
  exact lv_icmp_eq hA.1 hA.2.1 g0 g1 (fun z => P0 z p e R s m args below meth c D cI cZ b A ad H locs cells slots ls' Q hA hW (ax_tl (ax_tl hF)) hB hR) (fun z => P1 z p e R s m args below meth c D cI cZ b A ad H locs cells slots ls' Q hA hW (ax_tl (ax_tl hF)) hB hR)
set_option maxHeartbeats 1000000 in
theorem ax_s_icmp_ne (l : Launch) (sc : ax_S) : ax_R_icmp_ne sc (ax_PW l sc) := by
  intro k pc q ls st h K off t x y g0 g1 g2 P0 P1 p e R s m args below meth c D cI cZ b A ad H locs cells slots ls' Q hA hW hF hB hR
  subst g2
  exact lv_icmp_ne hA.1 hA.2.1 g0 g1 (fun z => P0 z p e R s m args below meth c D cI cZ b A ad H locs cells slots ls' Q hA hW (ax_tl (ax_tl hF)) hB hR) (fun z => P1 z p e R s m args below meth c D cI cZ b A ad H locs cells slots ls' Q hA hW (ax_tl (ax_tl hF)) hB hR)
set_option maxHeartbeats 1000000 in
theorem ax_s_icmp_lt (l : Launch) (sc : ax_S) : ax_R_icmp_lt sc (ax_PW l sc) := by
  intro k pc q ls st h K off t x y g0 g1 g2 P0 P1 p e R s m args below meth c D cI cZ b A ad H locs cells slots ls' Q hA hW hF hB hR
  subst g2
  exact lv_icmp_lt hA.1 hA.2.1 g0 g1 (fun z => P0 z p e R s m args below meth c D cI cZ b A ad H locs cells slots ls' Q hA hW (ax_tl (ax_tl hF)) hB hR) (fun z => P1 z p e R s m args below meth c D cI cZ b A ad H locs cells slots ls' Q hA hW (ax_tl (ax_tl hF)) hB hR)
set_option maxHeartbeats 1000000 in
theorem ax_s_icmp_ge (l : Launch) (sc : ax_S) : ax_R_icmp_ge sc (ax_PW l sc) := by
  intro k pc q ls st h K off t x y g0 g1 g2 P0 P1 p e R s m args below meth c D cI cZ b A ad H locs cells slots ls' Q hA hW hF hB hR
  subst g2
  exact lv_icmp_ge hA.1 hA.2.1 g0 g1 (fun z => P0 z p e R s m args below meth c D cI cZ b A ad H locs cells slots ls' Q hA hW (ax_tl (ax_tl hF)) hB hR) (fun z => P1 z p e R s m args below meth c D cI cZ b A ad H locs cells slots ls' Q hA hW (ax_tl (ax_tl hF)) hB hR)
set_option maxHeartbeats 1000000 in
theorem ax_s_icmp_gt (l : Launch) (sc : ax_S) : ax_R_icmp_gt sc (ax_PW l sc) := by
  intro k pc q ls st h K off t x y g0 g1 g2 P0 P1 p e R s m args below meth c D cI cZ b A ad H locs cells slots ls' Q hA hW hF hB hR
  subst g2
  exact lv_icmp_gt hA.1 hA.2.1 g0 g1 (fun z => P0 z p e R s m args below meth c D cI cZ b A ad H locs cells slots ls' Q hA hW (ax_tl (ax_tl hF)) hB hR) (fun z => P1 z p e R s m args below meth c D cI cZ b A ad H locs cells slots ls' Q hA hW (ax_tl (ax_tl hF)) hB hR)
set_option maxHeartbeats 1000000 in
theorem ax_s_icmp_le (l : Launch) (sc : ax_S) : ax_R_icmp_le sc (ax_PW l sc) := by
  intro k pc q ls st h K off t x y g0 g1 g2 P0 P1 p e R s m args below meth c D cI cZ b A ad H locs cells slots ls' Q hA hW hF hB hR
  subst g2
  exact lv_icmp_le hA.1 hA.2.1 g0 g1 (fun z => P0 z p e R s m args below meth c D cI cZ b A ad H locs cells slots ls' Q hA hW (ax_tl (ax_tl hF)) hB hR) (fun z => P1 z p e R s m args below meth c D cI cZ b A ad H locs cells slots ls' Q hA hW (ax_tl (ax_tl hF)) hB hR)
set_option maxHeartbeats 1000000 in
theorem ax_s_tableIn (l : Launch) (sc : ax_S) : ax_R_tableIn sc (ax_PW l sc) := by
  intro k pc ls st h K d lo hi offs len x off t g0 g1 g2 g3 g4 P0 p e R s m args below meth c D cI cZ b A ad H locs cells slots ls' Q hA hW hF hB hR
  exact lv_tableIn hA.1 hA.2.1 g0 g1 g2 g3 g4 (P0 p e R s m args below meth c D cI cZ b A ad H locs cells slots ls' Q hA hW (ax_tl hF) hB hR)
set_option maxHeartbeats 1000000 in
theorem ax_s_tableOut (l : Launch) (sc : ax_S) : ax_R_tableOut sc (ax_PW l sc) := by
  intro k pc ls st h K d lo hi offs len x t g0 g1 g2 P0 p e R s m args below meth c D cI cZ b A ad H locs cells slots ls' Q hA hW hF hB hR
  exact lv_tableOut hA.1 hA.2.1 g0 g1 g2 (P0 p e R s m args below meth c D cI cZ b A ad H locs cells slots ls' Q hA hW (ax_tl hF) hB hR)
set_option maxHeartbeats 1000000 in
theorem ax_s_get (l : Launch) (sc : ax_S) : ax_R_get sc (ax_PW l sc) := by
  intro k pc q ls st h K idx o ci j fs v g0 g1 g2 g3 g4 g5 P0 p e R s m args below meth c D cI cZ b A ad H locs cells slots ls' Q hA hW hF hB hR
  subst g1
  obtain ⟨C, T, N, f1, f2, f3, f4⟩ := g2
  have e0 : (ax_w b cI cZ ad h.1 h.2.1)[o]? = some (ad o, .inr (ci, fs.map (ax_v b ad))) := by rw [ax_w_get g3, g4]; rfl
  exact va_get (v := ax_v b ad v) hA.1 hA.2.1 hA.2.2.2.2.1 f4 hA.2.2.2.1 hA.2.2.2.2.2.1 hW.1 o e0 f1 j f2 (hA.2.2.2.2.1 _ f3) (fun _ z => z) (by rw [List.getElem?_map, g5]; rfl) g0 (P0 p e R s m args below meth c D cI cZ b A ad H locs cells slots ls' Q hA hW ⟨hF.1, hF.2.1, ax_oc (hW.2.2.2 o g3 _ g4 v (List.mem_of_getElem? g5)) (ax_ot hF.2.2.1), hF.2.2.2⟩ hB hR)
set_option maxHeartbeats 1000000 in
theorem ax_s_put (l : Launch) (sc : ax_S) : ax_R_put sc (ax_PW l sc) := by
  intro k pc q ls st h K idx o ci j fs v ty g0 g1 g2 g3 g4 g5 g6 g7 P0 p e R s m args below meth c D cI cZ b A ad H locs cells slots ls' Q hA hW hF hB hR
  subst g1
  obtain ⟨C, T, N, ty0, f1, f2, f3, f4, f5, f6, f7, f8, f9⟩ := g2
  have e0 : (ax_w b cI cZ ad h.1 h.2.1)[o]? = some (ad o, .inr (ci, fs.map (ax_v b ad))) := by rw [ax_w_get g3, g4]; rfl
  refine va_put (ty := ty) hA.1 hA.2.1 hA.2.2.2.2.1 f4 ty0 f5 f6 hA.2.2.2.1 hA.2.2.2.2.2.1 hW.1 hW.2.1 hW.2.2.1 o e0 f1 j f2 (hA.2.2.2.2.1 _ f3) (fun _ z => z) f8 (by rw [f5 j f2, f7]) (ax_narrow g6) (ax_fits g7) (by rw [List.length_map]; exact g5) g0 (fun H2 locs2 hP hD hS => ?_)
  have es : ax_e b cI cZ ad (.inr (ci, fs.set j v)) = .inr (ci, (fs.map (ax_v b ad)).set j (ax_v b ad v)) := by
    show Sum.inr (ci, (fs.set j v).map _) = _
    rw [List.map_set]
  rw [ax_w_set es] at hP hD
  exact P0 p e R s m args below meth c D cI cZ b A ad H2 locs2 cells slots ls' Q hA ⟨hP, hD, hS, ax_okC_up hW.2.2.2 (fun z e w hw => by
    cases e
    rcases List.mem_or_eq_of_mem_set hw with hw | hw
    · exact hW.2.2.2 o g3 _ g4 w hw
    · rw [hw]; exact ax_oh hF.2.2.1)⟩ (ax_tl (ax_tl hF)) hB hR
set_option maxHeartbeats 1000000 in
theorem ax_s_putF (l : Launch) (sc : ax_S) : ax_R_putF sc (ax_PW l sc) := by
  intro k pc q ls st h K idx o ci j fs v ty g0 g1 g2 g3 g4 g5 g6 g7 g8 P0 p e R s m args below meth c D cI cZ b A ad H locs cells slots ls' Q hA hW hF hB hR
  subst g1
  obtain ⟨C, T, N, ty0, f1, f2, f3, f4, f5, f6, f7, f8, f9⟩ := g2
  have e0 : (ax_w b cI cZ ad h.1 h.2.1)[o]? = some (ad o, .inr (ci, fs.map (ax_v b ad))) := by rw [ax_w_get g3, g4]; rfl
  refine va_putF (ty := ty) hA.1 hA.2.1 hA.2.2.2.2.1 f4 ty0 f5 f6 hA.2.2.2.1 hA.2.2.2.2.2.1 hW.1 hW.2.1 hW.2.2.1 o e0 f1 j f2 (hA.2.2.2.2.1 _ f3) (fun _ z => z) f8 (hA.2.2.2.2.2.2.2.2.1.trans g8) (f9 rfl) (by rw [f5 j f2, f7]) (ax_narrow g6) (ax_fits g7) (by rw [List.length_map]; exact g5) g0 (fun H2 locs2 hP hD hS => ?_)
  have es : ax_e b cI cZ ad (.inr (ci, fs.set j v)) = .inr (ci, (fs.map (ax_v b ad)).set j (ax_v b ad v)) := by
    show Sum.inr (ci, (fs.set j v).map _) = _
    rw [List.map_set]
  rw [ax_w_set es] at hP hD
  exact P0 p e R s m args below meth c D cI cZ b A ad H2 locs2 cells slots ls' Q hA ⟨hP, hD, hS, ax_okC_up hW.2.2.2 (fun z e w hw => by
    cases e
    rcases List.mem_or_eq_of_mem_set hw with hw | hw
    · exact hW.2.2.2 o g3 _ g4 w hw
    · rw [hw]; exact ax_oh hF.2.2.1)⟩ (ax_tl (ax_tl hF)) hB hR
set_option maxHeartbeats 1000000 in
theorem ax_s_iald (l : Launch) (sc : ax_S) : ax_R_iald sc (ax_PW l sc) := by
  intro k pc q ls st h K o n f i g0 g1 g2 g3 g4 P0 p e R s m args below meth c D cI cZ b A ad H locs cells slots ls' Q hA hW hF hB hR
  subst g1
  have e0 : (ax_w b cI cZ ad h.1 h.2.1)[o]? = some (ad o, .inl (cI, n, .inl f)) := by rw [ax_w_get g2, g3]; rfl
  exact va_iald hA.1 hA.2.1 hA.2.2.2.2.2.1 hW.1 o 0 e0 rfl g4 g0 (P0 p e R s m args below meth c D cI cZ b A ad H locs cells slots ls' Q hA hW ⟨hF.1, hF.2.1, ax_oi (ax_ot (ax_ot hF.2.2.1)), hF.2.2.2⟩ hB hR)
set_option maxHeartbeats 1000000 in
theorem ax_s_zald (l : Launch) (sc : ax_S) : ax_R_zald sc (ax_PW l sc) := by
  intro k pc q ls st h K o n f i g0 g1 g2 g3 g4 P0 p e R s m args below meth c D cI cZ b A ad H locs cells slots ls' Q hA hW hF hB hR
  subst g1
  have e0 : (ax_w b cI cZ ad h.1 h.2.1)[o]? = some (ad o, .inl (cZ, n, .inl f)) := by rw [ax_w_get g2, g3]; rfl
  exact va_zald hA.1 hA.2.1 hA.2.2.2.2.2.1 hW.1 o 1 e0 rfl g4 g0 (P0 p e R s m args below meth c D cI cZ b A ad H locs cells slots ls' Q hA hW ⟨hF.1, hF.2.1, ax_oi (ax_ot (ax_ot hF.2.2.1)), hF.2.2.2⟩ hB hR)
set_option maxHeartbeats 1000000 in
theorem ax_s_iast (l : Launch) (sc : ax_S) : ax_R_iast sc (ax_PW l sc) := by
  intro k pc q ls st h K o n f i x g0 g1 g2 g3 g4 P0 p e R s m args below meth c D cI cZ b A ad H locs cells slots ls' Q hA hW hF hB hR
  subst g1
  have e0 : (ax_w b cI cZ ad h.1 h.2.1)[o]? = some (ad o, .inl (cI, n, .inl f)) := by rw [ax_w_get g2, g3]; rfl
  refine va_iast hA.1 hA.2.1 hA.2.2.2.2.2.1 hW.1 hW.2.1 hW.2.2.1 o 0 e0 rfl g4 g0 (fun H2 locs2 hP hD hS => ?_)
  have es : ax_e b cI cZ ad (.inl (false, n, upd f i.toNatClampNeg x)) = .inl (cI, n, .inl (upd f i.toNatClampNeg x)) := rfl
  rw [ax_w_set es] at hP hD
  exact P0 p e R s m args below meth c D cI cZ b A ad H2 locs2 cells slots ls' Q hA ⟨hP, hD, hS, ax_okC_up hW.2.2.2 ax_okC_arr⟩ (ax_tl (ax_tl (ax_tl hF))) hB hR
set_option maxHeartbeats 1000000 in
theorem ax_s_zast (l : Launch) (sc : ax_S) : ax_R_zast sc (ax_PW l sc) := by
  intro k pc q ls st h K o n f i x g0 g1 g2 g3 g4 P0 p e R s m args below meth c D cI cZ b A ad H locs cells slots ls' Q hA hW hF hB hR
  subst g1
  have e0 : (ax_w b cI cZ ad h.1 h.2.1)[o]? = some (ad o, .inl (cZ, n, .inl f)) := by rw [ax_w_get g2, g3]; rfl
  refine va_zast hA.1 hA.2.1 hA.2.2.2.2.2.1 hW.1 hW.2.1 hW.2.2.1 o 1 e0 rfl g4 g0 (fun H2 locs2 hP hD hS => ?_)
  have es : ax_e b cI cZ ad (.inl (true, n, upd f i.toNatClampNeg (vp_nar .boolean x))) = .inl (cZ, n, .inl (upd f i.toNatClampNeg (vp_nar .boolean x))) := rfl
  rw [ax_w_set es] at hP hD
  exact P0 p e R s m args below meth c D cI cZ b A ad H2 locs2 cells slots ls' Q hA ⟨hP, hD, hS, ax_okC_up hW.2.2.2 ax_okC_arr⟩ (ax_tl (ax_tl (ax_tl hF))) hB hR
set_option maxHeartbeats 1000000 in
theorem ax_s_alen (l : Launch) (sc : ax_S) : ax_R_alen sc (ax_PW l sc) := by
  intro k pc q ls st h K o n z f g0 g1 g2 g3 P0 p e R s m args below meth c D cI cZ b A ad H locs cells slots ls' Q hA hW hF hB hR
  subst g1
  cases z with
  | false =>
    have e0 : (ax_w b cI cZ ad h.1 h.2.1)[o]? = some (ad o, .inl (cI, n, .inl f)) := by rw [ax_w_get g2, g3]; rfl
    exact va_alen hA.1 hA.2.1 hA.2.2.2.2.2.1 hW.1 o 0 e0 rfl rfl g0 (P0 p e R s m args below meth c D cI cZ b A ad H locs cells slots ls' Q hA hW ⟨hF.1, hF.2.1, ax_oi (ax_ot hF.2.2.1), hF.2.2.2⟩ hB hR)
  | true =>
    have e0 : (ax_w b cI cZ ad h.1 h.2.1)[o]? = some (ad o, .inl (cZ, n, .inl f)) := by rw [ax_w_get g2, g3]; rfl
    exact va_alen hA.1 hA.2.1 hA.2.2.2.2.2.1 hW.1 o 1 e0 rfl rfl g0 (P0 p e R s m args below meth c D cI cZ b A ad H locs cells slots ls' Q hA hW ⟨hF.1, hF.2.1, ax_oi (ax_ot hF.2.2.1), hF.2.2.2⟩ hB hR)
set_option maxHeartbeats 1000000 in
theorem ax_s_newI (l : Launch) (sc : ax_S) : ax_R_newI sc (ax_PW l sc) := by
  intro k pc q ls st h K i n g0 g1 g2 g3 g4 g5 g6 g7 P0 p e R s m args below meth c D cI cZ b A ad H locs cells slots ls' Q hA hW hF hB hR
  subst g1
  have hB1 := hB.1
  have hB2 := hB.2
  refine va_newa (atype := .int) (ty := .int) (a0 := (n, .inl fun _ => 0)) hA.1 hA.2.1 (hA.2.2.2.2.1 _ g2) rfl hA.2.2.2.2.2.1 hW.1 hW.2.1 hW.2.2.1 hA.2.2.2.2.2.2.1 (fun _ => rfl) g3 g4 (show n * 4 ≤ 536870912 by omega) (by omega) (by omega) g0 (fun qa cA H2 hK2 hP hD hS => ?_)
  have hcA : cA = cI := Option.some.inj ((hK2.2 2 _ rfl).2.symm.trans (hA.2.2.2.2.2.1.2 0 _ rfl).2)
  subst hcA
  exact ax_made P0 hA hW (ax_tl hF) hB hR rfl hP hD hS ax_okC_arr g6 g7
set_option maxHeartbeats 1000000 in
theorem ax_s_newZ (l : Launch) (sc : ax_S) : ax_R_newZ sc (ax_PW l sc) := by
  intro k pc q ls st h K i n g0 g1 g2 g3 g4 g5 g6 g7 P0 p e R s m args below meth c D cI cZ b A ad H locs cells slots ls' Q hA hW hF hB hR
  subst g1
  have hB1 := hB.1
  have hB2 := hB.2
  refine va_newa (atype := .boolean) (ty := .boolean) (a0 := (n, .inl fun _ => 0)) hA.1 hA.2.1 (hA.2.2.2.2.1 _ g2) rfl hA.2.2.2.2.2.1 hW.1 hW.2.1 hW.2.2.1 hA.2.2.2.2.2.2.1 (fun _ => rfl) g3 g4 (show n * 1 ≤ 536870912 by omega) (by omega) (by omega) g0 (fun qa cA H2 hK2 hP hD hS => ?_)
  have hcA : cA = cZ := Option.some.inj ((hK2.2 2 _ rfl).2.symm.trans (hA.2.2.2.2.2.1.2 1 _ rfl).2)
  subst hcA
  exact ax_made P0 hA hW (ax_tl hF) hB hR rfl hP hD hS ax_okC_arr g6 g7
set_option maxHeartbeats 1000000 in
theorem ax_s_new (l : Launch) (sc : ax_S) : ax_R_new sc (ax_PW l sc) := by
  intro k pc q ls st h K idx ci N fs g0 g1 g2 g3 g4 P0 p e R s m args below meth c D cI cZ b A ad H locs cells slots ls' Q hA hW hF hB hR
  subst g1
  have hB1 := hB.1
  have hB2 := hB.2
  obtain ⟨C, T, ty, f1, f2, f3, f4, f5, f6, f7, f8⟩ := g2
  refine va_new (fs := fs) hA.1 hA.2.1 hA.2.2.2.2.1 f2 ty f3 hA.2.2.2.1 (hA.2.2.2.2.1 _ f4) (hA.2.2.2.2.1 _ f5) (hA.2.2.2.2.1 _ f6) hA.2.2.2.2.2.1 hW.1 hW.2.1 hW.2.2.1 hA.2.2.2.2.2.2.1 f1 f7 (by omega) (by omega) g0 (fun qa H2 hP hD hS => ?_)
  refine ax_made P0 hA hW hF hB hR ?_ hP hD hS (fun z e v hm => ?_) g3 g4
  · show Sum.inr (ci, fs.map (ax_v b (va_up ad h.2.1 qa))) = Sum.inr (ci, fs)
    have hmap : fs.map (ax_v b (va_up ad h.2.1 qa)) = fs.map id := List.map_congr_left (fun v hm => by rcases f8 v hm with rfl | rfl <;> rfl)
    rw [hmap, List.map_id]
  · cases e
    rcases f8 v hm with rfl | rfl <;> (intro i e; cases e)
set_option maxHeartbeats 1000000 in
theorem ax_s_sld (l : Launch) (sc : ax_S) : ax_R_sld sc (ax_PW l sc) := by
  intro k pc q ls st h K o i g0 g1 g2 P0 p e R s m args below meth c D cI cZ b A ad H locs cells slots ls' Q hA hW hF hB hR
  subst g1
  have hX := hA.2.2.2.2.2.2.2.2.2
  exact va_sld hA.1 hA.2.1 hX.1 hX.2.1 hX.2.2 hW.2.2.1 g2 g0 (P0 p e R s m args below meth c D cI cZ b A ad H locs cells slots ls' Q hA hW ⟨hF.1, hF.2.1, ax_oi (ax_ot (ax_ot hF.2.2.1)), hF.2.2.2⟩ hB hR)
set_option maxHeartbeats 1000000 in
theorem ax_s_slen (l : Launch) (sc : ax_S) : ax_R_slen sc (ax_PW l sc) := by
  intro k pc q ls st h K o g0 g1 P0 p e R s m args below meth c D cI cZ b A ad H locs cells slots ls' Q hA hW hF hB hR
  subst g1
  have hX := hA.2.2.2.2.2.2.2.2.2
  exact va_slen hA.1 hA.2.1 hX.1 hX.2.1 hX.2.2 hW.2.2.1 g0 (P0 p e R s m args below meth c D cI cZ b A ad H locs cells slots ls' Q hA hW ⟨hF.1, hF.2.1, ax_oi (ax_ot hF.2.2.1), hF.2.2.2⟩ hB hR)
set_option maxHeartbeats 1000000 in
theorem ax_s_iret (l : Launch) (sc : ax_S) : ax_R_iret sc (ax_PW l sc) := by
  intro k pc ls h K x ty g0 g1 g2 g3  p e R s m args below meth c D cI cZ b A ad H locs cells slots ls' Q hA hW hF hB hR
  have hB1 := hB.1
  have hB2 := hB.2
  exact hR (some (.int x)) h ad H locs cells slots pc ls' g3 (fun _ _ => rfl) (Nat.le_refl _) ⟨g0, ty, g1, g2⟩ hW (by omega) (by omega)
set_option maxHeartbeats 1000000 in
theorem ax_s_vret (l : Launch) (sc : ax_S) : ax_R_vret sc (ax_PW l sc) := by
  intro k pc ls h K g0 g1 g2  p e R s m args below meth c D cI cZ b A ad H locs cells slots ls' Q hA hW hF hB hR
  have hB1 := hB.1
  have hB2 := hB.2
  exact hR none h ad H locs cells slots pc ls' g2 (fun _ _ => rfl) (Nat.le_refl _) ⟨g0, g1⟩ hW (by omega) (by omega)
set_option maxHeartbeats 1000000 in
theorem ax_s_mmax (l : Launch) (sc : ax_S) : ax_R_mmax sc (ax_PW l sc) := by
  intro k pc q ls st h K idx x y g0 g1 g2 g3 g4 g5 g6 g7 P0 p e R s m args below meth c D cI cZ b A ad H locs cells slots ls' Q hA hW hF hB hR
  subst g1
  exact va_mmax hA.1 hA.2.1 (hA.2.2.1.trans (hF.2.2.2.symm.trans hF.1.1.symm)) hA.2.2.2.1 (hA.2.2.2.2.1 _ g2) (hA.2.2.2.2.1 _ g3) (hA.2.2.2.2.1 _ g4) (hA.2.2.2.2.1 _ g5) (by have := hA.2.2.2.2.2.2.2.1; omega) (by have := hA.2.2.2.2.2.2.2.1; rw [ax_sum]; omega) (by have := hB.1; omega) (by have := hB.2; omega) g0 (P0 p e R s m args below meth c D cI cZ b A ad H locs cells slots ls' Q hA hW ⟨hF.1, hF.2.1, ax_oi (ax_ot (ax_ot hF.2.2.1)), hF.2.2.2⟩ hB hR)
set_option maxHeartbeats 1000000 in
theorem ax_s_mmin (l : Launch) (sc : ax_S) : ax_R_mmin sc (ax_PW l sc) := by
  intro k pc q ls st h K idx x y g0 g1 g2 g3 g4 g5 g6 g7 P0 p e R s m args below meth c D cI cZ b A ad H locs cells slots ls' Q hA hW hF hB hR
  subst g1
  exact va_mmin hA.1 hA.2.1 (hA.2.2.1.trans (hF.2.2.2.symm.trans hF.1.1.symm)) hA.2.2.2.1 (hA.2.2.2.2.1 _ g2) (hA.2.2.2.2.1 _ g3) (hA.2.2.2.2.1 _ g4) (hA.2.2.2.2.1 _ g5) (by have := hA.2.2.2.2.2.2.2.1; omega) (by have := hA.2.2.2.2.2.2.2.1; rw [ax_sum]; omega) (by have := hB.1; omega) (by have := hB.2; omega) g0 (P0 p e R s m args below meth c D cI cZ b A ad H locs cells slots ls' Q hA hW ⟨hF.1, hF.2.1, ax_oi (ax_ot (ax_ot hF.2.2.1)), hF.2.2.2⟩ hB hR)
set_option maxHeartbeats 1000000 in
theorem ax_s_mabs (l : Launch) (sc : ax_S) : ax_R_mabs sc (ax_PW l sc) := by
  intro k pc q ls st h K idx x g0 g1 g2 g3 g4 g5 g6 g7 P0 p e R s m args below meth c D cI cZ b A ad H locs cells slots ls' Q hA hW hF hB hR
  subst g1
  exact va_mabs hA.1 hA.2.1 (hA.2.2.1.trans (hF.2.2.2.symm.trans hF.1.1.symm)) hA.2.2.2.1 (hA.2.2.2.2.1 _ g2) (hA.2.2.2.2.1 _ g3) (hA.2.2.2.2.1 _ g4) (hA.2.2.2.2.1 _ g5) (by have := hA.2.2.2.2.2.2.2.1; omega) (by have := hA.2.2.2.2.2.2.2.1; rw [ax_sum]; omega) (by have := hB.1; omega) (by have := hB.2; omega) g0 (P0 p e R s m args below meth c D cI cZ b A ad H locs cells slots ls' Q hA hW ⟨hF.1, hF.2.1, ax_oi (ax_ot hF.2.2.1), hF.2.2.2⟩ hB hR)
set_option maxHeartbeats 1000000 in
theorem ax_s_acopy (l : Launch) (sc : ax_S) : ax_R_acopy sc (ax_PW l sc) := by
  intro k pc q ls st h K idx o0 o1 n0 n1 f g sp dp n g0 g1 g2 g3 g4 g5 g6 g7 g8 g9 g10 g11 g12 g13 g14 g15 g16 P0 p e R s m args below meth c D cI cZ b A ad H locs cells slots ls' Q hA hW hF hB hR
  subst g1
  have e0 : (ax_w b cI cZ ad h.1 h.2.1)[o0]? = some (ad o0, .inl (cI, n0, .inl f)) := by rw [ax_w_get g8, g10]; rfl
  have e1 : (ax_w b cI cZ ad h.1 h.2.1)[o1]? = some (ad o1, .inl (cI, n1, .inl g)) := by rw [ax_w_get g9, g11]; rfl
  refine va_copyi hA.1 hA.2.1 (hA.2.2.1.trans (hF.2.2.2.symm.trans hF.1.1.symm)) hA.2.2.2.1 (hA.2.2.2.2.1 _ g2) (hA.2.2.2.2.1 _ g3) (hA.2.2.2.2.1 _ g4) (hA.2.2.2.2.1 _ g5) hA.2.2.2.2.2.1 hW.1 hW.2.1 hW.2.2.1 o0 o1 0 0 e0 e1 rfl rfl rfl g12 g13 g14 g15 g16 (fun _ _ => rfl) (by have := hA.2.2.2.2.2.2.2.1; omega) (by have := hA.2.2.2.2.2.2.2.1; rw [ax_sum]; omega) g0 (fun H2 locs2 hP hD hS => ?_)
  have es : ax_e b cI cZ ad (.inl (false, n1, va_cpy f g sp.toNatClampNeg dp.toNatClampNeg n.toNatClampNeg)) = .inl (cI, n1, .inl (va_cpy f g sp.toNatClampNeg dp.toNatClampNeg n.toNatClampNeg)) := rfl
  rw [ax_w_set es] at hP hD
  exact P0 p e R s m args below meth c D cI cZ b A ad H2 locs2 cells slots ls' Q hA ⟨hP, hD, hS, ax_okC_up hW.2.2.2 ax_okC_arr⟩ (ax_tl (ax_tl (ax_tl (ax_tl (ax_tl hF))))) hB hR
set_option maxHeartbeats 1000000 in
theorem ax_s_objInit (l : Launch) (sc : ax_S) : ax_R_objInit sc (ax_PW l sc) := by
  intro k pc q ls st h K idx o g0 g1 g2 g3 g4 g5 g6 P0 p e R s m args below meth c D cI cZ b A ad H locs cells slots ls' Q hA hW hF hB hR
  subst g1
  refine W.objInit hA.1 hA.2.1 hA.2.2.2.1 (hA.2.2.2.2.1 _ g2) (hA.2.2.2.2.1 _ g3) (hA.2.2.2.2.1 _ g4) rfl (hF.1.1.trans (hF.2.2.2.trans hA.2.2.1.symm)) rfl g0 (by have := hA.2.2.2.2.2.2.2.1; omega) (by
    have := hA.2.2.2.2.2.2.2.1
    show 2 * 0 + ((st.map (ax_v b ad)).map fun v => v.category).sum + 12 ≤ R.locals
    rw [ax_sum]
    omega) ?_
  exact P0 p e R s m args below meth c D cI cZ b A ad H locs cells slots ls' Q hA hW (ax_tl hF) hB hR
set_option maxHeartbeats 1000000 in
theorem ax_s_callV (l : Launch) (sc : ax_S) : ax_R_callV sc (ax_PW l sc) := by
  intro k pc q ls rest h K idx z na vs mc ms o ci fs g0 g1 g2 g3 g4 g5 g6 g7 g8 g9 g10 g11 g12 P0 p e R s m args below meth c D cI cZ b A ad H locs cells slots ls' Q hA hW hF hB hR
  have hX := hA.2.2.2.2.2.2.2.2.2
  have hM := ax_met P0 g3 g6 g7 (D := D) (cI := cI) (cZ := cZ) (b := b) (ad := ad) (sz := H.size) (ax_oc (hF.2.2.1 _ (List.mem_append_right _ List.mem_cons_self)) (fun v hv => hF.2.2.1 v (List.mem_append_left _ (List.mem_reverse.mpr hv)))) hW.2.2.2 (Nat.lt_of_lt_of_le hX.2.1 hW.2.2.1.1) hW.2.1 hX.2.2
  have e0 : (ax_w b cI cZ ad h.1 h.2.1)[o]? = some (ad o, .inr (ci, fs.map (ax_v b ad))) := by rw [ax_w_get g11, g12]; rfl
  obtain ⟨cq, hcq, hcn⟩ : ∃ cq, classes[ci]? = some cq ∧ cq.1 = (g_m z).1.cls := by
    have h8 := g2.2.2.2
    cases hcc : classes[ci]? with
    | none => rw [hcc] at h8; cases h8
    | some cq => rw [hcc] at h8; exact ⟨cq, rfl, Option.some.inj h8⟩
  have hrc := va_recv hA.2.2.2.2.2.1 hW.1 hcq e0
  rw [hcn] at hrc
  refine ax_back (aa := (Value.ref (ad o) :: vs.map (ax_v b ad)).toArray) (rest := rest) (st := rest) (z := z) (vs := vs) (mc := mc) (ms := ms) g1 g9 g10 hA hW ⟨hF.1, hF.2.1, (fun v hv => hF.2.2.1 v (List.mem_append_right _ (List.mem_cons_of_mem _ hv))), hF.2.2.2⟩ hB hR ?_
  exact va_runV (bytes := (g_m z).2.1) (maxL := (g_m z).2.2.1) (ret := (g_m z).2.2.2) (n := na) (index := idx) (own := (g_m k).1.cls) (C := (g_m z).1.cls) (As := vs.map (ax_v b ad)) (rest := rest.map (ax_v b ad)) ⟨hA.1, hA.2.1, hA.2.2.1.trans (hF.2.2.2.symm.trans hF.1.1.symm), hA.2.2.2.1, hA.2.2.2.2.1⟩ hM ⟨⟨rfl, rfl, by have := hA.2.2.2.2.2.2.2.1; have := g4.1; show g_fr z + 1 ≤ R.frames; omega, by have := hA.2.2.2.2.2.2.2.1; have := g4.2; show 8 + ((g_m z).2.2.1 + 11) + g_lo z ≤ R.locals; omega, ax_good z na g3 hA.2.2.2.2.1, List.mem_cons_self, hA.2.2.2.2.1 _ g3.1, hA.2.2.2.2.1 _ g3.2.1, ⟨g3.2.2.1.1, g3.2.2.1.2.1⟩, fun sig hsig => (by have h9 := g3.2.2.1.2.2; rw [hsig] at h9; exact (Option.some.inj h9).symm), hA.2.2.2.2.1 _ g2.1⟩, hA.2.2.2.2.1 _ g2.2.1, hA.2.2.2.2.1 _ g2.2.2.1⟩ ⟨ax_blind, hrc, ax_pre (.ref o :: vs) hA hW⟩ rfl (by rw [List.length_map]; exact g5) rfl (by
    show (vs.reverse ++ .ref o :: rest).map (ax_v b ad) = (vs.map (ax_v b ad)).reverse ++ .ref (ad o) :: rest.map (ax_v b ad)
    rw [List.map_append, List.map_reverse]
    rfl) (by show 2 * 0 + ((rest.map (ax_v b ad)).map fun v => v.category).sum ≤ 8; rw [ax_sum]; omega) g0 ⟨by have := hB.1; omega, by have := hB.2; omega⟩
set_option maxHeartbeats 1000000 in
theorem ax_s_callS (l : Launch) (sc : ax_S) : ax_R_callS sc (ax_PW l sc) := by
  intro k pc q ls rest h K idx z na vs mc ms g0 g1 g2 g3 g4 g5 g6 g7 g8 g9 g10 P0 p e R s m args below meth c D cI cZ b A ad H locs cells slots ls' Q hA hW hF hB hR
  have hX := hA.2.2.2.2.2.2.2.2.2
  have hM := ax_met P0 g3 g6 g7 (D := D) (cI := cI) (cZ := cZ) (b := b) (ad := ad) (sz := H.size) (fun v hv => hF.2.2.1 v (List.mem_append_left _ (List.mem_reverse.mpr hv))) hW.2.2.2 (Nat.lt_of_lt_of_le hX.2.1 hW.2.2.1.1) hW.2.1 hX.2.2
  refine ax_back (aa := (vs.map (ax_v b ad)).toArray) (rest := rest) (st := rest) (z := z) (vs := vs) (mc := mc) (ms := ms) g1 g9 g10 hA hW ⟨hF.1, hF.2.1, (fun v hv => hF.2.2.1 v (List.mem_append_right _ hv)), hF.2.2.2⟩ hB hR ?_
  exact va_runS (bytes := (g_m z).2.1) (maxL := (g_m z).2.2.1) (ret := (g_m z).2.2.2) (n := na) (index := idx) (own := (g_m k).1.cls) (As := vs.map (ax_v b ad)) (rest := rest.map (ax_v b ad)) ⟨hA.1, hA.2.1, hA.2.2.1.trans (hF.2.2.2.symm.trans hF.1.1.symm), hA.2.2.2.1, hA.2.2.2.2.1⟩ hM ⟨⟨rfl, rfl, by have := hA.2.2.2.2.2.2.2.1; have := g4.1; show g_fr z + 1 ≤ R.frames; omega, by have := hA.2.2.2.2.2.2.2.1; have := g4.2; show 8 + ((g_m z).2.2.1 + 11) + g_lo z ≤ R.locals; omega, ax_good z na g3 hA.2.2.2.2.1, List.mem_cons_self, hA.2.2.2.2.1 _ g3.1, hA.2.2.2.2.1 _ g3.2.1, ⟨g3.2.2.1.1, g3.2.2.1.2.1⟩, fun sig hsig => (by have h9 := g3.2.2.1.2.2; rw [hsig] at h9; exact (Option.some.inj h9).symm), hA.2.2.2.2.1 _ g2.1⟩, hA.2.2.2.2.1 _ g2.2⟩ ⟨ax_blind, ax_pre vs hA hW⟩ rfl (by rw [List.length_map]; exact g5) rfl (by
    show (vs.reverse ++ rest).map (ax_v b ad) = (vs.map (ax_v b ad)).reverse ++ rest.map (ax_v b ad)
    rw [List.map_append, List.map_reverse]) (by show 2 * 0 + ((rest.map (ax_v b ad)).map fun v => v.category).sum ≤ 8; rw [ax_sum]; omega) g0 ⟨by have := hB.1; omega, by have := hB.2; omega⟩
set_option maxHeartbeats 1000000 in
theorem ax_s_callI (l : Launch) (sc : ax_S) : ax_R_callI sc (ax_PW l sc) := by
  intro k pc q ls rest h K idx z na vs mc ms o g0 g1 g2 g3 g4 g5 g6 g7 g8 g9 g10 g11 g12 P0 p e R s m args below meth c D cI cZ b A ad H locs cells slots ls' Q hA hW hF hB hR
  have hX := hA.2.2.2.2.2.2.2.2.2
  have hM := ax_met P0 g3 g6 g7 (D := D) (cI := cI) (cZ := cZ) (b := b) (ad := ad) (sz := H.size) (ax_oc (hF.2.2.1 _ (List.mem_append_right _ List.mem_cons_self)) (fun v hv => hF.2.2.1 v (List.mem_append_left _ (List.mem_reverse.mpr hv)))) hW.2.2.2 (Nat.lt_of_lt_of_le hX.2.1 hW.2.2.1.1) hW.2.1 hX.2.2
  have hret : (g_m z).2.2.2 = none := g12
  have hcw : Cond.code (g_m z).1 (g_m z).2.1 (g_m z).2.2.1 none ∈ ax_ws z := by rw [← hret]; exact List.mem_cons_self
  have hcg : Cond.code (g_m z).1 (g_m z).2.1 (g_m z).2.2.1 none ∈ gw := by rw [← hret]; exact g3.1
  refine ax_back (aa := (Value.ref (ad o) :: vs.map (ax_v b ad)).toArray) (rest := rest) (st := rest) (z := z) (vs := vs) (mc := mc) (ms := ms) g1 g9 g10 hA hW ⟨hF.1, hF.2.1, (fun v hv => hF.2.2.1 v (List.mem_append_right _ (List.mem_cons_of_mem _ hv))), hF.2.2.2⟩ hB hR ?_
  exact va_runI (bytes := (g_m z).2.1) (maxL := (g_m z).2.2.1) (n := na) (index := idx) (own := (g_m k).1.cls) (As := vs.map (ax_v b ad)) (rest := rest.map (ax_v b ad)) ⟨hA.1, hA.2.1, hA.2.2.1.trans (hF.2.2.2.symm.trans hF.1.1.symm), hA.2.2.2.1, hA.2.2.2.2.1⟩ hM ⟨⟨rfl, rfl, by have := hA.2.2.2.2.2.2.2.1; have := g4.1; show g_fr z + 1 ≤ R.frames; omega, by have := hA.2.2.2.2.2.2.2.1; have := g4.2; show 8 + ((g_m z).2.2.1 + 11) + g_lo z ≤ R.locals; omega, ax_good z na g3 hA.2.2.2.2.1, hcw, hA.2.2.2.2.1 _ hcg, hA.2.2.2.2.1 _ g3.2.1, ⟨g3.2.2.1.1, g3.2.2.1.2.1⟩, fun sig hsig => (by have h9 := g3.2.2.1.2.2; rw [hsig] at h9; exact (Option.some.inj h9).symm), hA.2.2.2.2.1 _ g2.1⟩, g2.2.2, hA.2.2.2.2.1 _ g2.2.1⟩ ⟨ax_blind, ax_pre (.ref o :: vs) hA hW⟩ rfl (by rw [List.length_map]; exact g5) rfl (by
    show (vs.reverse ++ .ref o :: rest).map (ax_v b ad) = (vs.map (ax_v b ad)).reverse ++ .ref (ad o) :: rest.map (ax_v b ad)
    rw [List.map_append, List.map_reverse]
    rfl) (by show 2 * 0 + ((rest.map (ax_v b ad)).map fun v => v.category).sum ≤ 8; rw [ax_sum]; omega) g0 ⟨by have := hB.1; omega, by have := hB.2; omega⟩
set_option maxHeartbeats 1000000 in
theorem ax_s_lconst (l : Launch) (sc : ax_S) : ax_R_lconst sc (ax_PW l sc) := by
  intro k pc q ls st h K n v g0 g1 g2 P0 p e R s m args below meth c D cI cZ b A ad H locs cells slots ls' Q hA hW hF hB hR
  subst g1
  exact lv_lconst hA.1 hA.2.1 g0 g2 (P0 p e R s m args below meth c D cI cZ b A ad H locs cells slots ls' Q hA hW ⟨hF.1, hF.2.1, ax_oc (fun _ e => by cases e) hF.2.2.1, hF.2.2.2⟩ hB hR)
set_option maxHeartbeats 1000000 in
theorem ax_s_ldc2 (l : Launch) (sc : ax_S) : ax_R_ldc2 sc (ax_PW l sc) := by
  intro k pc q ls st h K idx v g0 g1 g2 P0 p e R s m args below meth c D cI cZ b A ad H locs cells slots ls' Q hA hW hF hB hR
  subst g1
  exact lv_ldc2 hA.1 hA.2.1 hA.2.2.2.1 (hA.2.2.2.2.1 _ g2) g0 (P0 p e R s m args below meth c D cI cZ b A ad H locs cells slots ls' Q hA hW ⟨hF.1, hF.2.1, ax_oc (fun _ e => by cases e) hF.2.2.1, hF.2.2.2⟩ hB hR)
set_option maxHeartbeats 1000000 in
theorem ax_s_i2l (l : Launch) (sc : ax_S) : ax_R_i2l sc (ax_PW l sc) := by
  intro k pc q ls st h K x v g0 g1 g2 P0 p e R s m args below meth c D cI cZ b A ad H locs cells slots ls' Q hA hW hF hB hR
  subst g1
  exact lv_i2l hA.1 hA.2.1 g0 g2 (P0 p e R s m args below meth c D cI cZ b A ad H locs cells slots ls' Q hA hW ⟨hF.1, hF.2.1, ax_oc (fun _ e => by cases e) (ax_ot hF.2.2.1), hF.2.2.2⟩ hB hR)
set_option maxHeartbeats 1000000 in
theorem ax_s_inL (l : Launch) (sc : ax_S) : ax_R_inL sc (ax_PW l sc) := by
  intro k pc q ls st h K idx a lo hi g0 g1 g2 g3 g4 g5 P0 p e R s m args below meth c D cI cZ b A ad H locs cells slots ls' Q hA hW hF hB hR
  have hX := hA.2.2.2.2.2.2.2.2.2
  have hM := ax_met_in (l := l) (sc := sc) (a := a) (lo := lo) (hi := hi) (σ := h.1) (n := h.2.1) (K := fun v h2 => ax_PW l sc k q ls (ax_ps v st) (h2.1, h2.2.1, h.2.2.1 - 0, h.2.2.2 - 0) K) P0 g3 (D := D) (cI := cI) (cZ := cZ) (b := b) (ad := ad) (sz := H.size) hW.2.2.2 (Nat.lt_of_lt_of_le hX.2.1 hW.2.2.1.1) hW.2.1 hX.2.2
  refine ax_back (aa := ([.long a, .long lo, .long hi] : List Value).toArray) (rest := st) (st := st) (z := 66) (vs := []) (mc := 0) (ms := 0) g1 (Nat.zero_le _) (Nat.zero_le _) hA hW ⟨hF.1, hF.2.1, ax_ot (ax_ot (ax_ot hF.2.2.1)), hF.2.2.2⟩ hB hR ?_
  exact va_runS (bytes := (g_m 66).2.1) (maxL := (g_m 66).2.2.1) (ret := (g_m 66).2.2.2) (n := 3) (index := idx) (own := (g_m k).1.cls) (As := [.long a, .long lo, .long hi]) (rest := st.map (ax_v b ad)) ⟨hA.1, hA.2.1, hA.2.2.1.trans (hF.2.2.2.symm.trans hF.1.1.symm), hA.2.2.2.1, hA.2.2.2.2.1⟩ hM ⟨⟨rfl, rfl, by have := hA.2.2.2.2.2.2.2.1; have := g4.1; show g_fr 66 + 1 ≤ R.frames; omega, by have := hA.2.2.2.2.2.2.2.1; have := g4.2; show 8 + ((g_m 66).2.2.1 + 11) + g_lo 66 ≤ R.locals; omega, ax_good 66 3 g3 hA.2.2.2.2.1, List.mem_cons_self, hA.2.2.2.2.1 _ g3.1, hA.2.2.2.2.1 _ g3.2.1, ⟨g3.2.2.1.1, g3.2.2.1.2.1⟩, fun sig hsig => (by have h9 := g3.2.2.1.2.2; rw [hsig] at h9; exact (Option.some.inj h9).symm), hA.2.2.2.2.1 _ g2.1⟩, hA.2.2.2.2.1 _ g2.2⟩ ⟨ax_blind, ax_pre [.long a, .long lo, .long hi] hA hW⟩ rfl rfl rfl rfl (by show 2 * 0 + ((st.map (ax_v b ad)).map fun v => v.category).sum ≤ 8; rw [ax_sum]; omega) g0 ⟨by have := hB.1; omega, by have := hB.2; omega⟩
theorem ax_sound (l : Launch) (sc : ax_S) : ax_Cl sc (ax_PW l sc) := ⟨⟨ax_s_mono l sc, ax_s_iconst l sc, ax_s_bipush l sc, ax_s_sipush l sc, ax_s_ldc l sc, ax_s_ldcw l sc, ax_s_null l sc, ax_s_iload l sc, ax_s_iload_n l sc⟩, ⟨ax_s_aload l sc, ax_s_aload_n l sc, ax_s_aloadS l sc, ax_s_aload_nS l sc, ax_s_istore l sc, ax_s_istore_n l sc, ax_s_astore l sc, ax_s_astore_n l sc, ax_s_iinc l sc⟩, ⟨ax_s_iadd l sc, ax_s_isub l sc, ax_s_imul l sc, ax_s_iand l sc, ax_s_ior l sc, ax_s_ixor l sc, ax_s_ishl l sc, ax_s_ishr l sc, ax_s_iushr l sc⟩, ⟨ax_s_idiv l sc, ax_s_irem l sc, ax_s_ineg l sc, ax_s_dup l sc, ax_s_pop l sc, ax_s_dup_x1 l sc, ax_s_dup_x2 l sc, ax_s_dup2 l sc, ax_s_goto l sc⟩, ⟨ax_s_if_eq l sc, ax_s_if_ne l sc, ax_s_if_lt l sc, ax_s_if_ge l sc, ax_s_if_gt l sc, ax_s_if_le l sc, ax_s_icmp_eq l sc, ax_s_icmp_ne l sc, ax_s_icmp_lt l sc⟩, ⟨ax_s_icmp_ge l sc, ax_s_icmp_gt l sc, ax_s_icmp_le l sc, ax_s_tableIn l sc, ax_s_tableOut l sc, ax_s_get l sc, ax_s_put l sc, ax_s_putF l sc, ax_s_iald l sc⟩, ⟨ax_s_zald l sc, ax_s_iast l sc, ax_s_zast l sc, ax_s_alen l sc, ax_s_newI l sc, ax_s_newZ l sc, ax_s_new l sc, ax_s_sld l sc, ax_s_slen l sc⟩, ⟨ax_s_iret l sc, ax_s_vret l sc, ax_s_mmax l sc, ax_s_mmin l sc, ax_s_mabs l sc, ax_s_acopy l sc, ax_s_objInit l sc, ax_s_callV l sc, ax_s_callS l sc⟩, ⟨ax_s_callI l sc, ax_s_lconst l sc, ax_s_ldc2 l sc, ax_s_i2l l sc, ax_s_inL l sc⟩⟩
theorem Ex.W {l : Launch} {sc : ax_S} {k pc : Nat} {ls : List (Option Value)} {st : List Value} {h : ax_H} {K : ax_K} (e : Ex sc k pc ls st h K) : ax_PW l sc k pc ls st h K := e _ (ax_sound l sc)
