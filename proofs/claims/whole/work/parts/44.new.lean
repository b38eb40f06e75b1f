/-! the constructors -/
theorem q_put {sc : ax_S} {k pc q : Nat} {ls : List (Option Value)} {st : List Value} {h : Nat → ax_C} {n bc bs : Nat} {K : ax_K} {idx o ci j : Nat} {fs fs' : List Value} {v : Value} {ty : FieldType} (g0 : decode (g_m k).2.1 pc = .ok (.putfield idx, 3)) (g1 : pc + 3 = q) (g2 : ax_fldW (g_m k).1.cls idx ci j ty false) (g3 : o < n) (g4 : h o = .inr (ci, fs)) (g5 : j < fs.length) (g6 : narrow ty v = v) (g7 : fits ty v = true) (g9 : fs.set j v = fs') (p0 : Ex sc k q ls st (va_up h o (.inr (ci, fs')), n, bc, bs) K) : Ex sc k pc ls (v :: .ref o :: st) (h, n, bc, bs) K := by
  subst g9
  exact x_put (h := (h, n, bc, bs)) g0 g1 g2 g3 g4 g5 g6 g7 p0
theorem q_putF {sc : ax_S} {k pc q : Nat} {ls : List (Option Value)} {st : List Value} {h : Nat → ax_C} {n bc bs : Nat} {K : ax_K} {idx o ci j : Nat} {fs fs' : List Value} {v : Value} {ty : FieldType} (g0 : decode (g_m k).2.1 pc = .ok (.putfield idx, 3)) (g1 : pc + 3 = q) (g2 : ax_fldW (g_m k).1.cls idx ci j ty true) (g3 : o < n) (g4 : h o = .inr (ci, fs)) (g5 : j < fs.length) (g6 : narrow ty v = v) (g7 : fits ty v = true) (g8 : (g_m k).1.name = "<init>") (g9 : fs.set j v = fs') (p0 : Ex sc k q ls st (va_up h o (.inr (ci, fs')), n, bc, bs) K) : Ex sc k pc ls (v :: .ref o :: st) (h, n, bc, bs) K := by
  subst g9
  exact x_putF (h := (h, n, bc, bs)) g0 g1 g2 g3 g4 g5 g6 g7 g8 p0
theorem q_newI {sc : ax_S} {k pc q : Nat} {ls : List (Option Value)} {st : List Value} {h : Nat → ax_C} {n bc bs : Nat} {K : ax_K} {i : Int32} {m n' : Nat} (g0 : decode (g_m k).2.1 pc = .ok (.newarray .int, 2)) (g1 : pc + 2 = q) (g2 : (Cond.arrayClass .int) ∈ gw) (g3 : ¬ i < 0) (g4 : i.toNatClampNeg = m) (g5 : m ≤ 100000) (g6 : 1 ≤ bc) (g7 : m ≤ bs) (g8 : n + 1 = n') (p0 : Ex sc k q ls (.ref n :: st) (va_up h n (.inl (false, m, fun _ => 0)), n', bc - 1, bs - m) K) : Ex sc k pc ls (.int i :: st) (h, n, bc, bs) K := by
  subst g8
  exact x_newI (h := (h, n, bc, bs)) g0 g1 g2 g3 g4 g5 g6 g7 p0
theorem q_newZ {sc : ax_S} {k pc q : Nat} {ls : List (Option Value)} {st : List Value} {h : Nat → ax_C} {n bc bs : Nat} {K : ax_K} {i : Int32} {m n' : Nat} (g0 : decode (g_m k).2.1 pc = .ok (.newarray .boolean, 2)) (g1 : pc + 2 = q) (g2 : (Cond.arrayClass .boolean) ∈ gw) (g3 : ¬ i < 0) (g4 : i.toNatClampNeg = m) (g5 : m ≤ 100000) (g6 : 1 ≤ bc) (g7 : m ≤ bs) (g8 : n + 1 = n') (p0 : Ex sc k q ls (.ref n :: st) (va_up h n (.inl (true, m, fun _ => 0)), n', bc - 1, bs - m) K) : Ex sc k pc ls (.int i :: st) (h, n, bc, bs) K := by
  subst g8
  exact x_newZ (h := (h, n, bc, bs)) g0 g1 g2 g3 g4 g5 g6 g7 p0
theorem q_get {sc : ax_S} {k pc q : Nat} {ls : List (Option Value)} {st : List Value} {h : Nat → ax_C} {n bc bs : Nat} {K : ax_K} {idx o ci j : Nat} {fs : List Value} {v : Value} (g0 : decode (g_m k).2.1 pc = .ok (.getfield idx, 3)) (g1 : pc + 3 = q) (g2 : ax_fld (g_m k).1.cls idx ci j) (g3 : o < n) (g4 : h o = .inr (ci, fs)) (g5 : fs[j]? = some v) (p0 : Ex sc k q ls (v :: st) (h, n, bc, bs) K) : Ex sc k pc ls (.ref o :: st) (h, n, bc, bs) K := x_get (h := (h, n, bc, bs)) g0 g1 g2 g3 g4 g5 p0
theorem q_new {sc : ax_S} {k pc q : Nat} {ls : List (Option Value)} {st : List Value} {h : Nat → ax_C} {n bc bs : Nat} {K : ax_K} {idx ci N n' : Nat} {fs : List Value} (g0 : decode (g_m k).2.1 pc = .ok (.new idx, 3)) (g1 : pc + 3 = q) (g2 : ax_cls (g_m k).1.cls idx ci N fs) (g3 : 1 ≤ bc) (g4 : N ≤ bs) (g8 : n + 1 = n') (p0 : Ex sc k q ls (.ref n :: st) (va_up h n (.inr (ci, fs)), n', bc - 1, bs - N) K) : Ex sc k pc ls st (h, n, bc, bs) K := by
  subst g8
  exact x_new (h := (h, n, bc, bs)) g0 g1 g2 g3 g4 p0
set_option maxHeartbeats 4000000 in
theorem c_newR {sc : ax_S} {h : Nat → ax_C} {n bc bs : Nat} {K : ax_K} {o : Nat} {c : Int} (ho : o < n) (hf : h o = .inr (1, [.null, .int 0])) (hc : 1 ≤ c ∧ c ≤ 100) (hb : 1 ≤ bc) (hs : 100 ≤ bs)
    (k : ∀ (h' : Nat → ax_C) (bc' bs' : Nat), h' o = .inr (1, [.ref n, .int (zi 0)]) → h' n = .inl (false, c.toNat, fun _ => 0) → (∀ i, i ≠ o → i ≠ n → h' i = h i) → K none (h', n + 1, bc', bs')) : Ex sc 3 0 (ax_en 3 [.ref o, .int (zi c)]) [] (h, n, bc, bs) K := by
  show Ex sc 3 0 [some (.ref o), some (.int (zi c))] [] (h, n, bc, bs) K
  refine xald_0 (q := 1) d_3_0 rfl ?_
  refine x_objInit (q := 4) d_3_1 rfl li_R_3 wo_i wo_c (by decide +kernel) (by simp [Value.category]) ?_
  refine xald_0 (q := 5) d_3_4 rfl ?_
  refine x_iconst (q := 6) (v := zi (1)) d_3_5 rfl rfl ?_
  refine xild_1 (q := 7) d_3_6 rfl ?_
  refine z_mmax (by constructor <;> omega) (by constructor <;> omega) (q := 10) d_3_7 rfl li_R_9 (by decide +kernel) (by simp [Value.category]) ?_
  rw [show (if (1 : Int) < c then c else 1) = c by split <;> omega]
  refine q_newI (q := 12) (m := c.toNat) d_3_10 rfl wa_I (by rw [zi_lt0 (by omega) (by omega)]; omega) (zi_c (by omega) (by omega)) (by omega) (by omega) (by omega) rfl ?_
  refine q_putF (q := 15) (ci := 1) d_3_12 rfl fw_R_15 (show o < n + 1 by omega) (fs := [.null, .int 0]) (by rw [va_un _ _ _ (by omega)]; exact hf) (show 0 < 2 by decide) rfl rfl (by decide +kernel) rfl ?_
  refine xald_0 (q := 16) d_3_15 rfl ?_
  refine x_iconst (q := 17) (v := zi (0)) d_3_16 rfl rfl ?_
  refine q_put (q := 20) (ci := 1) d_3_17 rfl fw_R_21 (show o < n + 1 by omega) (fs := [.ref n, .int 0]) (va_us _ _ _) (show 1 < 2 by decide) rfl rfl rfl ?_
  refine x_vret d_3_20 rfl ?_
  refine k _ _ _ (va_us _ _ _) ?_ (fun i h1 h2 => ?_)
  · show va_up (va_up (va_up h n _) o _) o _ n = _
    rw [va_un _ _ _ (by omega), va_un _ _ _ (by omega), va_us]
  · show va_up (va_up (va_up h n _) o _) o _ i = _
    rw [va_un _ _ _ h1, va_un _ _ _ h1, va_un _ _ _ h2]
set_option maxHeartbeats 4000000 in
theorem c_newV {sc : ax_S} {h : Nat → ax_C} {bc bs : Nat} {K : ax_K} {P : Nat} (hf : h 1 = .inr (2, [.int 0, .null, .null, .null, .int 0, .int 0])) (hP : 1 ≤ P ∧ P ≤ 8) (hb : 3 ≤ bc) (hs : 1100 ≤ bs)
    (k : ∀ (h' : Nat → ax_C) (bc' bs' : Nat), h' 1 = .inr (2, [.int (zi P), .ref 2, .ref 3, .ref 4, .int (zi 0), .int (zi 0)]) → h' 2 = .inl (true, 100, fun _ => 0) → h' 3 = .inl (true, 100, fun _ => 0) → h' 4 = .inl (false, 101 * P, fun _ => 0) → (∀ i, i < 1 ∨ 4 < i → h' i = h i) → K none (h', 5, bc', bs')) : Ex sc 1 0 (ax_en 1 [.ref 1, .int (zi P)]) [] (h, 2, bc, bs) K := by
  show Ex sc 1 0 [some (.ref 1), some (.int (zi P))] [] (h, 2, bc, bs) K
  refine xald_0 (q := 1) d_1_0 rfl ?_
  refine x_objInit (q := 4) d_1_1 rfl li_V_3 wo_i wo_c (by decide +kernel) (by simp [Value.category]) ?_
  refine xald_0 (q := 5) d_1_4 rfl ?_
  refine xild_1 (q := 6) d_1_5 rfl ?_
  refine q_putF (q := 9) (ci := 2) d_1_6 rfl fw_V_9 (by decide) hf (show 0 < 6 by decide) rfl rfl (by decide +kernel) rfl ?_
  refine xald_0 (q := 10) d_1_9 rfl ?_
  refine x_bipush (q := 12) (v := zi (100)) d_1_10 rfl (by decide) ?_
  refine q_newZ (q := 14) (m := 100) d_1_12 rfl wa_Z (by decide) (by decide) (by decide) (by omega) (by omega) rfl ?_
  refine q_putF (q := 17) (ci := 2) d_1_14 rfl fw_V_15 (by decide) rfl (show 1 < 6 by decide) rfl rfl (by decide +kernel) rfl ?_
  refine xald_0 (q := 18) d_1_17 rfl ?_
  refine x_bipush (q := 20) (v := zi (100)) d_1_18 rfl (by decide) ?_
  refine q_newZ (q := 22) (m := 100) d_1_20 rfl wa_Z (by decide) (by decide) (by decide) (by omega) (by omega) rfl ?_
  refine q_putF (q := 25) (ci := 2) d_1_22 rfl fw_V_19 (by decide) rfl (show 2 < 6 by decide) rfl rfl (by decide +kernel) rfl ?_
  refine xald_0 (q := 26) d_1_25 rfl ?_
  refine x_bipush (q := 28) (v := zi (101)) d_1_26 rfl (by decide) ?_
  refine xild_1 (q := 29) d_1_28 rfl ?_
  refine z_imul (q := 30) d_1_29 rfl ?_
  refine q_newI (q := 32) (m := 101 * P) d_1_30 rfl wa_I (by rw [zi_lt0 (by omega) (by omega)]; omega) (by rw [zi_c (by omega) (by omega)]; omega) (by omega) (by omega) (by omega) rfl ?_
  refine q_putF (q := 35) (ci := 2) d_1_32 rfl fw_V_22 (by decide) rfl (show 3 < 6 by decide) rfl rfl (by decide +kernel) rfl ?_
  refine xald_0 (q := 36) d_1_35 rfl ?_
  refine x_iconst (q := 37) (v := zi (0)) d_1_36 rfl rfl ?_
  refine q_put (q := 40) (ci := 2) d_1_37 rfl fw_V_26 (by decide) rfl (show 4 < 6 by decide) rfl rfl rfl ?_
  refine xald_0 (q := 41) d_1_40 rfl ?_
  refine x_iconst (q := 42) (v := zi (0)) d_1_41 rfl rfl ?_
  refine q_put (q := 45) (ci := 2) d_1_42 rfl fw_V_29 (by decide) rfl (show 5 < 6 by decide) rfl rfl rfl ?_
  refine x_vret d_1_45 rfl ?_
  refine k _ _ _ rfl rfl rfl rfl (fun i hi => ?_)
  repeat rw [va_un _ _ _ (by omega)]
set_option maxHeartbeats 4000000 in
theorem c_newG {sc : ax_S} {h : Nat → ax_C} {bc bs : Nat} {K : ax_K} {s : Int} (hf : h 5 = .inr (0, [.null, .int 0, .int 0, .int 0, .int 0, .null, .int 0, .null, .null, .null, .null, .null, .null])) (hb : 10 ≤ bc) (hs : 5000 ≤ bs)
    (k : ∀ (h' : Nat → ax_C) (bc' bs' : Nat), h' 5 = .inr (0, [.ref 10, .int (zi (-2)), .int (zi 4), .int (zi 1), .int (zi 0), .ref 1, .int (zi s), .ref 6, .ref 7, .ref 8, .ref 9, .ref 12, .ref 14]) → h' 6 = .inl (false, 3600, fun _ => 0) → h' 7 = .inl (false, 500, fun _ => 0) → h' 8 = .inl (true, 100, fun _ => 0) → h' 9 = .inl (false, 100, fun _ => 0) → h' 10 = .inr (1, [.ref 11, .int (zi 0)]) → h' 11 = .inl (false, 61, fun _ => 0) → h' 12 = .inr (1, [.ref 13, .int (zi 0)]) → h' 13 = .inl (false, 100, fun _ => 0) → h' 14 = .inr (1, [.ref 15, .int (zi 0)]) → h' 15 = .inl (false, 13, fun _ => 0) → (∀ i, i < 5 ∨ 15 < i → h' i = h i) → K none (h', 16, bc', bs')) : Ex sc 2 0 (ax_en 2 [.ref 5, .ref 1, .int (zi s)]) [] (h, 6, bc, bs) K := by
  show Ex sc 2 0 [some (.ref 5), some (.ref 1), some (.int (zi s))] [] (h, 6, bc, bs) K
  refine xald_0 (q := 1) d_2_0 rfl ?_
  refine x_objInit (q := 4) d_2_1 rfl li_G_5 wo_i wo_c (by decide +kernel) (by simp [Value.category]) ?_
  refine xald_0 (q := 5) d_2_4 rfl ?_
  refine xald_1 (q := 6) d_2_5 rfl ?_
  refine q_putF (q := 9) (ci := 0) d_2_6 rfl fw_G_11 (by decide) hf (show 5 < 13 by decide) rfl rfl (by decide +kernel) rfl ?_
  refine xald_0 (q := 10) d_2_9 rfl ?_
  refine xild_2 (q := 11) d_2_10 rfl ?_
  refine q_putF (q := 14) (ci := 0) d_2_11 rfl fw_G_15 (by decide) rfl (show 6 < 13 by decide) rfl rfl (by decide +kernel) rfl ?_
  refine xald_0 (q := 15) d_2_14 rfl ?_
  refine x_bipush (q := 17) (v := zi (-2)) d_2_15 rfl (by decide) ?_
  refine q_put (q := 20) (ci := 0) d_2_17 rfl fw_G_19 (by decide) rfl (show 1 < 13 by decide) rfl rfl rfl ?_
  refine xald_0 (q := 21) d_2_20 rfl ?_
  refine x_iconst (q := 22) (v := zi (4)) d_2_21 rfl rfl ?_
  refine q_put (q := 25) (ci := 0) d_2_22 rfl fw_G_22 (by decide) rfl (show 2 < 13 by decide) rfl rfl rfl ?_
  refine xald_0 (q := 26) d_2_25 rfl ?_
  refine x_iconst (q := 27) (v := zi (1)) d_2_26 rfl rfl ?_
  refine q_put (q := 30) (ci := 0) d_2_27 rfl fw_G_25 (by decide) rfl (show 3 < 13 by decide) rfl rfl rfl ?_
  refine xald_0 (q := 31) d_2_30 rfl ?_
  refine x_iconst (q := 32) (v := zi (0)) d_2_31 rfl rfl ?_
  refine q_put (q := 35) (ci := 0) d_2_32 rfl fw_G_29 (by decide) rfl (show 4 < 13 by decide) rfl rfl rfl ?_
  refine xald_0 (q := 36) d_2_35 rfl ?_
  refine x_sipush (q := 39) (v := zi (3600)) d_2_36 rfl (by decide) ?_
  refine q_newI (q := 41) (m := 3600) d_2_39 rfl wa_I (by decide) (by decide) (by decide) (by omega) (by omega) rfl ?_
  refine q_putF (q := 44) (ci := 0) d_2_41 rfl fw_G_32 (by decide) rfl (show 7 < 13 by decide) rfl rfl (by decide +kernel) rfl ?_
  refine xald_0 (q := 45) d_2_44 rfl ?_
  refine x_sipush (q := 48) (v := zi (500)) d_2_45 rfl (by decide) ?_
  refine q_newI (q := 50) (m := 500) d_2_48 rfl wa_I (by decide) (by decide) (by decide) (by omega) (by omega) rfl ?_
  refine q_putF (q := 53) (ci := 0) d_2_50 rfl fw_G_36 (by decide) rfl (show 8 < 13 by decide) rfl rfl (by decide +kernel) rfl ?_
  refine xald_0 (q := 54) d_2_53 rfl ?_
  refine x_bipush (q := 56) (v := zi (100)) d_2_54 rfl (by decide) ?_
  refine q_newZ (q := 58) (m := 100) d_2_56 rfl wa_Z (by decide) (by decide) (by decide) (by omega) (by omega) rfl ?_
  refine q_putF (q := 61) (ci := 0) d_2_58 rfl fw_G_39 (by decide) rfl (show 9 < 13 by decide) rfl rfl (by decide +kernel) rfl ?_
  refine xald_0 (q := 62) d_2_61 rfl ?_
  refine x_bipush (q := 64) (v := zi (100)) d_2_62 rfl (by decide) ?_
  refine q_newI (q := 66) (m := 100) d_2_64 rfl wa_I (by decide) (by decide) (by decide) (by omega) (by omega) rfl ?_
  refine q_putF (q := 69) (ci := 0) d_2_66 rfl fw_G_43 (by decide) rfl (show 10 < 13 by decide) rfl rfl (by decide +kernel) rfl ?_
  refine xald_0 (q := 70) d_2_69 rfl ?_
  refine q_new (q := 73) d_2_70 rfl cl_G_46 (by omega) (by omega) rfl ?_
  refine x_dup (q := 74) d_2_73 rfl rfl ?_
  refine x_bipush (q := 76) (v := zi (61)) d_2_74 rfl (by decide) ?_
  refine xcI1 (mc := 1) (ms := 100) (q := 79) d_2_76 rfl lk_G_48 mo_3 ⟨by decide +kernel, by decide +kernel⟩ (by simp [Value.category]) (by decide +kernel) (by simp [Value.category]) (by omega) (by omega) (by omega) rfl ?_
  refine c_newR (o := 10) (c := 61) (by decide) rfl (by decide) (by decide) (by decide) ?_
  intro ha b1ha b2ha hao hak haf
  dsimp only [ax_ps]
  refine q_putF (q := 82) (ci := 0) d_2_79 rfl fw_G_51 (by decide) (haf 5 (by decide) (by decide)) (show 0 < 13 by decide) rfl rfl (by decide +kernel) rfl ?_
  refine xald_0 (q := 83) d_2_82 rfl ?_
  refine q_new (q := 86) d_2_83 rfl cl_G_46 (by omega) (by omega) rfl ?_
  refine x_dup (q := 87) d_2_86 rfl rfl ?_
  refine x_bipush (q := 89) (v := zi (100)) d_2_87 rfl (by decide) ?_
  refine xcI1 (mc := 1) (ms := 100) (q := 92) d_2_89 rfl lk_G_48 mo_3 ⟨by decide +kernel, by decide +kernel⟩ (by simp [Value.category]) (by decide +kernel) (by simp [Value.category]) (by omega) (by omega) (by omega) rfl ?_
  refine c_newR (o := 12) (c := 100) (by decide) rfl (by decide) (by decide) (by decide) ?_
  intro hb2 b1hb2 b2hb2 hb2o hb2k hb2f
  dsimp only [ax_ps]
  refine q_putF (q := 95) (ci := 0) d_2_92 rfl fw_G_55 (by decide) (hb2f 5 (by decide) (by decide)) (show 11 < 13 by decide) rfl rfl (by decide +kernel) rfl ?_
  refine xald_0 (q := 96) d_2_95 rfl ?_
  refine q_new (q := 99) d_2_96 rfl cl_G_46 (by omega) (by omega) rfl ?_
  refine x_dup (q := 100) d_2_99 rfl rfl ?_
  refine x_bipush (q := 102) (v := zi (13)) d_2_100 rfl (by decide) ?_
  refine xcI1 (mc := 1) (ms := 100) (q := 105) d_2_102 rfl lk_G_48 mo_3 ⟨by decide +kernel, by decide +kernel⟩ (by simp [Value.category]) (by decide +kernel) (by simp [Value.category]) (by omega) (by omega) (by omega) rfl ?_
  refine c_newR (o := 14) (c := 13) (by decide) rfl (by decide) (by decide) (by decide) ?_
  intro hc b1hc b2hc hco hck hcf
  dsimp only [ax_ps]
  refine q_putF (q := 108) (ci := 0) d_2_105 rfl fw_G_58 (by decide) (hcf 5 (by decide) (by decide)) (show 12 < 13 by decide) rfl rfl (by decide +kernel) rfl ?_
  refine x_vret d_2_108 rfl ?_
  refine k _ _ _ rfl ?_ ?_ ?_ ?_ ?_ ?_ ?_ ?_ ?_ ?_ (fun i hi => ?_)
  · exact (hcf 6 (by decide) (by decide)).trans ((hb2f 6 (by decide) (by decide)).trans (haf 6 (by decide) (by decide)))
  · exact (hcf 7 (by decide) (by decide)).trans ((hb2f 7 (by decide) (by decide)).trans (haf 7 (by decide) (by decide)))
  · exact (hcf 8 (by decide) (by decide)).trans ((hb2f 8 (by decide) (by decide)).trans (haf 8 (by decide) (by decide)))
  · exact (hcf 9 (by decide) (by decide)).trans ((hb2f 9 (by decide) (by decide)).trans (haf 9 (by decide) (by decide)))
  · exact (hcf 10 (by decide) (by decide)).trans ((hb2f 10 (by decide) (by decide)).trans hao)
  · exact (hcf 11 (by decide) (by decide)).trans ((hb2f 11 (by decide) (by decide)).trans hak)
  · exact (hcf 12 (by decide) (by decide)).trans hb2o
  · exact (hcf 13 (by decide) (by decide)).trans hb2k
  · exact hco
  · exact hck
  · show va_up hc 5 _ i = _
    rw [va_un _ _ _ (by omega), hcf i (by omega) (by omega)]
    show va_up (va_up hb2 5 _) 14 _ i = _
    rw [va_un _ _ _ (by omega), va_un _ _ _ (by omega), hb2f i (by omega) (by omega)]
    show va_up (va_up ha 5 _) 12 _ i = _
    rw [va_un _ _ _ (by omega), va_un _ _ _ (by omega), haf i (by omega) (by omega)]
    repeat rw [va_un _ _ _ (by omega)]
def prtN (p : Int) : Nat := if p < 1 then 1 else if 8 < p then 8 else p.toNat
theorem prt_b (p : Int) : 1 ≤ prtN p ∧ prtN p ≤ 8 := by unfold prtN; split <;> (try split) <;> omega
def I0 (p s : Int) : Nat → Int := fun r => if r = 7 then prtN p else if r = 2 then -2 else if r = 3 then 4 else if r = 4 then 1 else if r = 8 then s else 0
set_option maxHeartbeats 4000000 in
theorem c_newX {sc : ax_S} {σ : Nat → ax_C} {bc bs : Nat} {K : ax_K} {p s : Int} (hp : I32 p) (hb : 21 ≤ bc) (hs : 7000 ≤ bs)
    (k : ∀ (h' : Nat → ax_C) (bc' bs' : Nat), h' = vg σ (I0 p s) (fun _ _ => 0) → K none (h', 22, bc', bs')) : Ex sc 0 0 (ax_en 0 [.ref 0, .int (zi p), .int (zi s)]) [] (va_up σ 0 (.inr (3, [.null, .null, .null, .null, .null, .int 0])), 1, bc, bs) K := by
  have hPb := prt_b p
  have eP : (if (1 : Int) < (if p < 8 then p else 8) then (if p < 8 then p else 8) else 1) = (prtN p : Int) := by
    unfold prtN
    split <;> split <;> (try split) <;> (try split) <;> omega
  show Ex sc 0 0 [some (.ref 0), some (.int (zi p)), some (.int (zi s))] [] (va_up σ 0 (.inr (3, [.null, .null, .null, .null, .null, .int 0])), 1, bc, bs) K
  refine xald_0 (q := 1) d_0_0 rfl ?_
  refine x_objInit (q := 4) d_0_1 rfl li_X_3 wo_i wo_c (by decide +kernel) (by simp [Value.category]) ?_
  refine xald_0 (q := 5) d_0_4 rfl ?_
  refine q_new (q := 8) d_0_5 rfl cl_X_9 (by omega) (by omega) rfl ?_
  refine x_dup (q := 9) d_0_8 rfl rfl ?_
  refine x_iconst (q := 10) (v := zi (1)) d_0_9 rfl rfl ?_
  refine x_bipush (q := 12) (v := zi (8)) d_0_10 rfl (by decide) ?_
  refine xild_1 (q := 13) d_0_12 rfl ?_
  refine z_mmin (by constructor <;> omega) (by constructor <;> omega) (q := 16) d_0_13 rfl li_X_11 (by decide +kernel) (by simp [Value.category]) ?_
  refine z_mmax (by constructor <;> omega) (by constructor <;> split <;> omega) (q := 19) d_0_16 rfl li_X_17 (by decide +kernel) (by simp [Value.category]) ?_
  rw [eP]
  refine xcI1 (mc := 3) (ms := 1100) (q := 22) d_0_19 rfl lk_X_20 mo_1 ⟨by decide +kernel, by decide +kernel⟩ (by simp [Value.category]) (by decide +kernel) (by simp [Value.category]) (by omega) (by omega) (by omega) rfl ?_
  refine c_newV (P := prtN p) rfl hPb (by decide) (by decide) ?_
  intro h1 b11 b12 h1o h12 h13 h14 h1f
  dsimp only [ax_ps]
  refine q_putF (q := 25) (ci := 3) d_0_22 rfl fw_X_23 (by decide) (h1f 0 (by decide)) (show 0 < 6 by decide) rfl rfl (by decide +kernel) rfl ?_
  refine xald_0 (q := 26) d_0_25 rfl ?_
  refine q_new (q := 29) d_0_26 rfl cl_X_27 (by omega) (by omega) rfl ?_
  refine x_dup (q := 30) d_0_29 rfl rfl ?_
  refine xald_0 (q := 31) d_0_30 rfl ?_
  refine q_get (q := 34) (ci := 3) (j := 0) (v := .ref 1) d_0_31 rfl fl_X_23 (by decide) rfl rfl ?_
  refine xild_2 (q := 35) d_0_34 rfl ?_
  refine xcI2 (mc := 10) (ms := 5000) (q := 38) d_0_35 rfl lk_X_29 mo_2 ⟨by decide +kernel, by decide +kernel⟩ (by simp [Value.category]) (by decide +kernel) (by simp [Value.category]) (by omega) (by omega) (by omega) rfl ?_
  refine c_newG (s := s) rfl (by decide) (by decide) ?_
  intro h2 b21 b22 h25 h26 h27 h28 h29 h210 h211 h212 h213 h214 h215 h2f
  dsimp only [ax_ps]
  refine q_putF (q := 41) (ci := 3) d_0_38 rfl fw_X_32 (by decide) (h2f 0 (by decide)) (show 1 < 6 by decide) rfl rfl (by decide +kernel) rfl ?_
  refine xald_0 (q := 42) d_0_41 rfl ?_
  refine q_new (q := 45) d_0_42 rfl cl_X_36 (by omega) (by omega) rfl ?_
  refine x_dup (q := 46) d_0_45 rfl rfl ?_
  refine x_bipush (q := 48) (v := zi (100)) d_0_46 rfl (by decide) ?_
  refine xcI1 (mc := 1) (ms := 100) (q := 51) d_0_48 rfl lk_X_38 mo_3 ⟨by decide +kernel, by decide +kernel⟩ (by simp [Value.category]) (by decide +kernel) (by simp [Value.category]) (by omega) (by omega) (by omega) rfl ?_
  refine c_newR (o := 16) (c := 100) (by decide) rfl (by decide) (by decide) (by decide) ?_
  intro g0 b1g0 b2g0 g0o g0k g0f
  dsimp only [ax_ps]
  refine q_putF (q := 54) (ci := 3) d_0_51 rfl fw_X_39 (by decide) (g0f 0 (by decide) (by decide)) (show 2 < 6 by decide) rfl rfl (by decide +kernel) rfl ?_
  refine xald_0 (q := 55) d_0_54 rfl ?_
  refine q_new (q := 58) d_0_55 rfl cl_X_36 (by omega) (by omega) rfl ?_
  refine x_dup (q := 59) d_0_58 rfl rfl ?_
  refine x_bipush (q := 61) (v := zi (100)) d_0_59 rfl (by decide) ?_
  refine xcI1 (mc := 1) (ms := 100) (q := 64) d_0_61 rfl lk_X_38 mo_3 ⟨by decide +kernel, by decide +kernel⟩ (by simp [Value.category]) (by decide +kernel) (by simp [Value.category]) (by omega) (by omega) (by omega) rfl ?_
  refine c_newR (o := 18) (c := 100) (by decide) rfl (by decide) (by decide) (by decide) ?_
  intro g1 b1g1 b2g1 g1o g1k g1f
  dsimp only [ax_ps]
  refine q_putF (q := 67) (ci := 3) d_0_64 rfl fw_X_43 (by decide) (g1f 0 (by decide) (by decide)) (show 3 < 6 by decide) rfl rfl (by decide +kernel) rfl ?_
  refine xald_0 (q := 68) d_0_67 rfl ?_
  refine q_new (q := 71) d_0_68 rfl cl_X_36 (by omega) (by omega) rfl ?_
  refine x_dup (q := 72) d_0_71 rfl rfl ?_
  refine x_bipush (q := 74) (v := zi (100)) d_0_72 rfl (by decide) ?_
  refine xcI1 (mc := 1) (ms := 100) (q := 77) d_0_74 rfl lk_X_38 mo_3 ⟨by decide +kernel, by decide +kernel⟩ (by simp [Value.category]) (by decide +kernel) (by simp [Value.category]) (by omega) (by omega) (by omega) rfl ?_
  refine c_newR (o := 20) (c := 100) (by decide) rfl (by decide) (by decide) (by decide) ?_
  intro g2 b1g2 b2g2 g2o g2k g2f
  dsimp only [ax_ps]
  refine q_putF (q := 80) (ci := 3) d_0_77 rfl fw_X_46 (by decide) (g2f 0 (by decide) (by decide)) (show 4 < 6 by decide) rfl rfl (by decide +kernel) rfl ?_
  refine xald_0 (q := 81) d_0_80 rfl ?_
  refine x_iconst (q := 82) (v := zi (0)) d_0_81 rfl rfl ?_
  refine q_put (q := 85) (ci := 3) d_0_82 rfl fw_X_49 (by decide) rfl (show 5 < 6 by decide) rfl rfl rfl ?_
  refine x_vret d_0_85 rfl ?_
  refine k _ _ _ ?_
  funext i
  match i with
  | 0 => exact rfl
  | 1 => exact (g2f 1 (by decide) (by decide)).trans ((g1f 1 (by decide) (by decide)).trans ((g0f 1 (by decide) (by decide)).trans ((h2f 1 (by decide)).trans h1o)))
  | 2 => exact (g2f 2 (by decide) (by decide)).trans ((g1f 2 (by decide) (by decide)).trans ((g0f 2 (by decide) (by decide)).trans ((h2f 2 (by decide)).trans h12)))
  | 3 => exact (g2f 3 (by decide) (by decide)).trans ((g1f 3 (by decide) (by decide)).trans ((g0f 3 (by decide) (by decide)).trans ((h2f 3 (by decide)).trans h13)))
  | 4 => exact (g2f 4 (by decide) (by decide)).trans ((g1f 4 (by decide) (by decide)).trans ((g0f 4 (by decide) (by decide)).trans ((h2f 4 (by decide)).trans h14)))
  | 5 => exact (g2f 5 (by decide) (by decide)).trans ((g1f 5 (by decide) (by decide)).trans ((g0f 5 (by decide) (by decide)).trans h25))
  | 6 => exact (g2f 6 (by decide) (by decide)).trans ((g1f 6 (by decide) (by decide)).trans ((g0f 6 (by decide) (by decide)).trans h26))
  | 7 => exact (g2f 7 (by decide) (by decide)).trans ((g1f 7 (by decide) (by decide)).trans ((g0f 7 (by decide) (by decide)).trans h27))
  | 8 => exact (g2f 8 (by decide) (by decide)).trans ((g1f 8 (by decide) (by decide)).trans ((g0f 8 (by decide) (by decide)).trans h28))
  | 9 => exact (g2f 9 (by decide) (by decide)).trans ((g1f 9 (by decide) (by decide)).trans ((g0f 9 (by decide) (by decide)).trans h29))
  | 10 => exact (g2f 10 (by decide) (by decide)).trans ((g1f 10 (by decide) (by decide)).trans ((g0f 10 (by decide) (by decide)).trans h210))
  | 11 => exact (g2f 11 (by decide) (by decide)).trans ((g1f 11 (by decide) (by decide)).trans ((g0f 11 (by decide) (by decide)).trans h211))
  | 12 => exact (g2f 12 (by decide) (by decide)).trans ((g1f 12 (by decide) (by decide)).trans ((g0f 12 (by decide) (by decide)).trans h212))
  | 13 => exact (g2f 13 (by decide) (by decide)).trans ((g1f 13 (by decide) (by decide)).trans ((g0f 13 (by decide) (by decide)).trans h213))
  | 14 => exact (g2f 14 (by decide) (by decide)).trans ((g1f 14 (by decide) (by decide)).trans ((g0f 14 (by decide) (by decide)).trans h214))
  | 15 => exact (g2f 15 (by decide) (by decide)).trans ((g1f 15 (by decide) (by decide)).trans ((g0f 15 (by decide) (by decide)).trans h215))
  | 16 => exact (g2f 16 (by decide) (by decide)).trans ((g1f 16 (by decide) (by decide)).trans g0o)
  | 17 => exact (g2f 17 (by decide) (by decide)).trans ((g1f 17 (by decide) (by decide)).trans g0k)
  | 18 => exact (g2f 18 (by decide) (by decide)).trans g1o
  | 19 => exact (g2f 19 (by decide) (by decide)).trans g1k
  | 20 => exact g2o
  | 21 => exact g2k
  | j + 22 =>
    show va_up (va_up g2 0 _) 0 _ (j + 22) = σ (j + 22)
    rw [va_un _ _ _ (by omega), va_un _ _ _ (by omega), g2f _ (by omega) (by omega)]
    show va_up (va_up g1 0 _) 20 _ (j + 22) = _
    rw [va_un _ _ _ (by omega), va_un _ _ _ (by omega), g1f _ (by omega) (by omega)]
    show va_up (va_up g0 0 _) 18 _ (j + 22) = _
    rw [va_un _ _ _ (by omega), va_un _ _ _ (by omega), g0f _ (by omega) (by omega)]
    show va_up (va_up h2 0 _) 16 _ (j + 22) = _
    rw [va_un _ _ _ (by omega), va_un _ _ _ (by omega), h2f _ (by omega)]
    show va_up (va_up h1 0 _) 5 _ (j + 22) = _
    rw [va_un _ _ _ (by omega), va_un _ _ _ (by omega), h1f _ (by omega)]
    show va_up (va_up σ 0 _) 1 _ (j + 22) = _
    rw [va_un _ _ _ (by omega), va_un _ _ _ (by omega)]
def J0 (P : Int) (s : Int) : Nat → Int := fun r => if r = 1 then P else if r = 2 then s else if r = 4 then 4 else if r = 5 then 1 else if r = 16 then -1 else 0
set_option maxHeartbeats 4000000 in
theorem t_newM {sc : ax_S} {σ : Nat → ax_C} {bc bs : Nat} {K : ax_K} {p s : Int} (hp : I32 p) (hb : 15 ≤ bc) (hs : 70000 ≤ bs)
    (k : ∀ (h' : Nat → ax_C) (bc' bs' : Nat), h' = mg σ (J0 (prtN p) s) (fun _ _ => 0) → K none (h', 38, bc', bs')) : Ex sc 64 0 (ax_en 64 [.ref 22, .int (zi p), .int (zi s)]) [] (va_up σ 22 (.inr (4, [.int 0, .int 0, .int 0, .int 0, .int 0, .int 0, .null, .int 0, .null, .null, .null, .int 0, .int 0, .int 0, .null, .null, .int 0, .null, .null, .null, .null, .int 0, .null, .null, .null, .null, .int 0, .null])), 23, bc, bs) K := by
  show Ex sc 64 0 [some (.ref 22), some (.int (zi p)), some (.int (zi s))] [] (va_up σ 22 (.inr (4, [.int 0, .int 0, .int 0, .int 0, .int 0, .int 0, .null, .int 0, .null, .null, .null, .int 0, .int 0, .int 0, .null, .null, .int 0, .null, .null, .null, .null, .int 0, .null, .null, .null, .null, .int 0, .null])), 23, bc, bs) K
  refine xald_0 (q := 1) d_64_0 rfl ?_
  refine x_objInit (q := 4) d_64_1 rfl li_M_7 wo_i wo_c (by decide +kernel) (by simp [Value.category]) ?_
  refine xald_0 (q := 5) d_64_4 rfl ?_
  refine x_iconst (q := 6) (v := zi (4)) d_64_5 rfl rfl ?_
  refine q_put (q := 9) (ci := 4) d_64_6 rfl fw_M_13 (by decide) rfl (show 4 < 28 by decide) rfl rfl rfl ?_
  refine xald_0 (q := 10) d_64_9 rfl ?_
  refine x_iconst (q := 11) (v := zi (1)) d_64_10 rfl rfl ?_
  refine q_put (q := 14) (ci := 4) d_64_11 rfl fw_M_16 (by decide) rfl (show 5 < 28 by decide) rfl rfl rfl ?_
  refine xald_0 (q := 15) d_64_14 rfl ?_
  refine x_sipush (q := 18) (v := zi (808)) d_64_15 rfl (by decide) ?_
  refine q_newI (q := 20) (m := 808) d_64_18 rfl wa_I (by decide) (by decide) (by decide) (by omega) (by omega) rfl ?_
  refine q_putF (q := 23) (ci := 4) d_64_20 rfl fw_M_19 (by decide) rfl (show 6 < 28 by decide) rfl rfl (by decide +kernel) rfl ?_
  refine xald_0 (q := 24) d_64_23 rfl ?_
  refine x_bipush (q := 26) (v := zi (100)) d_64_24 rfl (by decide) ?_
  refine q_newZ (q := 28) (m := 100) d_64_26 rfl wa_Z (by decide) (by decide) (by decide) (by omega) (by omega) rfl ?_
  refine q_putF (q := 31) (ci := 4) d_64_28 rfl fw_M_23 (by decide) rfl (show 8 < 28 by decide) rfl rfl (by decide +kernel) rfl ?_
  refine xald_0 (q := 32) d_64_31 rfl ?_
  refine x_bipush (q := 34) (v := zi (100)) d_64_32 rfl (by decide) ?_
  refine q_newZ (q := 36) (m := 100) d_64_34 rfl wa_Z (by decide) (by decide) (by decide) (by omega) (by omega) rfl ?_
  refine q_putF (q := 39) (ci := 4) d_64_36 rfl fw_M_27 (by decide) rfl (show 9 < 28 by decide) rfl rfl (by decide +kernel) rfl ?_
  refine xald_0 (q := 40) d_64_39 rfl ?_
  refine x_bipush (q := 42) (v := zi (100)) d_64_40 rfl (by decide) ?_
  refine q_newI (q := 44) (m := 100) d_64_42 rfl wa_I (by decide) (by decide) (by decide) (by omega) (by omega) rfl ?_
  refine q_putF (q := 47) (ci := 4) d_64_44 rfl fw_M_30 (by decide) rfl (show 10 < 28 by decide) rfl rfl (by decide +kernel) rfl ?_
  refine xald_0 (q := 48) d_64_47 rfl ?_
  refine x_bipush (q := 50) (v := zi (100)) d_64_48 rfl (by decide) ?_
  refine q_newI (q := 52) (m := 100) d_64_50 rfl wa_I (by decide) (by decide) (by decide) (by omega) (by omega) rfl ?_
  refine q_putF (q := 55) (ci := 4) d_64_52 rfl fw_M_33 (by decide) rfl (show 14 < 28 by decide) rfl rfl (by decide +kernel) rfl ?_
  refine xald_0 (q := 56) d_64_55 rfl ?_
  refine x_ldc (q := 58) (v := zi 50000) d_64_56 rfl kc_M_36 ?_
  refine q_newZ (q := 60) (m := 50000) d_64_58 rfl wa_Z (by decide) (by decide) (by decide) (by omega) (by omega) rfl ?_
  refine q_putF (q := 63) (ci := 4) d_64_60 rfl fw_M_37 (by decide) rfl (show 15 < 28 by decide) rfl rfl (by decide +kernel) rfl ?_
  refine xald_0 (q := 64) d_64_63 rfl ?_
  refine x_iconst (q := 65) (v := zi (-1)) d_64_64 rfl rfl ?_
  refine q_put (q := 68) (ci := 4) d_64_65 rfl fw_M_40 (by decide) rfl (show 16 < 28 by decide) rfl rfl rfl ?_
  refine xald_0 (q := 69) d_64_68 rfl ?_
  refine x_sipush (q := 72) (v := zi (10100)) d_64_69 rfl (by decide) ?_
  refine q_newI (q := 74) (m := 10100) d_64_72 rfl wa_I (by decide) (by decide) (by decide) (by omega) (by omega) rfl ?_
  refine q_putF (q := 77) (ci := 4) d_64_74 rfl fw_M_43 (by decide) rfl (show 17 < 28 by decide) rfl rfl (by decide +kernel) rfl ?_
  refine xald_0 (q := 78) d_64_77 rfl ?_
  refine x_bipush (q := 80) (v := zi (100)) d_64_78 rfl (by decide) ?_
  refine q_newZ (q := 82) (m := 100) d_64_80 rfl wa_Z (by decide) (by decide) (by decide) (by omega) (by omega) rfl ?_
  refine q_putF (q := 85) (ci := 4) d_64_82 rfl fw_M_46 (by decide) rfl (show 18 < 28 by decide) rfl rfl (by decide +kernel) rfl ?_
  refine xald_0 (q := 86) d_64_85 rfl ?_
  refine x_bipush (q := 88) (v := zi (100)) d_64_86 rfl (by decide) ?_
  refine q_newZ (q := 90) (m := 100) d_64_88 rfl wa_Z (by decide) (by decide) (by decide) (by omega) (by omega) rfl ?_
  refine q_putF (q := 93) (ci := 4) d_64_90 rfl fw_M_49 (by decide) rfl (show 19 < 28 by decide) rfl rfl (by decide +kernel) rfl ?_
  refine xald_0 (q := 94) d_64_93 rfl ?_
  refine x_bipush (q := 96) (v := zi (100)) d_64_94 rfl (by decide) ?_
  refine q_newZ (q := 98) (m := 100) d_64_96 rfl wa_Z (by decide) (by decide) (by decide) (by omega) (by omega) rfl ?_
  refine q_putF (q := 101) (ci := 4) d_64_98 rfl fw_M_52 (by decide) rfl (show 20 < 28 by decide) rfl rfl (by decide +kernel) rfl ?_
  refine xald_0 (q := 102) d_64_101 rfl ?_
  refine x_bipush (q := 104) (v := zi (100)) d_64_102 rfl (by decide) ?_
  refine q_newZ (q := 106) (m := 100) d_64_104 rfl wa_Z (by decide) (by decide) (by decide) (by omega) (by omega) rfl ?_
  refine q_putF (q := 109) (ci := 4) d_64_106 rfl fw_M_55 (by decide) rfl (show 22 < 28 by decide) rfl rfl (by decide +kernel) rfl ?_
  refine xald_0 (q := 110) d_64_109 rfl ?_
  refine x_bipush (q := 112) (v := zi (100)) d_64_110 rfl (by decide) ?_
  refine q_newZ (q := 114) (m := 100) d_64_112 rfl wa_Z (by decide) (by decide) (by decide) (by omega) (by omega) rfl ?_
  refine q_putF (q := 117) (ci := 4) d_64_114 rfl fw_M_58 (by decide) rfl (show 23 < 28 by decide) rfl rfl (by decide +kernel) rfl ?_
  refine xald_0 (q := 118) d_64_117 rfl ?_
  refine x_bipush (q := 120) (v := zi (100)) d_64_118 rfl (by decide) ?_
  refine q_newZ (q := 122) (m := 100) d_64_120 rfl wa_Z (by decide) (by decide) (by decide) (by omega) (by omega) rfl ?_
  refine q_putF (q := 125) (ci := 4) d_64_122 rfl fw_M_61 (by decide) rfl (show 24 < 28 by decide) rfl rfl (by decide +kernel) rfl ?_
  refine xald_0 (q := 126) d_64_125 rfl ?_
  refine x_bipush (q := 128) (v := zi (100)) d_64_126 rfl (by decide) ?_
  refine q_newI (q := 130) (m := 100) d_64_128 rfl wa_I (by decide) (by decide) (by decide) (by omega) (by omega) rfl ?_
  refine q_putF (q := 133) (ci := 4) d_64_130 rfl fw_M_64 (by decide) rfl (show 25 < 28 by decide) rfl rfl (by decide +kernel) rfl ?_
  refine xald_0 (q := 134) d_64_133 rfl ?_
  refine x_bipush (q := 136) (v := zi (100)) d_64_134 rfl (by decide) ?_
  refine q_newZ (q := 138) (m := 100) d_64_136 rfl wa_Z (by decide) (by decide) (by decide) (by omega) (by omega) rfl ?_
  refine q_putF (q := 141) (ci := 4) d_64_138 rfl fw_M_67 (by decide) rfl (show 27 < 28 by decide) rfl rfl (by decide +kernel) rfl ?_
  refine xald_0 (q := 142) d_64_141 rfl ?_
  refine x_iconst (q := 143) (v := zi (0)) d_64_142 rfl rfl ?_
  refine q_put (q := 146) (ci := 4) d_64_143 rfl fw_M_1 (by decide) rfl (show 0 < 28 by decide) rfl rfl rfl ?_
  refine xald_0 (q := 147) d_64_146 rfl ?_
  refine xild_1 (q := 148) d_64_147 rfl ?_
  refine x_iconst (q := 149) (v := zi (1)) d_64_148 rfl rfl ?_
  refine x_icmp_ge (q := 152) (t := 156) d_64_149 (by decide) rfl (fun c149 => ?_) (fun c149 => ?_)
  · rw [zi_le (by omega) (by omega) (by omega) (by omega)] at c149
    refine xild_1 (q := 157) d_64_156 rfl ?_
    refine x_bipush (q := 159) (v := zi (8)) d_64_157 rfl (by decide) ?_
    refine x_icmp_le (q := 162) (t := 167) d_64_159 (by decide) rfl (fun c159 => ?_) (fun c159 => ?_)
    · rw [zi_le (by omega) (by omega) (by omega) (by omega)] at c159
      refine xild_1 (q := 168) d_64_167 rfl ?_
      refine q_putF (q := 171) (ci := 4) d_64_168 rfl fw_M_70 (by decide) rfl (show 1 < 28 by decide) rfl rfl (by decide +kernel) rfl ?_
      refine xald_0 (q := 172) d_64_171 rfl ?_
      refine xild_2 (q := 173) d_64_172 rfl ?_
      refine q_putF (q := 176) (ci := 4) d_64_173 rfl fw_M_73 (by decide) rfl (show 2 < 28 by decide) rfl rfl (by decide +kernel) rfl ?_
      refine x_vret d_64_176 rfl ?_
      have e9 : (prtN p : Int) = p := by unfold prtN; split <;> (try split) <;> omega
      rw [e9] at k
      refine k _ _ _ ?_
      funext i
      match i with
      | 0 => rfl
      | 1 => rfl
      | 2 => rfl
      | 3 => rfl
      | 4 => rfl
      | 5 => rfl
      | 6 => rfl
      | 7 => rfl
      | 8 => rfl
      | 9 => rfl
      | 10 => rfl
      | 11 => rfl
      | 12 => rfl
      | 13 => rfl
      | 14 => rfl
      | 15 => rfl
      | 16 => rfl
      | 17 => rfl
      | 18 => rfl
      | 19 => rfl
      | 20 => rfl
      | 21 => rfl
      | 22 => rfl
      | 23 => rfl
      | 24 => rfl
      | 25 => rfl
      | 26 => rfl
      | 27 => rfl
      | 28 => rfl
      | 29 => rfl
      | 30 => rfl
      | 31 => rfl
      | 32 => rfl
      | 33 => rfl
      | 34 => rfl
      | 35 => rfl
      | 36 => rfl
      | 37 => rfl
      | j + 38 =>
        repeat rw [va_un _ _ _ (by omega)]
        exact (mg_off (Or.inr (by omega))).symm
    · rw [zi_le (by omega) (by omega) (by omega) (by omega)] at c159
      refine x_bipush (q := 164) (v := zi (8)) d_64_162 rfl (by decide) ?_
      refine x_goto (t := 168) d_64_164 (by decide) ?_
      refine q_putF (q := 171) (ci := 4) d_64_168 rfl fw_M_70 (by decide) rfl (show 1 < 28 by decide) rfl rfl (by decide +kernel) rfl ?_
      refine xald_0 (q := 172) d_64_171 rfl ?_
      refine xild_2 (q := 173) d_64_172 rfl ?_
      refine q_putF (q := 176) (ci := 4) d_64_173 rfl fw_M_73 (by decide) rfl (show 2 < 28 by decide) rfl rfl (by decide +kernel) rfl ?_
      refine x_vret d_64_176 rfl ?_
      have e9 : (prtN p : Int) = 8 := by unfold prtN; split <;> (try split) <;> omega
      rw [e9] at k
      refine k _ _ _ ?_
      funext i
      match i with
      | 0 => rfl
      | 1 => rfl
      | 2 => rfl
      | 3 => rfl
      | 4 => rfl
      | 5 => rfl
      | 6 => rfl
      | 7 => rfl
      | 8 => rfl
      | 9 => rfl
      | 10 => rfl
      | 11 => rfl
      | 12 => rfl
      | 13 => rfl
      | 14 => rfl
      | 15 => rfl
      | 16 => rfl
      | 17 => rfl
      | 18 => rfl
      | 19 => rfl
      | 20 => rfl
      | 21 => rfl
      | 22 => rfl
      | 23 => rfl
      | 24 => rfl
      | 25 => rfl
      | 26 => rfl
      | 27 => rfl
      | 28 => rfl
      | 29 => rfl
      | 30 => rfl
      | 31 => rfl
      | 32 => rfl
      | 33 => rfl
      | 34 => rfl
      | 35 => rfl
      | 36 => rfl
      | 37 => rfl
      | j + 38 =>
        repeat rw [va_un _ _ _ (by omega)]
        exact (mg_off (Or.inr (by omega))).symm
  · rw [zi_le (by omega) (by omega) (by omega) (by omega)] at c149
    refine x_iconst (q := 153) (v := zi (1)) d_64_152 rfl rfl ?_
    refine x_goto (t := 168) d_64_153 (by decide) ?_
    refine q_putF (q := 171) (ci := 4) d_64_168 rfl fw_M_70 (by decide) rfl (show 1 < 28 by decide) rfl rfl (by decide +kernel) rfl ?_
    refine xald_0 (q := 172) d_64_171 rfl ?_
    refine xild_2 (q := 173) d_64_172 rfl ?_
    refine q_putF (q := 176) (ci := 4) d_64_173 rfl fw_M_73 (by decide) rfl (show 2 < 28 by decide) rfl rfl (by decide +kernel) rfl ?_
    refine x_vret d_64_176 rfl ?_
    have e9 : (prtN p : Int) = 1 := by unfold prtN; split <;> (try split) <;> omega
    rw [e9] at k
    refine k _ _ _ ?_
    funext i
    match i with
    | 0 => rfl
    | 1 => rfl
    | 2 => rfl
    | 3 => rfl
    | 4 => rfl
    | 5 => rfl
    | 6 => rfl
    | 7 => rfl
    | 8 => rfl
    | 9 => rfl
    | 10 => rfl
    | 11 => rfl
    | 12 => rfl
    | 13 => rfl
    | 14 => rfl
    | 15 => rfl
    | 16 => rfl
    | 17 => rfl
    | 18 => rfl
    | 19 => rfl
    | 20 => rfl
    | 21 => rfl
    | 22 => rfl
    | 23 => rfl
    | 24 => rfl
    | 25 => rfl
    | 26 => rfl
    | 27 => rfl
    | 28 => rfl
    | 29 => rfl
    | 30 => rfl
    | 31 => rfl
    | 32 => rfl
    | 33 => rfl
    | 34 => rfl
    | 35 => rfl
    | 36 => rfl
    | 37 => rfl
    | j + 38 =>
      repeat rw [va_un _ _ _ (by omega)]
      exact (mg_off (Or.inr (by omega))).symm
