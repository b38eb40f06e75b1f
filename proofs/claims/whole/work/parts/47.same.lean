/-! each call answers alike -/
section
variable {sc : ax_S} {σ : Nat → ax_C} {I : Nat → Int} {F : Nat → Nat → Int} {J : Nat → Int} {G : Nat → Nat → Int}
theorem VW.put {P N M : Nat} (h : VW I F P N M) {p : Nat} {v : Int} (hv : -100 ≤ v ∧ v ≤ 100) : VW I (va_up F 2 (va_up (F 2) p v)) P N M := by
  obtain ⟨a1, a2, a3, a4, a5, a6, a7, a8, a9, a10⟩ := h
  refine ⟨a1, a2, a3, a4, a5, a6, a7, fun j hj => ?_, a9, a10⟩
  show -100 ≤ va_up (F 2) p v j ∧ va_up (F 2) p v j ≤ 100
  by_cases e : j = p
  · rw [e, va_us]; exact hv
  · rw [va_un _ _ _ e]; exact a8 j hj
theorem TW.put {P N M : Nat} (h : TW J G P N M) {p : Nat} {v : Int} (hv : -100 ≤ v ∧ v ≤ 100) : TW (va_up J 0 0) (va_up G 0 (va_up (G 0) p v)) P N M := by
  obtain ⟨a1, a2, a3, a4, a5, a6, a7, a8, a9, a10⟩ := h
  refine ⟨a1, a2, a3, a4, a5, a6, a7, fun j hj => ?_, a9, a10⟩
  show -100 ≤ va_up (G 0) p v j ∧ va_up (G 0) p v j ≤ 100
  by_cases e : j = p
  · rw [e, va_us]; exact hv
  · rw [va_un _ _ _ e]; exact a8 j hj
theorem s_part {a b : Int} (ha : I32 a) (hb : I32 b) (h : INV I F J G) : Same sc INV σ 4 65 [.int (zi a), .int (zi b)] I F J G := by
  obtain ⟨P, N, M, wd, car, s, V, L, h⟩ := h
  have hN := h.n100
  have hP := h.hV.2.2.1
  intro K1 hk
  refine c_part (by decide) h.hV ha hb (fun c => ?_) (fun c => ?_)
  · refine hk _ _ _ (fun K2 h2 => ?_)
    refine t_part (by decide) h.hT ha hb (fun _ => ?_) (fun c2 => absurd c c2)
    rw [← h.hd a.toNat (by omega)]
    obtain ⟨p, rfl⟩ : ∃ p : Nat, a = p := ⟨a.toNat, by omega⟩
    rw [Int.toNat_natCast]
    have hp : p < P := by omega
    refine h2 _ _ (h.hand (h.hV.put c.2.2) (h.hT.put c.2.2) (fun r hr => va_un _ _ _ hr) (fun i hi k hkk => ?_) (fun k hkk => ?_) (fun r hr => va_un _ _ _ hr) (fun r hr => va_un _ _ _ hr) (fun i hi k hkk => ?_)).inv
    · show va_up (F 2) (100 * P + p) b (i * P + k) = F 2 (i * P + k)
      have : i * P + P ≤ 100 * P := by rw [← Nat.succ_mul]; exact Nat.mul_le_mul_right P (by omega)
      exact va_un _ _ _ (by omega)
    · show va_up (F 2) (100 * P + p) b (100 * P + k) = va_up (G 0) (800 + p) b (8 * 100 + k)
      by_cases e : k = p
      · rw [e, va_us, va_us]
      · rw [va_un _ _ _ (by omega), va_un _ _ _ (by omega)]
        exact h.hd k hkk
    · show va_up (G 0) (800 + p) b (8 * i + k) = G 0 (8 * i + k)
      exact va_un _ _ _ (by omega)
  · refine hk _ _ _ (fun K2 h2 => ?_)
    exact t_part (by decide) h.hT ha hb (fun c2 => absurd c2 c) (fun _ => h2 _ _ h.j0.inv)
theorem s_take {a : Int} (ha : I32 a) (h : INV I F J G) : Same sc INV σ 33 69 [.int (zi a)] I F J G := by
  obtain ⟨P, N, M, wd, car, s, V, L, h⟩ := h
  have hN := h.n100
  have hP := h.hV.2.2.1
  intro K1 hk
  refine c_take (by decide) h.hV ha (fun c => ?_) (fun c => ?_)
  · refine hk _ _ _ (fun K2 h2 => ?_)
    refine t_take (by decide) h.hT ha (fun _ G' g1 g2 g3 => ?_) (fun c2 => absurd c c2)
    obtain ⟨p, rfl⟩ : ∃ p : Nat, a = p := ⟨a.toNat, by omega⟩
    rw [Int.toNat_natCast] at g3
    rw [Int.toNat_natCast]
    have hp : p < N := by omega
    have hT' : TW (va_up J 0 0) G' P N M := by
      obtain ⟨a1, a2, a3, a4, a5, a6, a7, a8, a9, a10⟩ := h.hT
      refine ⟨a1, a2, a3, a4, a5, a6, a7, fun j hj => ?_, fun j hj => ?_, fun j hj => ?_⟩
      · rcases Nat.lt_or_ge j 800 with q | q
        · rw [g2 j q]; exact a8 j hj
        · obtain ⟨t, ht, e⟩ : ∃ t, t < 8 ∧ j = 8 * 100 + t := ⟨j - 800, by omega, by omega⟩
          rw [e, g3 t ht]
          exact a8 _ (by omega)
      · rw [g1 1 (by decide)]; exact a9 j hj
      · rw [g1 2 (by decide)]; exact a10 j hj
    refine h2 _ _ (h.hand (h.hV.cpy (by omega)) hT' (fun r hr => cpy_0 F P p 100 hr) (fun i hi k hkk => ?_) (fun k hkk => ?_) (fun r hr => va_un _ _ _ hr) g1 (fun i hi k hkk => g2 _ (by omega))).inv
    · rw [cpy_vec hkk, if_neg (by omega)]
    · rw [cpy_vec hkk, if_pos rfl]
      show _ = G' 0 (8 * 100 + k)
      rw [g3 k (by omega)]
      exact (h.v1 p hp k hkk).trans (h.v2 p hp k hkk).symm
  · refine hk _ _ _ (fun K2 h2 => ?_)
    exact t_take (by decide) h.hT ha (fun c2 => absurd c2 c) (fun _ => h2 _ _ h.j0.inv)
theorem TW.b1 {P N M : Nat} (h : TW J G P N M) {i : Nat} {e : Int} (he : e = 0 ∨ e = 1) : TW (va_up J 0 0) (va_up G 1 (va_up (G 1) i e)) P N M := by
  obtain ⟨a1, a2, a3, a4, a5, a6, a7, a8, a9, a10⟩ := h
  refine ⟨a1, a2, a3, a4, a5, a6, a7, a8, fun j hj => ?_, a10⟩
  show va_up (G 1) i e j = 0 ∨ va_up (G 1) i e j = 1
  by_cases q : j = i
  · rw [q, va_us]; exact he
  · rw [va_un _ _ _ q]; exact a9 j hj
theorem TW.b2 {P N M : Nat} (h : TW J G P N M) {i : Nat} {e : Int} (he : e = 0 ∨ e = 1) : TW (va_up J 0 0) (va_up G 2 (va_up (G 2) i e)) P N M := by
  obtain ⟨a1, a2, a3, a4, a5, a6, a7, a8, a9, a10⟩ := h
  refine ⟨a1, a2, a3, a4, a5, a6, a7, a8, a9, fun j hj => ?_⟩
  show va_up (G 2) i e j = 0 ∨ va_up (G 2) i e j = 1
  by_cases q : j = i
  · rw [q, va_us]; exact he
  · rw [va_un _ _ _ q]; exact a10 j hj
theorem up_eq {f g : Nat → Int} {x i : Nat} {e : Int} (h : f x = g x) : va_up f i e x = va_up g i e x := by
  by_cases q : x = i
  · rw [q, va_us, va_us]
  · rw [va_un _ _ _ q, va_un _ _ _ q]; exact h
theorem s_remove {a : Int} (ha : I32 a) (h : INV I F J G) : Same sc INV σ 34 71 [.int (zi a)] I F J G := by
  obtain ⟨P, N, M, wd, car, s, V, L, h⟩ := h
  intro K1 hk
  refine c_remove (by decide) h.hV ha (fun c => ?_) (fun c => ?_)
  · refine hk _ _ _ (fun K2 h2 => ?_)
    refine t_remove (by decide) h.hT ha (fun _ => ?_) (fun c2 => absurd c c2)
    rw [← h.r0 a.toNat (by omega)]
    exact h2 _ _ (h.mark (h.hV.b0 (Or.inr rfl)) (h.hT.b2 (Or.inr rfl)) (fun r hr => va_un _ _ _ (by omega)) (fun r hr => va_un _ _ _ hr) (fun r _ hr => va_un _ _ _ hr) (fun x hx => up_eq (h.r0 x hx)) (fun x hx => h.r1 x hx)).inv
  · refine hk _ _ _ (fun K2 h2 => ?_)
    exact t_remove (by decide) h.hT ha (fun c2 => absurd c2 c) (fun _ => h2 _ _ h.j0.inv)
theorem s_bar {a b : Int} (ha : I32 a) (hb : b = 0 ∨ b = 1) (h : INV I F J G) : Same sc INV σ 35 72 [.int (zi a), .int (zi b)] I F J G := by
  obtain ⟨P, N, M, wd, car, s, V, L, h⟩ := h
  intro K1 hk
  refine c_bar (by decide) h.hV ha hb (fun c => ?_) (fun c => ?_)
  · refine hk _ _ _ (fun K2 h2 => ?_)
    refine t_bar (by decide) h.hT ha hb (fun _ => ?_) (fun c2 => absurd c c2)
    rw [← h.r1 a.toNat (by omega)]
    exact h2 _ _ (h.mark (h.hV.b1 hb) (h.hT.b1 hb) (fun r hr => va_un _ _ _ (by omega)) (fun r hr => va_un _ _ _ hr) (fun r hr _ => va_un _ _ _ hr) (fun x hx => h.r0 x hx) (fun x hx => up_eq (h.r1 x hx))).inv
  · refine hk _ _ _ (fun K2 h2 => ?_)
    exact t_bar (by decide) h.hT ha hb (fun c2 => absurd c2 c) (fun _ => h2 _ _ h.j0.inv)
theorem s_at {a : Int} (ha : I32 a) (h : INV I F J G) : Same sc INV σ 50 100 [.int (zi a)] I F J G := by
  obtain ⟨P, N, M, wd, car, s, V, L, h⟩ := h
  intro K1 hk
  refine c_at (by decide) h.rk ha (hk _ _ _ (fun K2 h2 => ?_))
  exact t_at (by decide) h.rk.2.1 h.t1 h.t3 ha (h2 _ _ h.j0.inv)
theorem s_far {a : Int} (ha : I32 a) (h : INV I F J G) : Same sc INV σ 51 101 [.int (zi a)] I F J G := by
  obtain ⟨P, N, M, wd, car, s, V, L, h⟩ := h
  intro K1 hk
  refine c_far (by decide) h.hV ha (fun c => hk _ _ _ (fun K2 h2 => ?_)) (fun c => hk _ _ _ (fun K2 h2 => ?_))
  · refine t_far (by decide) h.hT ha (fun _ => ?_) (fun c2 => absurd c c2)
    rw [h.fv (Or.inr rfl) (by omega)]
    exact h2 _ _ h.j0.inv
  · exact t_far (by decide) h.hT ha (fun c2 => absurd c2 c) (fun _ => h2 _ _ h.j0.inv)
theorem s_between {a b : Int} (ha : I32 a) (hb : I32 b) (h : INV I F J G) : Same sc INV σ 52 102 [.int (zi a), .int (zi b)] I F J G := by
  obtain ⟨P, N, M, wd, car, s, V, L, h⟩ := h
  intro K1 hk
  refine c_between (by decide) h.hV ha hb (fun c => hk _ _ _ (fun K2 h2 => ?_)) (fun c => hk _ _ _ (fun K2 h2 => ?_))
  · refine t_between (by decide) h.hT ha hb (fun _ => ?_) (fun c2 => absurd c c2)
    rw [h.fv (Or.inl (by omega)) (by omega)]
    exact h2 _ _ h.j0.inv
  · exact t_between (by decide) h.hT ha hb (fun c2 => absurd c2 c) (fun _ => h2 _ _ h.j0.inv)
theorem s_steps (h : INV I F J G) : Same sc INV σ 53 103 [] I F J G := by
  obtain ⟨P, N, M, wd, car, s, V, L, h⟩ := h
  intro K1 hk
  refine c_steps (by decide) (hk _ _ _ (fun K2 h2 => ?_))
  refine t_steps (by decide) ?_
  rw [← h.st]
  exact h2 _ _ h.j0.inv
theorem s_level {a : Int} (ha : I32 a) (h : INV I F J G) : Same sc INV σ 54 104 [.int (zi a)] I F J G := by
  obtain ⟨P, N, M, wd, car, s, V, L, h⟩ := h
  intro K1 hk
  refine c_level (by decide) h.hV ha h.s1 (fun c => hk _ _ _ (fun K2 h2 => ?_)) (fun c => hk _ _ _ (fun K2 h2 => ?_))
  · exact t_level (by decide) h.hT h.s2 ha (fun _ => h2 _ _ h.j0.inv) (fun c2 => absurd c c2)
  · exact t_level (by decide) h.hT h.s2 ha (fun c2 => absurd c2 c) (fun _ => h2 _ _ h.j0.inv)
theorem s_entry (h : INV I F J G) : Same sc INV σ 55 105 [] I F J G := by
  obtain ⟨P, N, M, wd, car, s, V, L, h⟩ := h
  intro K1 hk
  refine c_entry (by decide) ?_
  rw [h.en]
  refine hk _ _ _ (fun K2 h2 => ?_)
  exact t_entry (by decide) h.hT h.s2 h.w2 h.wh h.c2 h.sl h.v2 rfl h.tb (fun J' G' a1 a2 a3 a4 => h2 _ _ (h.nd a1 a2 a3 a4).inv)
theorem s_neighbour {a b d : Int} (ha : I32 a) (hb : I32 b) (hd : I32 d) (h : INV I F J G) : Same sc INV σ 56 106 [.int (zi a), .int (zi b), .int (zi d)] I F J G := by
  obtain ⟨P, N, M, wd, car, s, V, L, h⟩ := h
  intro K1 hk
  refine c_neighbour (by decide) h.hV h.gr h.s1 ha hb hd (hk _ _ _ (fun K2 h2 => ?_))
  exact t_neighbour (by decide) h.hT h.s2 h.w2 h.wh h.c2 h.sl h.v2 rfl h.tb ha hb hd (fun J' G' a1 a2 a3 a4 => h2 _ _ (h.nd a1 a2 a3 a4).inv)
theorem s_reached (h : INV I F J G) : Same sc INV σ 57 107 [] I F J G := by
  obtain ⟨P, N, M, wd, car, s, V, L, h⟩ := h
  intro K1 hk
  refine c_reached (by decide) h.n100 h.gr h.en h.lt.2 (fun F' hF => hk _ _ _ (fun K2 h2 => ?_))
  refine t_reached (by decide) h.hT h.s2 h.w2 h.wh h.c2 h.sl h.v2 rfl h.tb (fun J' G' a1 a2 a3 a4 => h2 _ _ ?_)
  have h' := h.nd a1 a2 a3 a4
  exact (h'.fr (fun _ _ => rfl) (fun r hr => hF r (by omega) (by omega)) (fun _ _ _ => rfl) (fun _ _ => rfl) (h'.rk.same rfl (hF 13 (by decide) (by decide))) h'.t1 h'.t3 h'.st h'.sl h'.tb).inv
theorem s_count {a : Int} (ha : I32 a) (h : INV I F J G) : Same sc INV σ 60 108 [.int (zi a)] I F J G := by
  obtain ⟨P, N, M, wd, car, s, V, L, h⟩ := h
  intro K1 hk
  refine c_count (by decide) h.hV (by rw [h.c1]; split <;> simp) h.rk ha (hk _ _ _ (fun K2 h2 => ?_))
  refine t_count (by decide) h.hT ha ?_
  have e : cntT J G N a = cntR I F N L a := by
    unfold cntT cntR
    rw [h.t1, h.c1, h.c2, h.w1, h.w2, h.hV.1, h.hT.1, h.hV.2.2.2.2.2.1, h.hT.2.2.2.2.2.1, cntI_cg (p := F 0) (q := G 2) N h.r0, cntI_cg (p := F 1) (q := G 1) N h.r1, cntI_cg (p := freeT G) (q := fun i : Nat => freeI F N i) N (fun x hx => h.fe hx)]
  rw [e]
  exact h2 _ _ h.j0.inv
theorem s_exact {a : Int} (ha : I32 a) (h : INV I F J G) : Same sc INV σ 40 75 [.int (zi a)] I F J G := by
  obtain ⟨P, N, M, wd, car, s, V, L, h⟩ := h
  intro K1 hk
  refine c_exact (by decide) h.hV rfl ha (fun c I' F' rk oI oF => hk _ _ _ (fun K2 h2 => ?_)) (fun c => hk _ _ _ (fun K2 h2 => ?_))
  · refine t_exact (by decide) h.hT (h.sbf 100) ha (fun _ J' G' a1 a2 a3 a4 a5 => ?_) (fun c2 => absurd c c2)
    refine h2 _ _ (h.fr (fun r hr => oI r (by omega)) (fun r hr => oF r (by omega)) (fun r h1 h2 => a1 r (by omega) (by omega) (by omega)) (fun r hr => a2 r (by omega) (by omega) (by omega) (by omega)) rk a4 a5 ?_ ?_ ?_).inv
    · rw [oI 6 (by decide), a1 12 (by decide) (by decide) (by decide)]; exact h.st
    · rw [a1 13 (by decide) (by decide) (by decide)]; exact h.sl
    · intro e
      exact (h.tb ((a1 13 (by decide) (by decide) (by decide)).symm.trans e)).keep h.n100 (fun x _ k _ => by show G' 0 (8 * x + k) = G 0 (8 * x + k); rw [a2 0 (by decide) (by decide) (by decide) (by decide)]) (a2 4 (by decide) (by decide) (by decide) (by decide)) (a2 5 (by decide) (by decide) (by decide) (by decide)) a3 (a1 16 (by decide) (by decide) (by decide))
  · exact t_exact (by decide) h.hT (h.sbf 100) ha (fun c2 => absurd c2 c) (fun _ => h2 _ _ h.j0.inv)
theorem s_brief {a b d : Int} (ha : I32 a) (hb : I32 b) (hd : I32 d) (h : INV I F J G) : Same sc INV σ 47 98 [.int (zi a), .int (zi b), .int (zi d)] I F J G := by
  obtain ⟨P, N, M, wd, car, s, V, L, h⟩ := h
  have hN := h.n100
  have hs := h.sbQ d.toNat
  have hk0 : ∀ y, y < N → kfQ (F 2) P M d.toNat y % 100 = y := fun y hy => kfQ_mod (by omega)
  have hnd := SB.nd (b := fun _ => 0) hs.1 hs.2.1 hk0 b.toNat
  have hlt : ∀ y ∈ ((mFree (kfQ (F 2) P M d.toNat) (fun i : Nat => freeI F N i) N).take b.toNat).map (· % 100), y < N := by
    intro y hy
    obtain ⟨k, h1, rfl⟩ := List.mem_map.mp hy
    obtain ⟨x, hx, rfl⟩ := hs.2.1 k (List.mem_of_mem_take h1)
    show kfQ (F 2) P M d.toNat x % 100 < N
    rw [hk0 x hx]
    exact hx
  intro K1 hk
  refine c_brief (by decide) h.hV rfl ha hb hd (fun c I' F' rk oI oF => hk _ _ _ (fun K2 h2 => ?_)) (fun c => hk _ _ _ (fun K2 h2 => ?_))
  · refine t_brief (by decide) h.hT ha hb hd (h.sbf d.toNat) (h.sbp hnd hlt) (fun _ J' G' a1 a2 a3 a4 a5 => ?_) (fun c2 => absurd c c2)
    refine h2 _ _ (h.fr (fun r hr => oI r (by omega) (by omega)) (fun r hr => oF r (by omega) (by omega)) (fun r h1 h2 => a1 r (by omega) (by omega) (by omega)) (fun r hr => a2 r (by omega) (by omega) (by omega) (by omega)) rk a4 a5 ?_ ?_ ?_).inv
    · rw [oI 6 (by decide) (by decide), a1 12 (by decide) (by decide) (by decide)]; exact h.st
    · rw [a1 13 (by decide) (by decide) (by decide)]; exact h.sl
    · intro e
      exact (h.tb ((a1 13 (by decide) (by decide) (by decide)).symm.trans e)).keep h.n100 (fun x _ k _ => by show G' 0 (8 * x + k) = G 0 (8 * x + k); rw [a2 0 (by decide) (by decide) (by decide) (by decide)]) (a2 4 (by decide) (by decide) (by decide) (by decide)) (a2 5 (by decide) (by decide) (by decide) (by decide)) a3 (a1 16 (by decide) (by decide) (by decide))
  · exact t_brief (by decide) h.hT ha hb hd (h.sbf d.toNat) (h.sbp hnd hlt) (fun c2 => absurd c2 c) (fun _ => h2 _ _ h.j0.inv)
theorem ng3 {r : Nat} (h : r ≠ 5 ∧ r ≠ 10 ∧ r ≠ 11) : ¬ G3 r := by unfold G3; omega
theorem s_look {a b : Int} (ha : I32 a) (hb : I32 b) (h : INV I F J G) : Same sc INV σ 43 85 [.int (zi a), .int (zi b)] I F J G := by
  obtain ⟨P, N, M, wd, car, s, V, L, h⟩ := h
  intro K1 hk
  refine c_look (by decide) h.hV rfl h.gr h.s1 h.en h.lt.2 ha hb (fun c I' F' rk o6 fr => hk _ _ _ (fun K2 h2 => ?_)) (fun c => hk _ _ _ (fun K2 h2 => ?_))
  · refine t_look (by decide) h.hT h.s2 h.w2 h.wh h.c2 h.sl h.v2 rfl h.tb (kf := kfW (F 2) P M 100) (fun x hx => h.kq 100 hx) (fr := fun i : Nat => freeI F N i) (fun x hx => h.fe hx) ha hb (fun _ J' G' a1 a2 a3 a4 a5 a6 a7 => ?_) (fun c2 => absurd c c2)
    exact h2 _ _ (h.fr (fun r hr => fr.1 r (ng3 (by omega)) (by omega) (by omega)) (fun r hr => fr.2 r (ng3 (by omega)) (by omega)) (fun r h1 h2 => a1 r (by omega) (by omega) (by omega) (by omega) (by omega) (by omega) (by omega)) a2 rk a6 a7 (o6.trans a5.symm) (Or.inl a3) (fun _ => a4)).inv
  · exact t_look (by decide) h.hT h.s2 h.w2 h.wh h.c2 h.sl h.v2 rfl h.tb (kf := kfW (F 2) P M 100) (fun x hx => h.kq 100 hx) (fr := fun i : Nat => freeI F N i) (fun x hx => h.fe hx) ha hb (fun c2 => absurd c2 c) (fun _ => h2 _ _ h.j0.inv)
theorem s_recall {a b : Int} (ha : I32 a) (hb : I32 b) (h : INV I F J G) : Same sc INV σ 48 99 [.int (zi a), .int (zi b)] I F J G := by
  obtain ⟨P, N, M, wd, car, s, V, L, h⟩ := h
  have hN := h.n100
  have hk0 : ∀ y, y < N → kfQ (F 2) P M 100 y % 100 = y := fun y hy => kfQ_mod (by omega)
  have hq := h.sbQ 100
  have hsea := h.sea b.toNat
  intro K1 hk
  refine c_recall (by decide) h.hV rfl h.gr h.s1 h.en h.lt.2 ha hb (fun c I' F' o6 fI fF => hk _ _ _ (fun K2 h2 => ?_)) (fun c => hk _ _ _ (fun K2 h2 => ?_))
  · refine t_recall (by decide) h.hT h.s2 h.w2 h.wh h.c2 h.sl h.v2 rfl h.tb (kf := kfW (F 2) P M 100) (fun x hx => h.kq 100 hx) (fr := fun i : Nat => freeI F N i) (fun x hx => h.fe hx) (h.sbf 100) ha hb (fun _ J' G' a1 a2 a3 a4 a5 => ?_) (fun c2 => absurd c c2)
    rw [cntH_sym (SB.nd (b := fun _ => 0) hsea.1 hsea.2 hk0 a.toNat) (SB.nd (b := fun _ => 0) hq.1 hq.2.1 hk0 a.toNat)]
    refine h2 _ _ (h.fr (fun r hr => fI r (ng3 (by omega)) (by omega) (by omega) (by omega)) (fun r hr => fF r (ng3 (by omega)) (by omega) (by omega)) (fun r h1 h2 => a1 r (by omega) (by omega) (by omega) (by omega) (by omega) (by omega)) (fun r hr => a2 r (by omega)) (h.rk.same (fI 13 (ng3 (by omega)) (by decide) (by decide) (by decide)) (fF 13 (ng3 (by omega)) (by decide) (by decide))) ?_ ?_ (o6.trans a5.symm) (Or.inl a3) (fun _ => a4)).inv
    · rw [a1 11 (by decide) (by decide) (by decide) (by decide) (by decide) (by decide)]; exact h.t1
    · rw [a2 3 (by decide)]; exact h.t3
  · exact t_recall (by decide) h.hT h.s2 h.w2 h.wh h.c2 h.sl h.v2 rfl h.tb (kf := kfW (F 2) P M 100) (fun x hx => h.kq 100 hx) (fr := fun i : Nat => freeI F N i) (fun x hx => h.fe hx) (h.sbf 100) ha hb (fun c2 => absurd c2 c) (fun _ => h2 _ _ h.j0.inv)
end
