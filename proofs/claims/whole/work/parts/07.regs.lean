/-! the class's world: ints by register, arrays by register; Ranks r: size I (10 + r), keys F (10 + r) -/
def rkO (r : Nat) : Nat := 10 + 2 * r
def rkK (r : Nat) : Nat := 11 + 2 * r
def rkC : Nat → Nat
  | 0 => 61
  | 2 => 13
  | _ => 100
def vg (σ : Nat → ax_C) (I : Nat → Int) (F : Nat → Nat → Int) : Nat → ax_C := fun i => match i with
  | 0 => .inr (3, [.ref (1), .ref (5), .ref (rkO 3), .ref (rkO 4), .ref (rkO 5), .int (zi (I 6))])
  | 1 => .inr (2, [.int (zi (I 7)), .ref (2), .ref (3), .ref (4), .int (zi (I 0)), .int (zi (I 1))])
  | 2 => .inl (true, 100, fun j => zi (F 0 j))
  | 3 => .inl (true, 100, fun j => zi (F 1 j))
  | 4 => .inl (false, 101 * (I 7).toNat, fun j => zi (F 2 j))
  | 5 => .inr (0, [.ref (rkO 0), .int (zi (I 2)), .int (zi (I 3)), .int (zi (I 4)), .int (zi (I 5)), .ref (1), .int (zi (I 8)), .ref (6), .ref (7), .ref (8), .ref (9), .ref (rkO 1), .ref (rkO 2)])
  | 6 => .inl (false, 3600, fun j => zi (F 3 j))
  | 7 => .inl (false, 500, fun j => zi (F 4 j))
  | 8 => .inl (true, 100, fun j => zi (F 5 j))
  | 9 => .inl (false, 100, fun j => zi (F 6 j))
  | 10 => .inr (1, [.ref (rkK 0), .int (zi (I 10))])
  | 11 => .inl (false, rkC 0, fun j => zi (F 10 j))
  | 12 => .inr (1, [.ref (rkK 1), .int (zi (I 11))])
  | 13 => .inl (false, rkC 1, fun j => zi (F 11 j))
  | 14 => .inr (1, [.ref (rkK 2), .int (zi (I 12))])
  | 15 => .inl (false, rkC 2, fun j => zi (F 12 j))
  | 16 => .inr (1, [.ref (rkK 3), .int (zi (I 13))])
  | 17 => .inl (false, rkC 3, fun j => zi (F 13 j))
  | 18 => .inr (1, [.ref (rkK 4), .int (zi (I 14))])
  | 19 => .inl (false, rkC 4, fun j => zi (F 14 j))
  | 20 => .inr (1, [.ref (rkK 5), .int (zi (I 15))])
  | 21 => .inl (false, rkC 5, fun j => zi (F 15 j))
  | _ => σ i
theorem vg_rk {σ : Nat → ax_C} {I : Nat → Int} {F : Nat → Nat → Int} {r : Nat} (hr : r < 6) : vg σ I F (rkO r) = .inr (1, [.ref (rkK r), .int (zi (I (10 + r)))]) := by
  match r, hr with
  | 0, _ => rfl
  | 1, _ => rfl
  | 2, _ => rfl
  | 3, _ => rfl
  | 4, _ => rfl
  | 5, _ => rfl
theorem vg_rkK {σ : Nat → ax_C} {I : Nat → Int} {F : Nat → Nat → Int} {r : Nat} (hr : r < 6) : vg σ I F (rkK r) = .inl (false, rkC r, fun j => zi (F (10 + r) j)) := by
  match r, hr with
  | 0, _ => rfl
  | 1, _ => rfl
  | 2, _ => rfl
  | 3, _ => rfl
  | 4, _ => rfl
  | 5, _ => rfl
theorem upd_zi (f : Nat → Int) (i : Nat) (e : Int) : upd (fun j => zi (f j)) i (zi e) = fun j => zi (va_up f i e j) := by
  funext j
  unfold upd va_up
  split <;> rfl
theorem cpy_zi (f g : Nat → Int) (sp dp n : Nat) : va_cpy (fun j => zi (f j)) (fun j => zi (g j)) sp dp n = fun j => zi (va_cpy f g sp dp n j) := by
  funext j
  unfold va_cpy
  split <;> rfl
theorem rk_lt {r n : Nat} (hr : r < 6) (hn : 22 ≤ n) : rkO r < n ∧ rkK r < n := by unfold rkO rkK; omega
theorem vg_put_6 (σ : Nat → ax_C) (I : Nat → Int) (F : Nat → Nat → Int) (e : Int) : va_up (vg σ I F) 0 (.inr (3, [.ref (1), .ref (5), .ref (rkO 3), .ref (rkO 4), .ref (rkO 5), .int (zi e)])) = vg σ (va_up I 6 e) F := by
  funext i
  match i with
  | 0 => rfl
  | 1 => rfl
  | 2 => rfl
  | 3 => rfl
  | 4 => rfl
  | 5 => rfl
  | 6 => rfl
  | 7 => rfl
  | 8 => rfl
  | 9 => rfl
  | 10 => rfl
  | 11 => rfl
  | 12 => rfl
  | 13 => rfl
  | 14 => rfl
  | 15 => rfl
  | 16 => rfl
  | 17 => rfl
  | 18 => rfl
  | 19 => rfl
  | 20 => rfl
  | 21 => rfl
  | _ + 22 => rfl
theorem vg_put_0 (σ : Nat → ax_C) (I : Nat → Int) (F : Nat → Nat → Int) (e : Int) : va_up (vg σ I F) 1 (.inr (2, [.int (zi (I 7)), .ref (2), .ref (3), .ref (4), .int (zi e), .int (zi (I 1))])) = vg σ (va_up I 0 e) F := by
  funext i
  match i with
  | 0 => rfl
  | 1 => rfl
  | 2 => rfl
  | 3 => rfl
  | 4 => rfl
  | 5 => rfl
  | 6 => rfl
  | 7 => rfl
  | 8 => rfl
  | 9 => rfl
  | 10 => rfl
  | 11 => rfl
  | 12 => rfl
  | 13 => rfl
  | 14 => rfl
  | 15 => rfl
  | 16 => rfl
  | 17 => rfl
  | 18 => rfl
  | 19 => rfl
  | 20 => rfl
  | 21 => rfl
  | _ + 22 => rfl
theorem vg_put_1 (σ : Nat → ax_C) (I : Nat → Int) (F : Nat → Nat → Int) (e : Int) : va_up (vg σ I F) 1 (.inr (2, [.int (zi (I 7)), .ref (2), .ref (3), .ref (4), .int (zi (I 0)), .int (zi e)])) = vg σ (va_up I 1 e) F := by
  funext i
  match i with
  | 0 => rfl
  | 1 => rfl
  | 2 => rfl
  | 3 => rfl
  | 4 => rfl
  | 5 => rfl
  | 6 => rfl
  | 7 => rfl
  | 8 => rfl
  | 9 => rfl
  | 10 => rfl
  | 11 => rfl
  | 12 => rfl
  | 13 => rfl
  | 14 => rfl
  | 15 => rfl
  | 16 => rfl
  | 17 => rfl
  | 18 => rfl
  | 19 => rfl
  | 20 => rfl
  | 21 => rfl
  | _ + 22 => rfl
theorem vg_put_2 (σ : Nat → ax_C) (I : Nat → Int) (F : Nat → Nat → Int) (e : Int) : va_up (vg σ I F) 5 (.inr (0, [.ref (rkO 0), .int (zi e), .int (zi (I 3)), .int (zi (I 4)), .int (zi (I 5)), .ref (1), .int (zi (I 8)), .ref (6), .ref (7), .ref (8), .ref (9), .ref (rkO 1), .ref (rkO 2)])) = vg σ (va_up I 2 e) F := by
  funext i
  match i with
  | 0 => rfl
  | 1 => rfl
  | 2 => rfl
  | 3 => rfl
  | 4 => rfl
  | 5 => rfl
  | 6 => rfl
  | 7 => rfl
  | 8 => rfl
  | 9 => rfl
  | 10 => rfl
  | 11 => rfl
  | 12 => rfl
  | 13 => rfl
  | 14 => rfl
  | 15 => rfl
  | 16 => rfl
  | 17 => rfl
  | 18 => rfl
  | 19 => rfl
  | 20 => rfl
  | 21 => rfl
  | _ + 22 => rfl
theorem vg_put_3 (σ : Nat → ax_C) (I : Nat → Int) (F : Nat → Nat → Int) (e : Int) : va_up (vg σ I F) 5 (.inr (0, [.ref (rkO 0), .int (zi (I 2)), .int (zi e), .int (zi (I 4)), .int (zi (I 5)), .ref (1), .int (zi (I 8)), .ref (6), .ref (7), .ref (8), .ref (9), .ref (rkO 1), .ref (rkO 2)])) = vg σ (va_up I 3 e) F := by
  funext i
  match i with
  | 0 => rfl
  | 1 => rfl
  | 2 => rfl
  | 3 => rfl
  | 4 => rfl
  | 5 => rfl
  | 6 => rfl
  | 7 => rfl
  | 8 => rfl
  | 9 => rfl
  | 10 => rfl
  | 11 => rfl
  | 12 => rfl
  | 13 => rfl
  | 14 => rfl
  | 15 => rfl
  | 16 => rfl
  | 17 => rfl
  | 18 => rfl
  | 19 => rfl
  | 20 => rfl
  | 21 => rfl
  | _ + 22 => rfl
theorem vg_put_4 (σ : Nat → ax_C) (I : Nat → Int) (F : Nat → Nat → Int) (e : Int) : va_up (vg σ I F) 5 (.inr (0, [.ref (rkO 0), .int (zi (I 2)), .int (zi (I 3)), .int (zi e), .int (zi (I 5)), .ref (1), .int (zi (I 8)), .ref (6), .ref (7), .ref (8), .ref (9), .ref (rkO 1), .ref (rkO 2)])) = vg σ (va_up I 4 e) F := by
  funext i
  match i with
  | 0 => rfl
  | 1 => rfl
  | 2 => rfl
  | 3 => rfl
  | 4 => rfl
  | 5 => rfl
  | 6 => rfl
  | 7 => rfl
  | 8 => rfl
  | 9 => rfl
  | 10 => rfl
  | 11 => rfl
  | 12 => rfl
  | 13 => rfl
  | 14 => rfl
  | 15 => rfl
  | 16 => rfl
  | 17 => rfl
  | 18 => rfl
  | 19 => rfl
  | 20 => rfl
  | 21 => rfl
  | _ + 22 => rfl
theorem vg_put_5 (σ : Nat → ax_C) (I : Nat → Int) (F : Nat → Nat → Int) (e : Int) : va_up (vg σ I F) 5 (.inr (0, [.ref (rkO 0), .int (zi (I 2)), .int (zi (I 3)), .int (zi (I 4)), .int (zi e), .ref (1), .int (zi (I 8)), .ref (6), .ref (7), .ref (8), .ref (9), .ref (rkO 1), .ref (rkO 2)])) = vg σ (va_up I 5 e) F := by
  funext i
  match i with
  | 0 => rfl
  | 1 => rfl
  | 2 => rfl
  | 3 => rfl
  | 4 => rfl
  | 5 => rfl
  | 6 => rfl
  | 7 => rfl
  | 8 => rfl
  | 9 => rfl
  | 10 => rfl
  | 11 => rfl
  | 12 => rfl
  | 13 => rfl
  | 14 => rfl
  | 15 => rfl
  | 16 => rfl
  | 17 => rfl
  | 18 => rfl
  | 19 => rfl
  | 20 => rfl
  | 21 => rfl
  | _ + 22 => rfl
theorem vg_put_rk (σ : Nat → ax_C) (I : Nat → Int) (F : Nat → Nat → Int) (e : Int) {r : Nat} (hr : r < 6) : va_up (vg σ I F) (rkO r) (.inr (1, [.ref (rkK r), .int (zi e)])) = vg σ (va_up I (10 + r) e) F := by
  match r, hr with
  | 0, _ =>
    funext i
    match i with
    | 0 => rfl
    | 1 => rfl
    | 2 => rfl
    | 3 => rfl
    | 4 => rfl
    | 5 => rfl
    | 6 => rfl
    | 7 => rfl
    | 8 => rfl
    | 9 => rfl
    | 10 => rfl
    | 11 => rfl
    | 12 => rfl
    | 13 => rfl
    | 14 => rfl
    | 15 => rfl
    | 16 => rfl
    | 17 => rfl
    | 18 => rfl
    | 19 => rfl
    | 20 => rfl
    | 21 => rfl
    | _ + 22 => rfl
  | 1, _ =>
    funext i
    match i with
    | 0 => rfl
    | 1 => rfl
    | 2 => rfl
    | 3 => rfl
    | 4 => rfl
    | 5 => rfl
    | 6 => rfl
    | 7 => rfl
    | 8 => rfl
    | 9 => rfl
    | 10 => rfl
    | 11 => rfl
    | 12 => rfl
    | 13 => rfl
    | 14 => rfl
    | 15 => rfl
    | 16 => rfl
    | 17 => rfl
    | 18 => rfl
    | 19 => rfl
    | 20 => rfl
    | 21 => rfl
    | _ + 22 => rfl
  | 2, _ =>
    funext i
    match i with
    | 0 => rfl
    | 1 => rfl
    | 2 => rfl
    | 3 => rfl
    | 4 => rfl
    | 5 => rfl
    | 6 => rfl
    | 7 => rfl
    | 8 => rfl
    | 9 => rfl
    | 10 => rfl
    | 11 => rfl
    | 12 => rfl
    | 13 => rfl
    | 14 => rfl
    | 15 => rfl
    | 16 => rfl
    | 17 => rfl
    | 18 => rfl
    | 19 => rfl
    | 20 => rfl
    | 21 => rfl
    | _ + 22 => rfl
  | 3, _ =>
    funext i
    match i with
    | 0 => rfl
    | 1 => rfl
    | 2 => rfl
    | 3 => rfl
    | 4 => rfl
    | 5 => rfl
    | 6 => rfl
    | 7 => rfl
    | 8 => rfl
    | 9 => rfl
    | 10 => rfl
    | 11 => rfl
    | 12 => rfl
    | 13 => rfl
    | 14 => rfl
    | 15 => rfl
    | 16 => rfl
    | 17 => rfl
    | 18 => rfl
    | 19 => rfl
    | 20 => rfl
    | 21 => rfl
    | _ + 22 => rfl
  | 4, _ =>
    funext i
    match i with
    | 0 => rfl
    | 1 => rfl
    | 2 => rfl
    | 3 => rfl
    | 4 => rfl
    | 5 => rfl
    | 6 => rfl
    | 7 => rfl
    | 8 => rfl
    | 9 => rfl
    | 10 => rfl
    | 11 => rfl
    | 12 => rfl
    | 13 => rfl
    | 14 => rfl
    | 15 => rfl
    | 16 => rfl
    | 17 => rfl
    | 18 => rfl
    | 19 => rfl
    | 20 => rfl
    | 21 => rfl
    | _ + 22 => rfl
  | 5, _ =>
    funext i
    match i with
    | 0 => rfl
    | 1 => rfl
    | 2 => rfl
    | 3 => rfl
    | 4 => rfl
    | 5 => rfl
    | 6 => rfl
    | 7 => rfl
    | 8 => rfl
    | 9 => rfl
    | 10 => rfl
    | 11 => rfl
    | 12 => rfl
    | 13 => rfl
    | 14 => rfl
    | 15 => rfl
    | 16 => rfl
    | 17 => rfl
    | 18 => rfl
    | 19 => rfl
    | 20 => rfl
    | 21 => rfl
    | _ + 22 => rfl
theorem vg_arr_removed (σ : Nat → ax_C) (I : Nat → Int) (F : Nat → Nat → Int) (f : Nat → Int) : va_up (vg σ I F) 2 (.inl (true, 100, fun j => zi (f j))) = vg σ I (va_up F 0 f) := by
  funext i
  match i with
  | 0 => rfl
  | 1 => rfl
  | 2 => rfl
  | 3 => rfl
  | 4 => rfl
  | 5 => rfl
  | 6 => rfl
  | 7 => rfl
  | 8 => rfl
  | 9 => rfl
  | 10 => rfl
  | 11 => rfl
  | 12 => rfl
  | 13 => rfl
  | 14 => rfl
  | 15 => rfl
  | 16 => rfl
  | 17 => rfl
  | 18 => rfl
  | 19 => rfl
  | 20 => rfl
  | 21 => rfl
  | _ + 22 => rfl
theorem vg_arr_barred (σ : Nat → ax_C) (I : Nat → Int) (F : Nat → Nat → Int) (f : Nat → Int) : va_up (vg σ I F) 3 (.inl (true, 100, fun j => zi (f j))) = vg σ I (va_up F 1 f) := by
  funext i
  match i with
  | 0 => rfl
  | 1 => rfl
  | 2 => rfl
  | 3 => rfl
  | 4 => rfl
  | 5 => rfl
  | 6 => rfl
  | 7 => rfl
  | 8 => rfl
  | 9 => rfl
  | 10 => rfl
  | 11 => rfl
  | 12 => rfl
  | 13 => rfl
  | 14 => rfl
  | 15 => rfl
  | 16 => rfl
  | 17 => rfl
  | 18 => rfl
  | 19 => rfl
  | 20 => rfl
  | 21 => rfl
  | _ + 22 => rfl
theorem vg_arr_values (σ : Nat → ax_C) (I : Nat → Int) (F : Nat → Nat → Int) (f : Nat → Int) : va_up (vg σ I F) 4 (.inl (false, 101 * (I 7).toNat, fun j => zi (f j))) = vg σ I (va_up F 2 f) := by
  funext i
  match i with
  | 0 => rfl
  | 1 => rfl
  | 2 => rfl
  | 3 => rfl
  | 4 => rfl
  | 5 => rfl
  | 6 => rfl
  | 7 => rfl
  | 8 => rfl
  | 9 => rfl
  | 10 => rfl
  | 11 => rfl
  | 12 => rfl
  | 13 => rfl
  | 14 => rfl
  | 15 => rfl
  | 16 => rfl
  | 17 => rfl
  | 18 => rfl
  | 19 => rfl
  | 20 => rfl
  | 21 => rfl
  | _ + 22 => rfl
theorem vg_arr_links (σ : Nat → ax_C) (I : Nat → Int) (F : Nat → Nat → Int) (f : Nat → Int) : va_up (vg σ I F) 6 (.inl (false, 3600, fun j => zi (f j))) = vg σ I (va_up F 3 f) := by
  funext i
  match i with
  | 0 => rfl
  | 1 => rfl
  | 2 => rfl
  | 3 => rfl
  | 4 => rfl
  | 5 => rfl
  | 6 => rfl
  | 7 => rfl
  | 8 => rfl
  | 9 => rfl
  | 10 => rfl
  | 11 => rfl
  | 12 => rfl
  | 13 => rfl
  | 14 => rfl
  | 15 => rfl
  | 16 => rfl
  | 17 => rfl
  | 18 => rfl
  | 19 => rfl
  | 20 => rfl
  | 21 => rfl
  | _ + 22 => rfl
theorem vg_arr_rowSizes (σ : Nat → ax_C) (I : Nat → Int) (F : Nat → Nat → Int) (f : Nat → Int) : va_up (vg σ I F) 7 (.inl (false, 500, fun j => zi (f j))) = vg σ I (va_up F 4 f) := by
  funext i
  match i with
  | 0 => rfl
  | 1 => rfl
  | 2 => rfl
  | 3 => rfl
  | 4 => rfl
  | 5 => rfl
  | 6 => rfl
  | 7 => rfl
  | 8 => rfl
  | 9 => rfl
  | 10 => rfl
  | 11 => rfl
  | 12 => rfl
  | 13 => rfl
  | 14 => rfl
  | 15 => rfl
  | 16 => rfl
  | 17 => rfl
  | 18 => rfl
  | 19 => rfl
  | 20 => rfl
  | 21 => rfl
  | _ + 22 => rfl
theorem vg_arr_met (σ : Nat → ax_C) (I : Nat → Int) (F : Nat → Nat → Int) (f : Nat → Int) : va_up (vg σ I F) 8 (.inl (true, 100, fun j => zi (f j))) = vg σ I (va_up F 5 f) := by
  funext i
  match i with
  | 0 => rfl
  | 1 => rfl
  | 2 => rfl
  | 3 => rfl
  | 4 => rfl
  | 5 => rfl
  | 6 => rfl
  | 7 => rfl
  | 8 => rfl
  | 9 => rfl
  | 10 => rfl
  | 11 => rfl
  | 12 => rfl
  | 13 => rfl
  | 14 => rfl
  | 15 => rfl
  | 16 => rfl
  | 17 => rfl
  | 18 => rfl
  | 19 => rfl
  | 20 => rfl
  | 21 => rfl
  | _ + 22 => rfl
theorem vg_arr_trail (σ : Nat → ax_C) (I : Nat → Int) (F : Nat → Nat → Int) (f : Nat → Int) : va_up (vg σ I F) 9 (.inl (false, 100, fun j => zi (f j))) = vg σ I (va_up F 6 f) := by
  funext i
  match i with
  | 0 => rfl
  | 1 => rfl
  | 2 => rfl
  | 3 => rfl
  | 4 => rfl
  | 5 => rfl
  | 6 => rfl
  | 7 => rfl
  | 8 => rfl
  | 9 => rfl
  | 10 => rfl
  | 11 => rfl
  | 12 => rfl
  | 13 => rfl
  | 14 => rfl
  | 15 => rfl
  | 16 => rfl
  | 17 => rfl
  | 18 => rfl
  | 19 => rfl
  | 20 => rfl
  | 21 => rfl
  | _ + 22 => rfl
theorem vg_arr_rk (σ : Nat → ax_C) (I : Nat → Int) (F : Nat → Nat → Int) (f : Nat → Int) {r : Nat} (hr : r < 6) : va_up (vg σ I F) (rkK r) (.inl (false, rkC r, fun j => zi (f j))) = vg σ I (va_up F (10 + r) f) := by
  match r, hr with
  | 0, _ =>
    funext i
    match i with
    | 0 => rfl
    | 1 => rfl
    | 2 => rfl
    | 3 => rfl
    | 4 => rfl
    | 5 => rfl
    | 6 => rfl
    | 7 => rfl
    | 8 => rfl
    | 9 => rfl
    | 10 => rfl
    | 11 => rfl
    | 12 => rfl
    | 13 => rfl
    | 14 => rfl
    | 15 => rfl
    | 16 => rfl
    | 17 => rfl
    | 18 => rfl
    | 19 => rfl
    | 20 => rfl
    | 21 => rfl
    | _ + 22 => rfl
  | 1, _ =>
    funext i
    match i with
    | 0 => rfl
    | 1 => rfl
    | 2 => rfl
    | 3 => rfl
    | 4 => rfl
    | 5 => rfl
    | 6 => rfl
    | 7 => rfl
    | 8 => rfl
    | 9 => rfl
    | 10 => rfl
    | 11 => rfl
    | 12 => rfl
    | 13 => rfl
    | 14 => rfl
    | 15 => rfl
    | 16 => rfl
    | 17 => rfl
    | 18 => rfl
    | 19 => rfl
    | 20 => rfl
    | 21 => rfl
    | _ + 22 => rfl
  | 2, _ =>
    funext i
    match i with
    | 0 => rfl
    | 1 => rfl
    | 2 => rfl
    | 3 => rfl
    | 4 => rfl
    | 5 => rfl
    | 6 => rfl
    | 7 => rfl
    | 8 => rfl
    | 9 => rfl
    | 10 => rfl
    | 11 => rfl
    | 12 => rfl
    | 13 => rfl
    | 14 => rfl
    | 15 => rfl
    | 16 => rfl
    | 17 => rfl
    | 18 => rfl
    | 19 => rfl
    | 20 => rfl
    | 21 => rfl
    | _ + 22 => rfl
  | 3, _ =>
    funext i
    match i with
    | 0 => rfl
    | 1 => rfl
    | 2 => rfl
    | 3 => rfl
    | 4 => rfl
    | 5 => rfl
    | 6 => rfl
    | 7 => rfl
    | 8 => rfl
    | 9 => rfl
    | 10 => rfl
    | 11 => rfl
    | 12 => rfl
    | 13 => rfl
    | 14 => rfl
    | 15 => rfl
    | 16 => rfl
    | 17 => rfl
    | 18 => rfl
    | 19 => rfl
    | 20 => rfl
    | 21 => rfl
    | _ + 22 => rfl
  | 4, _ =>
    funext i
    match i with
    | 0 => rfl
    | 1 => rfl
    | 2 => rfl
    | 3 => rfl
    | 4 => rfl
    | 5 => rfl
    | 6 => rfl
    | 7 => rfl
    | 8 => rfl
    | 9 => rfl
    | 10 => rfl
    | 11 => rfl
    | 12 => rfl
    | 13 => rfl
    | 14 => rfl
    | 15 => rfl
    | 16 => rfl
    | 17 => rfl
    | 18 => rfl
    | 19 => rfl
    | 20 => rfl
    | 21 => rfl
    | _ + 22 => rfl
  | 5, _ =>
    funext i
    match i with
    | 0 => rfl
    | 1 => rfl
    | 2 => rfl
    | 3 => rfl
    | 4 => rfl
    | 5 => rfl
    | 6 => rfl
    | 7 => rfl
    | 8 => rfl
    | 9 => rfl
    | 10 => rfl
    | 11 => rfl
    | 12 => rfl
    | 13 => rfl
    | 14 => rfl
    | 15 => rfl
    | 16 => rfl
    | 17 => rfl
    | 18 => rfl
    | 19 => rfl
    | 20 => rfl
    | 21 => rfl
    | _ + 22 => rfl
theorem xg_VG_vectors {sc : ax_S} {k pc q idx : Nat} {ls : List (Option Value)} {st : List Value} {σ : Nat → ax_C} {I : Nat → Int} {F : Nat → Nat → Int} {n bc bs : Nat} {K : ax_K} (hn : 22 ≤ n) (g0 : decode (g_m k).2.1 pc = .ok (.getfield idx, 3)) (g1 : pc + 3 = q) (g2 : ax_fld (g_m k).1.cls idx 3 0) (p0 : Ex sc k q ls (.ref (1) :: st) (vg σ I F, n, bc, bs) K) : Ex sc k pc ls (.ref 0 :: st) (vg σ I F, n, bc, bs) K := x_get (h := (vg σ I F, n, bc, bs)) (o := 0) g0 g1 g2 (show 0 < n by omega) rfl rfl p0
theorem xg_VG_graph {sc : ax_S} {k pc q idx : Nat} {ls : List (Option Value)} {st : List Value} {σ : Nat → ax_C} {I : Nat → Int} {F : Nat → Nat → Int} {n bc bs : Nat} {K : ax_K} (hn : 22 ≤ n) (g0 : decode (g_m k).2.1 pc = .ok (.getfield idx, 3)) (g1 : pc + 3 = q) (g2 : ax_fld (g_m k).1.cls idx 3 1) (p0 : Ex sc k q ls (.ref (5) :: st) (vg σ I F, n, bc, bs) K) : Ex sc k pc ls (.ref 0 :: st) (vg σ I F, n, bc, bs) K := x_get (h := (vg σ I F, n, bc, bs)) (o := 0) g0 g1 g2 (show 0 < n by omega) rfl rfl p0
theorem xg_VG_last {sc : ax_S} {k pc q idx : Nat} {ls : List (Option Value)} {st : List Value} {σ : Nat → ax_C} {I : Nat → Int} {F : Nat → Nat → Int} {n bc bs : Nat} {K : ax_K} (hn : 22 ≤ n) (g0 : decode (g_m k).2.1 pc = .ok (.getfield idx, 3)) (g1 : pc + 3 = q) (g2 : ax_fld (g_m k).1.cls idx 3 2) (p0 : Ex sc k q ls (.ref (rkO 3) :: st) (vg σ I F, n, bc, bs) K) : Ex sc k pc ls (.ref 0 :: st) (vg σ I F, n, bc, bs) K := x_get (h := (vg σ I F, n, bc, bs)) (o := 0) g0 g1 g2 (show 0 < n by omega) rfl rfl p0
theorem xg_VG_scratch {sc : ax_S} {k pc q idx : Nat} {ls : List (Option Value)} {st : List Value} {σ : Nat → ax_C} {I : Nat → Int} {F : Nat → Nat → Int} {n bc bs : Nat} {K : ax_K} (hn : 22 ≤ n) (g0 : decode (g_m k).2.1 pc = .ok (.getfield idx, 3)) (g1 : pc + 3 = q) (g2 : ax_fld (g_m k).1.cls idx 3 3) (p0 : Ex sc k q ls (.ref (rkO 4) :: st) (vg σ I F, n, bc, bs) K) : Ex sc k pc ls (.ref 0 :: st) (vg σ I F, n, bc, bs) K := x_get (h := (vg σ I F, n, bc, bs)) (o := 0) g0 g1 g2 (show 0 < n by omega) rfl rfl p0
theorem xg_VG_looked {sc : ax_S} {k pc q idx : Nat} {ls : List (Option Value)} {st : List Value} {σ : Nat → ax_C} {I : Nat → Int} {F : Nat → Nat → Int} {n bc bs : Nat} {K : ax_K} (hn : 22 ≤ n) (g0 : decode (g_m k).2.1 pc = .ok (.getfield idx, 3)) (g1 : pc + 3 = q) (g2 : ax_fld (g_m k).1.cls idx 3 4) (p0 : Ex sc k q ls (.ref (rkO 5) :: st) (vg σ I F, n, bc, bs) K) : Ex sc k pc ls (.ref 0 :: st) (vg σ I F, n, bc, bs) K := x_get (h := (vg σ I F, n, bc, bs)) (o := 0) g0 g1 g2 (show 0 < n by omega) rfl rfl p0
theorem xg_VG_latestSteps {sc : ax_S} {k pc q idx : Nat} {ls : List (Option Value)} {st : List Value} {σ : Nat → ax_C} {I : Nat → Int} {F : Nat → Nat → Int} {n bc bs : Nat} {K : ax_K} (hn : 22 ≤ n) (g0 : decode (g_m k).2.1 pc = .ok (.getfield idx, 3)) (g1 : pc + 3 = q) (g2 : ax_fld (g_m k).1.cls idx 3 5) (p0 : Ex sc k q ls (.int (zi (I 6)) :: st) (vg σ I F, n, bc, bs) K) : Ex sc k pc ls (.ref 0 :: st) (vg σ I F, n, bc, bs) K := x_get (h := (vg σ I F, n, bc, bs)) (o := 0) g0 g1 g2 (show 0 < n by omega) rfl rfl p0
theorem xp_VG_latestSteps {sc : ax_S} {k pc q idx : Nat} {ls : List (Option Value)} {st : List Value} {σ : Nat → ax_C} {I : Nat → Int} {F : Nat → Nat → Int} {n bc bs : Nat} {K : ax_K} {e : Int} (hn : 22 ≤ n) (g0 : decode (g_m k).2.1 pc = .ok (.putfield idx, 3)) (g1 : pc + 3 = q) (g2 : ax_fldW (g_m k).1.cls idx 3 5 .int false) (p0 : Ex sc k q ls st (vg σ (va_up I 6 e) F, n, bc, bs) K) : Ex sc k pc ls (.int (zi e) :: .ref 0 :: st) (vg σ I F, n, bc, bs) K := by
  refine x_put (h := (vg σ I F, n, bc, bs)) (o := 0) (ci := 3) (j := 5) (ty := .int) g0 g1 g2 (show 0 < n by omega) rfl (Nat.le_of_ble_eq_true rfl) rfl rfl ?_
  rw [← vg_put_6] at p0
  exact p0
theorem xg_V_parts {sc : ax_S} {k pc q idx : Nat} {ls : List (Option Value)} {st : List Value} {σ : Nat → ax_C} {I : Nat → Int} {F : Nat → Nat → Int} {n bc bs : Nat} {K : ax_K} (hn : 22 ≤ n) (g0 : decode (g_m k).2.1 pc = .ok (.getfield idx, 3)) (g1 : pc + 3 = q) (g2 : ax_fld (g_m k).1.cls idx 2 0) (p0 : Ex sc k q ls (.int (zi (I 7)) :: st) (vg σ I F, n, bc, bs) K) : Ex sc k pc ls (.ref 1 :: st) (vg σ I F, n, bc, bs) K := x_get (h := (vg σ I F, n, bc, bs)) (o := 1) g0 g1 g2 (show 1 < n by omega) rfl rfl p0
theorem xg_V_removed {sc : ax_S} {k pc q idx : Nat} {ls : List (Option Value)} {st : List Value} {σ : Nat → ax_C} {I : Nat → Int} {F : Nat → Nat → Int} {n bc bs : Nat} {K : ax_K} (hn : 22 ≤ n) (g0 : decode (g_m k).2.1 pc = .ok (.getfield idx, 3)) (g1 : pc + 3 = q) (g2 : ax_fld (g_m k).1.cls idx 2 1) (p0 : Ex sc k q ls (.ref (2) :: st) (vg σ I F, n, bc, bs) K) : Ex sc k pc ls (.ref 1 :: st) (vg σ I F, n, bc, bs) K := x_get (h := (vg σ I F, n, bc, bs)) (o := 1) g0 g1 g2 (show 1 < n by omega) rfl rfl p0
theorem xg_V_barred {sc : ax_S} {k pc q idx : Nat} {ls : List (Option Value)} {st : List Value} {σ : Nat → ax_C} {I : Nat → Int} {F : Nat → Nat → Int} {n bc bs : Nat} {K : ax_K} (hn : 22 ≤ n) (g0 : decode (g_m k).2.1 pc = .ok (.getfield idx, 3)) (g1 : pc + 3 = q) (g2 : ax_fld (g_m k).1.cls idx 2 2) (p0 : Ex sc k q ls (.ref (3) :: st) (vg σ I F, n, bc, bs) K) : Ex sc k pc ls (.ref 1 :: st) (vg σ I F, n, bc, bs) K := x_get (h := (vg σ I F, n, bc, bs)) (o := 1) g0 g1 g2 (show 1 < n by omega) rfl rfl p0
theorem xg_V_values {sc : ax_S} {k pc q idx : Nat} {ls : List (Option Value)} {st : List Value} {σ : Nat → ax_C} {I : Nat → Int} {F : Nat → Nat → Int} {n bc bs : Nat} {K : ax_K} (hn : 22 ≤ n) (g0 : decode (g_m k).2.1 pc = .ok (.getfield idx, 3)) (g1 : pc + 3 = q) (g2 : ax_fld (g_m k).1.cls idx 2 3) (p0 : Ex sc k q ls (.ref (4) :: st) (vg σ I F, n, bc, bs) K) : Ex sc k pc ls (.ref 1 :: st) (vg σ I F, n, bc, bs) K := x_get (h := (vg σ I F, n, bc, bs)) (o := 1) g0 g1 g2 (show 1 < n by omega) rfl rfl p0
theorem xg_V_total {sc : ax_S} {k pc q idx : Nat} {ls : List (Option Value)} {st : List Value} {σ : Nat → ax_C} {I : Nat → Int} {F : Nat → Nat → Int} {n bc bs : Nat} {K : ax_K} (hn : 22 ≤ n) (g0 : decode (g_m k).2.1 pc = .ok (.getfield idx, 3)) (g1 : pc + 3 = q) (g2 : ax_fld (g_m k).1.cls idx 2 4) (p0 : Ex sc k q ls (.int (zi (I 0)) :: st) (vg σ I F, n, bc, bs) K) : Ex sc k pc ls (.ref 1 :: st) (vg σ I F, n, bc, bs) K := x_get (h := (vg σ I F, n, bc, bs)) (o := 1) g0 g1 g2 (show 1 < n by omega) rfl rfl p0
theorem xp_V_total {sc : ax_S} {k pc q idx : Nat} {ls : List (Option Value)} {st : List Value} {σ : Nat → ax_C} {I : Nat → Int} {F : Nat → Nat → Int} {n bc bs : Nat} {K : ax_K} {e : Int} (hn : 22 ≤ n) (g0 : decode (g_m k).2.1 pc = .ok (.putfield idx, 3)) (g1 : pc + 3 = q) (g2 : ax_fldW (g_m k).1.cls idx 2 4 .int false) (p0 : Ex sc k q ls st (vg σ (va_up I 0 e) F, n, bc, bs) K) : Ex sc k pc ls (.int (zi e) :: .ref 1 :: st) (vg σ I F, n, bc, bs) K := by
  refine x_put (h := (vg σ I F, n, bc, bs)) (o := 1) (ci := 2) (j := 4) (ty := .int) g0 g1 g2 (show 1 < n by omega) rfl (Nat.le_of_ble_eq_true rfl) rfl rfl ?_
  rw [← vg_put_0] at p0
  exact p0
theorem xg_V_measure {sc : ax_S} {k pc q idx : Nat} {ls : List (Option Value)} {st : List Value} {σ : Nat → ax_C} {I : Nat → Int} {F : Nat → Nat → Int} {n bc bs : Nat} {K : ax_K} (hn : 22 ≤ n) (g0 : decode (g_m k).2.1 pc = .ok (.getfield idx, 3)) (g1 : pc + 3 = q) (g2 : ax_fld (g_m k).1.cls idx 2 5) (p0 : Ex sc k q ls (.int (zi (I 1)) :: st) (vg σ I F, n, bc, bs) K) : Ex sc k pc ls (.ref 1 :: st) (vg σ I F, n, bc, bs) K := x_get (h := (vg σ I F, n, bc, bs)) (o := 1) g0 g1 g2 (show 1 < n by omega) rfl rfl p0
theorem xp_V_measure {sc : ax_S} {k pc q idx : Nat} {ls : List (Option Value)} {st : List Value} {σ : Nat → ax_C} {I : Nat → Int} {F : Nat → Nat → Int} {n bc bs : Nat} {K : ax_K} {e : Int} (hn : 22 ≤ n) (g0 : decode (g_m k).2.1 pc = .ok (.putfield idx, 3)) (g1 : pc + 3 = q) (g2 : ax_fldW (g_m k).1.cls idx 2 5 .int false) (p0 : Ex sc k q ls st (vg σ (va_up I 1 e) F, n, bc, bs) K) : Ex sc k pc ls (.int (zi e) :: .ref 1 :: st) (vg σ I F, n, bc, bs) K := by
  refine x_put (h := (vg σ I F, n, bc, bs)) (o := 1) (ci := 2) (j := 5) (ty := .int) g0 g1 g2 (show 1 < n by omega) rfl (Nat.le_of_ble_eq_true rfl) rfl rfl ?_
  rw [← vg_put_1] at p0
  exact p0
theorem xg_G_found {sc : ax_S} {k pc q idx : Nat} {ls : List (Option Value)} {st : List Value} {σ : Nat → ax_C} {I : Nat → Int} {F : Nat → Nat → Int} {n bc bs : Nat} {K : ax_K} (hn : 22 ≤ n) (g0 : decode (g_m k).2.1 pc = .ok (.getfield idx, 3)) (g1 : pc + 3 = q) (g2 : ax_fld (g_m k).1.cls idx 0 0) (p0 : Ex sc k q ls (.ref (rkO 0) :: st) (vg σ I F, n, bc, bs) K) : Ex sc k pc ls (.ref 5 :: st) (vg σ I F, n, bc, bs) K := x_get (h := (vg σ I F, n, bc, bs)) (o := 5) g0 g1 g2 (show 5 < n by omega) rfl rfl p0
theorem xg_G_entry {sc : ax_S} {k pc q idx : Nat} {ls : List (Option Value)} {st : List Value} {σ : Nat → ax_C} {I : Nat → Int} {F : Nat → Nat → Int} {n bc bs : Nat} {K : ax_K} (hn : 22 ≤ n) (g0 : decode (g_m k).2.1 pc = .ok (.getfield idx, 3)) (g1 : pc + 3 = q) (g2 : ax_fld (g_m k).1.cls idx 0 1) (p0 : Ex sc k q ls (.int (zi (I 2)) :: st) (vg σ I F, n, bc, bs) K) : Ex sc k pc ls (.ref 5 :: st) (vg σ I F, n, bc, bs) K := x_get (h := (vg σ I F, n, bc, bs)) (o := 5) g0 g1 g2 (show 5 < n by omega) rfl rfl p0
theorem xp_G_entry {sc : ax_S} {k pc q idx : Nat} {ls : List (Option Value)} {st : List Value} {σ : Nat → ax_C} {I : Nat → Int} {F : Nat → Nat → Int} {n bc bs : Nat} {K : ax_K} {e : Int} (hn : 22 ≤ n) (g0 : decode (g_m k).2.1 pc = .ok (.putfield idx, 3)) (g1 : pc + 3 = q) (g2 : ax_fldW (g_m k).1.cls idx 0 1 .int false) (p0 : Ex sc k q ls st (vg σ (va_up I 2 e) F, n, bc, bs) K) : Ex sc k pc ls (.int (zi e) :: .ref 5 :: st) (vg σ I F, n, bc, bs) K := by
  refine x_put (h := (vg σ I F, n, bc, bs)) (o := 5) (ci := 0) (j := 1) (ty := .int) g0 g1 g2 (show 5 < n by omega) rfl (Nat.le_of_ble_eq_true rfl) rfl rfl ?_
  rw [← vg_put_2] at p0
  exact p0
theorem xg_G_width {sc : ax_S} {k pc q idx : Nat} {ls : List (Option Value)} {st : List Value} {σ : Nat → ax_C} {I : Nat → Int} {F : Nat → Nat → Int} {n bc bs : Nat} {K : ax_K} (hn : 22 ≤ n) (g0 : decode (g_m k).2.1 pc = .ok (.getfield idx, 3)) (g1 : pc + 3 = q) (g2 : ax_fld (g_m k).1.cls idx 0 2) (p0 : Ex sc k q ls (.int (zi (I 3)) :: st) (vg σ I F, n, bc, bs) K) : Ex sc k pc ls (.ref 5 :: st) (vg σ I F, n, bc, bs) K := x_get (h := (vg σ I F, n, bc, bs)) (o := 5) g0 g1 g2 (show 5 < n by omega) rfl rfl p0
theorem xp_G_width {sc : ax_S} {k pc q idx : Nat} {ls : List (Option Value)} {st : List Value} {σ : Nat → ax_C} {I : Nat → Int} {F : Nat → Nat → Int} {n bc bs : Nat} {K : ax_K} {e : Int} (hn : 22 ≤ n) (g0 : decode (g_m k).2.1 pc = .ok (.putfield idx, 3)) (g1 : pc + 3 = q) (g2 : ax_fldW (g_m k).1.cls idx 0 2 .int false) (p0 : Ex sc k q ls st (vg σ (va_up I 3 e) F, n, bc, bs) K) : Ex sc k pc ls (.int (zi e) :: .ref 5 :: st) (vg σ I F, n, bc, bs) K := by
  refine x_put (h := (vg σ I F, n, bc, bs)) (o := 5) (ci := 0) (j := 2) (ty := .int) g0 g1 g2 (show 5 < n by omega) rfl (Nat.le_of_ble_eq_true rfl) rfl rfl ?_
  rw [← vg_put_3] at p0
  exact p0
theorem xg_G_careful {sc : ax_S} {k pc q idx : Nat} {ls : List (Option Value)} {st : List Value} {σ : Nat → ax_C} {I : Nat → Int} {F : Nat → Nat → Int} {n bc bs : Nat} {K : ax_K} (hn : 22 ≤ n) (g0 : decode (g_m k).2.1 pc = .ok (.getfield idx, 3)) (g1 : pc + 3 = q) (g2 : ax_fld (g_m k).1.cls idx 0 3) (p0 : Ex sc k q ls (.int (zi (I 4)) :: st) (vg σ I F, n, bc, bs) K) : Ex sc k pc ls (.ref 5 :: st) (vg σ I F, n, bc, bs) K := x_get (h := (vg σ I F, n, bc, bs)) (o := 5) g0 g1 g2 (show 5 < n by omega) rfl rfl p0
theorem xp_G_careful {sc : ax_S} {k pc q idx : Nat} {ls : List (Option Value)} {st : List Value} {σ : Nat → ax_C} {I : Nat → Int} {F : Nat → Nat → Int} {n bc bs : Nat} {K : ax_K} {e : Int} (hn : 22 ≤ n) (hb : e = 0 ∨ e = 1) (g0 : decode (g_m k).2.1 pc = .ok (.putfield idx, 3)) (g1 : pc + 3 = q) (g2 : ax_fldW (g_m k).1.cls idx 0 3 .boolean false) (p0 : Ex sc k q ls st (vg σ (va_up I 4 e) F, n, bc, bs) K) : Ex sc k pc ls (.int (zi e) :: .ref 5 :: st) (vg σ I F, n, bc, bs) K := by
  refine x_put (h := (vg σ I F, n, bc, bs)) (o := 5) (ci := 0) (j := 3) (ty := .boolean) g0 g1 g2 (show 5 < n by omega) rfl (Nat.le_of_ble_eq_true rfl) (zi_narB hb) (zi_fitB hb) ?_
  rw [← vg_put_4] at p0
  exact p0
theorem xg_G_walked {sc : ax_S} {k pc q idx : Nat} {ls : List (Option Value)} {st : List Value} {σ : Nat → ax_C} {I : Nat → Int} {F : Nat → Nat → Int} {n bc bs : Nat} {K : ax_K} (hn : 22 ≤ n) (g0 : decode (g_m k).2.1 pc = .ok (.getfield idx, 3)) (g1 : pc + 3 = q) (g2 : ax_fld (g_m k).1.cls idx 0 4) (p0 : Ex sc k q ls (.int (zi (I 5)) :: st) (vg σ I F, n, bc, bs) K) : Ex sc k pc ls (.ref 5 :: st) (vg σ I F, n, bc, bs) K := x_get (h := (vg σ I F, n, bc, bs)) (o := 5) g0 g1 g2 (show 5 < n by omega) rfl rfl p0
theorem xp_G_walked {sc : ax_S} {k pc q idx : Nat} {ls : List (Option Value)} {st : List Value} {σ : Nat → ax_C} {I : Nat → Int} {F : Nat → Nat → Int} {n bc bs : Nat} {K : ax_K} {e : Int} (hn : 22 ≤ n) (g0 : decode (g_m k).2.1 pc = .ok (.putfield idx, 3)) (g1 : pc + 3 = q) (g2 : ax_fldW (g_m k).1.cls idx 0 4 .int false) (p0 : Ex sc k q ls st (vg σ (va_up I 5 e) F, n, bc, bs) K) : Ex sc k pc ls (.int (zi e) :: .ref 5 :: st) (vg σ I F, n, bc, bs) K := by
  refine x_put (h := (vg σ I F, n, bc, bs)) (o := 5) (ci := 0) (j := 4) (ty := .int) g0 g1 g2 (show 5 < n by omega) rfl (Nat.le_of_ble_eq_true rfl) rfl rfl ?_
  rw [← vg_put_5] at p0
  exact p0
theorem xg_G_vectors {sc : ax_S} {k pc q idx : Nat} {ls : List (Option Value)} {st : List Value} {σ : Nat → ax_C} {I : Nat → Int} {F : Nat → Nat → Int} {n bc bs : Nat} {K : ax_K} (hn : 22 ≤ n) (g0 : decode (g_m k).2.1 pc = .ok (.getfield idx, 3)) (g1 : pc + 3 = q) (g2 : ax_fld (g_m k).1.cls idx 0 5) (p0 : Ex sc k q ls (.ref (1) :: st) (vg σ I F, n, bc, bs) K) : Ex sc k pc ls (.ref 5 :: st) (vg σ I F, n, bc, bs) K := x_get (h := (vg σ I F, n, bc, bs)) (o := 5) g0 g1 g2 (show 5 < n by omega) rfl rfl p0
theorem xg_G_seed {sc : ax_S} {k pc q idx : Nat} {ls : List (Option Value)} {st : List Value} {σ : Nat → ax_C} {I : Nat → Int} {F : Nat → Nat → Int} {n bc bs : Nat} {K : ax_K} (hn : 22 ≤ n) (g0 : decode (g_m k).2.1 pc = .ok (.getfield idx, 3)) (g1 : pc + 3 = q) (g2 : ax_fld (g_m k).1.cls idx 0 6) (p0 : Ex sc k q ls (.int (zi (I 8)) :: st) (vg σ I F, n, bc, bs) K) : Ex sc k pc ls (.ref 5 :: st) (vg σ I F, n, bc, bs) K := x_get (h := (vg σ I F, n, bc, bs)) (o := 5) g0 g1 g2 (show 5 < n by omega) rfl rfl p0
theorem xg_G_links {sc : ax_S} {k pc q idx : Nat} {ls : List (Option Value)} {st : List Value} {σ : Nat → ax_C} {I : Nat → Int} {F : Nat → Nat → Int} {n bc bs : Nat} {K : ax_K} (hn : 22 ≤ n) (g0 : decode (g_m k).2.1 pc = .ok (.getfield idx, 3)) (g1 : pc + 3 = q) (g2 : ax_fld (g_m k).1.cls idx 0 7) (p0 : Ex sc k q ls (.ref (6) :: st) (vg σ I F, n, bc, bs) K) : Ex sc k pc ls (.ref 5 :: st) (vg σ I F, n, bc, bs) K := x_get (h := (vg σ I F, n, bc, bs)) (o := 5) g0 g1 g2 (show 5 < n by omega) rfl rfl p0
theorem xg_G_rowSizes {sc : ax_S} {k pc q idx : Nat} {ls : List (Option Value)} {st : List Value} {σ : Nat → ax_C} {I : Nat → Int} {F : Nat → Nat → Int} {n bc bs : Nat} {K : ax_K} (hn : 22 ≤ n) (g0 : decode (g_m k).2.1 pc = .ok (.getfield idx, 3)) (g1 : pc + 3 = q) (g2 : ax_fld (g_m k).1.cls idx 0 8) (p0 : Ex sc k q ls (.ref (7) :: st) (vg σ I F, n, bc, bs) K) : Ex sc k pc ls (.ref 5 :: st) (vg σ I F, n, bc, bs) K := x_get (h := (vg σ I F, n, bc, bs)) (o := 5) g0 g1 g2 (show 5 < n by omega) rfl rfl p0
theorem xg_G_met {sc : ax_S} {k pc q idx : Nat} {ls : List (Option Value)} {st : List Value} {σ : Nat → ax_C} {I : Nat → Int} {F : Nat → Nat → Int} {n bc bs : Nat} {K : ax_K} (hn : 22 ≤ n) (g0 : decode (g_m k).2.1 pc = .ok (.getfield idx, 3)) (g1 : pc + 3 = q) (g2 : ax_fld (g_m k).1.cls idx 0 9) (p0 : Ex sc k q ls (.ref (8) :: st) (vg σ I F, n, bc, bs) K) : Ex sc k pc ls (.ref 5 :: st) (vg σ I F, n, bc, bs) K := x_get (h := (vg σ I F, n, bc, bs)) (o := 5) g0 g1 g2 (show 5 < n by omega) rfl rfl p0
theorem xg_G_trail {sc : ax_S} {k pc q idx : Nat} {ls : List (Option Value)} {st : List Value} {σ : Nat → ax_C} {I : Nat → Int} {F : Nat → Nat → Int} {n bc bs : Nat} {K : ax_K} (hn : 22 ≤ n) (g0 : decode (g_m k).2.1 pc = .ok (.getfield idx, 3)) (g1 : pc + 3 = q) (g2 : ax_fld (g_m k).1.cls idx 0 10) (p0 : Ex sc k q ls (.ref (9) :: st) (vg σ I F, n, bc, bs) K) : Ex sc k pc ls (.ref 5 :: st) (vg σ I F, n, bc, bs) K := x_get (h := (vg σ I F, n, bc, bs)) (o := 5) g0 g1 g2 (show 5 < n by omega) rfl rfl p0
theorem xg_G_open {sc : ax_S} {k pc q idx : Nat} {ls : List (Option Value)} {st : List Value} {σ : Nat → ax_C} {I : Nat → Int} {F : Nat → Nat → Int} {n bc bs : Nat} {K : ax_K} (hn : 22 ≤ n) (g0 : decode (g_m k).2.1 pc = .ok (.getfield idx, 3)) (g1 : pc + 3 = q) (g2 : ax_fld (g_m k).1.cls idx 0 11) (p0 : Ex sc k q ls (.ref (rkO 1) :: st) (vg σ I F, n, bc, bs) K) : Ex sc k pc ls (.ref 5 :: st) (vg σ I F, n, bc, bs) K := x_get (h := (vg σ I F, n, bc, bs)) (o := 5) g0 g1 g2 (show 5 < n by omega) rfl rfl p0
theorem xg_G_pool {sc : ax_S} {k pc q idx : Nat} {ls : List (Option Value)} {st : List Value} {σ : Nat → ax_C} {I : Nat → Int} {F : Nat → Nat → Int} {n bc bs : Nat} {K : ax_K} (hn : 22 ≤ n) (g0 : decode (g_m k).2.1 pc = .ok (.getfield idx, 3)) (g1 : pc + 3 = q) (g2 : ax_fld (g_m k).1.cls idx 0 12) (p0 : Ex sc k q ls (.ref (rkO 2) :: st) (vg σ I F, n, bc, bs) K) : Ex sc k pc ls (.ref 5 :: st) (vg σ I F, n, bc, bs) K := x_get (h := (vg σ I F, n, bc, bs)) (o := 5) g0 g1 g2 (show 5 < n by omega) rfl rfl p0
theorem xg_R_size {sc : ax_S} {k pc q idx : Nat} {ls : List (Option Value)} {st : List Value} {σ : Nat → ax_C} {I : Nat → Int} {F : Nat → Nat → Int} {n bc bs : Nat} {K : ax_K} {r : Nat} (hr : r < 6) (hn : 22 ≤ n) (g0 : decode (g_m k).2.1 pc = .ok (.getfield idx, 3)) (g1 : pc + 3 = q) (g2 : ax_fld (g_m k).1.cls idx 1 1) (p0 : Ex sc k q ls (.int (zi (I (10 + r))) :: st) (vg σ I F, n, bc, bs) K) : Ex sc k pc ls (.ref (rkO r) :: st) (vg σ I F, n, bc, bs) K := x_get (h := (vg σ I F, n, bc, bs)) (o := rkO r) g0 g1 g2 (rk_lt hr hn).1 (vg_rk hr) rfl p0
theorem xg_R_keys {sc : ax_S} {k pc q idx : Nat} {ls : List (Option Value)} {st : List Value} {σ : Nat → ax_C} {I : Nat → Int} {F : Nat → Nat → Int} {n bc bs : Nat} {K : ax_K} {r : Nat} (hr : r < 6) (hn : 22 ≤ n) (g0 : decode (g_m k).2.1 pc = .ok (.getfield idx, 3)) (g1 : pc + 3 = q) (g2 : ax_fld (g_m k).1.cls idx 1 0) (p0 : Ex sc k q ls (.ref (rkK r) :: st) (vg σ I F, n, bc, bs) K) : Ex sc k pc ls (.ref (rkO r) :: st) (vg σ I F, n, bc, bs) K := x_get (h := (vg σ I F, n, bc, bs)) (o := rkO r) g0 g1 g2 (rk_lt hr hn).1 (vg_rk hr) rfl p0
theorem xp_R_size {sc : ax_S} {k pc q idx : Nat} {ls : List (Option Value)} {st : List Value} {σ : Nat → ax_C} {I : Nat → Int} {F : Nat → Nat → Int} {n bc bs : Nat} {K : ax_K} {r : Nat} {e : Int} (hr : r < 6) (hn : 22 ≤ n) (g0 : decode (g_m k).2.1 pc = .ok (.putfield idx, 3)) (g1 : pc + 3 = q) (g2 : ax_fldW (g_m k).1.cls idx 1 1 .int false) (p0 : Ex sc k q ls st (vg σ (va_up I (10 + r) e) F, n, bc, bs) K) : Ex sc k pc ls (.int (zi e) :: .ref (rkO r) :: st) (vg σ I F, n, bc, bs) K := by
  refine x_put (h := (vg σ I F, n, bc, bs)) (o := rkO r) (ci := 1) (j := 1) (ty := .int) g0 g1 g2 (rk_lt hr hn).1 (vg_rk hr) (Nat.le_of_ble_eq_true rfl) rfl rfl ?_
  rw [← vg_put_rk σ I F e hr] at p0
  exact p0
theorem xl_removed {sc : ax_S} {k pc q : Nat} {ls : List (Option Value)} {st : List Value} {σ : Nat → ax_C} {I : Nat → Int} {F : Nat → Nat → Int} {n bc bs : Nat} {K : ax_K} {a : Int} (hn : 22 ≤ n) (g0 : decode (g_m k).2.1 pc = .ok (.baload, 1)) (g1 : pc + 1 = q) (h1 : 0 ≤ a) (h2 : a < (100 : Nat)) (p0 : Ex sc k q ls (.int (zi (F 0 a.toNat)) :: st) (vg σ I F, n, bc, bs) K) : Ex sc k pc ls (.int (zi a) :: .ref 2 :: st) (vg σ I F, n, bc, bs) K := by
  refine x_zald (h := (vg σ I F, n, bc, bs)) (o := 2) (n := 100) (f := fun j => zi (F 0 j)) g0 g1 (show 2 < n by omega) rfl (zi_in h1 h2 (by omega)) ?_
  show Ex sc k q ls (.int (zi (F 0 (zi a).toNatClampNeg)) :: st) (vg σ I F, n, bc, bs) K
  rw [zi_c h1 (by omega)]
  exact p0
theorem xs_removed {sc : ax_S} {k pc q : Nat} {ls : List (Option Value)} {st : List Value} {σ : Nat → ax_C} {I : Nat → Int} {F : Nat → Nat → Int} {n bc bs : Nat} {K : ax_K} {a e : Int} (hn : 22 ≤ n) (hb : e = 0 ∨ e = 1) (g0 : decode (g_m k).2.1 pc = .ok (.bastore, 1)) (g1 : pc + 1 = q) (h1 : 0 ≤ a) (h2 : a < (100 : Nat)) (p0 : Ex sc k q ls st (vg σ I (va_up F (0) (va_up (F (0)) a.toNat e)), n, bc, bs) K) : Ex sc k pc ls (.int (zi e) :: .int (zi a) :: .ref 2 :: st) (vg σ I F, n, bc, bs) K := by
  refine x_zast (h := (vg σ I F, n, bc, bs)) (o := 2) (n := 100) (f := fun j => zi (F 0 j)) g0 g1 (show 2 < n by omega) rfl (zi_in h1 h2 (by omega)) ?_
  rw [zi_nar hb, zi_c h1 (by omega), upd_zi]
  rw [← vg_arr_removed] at p0
  exact p0
theorem xn_removed {sc : ax_S} {k pc q : Nat} {ls : List (Option Value)} {st : List Value} {σ : Nat → ax_C} {I : Nat → Int} {F : Nat → Nat → Int} {n bc bs : Nat} {K : ax_K} (hn : 22 ≤ n) (g0 : decode (g_m k).2.1 pc = .ok (.arraylength, 1)) (g1 : pc + 1 = q) (p0 : Ex sc k q ls (.int (zi (100 : Nat)) :: st) (vg σ I F, n, bc, bs) K) : Ex sc k pc ls (.ref 2 :: st) (vg σ I F, n, bc, bs) K := x_alen (h := (vg σ I F, n, bc, bs)) (o := 2) (n := 100) g0 g1 (show 2 < n by omega) rfl (by rw [zi_nI]; exact p0)
theorem xl_barred {sc : ax_S} {k pc q : Nat} {ls : List (Option Value)} {st : List Value} {σ : Nat → ax_C} {I : Nat → Int} {F : Nat → Nat → Int} {n bc bs : Nat} {K : ax_K} {a : Int} (hn : 22 ≤ n) (g0 : decode (g_m k).2.1 pc = .ok (.baload, 1)) (g1 : pc + 1 = q) (h1 : 0 ≤ a) (h2 : a < (100 : Nat)) (p0 : Ex sc k q ls (.int (zi (F 1 a.toNat)) :: st) (vg σ I F, n, bc, bs) K) : Ex sc k pc ls (.int (zi a) :: .ref 3 :: st) (vg σ I F, n, bc, bs) K := by
  refine x_zald (h := (vg σ I F, n, bc, bs)) (o := 3) (n := 100) (f := fun j => zi (F 1 j)) g0 g1 (show 3 < n by omega) rfl (zi_in h1 h2 (by omega)) ?_
  show Ex sc k q ls (.int (zi (F 1 (zi a).toNatClampNeg)) :: st) (vg σ I F, n, bc, bs) K
  rw [zi_c h1 (by omega)]
  exact p0
theorem xs_barred {sc : ax_S} {k pc q : Nat} {ls : List (Option Value)} {st : List Value} {σ : Nat → ax_C} {I : Nat → Int} {F : Nat → Nat → Int} {n bc bs : Nat} {K : ax_K} {a e : Int} (hn : 22 ≤ n) (hb : e = 0 ∨ e = 1) (g0 : decode (g_m k).2.1 pc = .ok (.bastore, 1)) (g1 : pc + 1 = q) (h1 : 0 ≤ a) (h2 : a < (100 : Nat)) (p0 : Ex sc k q ls st (vg σ I (va_up F (1) (va_up (F (1)) a.toNat e)), n, bc, bs) K) : Ex sc k pc ls (.int (zi e) :: .int (zi a) :: .ref 3 :: st) (vg σ I F, n, bc, bs) K := by
  refine x_zast (h := (vg σ I F, n, bc, bs)) (o := 3) (n := 100) (f := fun j => zi (F 1 j)) g0 g1 (show 3 < n by omega) rfl (zi_in h1 h2 (by omega)) ?_
  rw [zi_nar hb, zi_c h1 (by omega), upd_zi]
  rw [← vg_arr_barred] at p0
  exact p0
theorem xn_barred {sc : ax_S} {k pc q : Nat} {ls : List (Option Value)} {st : List Value} {σ : Nat → ax_C} {I : Nat → Int} {F : Nat → Nat → Int} {n bc bs : Nat} {K : ax_K} (hn : 22 ≤ n) (g0 : decode (g_m k).2.1 pc = .ok (.arraylength, 1)) (g1 : pc + 1 = q) (p0 : Ex sc k q ls (.int (zi (100 : Nat)) :: st) (vg σ I F, n, bc, bs) K) : Ex sc k pc ls (.ref 3 :: st) (vg σ I F, n, bc, bs) K := x_alen (h := (vg σ I F, n, bc, bs)) (o := 3) (n := 100) g0 g1 (show 3 < n by omega) rfl (by rw [zi_nI]; exact p0)
theorem xl_values {sc : ax_S} {k pc q : Nat} {ls : List (Option Value)} {st : List Value} {σ : Nat → ax_C} {I : Nat → Int} {F : Nat → Nat → Int} {n bc bs : Nat} {K : ax_K} {a : Int} (hn : 22 ≤ n) (g0 : decode (g_m k).2.1 pc = .ok (.iaload, 1)) (g1 : pc + 1 = q) (h1 : 0 ≤ a) (h2 : a < (101 * (I 7).toNat : Nat)) (hp : (I 7).toNat ≤ 8) (p0 : Ex sc k q ls (.int (zi (F 2 a.toNat)) :: st) (vg σ I F, n, bc, bs) K) : Ex sc k pc ls (.int (zi a) :: .ref 4 :: st) (vg σ I F, n, bc, bs) K := by
  refine x_iald (h := (vg σ I F, n, bc, bs)) (o := 4) (n := 101 * (I 7).toNat) (f := fun j => zi (F 2 j)) g0 g1 (show 4 < n by omega) rfl (zi_in h1 h2 (by omega)) ?_
  show Ex sc k q ls (.int (zi (F 2 (zi a).toNatClampNeg)) :: st) (vg σ I F, n, bc, bs) K
  rw [zi_c h1 (by omega)]
  exact p0
theorem xs_values {sc : ax_S} {k pc q : Nat} {ls : List (Option Value)} {st : List Value} {σ : Nat → ax_C} {I : Nat → Int} {F : Nat → Nat → Int} {n bc bs : Nat} {K : ax_K} {a e : Int} (hn : 22 ≤ n) (g0 : decode (g_m k).2.1 pc = .ok (.iastore, 1)) (g1 : pc + 1 = q) (h1 : 0 ≤ a) (h2 : a < (101 * (I 7).toNat : Nat)) (hp : (I 7).toNat ≤ 8) (p0 : Ex sc k q ls st (vg σ I (va_up F (2) (va_up (F (2)) a.toNat e)), n, bc, bs) K) : Ex sc k pc ls (.int (zi e) :: .int (zi a) :: .ref 4 :: st) (vg σ I F, n, bc, bs) K := by
  refine x_iast (h := (vg σ I F, n, bc, bs)) (o := 4) (n := 101 * (I 7).toNat) (f := fun j => zi (F 2 j)) g0 g1 (show 4 < n by omega) rfl (zi_in h1 h2 (by omega)) ?_
  rw [zi_c h1 (by omega), upd_zi]
  rw [← vg_arr_values] at p0
  exact p0
theorem xn_values {sc : ax_S} {k pc q : Nat} {ls : List (Option Value)} {st : List Value} {σ : Nat → ax_C} {I : Nat → Int} {F : Nat → Nat → Int} {n bc bs : Nat} {K : ax_K} (hn : 22 ≤ n) (g0 : decode (g_m k).2.1 pc = .ok (.arraylength, 1)) (g1 : pc + 1 = q) (p0 : Ex sc k q ls (.int (zi (101 * (I 7).toNat : Nat)) :: st) (vg σ I F, n, bc, bs) K) : Ex sc k pc ls (.ref 4 :: st) (vg σ I F, n, bc, bs) K := x_alen (h := (vg σ I F, n, bc, bs)) (o := 4) (n := 101 * (I 7).toNat) g0 g1 (show 4 < n by omega) rfl (by rw [zi_nI]; exact p0)
theorem xl_links {sc : ax_S} {k pc q : Nat} {ls : List (Option Value)} {st : List Value} {σ : Nat → ax_C} {I : Nat → Int} {F : Nat → Nat → Int} {n bc bs : Nat} {K : ax_K} {a : Int} (hn : 22 ≤ n) (g0 : decode (g_m k).2.1 pc = .ok (.iaload, 1)) (g1 : pc + 1 = q) (h1 : 0 ≤ a) (h2 : a < (3600 : Nat)) (p0 : Ex sc k q ls (.int (zi (F 3 a.toNat)) :: st) (vg σ I F, n, bc, bs) K) : Ex sc k pc ls (.int (zi a) :: .ref 6 :: st) (vg σ I F, n, bc, bs) K := by
  refine x_iald (h := (vg σ I F, n, bc, bs)) (o := 6) (n := 3600) (f := fun j => zi (F 3 j)) g0 g1 (show 6 < n by omega) rfl (zi_in h1 h2 (by omega)) ?_
  show Ex sc k q ls (.int (zi (F 3 (zi a).toNatClampNeg)) :: st) (vg σ I F, n, bc, bs) K
  rw [zi_c h1 (by omega)]
  exact p0
theorem xs_links {sc : ax_S} {k pc q : Nat} {ls : List (Option Value)} {st : List Value} {σ : Nat → ax_C} {I : Nat → Int} {F : Nat → Nat → Int} {n bc bs : Nat} {K : ax_K} {a e : Int} (hn : 22 ≤ n) (g0 : decode (g_m k).2.1 pc = .ok (.iastore, 1)) (g1 : pc + 1 = q) (h1 : 0 ≤ a) (h2 : a < (3600 : Nat)) (p0 : Ex sc k q ls st (vg σ I (va_up F (3) (va_up (F (3)) a.toNat e)), n, bc, bs) K) : Ex sc k pc ls (.int (zi e) :: .int (zi a) :: .ref 6 :: st) (vg σ I F, n, bc, bs) K := by
  refine x_iast (h := (vg σ I F, n, bc, bs)) (o := 6) (n := 3600) (f := fun j => zi (F 3 j)) g0 g1 (show 6 < n by omega) rfl (zi_in h1 h2 (by omega)) ?_
  rw [zi_c h1 (by omega), upd_zi]
  rw [← vg_arr_links] at p0
  exact p0
theorem xn_links {sc : ax_S} {k pc q : Nat} {ls : List (Option Value)} {st : List Value} {σ : Nat → ax_C} {I : Nat → Int} {F : Nat → Nat → Int} {n bc bs : Nat} {K : ax_K} (hn : 22 ≤ n) (g0 : decode (g_m k).2.1 pc = .ok (.arraylength, 1)) (g1 : pc + 1 = q) (p0 : Ex sc k q ls (.int (zi (3600 : Nat)) :: st) (vg σ I F, n, bc, bs) K) : Ex sc k pc ls (.ref 6 :: st) (vg σ I F, n, bc, bs) K := x_alen (h := (vg σ I F, n, bc, bs)) (o := 6) (n := 3600) g0 g1 (show 6 < n by omega) rfl (by rw [zi_nI]; exact p0)
theorem xl_rowSizes {sc : ax_S} {k pc q : Nat} {ls : List (Option Value)} {st : List Value} {σ : Nat → ax_C} {I : Nat → Int} {F : Nat → Nat → Int} {n bc bs : Nat} {K : ax_K} {a : Int} (hn : 22 ≤ n) (g0 : decode (g_m k).2.1 pc = .ok (.iaload, 1)) (g1 : pc + 1 = q) (h1 : 0 ≤ a) (h2 : a < (500 : Nat)) (p0 : Ex sc k q ls (.int (zi (F 4 a.toNat)) :: st) (vg σ I F, n, bc, bs) K) : Ex sc k pc ls (.int (zi a) :: .ref 7 :: st) (vg σ I F, n, bc, bs) K := by
  refine x_iald (h := (vg σ I F, n, bc, bs)) (o := 7) (n := 500) (f := fun j => zi (F 4 j)) g0 g1 (show 7 < n by omega) rfl (zi_in h1 h2 (by omega)) ?_
  show Ex sc k q ls (.int (zi (F 4 (zi a).toNatClampNeg)) :: st) (vg σ I F, n, bc, bs) K
  rw [zi_c h1 (by omega)]
  exact p0
theorem xs_rowSizes {sc : ax_S} {k pc q : Nat} {ls : List (Option Value)} {st : List Value} {σ : Nat → ax_C} {I : Nat → Int} {F : Nat → Nat → Int} {n bc bs : Nat} {K : ax_K} {a e : Int} (hn : 22 ≤ n) (g0 : decode (g_m k).2.1 pc = .ok (.iastore, 1)) (g1 : pc + 1 = q) (h1 : 0 ≤ a) (h2 : a < (500 : Nat)) (p0 : Ex sc k q ls st (vg σ I (va_up F (4) (va_up (F (4)) a.toNat e)), n, bc, bs) K) : Ex sc k pc ls (.int (zi e) :: .int (zi a) :: .ref 7 :: st) (vg σ I F, n, bc, bs) K := by
  refine x_iast (h := (vg σ I F, n, bc, bs)) (o := 7) (n := 500) (f := fun j => zi (F 4 j)) g0 g1 (show 7 < n by omega) rfl (zi_in h1 h2 (by omega)) ?_
  rw [zi_c h1 (by omega), upd_zi]
  rw [← vg_arr_rowSizes] at p0
  exact p0
theorem xn_rowSizes {sc : ax_S} {k pc q : Nat} {ls : List (Option Value)} {st : List Value} {σ : Nat → ax_C} {I : Nat → Int} {F : Nat → Nat → Int} {n bc bs : Nat} {K : ax_K} (hn : 22 ≤ n) (g0 : decode (g_m k).2.1 pc = .ok (.arraylength, 1)) (g1 : pc + 1 = q) (p0 : Ex sc k q ls (.int (zi (500 : Nat)) :: st) (vg σ I F, n, bc, bs) K) : Ex sc k pc ls (.ref 7 :: st) (vg σ I F, n, bc, bs) K := x_alen (h := (vg σ I F, n, bc, bs)) (o := 7) (n := 500) g0 g1 (show 7 < n by omega) rfl (by rw [zi_nI]; exact p0)
theorem xl_met {sc : ax_S} {k pc q : Nat} {ls : List (Option Value)} {st : List Value} {σ : Nat → ax_C} {I : Nat → Int} {F : Nat → Nat → Int} {n bc bs : Nat} {K : ax_K} {a : Int} (hn : 22 ≤ n) (g0 : decode (g_m k).2.1 pc = .ok (.baload, 1)) (g1 : pc + 1 = q) (h1 : 0 ≤ a) (h2 : a < (100 : Nat)) (p0 : Ex sc k q ls (.int (zi (F 5 a.toNat)) :: st) (vg σ I F, n, bc, bs) K) : Ex sc k pc ls (.int (zi a) :: .ref 8 :: st) (vg σ I F, n, bc, bs) K := by
  refine x_zald (h := (vg σ I F, n, bc, bs)) (o := 8) (n := 100) (f := fun j => zi (F 5 j)) g0 g1 (show 8 < n by omega) rfl (zi_in h1 h2 (by omega)) ?_
  show Ex sc k q ls (.int (zi (F 5 (zi a).toNatClampNeg)) :: st) (vg σ I F, n, bc, bs) K
  rw [zi_c h1 (by omega)]
  exact p0
theorem xs_met {sc : ax_S} {k pc q : Nat} {ls : List (Option Value)} {st : List Value} {σ : Nat → ax_C} {I : Nat → Int} {F : Nat → Nat → Int} {n bc bs : Nat} {K : ax_K} {a e : Int} (hn : 22 ≤ n) (hb : e = 0 ∨ e = 1) (g0 : decode (g_m k).2.1 pc = .ok (.bastore, 1)) (g1 : pc + 1 = q) (h1 : 0 ≤ a) (h2 : a < (100 : Nat)) (p0 : Ex sc k q ls st (vg σ I (va_up F (5) (va_up (F (5)) a.toNat e)), n, bc, bs) K) : Ex sc k pc ls (.int (zi e) :: .int (zi a) :: .ref 8 :: st) (vg σ I F, n, bc, bs) K := by
  refine x_zast (h := (vg σ I F, n, bc, bs)) (o := 8) (n := 100) (f := fun j => zi (F 5 j)) g0 g1 (show 8 < n by omega) rfl (zi_in h1 h2 (by omega)) ?_
  rw [zi_nar hb, zi_c h1 (by omega), upd_zi]
  rw [← vg_arr_met] at p0
  exact p0
theorem xn_met {sc : ax_S} {k pc q : Nat} {ls : List (Option Value)} {st : List Value} {σ : Nat → ax_C} {I : Nat → Int} {F : Nat → Nat → Int} {n bc bs : Nat} {K : ax_K} (hn : 22 ≤ n) (g0 : decode (g_m k).2.1 pc = .ok (.arraylength, 1)) (g1 : pc + 1 = q) (p0 : Ex sc k q ls (.int (zi (100 : Nat)) :: st) (vg σ I F, n, bc, bs) K) : Ex sc k pc ls (.ref 8 :: st) (vg σ I F, n, bc, bs) K := x_alen (h := (vg σ I F, n, bc, bs)) (o := 8) (n := 100) g0 g1 (show 8 < n by omega) rfl (by rw [zi_nI]; exact p0)
theorem xl_trail {sc : ax_S} {k pc q : Nat} {ls : List (Option Value)} {st : List Value} {σ : Nat → ax_C} {I : Nat → Int} {F : Nat → Nat → Int} {n bc bs : Nat} {K : ax_K} {a : Int} (hn : 22 ≤ n) (g0 : decode (g_m k).2.1 pc = .ok (.iaload, 1)) (g1 : pc + 1 = q) (h1 : 0 ≤ a) (h2 : a < (100 : Nat)) (p0 : Ex sc k q ls (.int (zi (F 6 a.toNat)) :: st) (vg σ I F, n, bc, bs) K) : Ex sc k pc ls (.int (zi a) :: .ref 9 :: st) (vg σ I F, n, bc, bs) K := by
  refine x_iald (h := (vg σ I F, n, bc, bs)) (o := 9) (n := 100) (f := fun j => zi (F 6 j)) g0 g1 (show 9 < n by omega) rfl (zi_in h1 h2 (by omega)) ?_
  show Ex sc k q ls (.int (zi (F 6 (zi a).toNatClampNeg)) :: st) (vg σ I F, n, bc, bs) K
  rw [zi_c h1 (by omega)]
  exact p0
theorem xs_trail {sc : ax_S} {k pc q : Nat} {ls : List (Option Value)} {st : List Value} {σ : Nat → ax_C} {I : Nat → Int} {F : Nat → Nat → Int} {n bc bs : Nat} {K : ax_K} {a e : Int} (hn : 22 ≤ n) (g0 : decode (g_m k).2.1 pc = .ok (.iastore, 1)) (g1 : pc + 1 = q) (h1 : 0 ≤ a) (h2 : a < (100 : Nat)) (p0 : Ex sc k q ls st (vg σ I (va_up F (6) (va_up (F (6)) a.toNat e)), n, bc, bs) K) : Ex sc k pc ls (.int (zi e) :: .int (zi a) :: .ref 9 :: st) (vg σ I F, n, bc, bs) K := by
  refine x_iast (h := (vg σ I F, n, bc, bs)) (o := 9) (n := 100) (f := fun j => zi (F 6 j)) g0 g1 (show 9 < n by omega) rfl (zi_in h1 h2 (by omega)) ?_
  rw [zi_c h1 (by omega), upd_zi]
  rw [← vg_arr_trail] at p0
  exact p0
theorem xn_trail {sc : ax_S} {k pc q : Nat} {ls : List (Option Value)} {st : List Value} {σ : Nat → ax_C} {I : Nat → Int} {F : Nat → Nat → Int} {n bc bs : Nat} {K : ax_K} (hn : 22 ≤ n) (g0 : decode (g_m k).2.1 pc = .ok (.arraylength, 1)) (g1 : pc + 1 = q) (p0 : Ex sc k q ls (.int (zi (100 : Nat)) :: st) (vg σ I F, n, bc, bs) K) : Ex sc k pc ls (.ref 9 :: st) (vg σ I F, n, bc, bs) K := x_alen (h := (vg σ I F, n, bc, bs)) (o := 9) (n := 100) g0 g1 (show 9 < n by omega) rfl (by rw [zi_nI]; exact p0)
theorem rkC_le (r : Nat) : rkC r ≤ 100 := by unfold rkC; split <;> decide
theorem xl_R {sc : ax_S} {k pc q : Nat} {ls : List (Option Value)} {st : List Value} {σ : Nat → ax_C} {I : Nat → Int} {F : Nat → Nat → Int} {n bc bs : Nat} {K : ax_K} {r : Nat} (hr : r < 6) {a : Int} (hn : 22 ≤ n) (g0 : decode (g_m k).2.1 pc = .ok (.iaload, 1)) (g1 : pc + 1 = q) (h1 : 0 ≤ a) (h2 : a < (rkC r : Nat)) (p0 : Ex sc k q ls (.int (zi (F (10 + r) a.toNat)) :: st) (vg σ I F, n, bc, bs) K) : Ex sc k pc ls (.int (zi a) :: .ref (rkK r) :: st) (vg σ I F, n, bc, bs) K := by
  refine x_iald (h := (vg σ I F, n, bc, bs)) (o := (rkK r)) (n := rkC r) (f := fun j => zi (F (10 + r) j)) g0 g1 (rk_lt hr hn).2 (vg_rkK hr) (zi_in h1 h2 (by exact Nat.le_trans (rkC_le r) (by decide))) ?_
  show Ex sc k q ls (.int (zi (F (10 + r) (zi a).toNatClampNeg)) :: st) (vg σ I F, n, bc, bs) K
  rw [zi_c h1 (by have := rkC_le r; omega)]
  exact p0
theorem xs_R {sc : ax_S} {k pc q : Nat} {ls : List (Option Value)} {st : List Value} {σ : Nat → ax_C} {I : Nat → Int} {F : Nat → Nat → Int} {n bc bs : Nat} {K : ax_K} {r : Nat} (hr : r < 6) {a e : Int} (hn : 22 ≤ n) (g0 : decode (g_m k).2.1 pc = .ok (.iastore, 1)) (g1 : pc + 1 = q) (h1 : 0 ≤ a) (h2 : a < (rkC r : Nat)) (p0 : Ex sc k q ls st (vg σ I (va_up F ((10 + r)) (va_up (F ((10 + r))) a.toNat e)), n, bc, bs) K) : Ex sc k pc ls (.int (zi e) :: .int (zi a) :: .ref (rkK r) :: st) (vg σ I F, n, bc, bs) K := by
  refine x_iast (h := (vg σ I F, n, bc, bs)) (o := (rkK r)) (n := rkC r) (f := fun j => zi (F (10 + r) j)) g0 g1 (rk_lt hr hn).2 (vg_rkK hr) (zi_in h1 h2 (by exact Nat.le_trans (rkC_le r) (by decide))) ?_
  rw [zi_c h1 (by have := rkC_le r; omega), upd_zi]
  rw [← vg_arr_rk σ I F _ hr] at p0
  exact p0
theorem xn_R {sc : ax_S} {k pc q : Nat} {ls : List (Option Value)} {st : List Value} {σ : Nat → ax_C} {I : Nat → Int} {F : Nat → Nat → Int} {n bc bs : Nat} {K : ax_K} {r : Nat} (hr : r < 6) (hn : 22 ≤ n) (g0 : decode (g_m k).2.1 pc = .ok (.arraylength, 1)) (g1 : pc + 1 = q) (p0 : Ex sc k q ls (.int (zi (rkC r : Nat)) :: st) (vg σ I F, n, bc, bs) K) : Ex sc k pc ls (.ref (rkK r) :: st) (vg σ I F, n, bc, bs) K := x_alen (h := (vg σ I F, n, bc, bs)) (o := (rkK r)) (n := rkC r) g0 g1 (rk_lt hr hn).2 (vg_rkK hr) (by rw [zi_nI]; exact p0)
