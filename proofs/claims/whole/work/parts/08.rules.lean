/-! Rules: what is possible on a board -/
def lc_step (f : Int → Int) (fr to : Int) : Bool := decide (f to = 0 ∧ (-1 ≤ fr / 6 - to / 6 ∧ fr / 6 - to / 6 ≤ 1) ∧ (-1 ≤ fr % 6 - to % 6 ∧ fr % 6 - to % 6 ≤ 1))
theorem lc_step_iff {f : Int → Int} {fr to : Int} : lc_step f fr to = true ↔ (f to = 0 ∧ (-1 ≤ fr / 6 - to / 6 ∧ fr / 6 - to / 6 ≤ 1) ∧ (-1 ≤ fr % 6 - to % 6 ∧ fr % 6 - to % 6 ≤ 1)) := decide_eq_true_iff
def lc_wy (f : Int → Int) (fr to : Int) : Int × Int × Int × Int := lc_find f fr to (0, 0, 0, 0)
def lc_cap (f : Int → Int) (fr to : Int) : Bool := decide (((f fr ≠ 0 ∧ f to ≠ 0) ∧ f fr ≠ f to) ∧ 0 < (lc_wy f fr to).1)
theorem lc_cap_iff {f : Int → Int} {fr to : Int} : lc_cap f fr to = true ↔ (((f fr ≠ 0 ∧ f to ≠ 0) ∧ f fr ≠ f to) ∧ 0 < (lc_wy f fr to).1) := decide_eq_true_iff
def lc_like (w w' : Int × Int × Int × Int) : Prop := w = w' ∨ (w.1 = 0 ∧ w'.1 = 0)
theorem lc_try_like {f : Int → Int} {to x d : Int} {w w' : Int × Int × Int × Int} (h : lc_like w w') : lc_like (lc_try f to w x d) (lc_try f to w' x d) := by
  rcases h with h | ⟨h1, h2⟩
  · exact Or.inl (by rw [h])
  · by_cases h3 : 0 < lc_Lo f x d ∧ lc_M f x d = to
    · exact Or.inl (by rw [lc_try_t h3 (Or.inl h1), lc_try_t h3 (Or.inl h2)])
    · exact Or.inr (by rw [lc_try_n1 h3, lc_try_n1 h3]; exact ⟨h1, h2⟩)
theorem lc_two_like {f : Int → Int} {to x : Int} {w w' : Int × Int × Int × Int} (h : lc_like w w') : lc_like (lc_two f to w x) (lc_two f to w' x) := by
  unfold lc_two
  split
  · exact h
  · exact lc_try_like (lc_try_like h)
theorem lc_find_like (f : Int → Int) (fr to : Int) (w w' : Int × Int × Int × Int) : lc_like (lc_find f fr to w) (lc_find f fr to w') := lc_two_like (lc_two_like (Or.inr ⟨rfl, rfl⟩))
theorem lc_find_1 (f : Int → Int) (fr to : Int) (w : Int × Int × Int × Int) : (lc_find f fr to w).1 = (lc_wy f fr to).1 := by
  rcases lc_find_like f fr to w (0, 0, 0, 0) with h | ⟨h1, h2⟩
  · rw [h]; rfl
  · rw [h1]; exact h2.symm
theorem lc_find_2 {f : Int → Int} {fr to : Int} {w : Int × Int × Int × Int} (h0 : 0 < (lc_wy f fr to).1) : lc_find f fr to w = lc_wy f fr to := by
  rcases lc_find_like f fr to w (0, 0, 0, 0) with h | ⟨h1, h2⟩
  · exact h
  · have : (lc_wy f fr to).1 = 0 := h2
    omega
def lc_num (P : Int → Bool) : Nat → Int
  | 0 => 0
  | n + 1 => lc_num P n + (if P n = true then 1 else 0)
theorem lc_num_r (P : Int → Bool) : ∀ N : Nat, 0 ≤ lc_num P N ∧ lc_num P N ≤ N
  | 0 => by unfold lc_num; omega
  | N + 1 => by
    have := lc_num_r P N
    unfold lc_num
    split <;> omega
theorem lc_num_1 {P : Int → Bool} {i : Int} (hi : 0 ≤ i) (h : P i = true) : lc_num P (i + 1).toNat = lc_num P i.toNat + 1 := by
  rw [show (i + 1).toNat = i.toNat + 1 by omega]
  show lc_num P i.toNat + (if P (i.toNat : Nat) = true then 1 else 0) = _
  rw [show ((i.toNat : Nat) : Int) = i by omega, if_pos h]
theorem lc_num_0 {P : Int → Bool} {i : Int} (hi : 0 ≤ i) (h : ¬ P i = true) : lc_num P (i + 1).toNat = lc_num P i.toNat := by
  rw [show (i + 1).toNat = i.toNat + 1 by omega]
  show lc_num P i.toNat + (if P (i.toNat : Nat) = true then 1 else 0) = _
  rw [show ((i.toNat : Nat) : Int) = i by omega, if_neg h, Int.add_zero]
theorem lc_num_z {P : Int → Bool} : ∀ N : Nat, (∀ i : Int, 0 ≤ i → i < N → ¬ P i = true) → lc_num P N = 0
  | 0, _ => rfl
  | N + 1, h => by
    show lc_num P N + (if P N = true then 1 else 0) = 0
    rw [lc_num_z N (fun i h1 h2 => h i h1 (by omega)), if_neg (h N (by omega) (by omega))]
    rfl
/-- why a move is not possible -/
def lc_why (f : Int → Int) (s q m fr to : Int) (c : Bool) : Int := if lc_res (lc_cnt f 1 36) (lc_cnt f 2 36) q m ≠ 0 then 1 else if f fr ≠ s then 2 else if f to = s then 3 else if (bif c then lc_cap f fr to else lc_step f fr to) = true then 0 else 4
theorem lc_res_r (o t q m : Int) : 0 ≤ lc_res o t q m ∧ lc_res o t q m ≤ 3 := by unfold lc_res; (repeat' split) <;> omega
theorem lc_spike (x y : Int) : ((if 0 ≤ x - y then x - y else 0 - (x - y)) ≤ 1 ↔ (-1 ≤ x - y ∧ x - y ≤ 1)) ∧ (0 ≤ x → x < 36 → 0 ≤ y → y < 36 → 0 ≤ (if 0 ≤ x - y then x - y else 0 - (x - y)) ∧ (if 0 ≤ x - y then x - y else 0 - (x - y)) < 36) := by
  constructor
  · split <;> omega
  · intro h1 h2 h3 h4
    split <;> omega

set_option maxRecDepth 100000 in
set_option maxHeartbeats 4000000 in
theorem lc_cX6_areOfTwoSides (l : Launch) (n : Nat) (x y : Int) (σ : lc_S)  (hx : -2147483648 ≤ x ∧ x < 2147483648) (hy : -2147483648 ≤ y ∧ y < 2147483648) : lc_Con l yX6_areOfTwoSides cX6_areOfTwoSides 2 (some .boolean) (lc_Rd 0) [.int (lc_i (x)), .int (lc_i (y))] n σ (fun v n2 σ2 => v = some (.int (lc_i (if ((x ≠ 0 ∧ y ≠ 0) ∧ x ≠ y) then 1 else 0))) ∧ n = n2 ∧ σ = σ2) := by
  refine lc_con RX6 false (by decide) rfl (fun h => absurd h (by decide)) (Nat.le_of_ble_eq_true rfl) ?_
  suffices H : ∀ Q : lc_QT, (∀ v n2 σ2, (fun v n2 σ2 => v = some (.int (lc_i (if ((x ≠ 0 ∧ y ≠ 0) ∧ x ≠ y) then 1 else 0))) ∧ n = n2 ∧ σ = σ2 : lc_QT) v n2 σ2 → Q v n2 σ2) → lc_V l RX6 cX6_areOfTwoSides 2 (some .boolean) false (lc_Rd 0) (lc_G Q 0 0) lc_E0 0 0 n 0 [(0, .int (lc_i (x))), (1, .int (lc_i (y)))] [] σ from H _ (fun _ _ _ h => h)
  intro Q hQ
  refine lc_iload_n dX6_areOfTwoSides_0 rfl 0 rfl ?_
  refine lc_if_eq (tgt := 17) dX6_areOfTwoSides_1 (by decide) (by omega) (fun h_1_0 => ?_) (fun h_1_0 => ?_)
  · skip
    refine lc_iconst dX6_areOfTwoSides_17 ?_
    exact lc_zret dX6_areOfTwoSides_18 rfl (rfl) (Nat.le_of_ble_eq_true rfl) (Nat.le_of_ble_eq_true rfl) (hQ _ _ _ ⟨lc_some (by rw [if_neg (by omega)]), rfl, rfl⟩)
  · skip
    refine lc_iload_n dX6_areOfTwoSides_4 rfl 1 rfl ?_
    refine lc_if_eq (tgt := 17) dX6_areOfTwoSides_5 (by decide) (by omega) (fun h_5_1 => ?_) (fun h_5_1 => ?_)
    · skip
      refine lc_iconst dX6_areOfTwoSides_17 ?_
      exact lc_zret dX6_areOfTwoSides_18 rfl (rfl) (Nat.le_of_ble_eq_true rfl) (Nat.le_of_ble_eq_true rfl) (hQ _ _ _ ⟨lc_some (by rw [if_neg (by omega)]), rfl, rfl⟩)
    · skip
      refine lc_iload_n dX6_areOfTwoSides_8 rfl 0 rfl ?_
      refine lc_iload_n dX6_areOfTwoSides_9 rfl 1 rfl ?_
      refine lc_icmp_eq (tgt := 17) dX6_areOfTwoSides_10 (by decide) (by omega) (fun h_10_2 => ?_) (fun h_10_2 => ?_)
      · skip
        refine lc_iconst dX6_areOfTwoSides_17 ?_
        exact lc_zret dX6_areOfTwoSides_18 rfl (rfl) (Nat.le_of_ble_eq_true rfl) (Nat.le_of_ble_eq_true rfl) (hQ _ _ _ ⟨lc_some (by rw [if_neg (by omega)]), rfl, rfl⟩)
      · skip
        refine lc_iconst dX6_areOfTwoSides_13 ?_
        refine lc_goto (tgt := 18) dX6_areOfTwoSides_14 (by decide) ?_
        exact lc_zret dX6_areOfTwoSides_18 rfl (rfl) (Nat.le_of_ble_eq_true rfl) (Nat.le_of_ble_eq_true rfl) (hQ _ _ _ ⟨lc_some (by rw [if_pos (by omega)]), rfl, rfl⟩)

set_option maxRecDepth 100000 in
set_option maxHeartbeats 4000000 in
theorem lc_cX6_couldStep (l : Launch) (n : Nat) (b : Nat) (f : Int → Int) (o t s q m : Int) (fr to : Int) (σ : lc_S) (h0_0 : σ (b) = some (.inr (0, [.ref (b + 1), .int (lc_i (o)), .int (lc_i (t)), .int (lc_i (s)), .int (lc_i (q)), .int (lc_i (m))]) : lc_Cel)) (h0_1 : σ (b + 1) = some (lc_aI 36 (f))) (hf : ∀ j : Int, 0 ≤ j → j < 36 → 0 ≤ f j ∧ f j ≤ 2) (hfr : 0 ≤ fr ∧ fr < 36) (hto : 0 ≤ to ∧ to < 36) : lc_Con l yX6_couldStep cX6_couldStep 3 (some .boolean) (lc_Rd 1) [.ref (b), .int (lc_i (fr)), .int (lc_i (to))] n σ (fun v n2 σ2 => v = some (.int (lc_i (if (lc_step f fr to = true) then 1 else 0))) ∧ n = n2 ∧ σ = σ2) := by
  have hk1 := lc_spike (fr / 6) (to / 6)
  have hk2 := lc_spike (fr % 6) (to % 6)
  have hk3 := hk1.2 (by omega) (by omega) (by omega) (by omega)
  have hk4 := hk2.2 (by omega) (by omega) (by omega) (by omega)
  have hk5 := hk1.1
  have hk6 := hk2.1
  have hf1 := hf to hto.1 hto.2
  refine lc_con RX6 false (by decide) rfl (fun h => absurd h (by decide)) (Nat.le_of_ble_eq_true rfl) ?_
  suffices H : ∀ Q : lc_QT, (∀ v n2 σ2, (fun v n2 σ2 => v = some (.int (lc_i (if (lc_step f fr to = true) then 1 else 0))) ∧ n = n2 ∧ σ = σ2 : lc_QT) v n2 σ2 → Q v n2 σ2) → lc_V l RX6 cX6_couldStep 3 (some .boolean) false (lc_Rd 1) (lc_G Q 0 0) lc_E0 0 0 n 0 [(0, .ref (b)), (1, .int (lc_i (fr))), (2, .int (lc_i (to)))] [] σ from H _ (fun _ _ _ h => h)
  intro Q hQ
  refine lc_aload_n dX6_couldStep_0 rfl 0 rfl ?_
  refine lc_iload_n dX6_couldStep_1 rfl 2 rfl ?_
  refine lc_callV (As := [.int (lc_i (to))]) (stk := []) (b := b) dX6_couldStep_2 lc_mX6_37 lc_yX0_at h0_0 rfl (lc_cX0_at l n (b) (f) (o) (t) (s) (q) (m) (to) σ h0_0 h0_1 (by omega)) rfl ⟨Nat.le_of_ble_eq_true rfl, Nat.le_of_ble_eq_true rfl⟩ ⟨Nat.le_of_ble_eq_true rfl, Nat.le_of_ble_eq_true rfl⟩ rfl (Nat.le_of_ble_eq_true rfl) (fun v1 n2 σ3 q4 => ?_)
  obtain ⟨rfl, rfl, rfl⟩ := q4
  refine lc_top (congrArg (fun z => Value.int (lc_i z)) (show (if 0 ≤ (to) ∧ (to) < 36 then (f) (to) else 0 : Int) = f to from by rw [if_pos (by omega)])) ?_
  refine lc_if_ne (tgt := 44) dX6_couldStep_5 (by decide) (by omega) (fun h_5_4 => ?_) (fun h_5_4 => ?_)
  · skip
    refine lc_iconst dX6_couldStep_44 ?_
    exact lc_zret dX6_couldStep_45 rfl (rfl) (Nat.le_of_ble_eq_true rfl) (Nat.le_of_ble_eq_true rfl) (hQ _ _ _ ⟨lc_some (by rw [if_neg (fun q9 => by have q8 := lc_step_iff.mp q9; omega)]), rfl, rfl⟩)
  · skip
    refine lc_iload_n dX6_couldStep_8 rfl 1 rfl ?_
    refine lc_bipush dX6_couldStep_9 (by decide) ?_
    refine lc_idiv dX6_couldStep_11 (by omega) ?_
    refine lc_iload_n dX6_couldStep_12 rfl 2 rfl ?_
    refine lc_bipush dX6_couldStep_13 (by decide) ?_
    refine lc_idiv dX6_couldStep_15 (by omega) ?_
    refine lc_isub dX6_couldStep_16 ?_
    refine lc_mabs dX6_couldStep_17 lc_mX6_57 (by omega) ⟨Nat.le_of_ble_eq_true rfl, Nat.le_of_ble_eq_true rfl, Nat.le_of_ble_eq_true rfl, Nat.le_of_ble_eq_true rfl⟩ ?_
    refine lc_iconst dX6_couldStep_20 ?_
    refine lc_icmp_gt (tgt := 44) dX6_couldStep_21 (by decide) (by omega) (fun h_21_5 => ?_) (fun h_21_5 => ?_)
    · skip
      refine lc_iconst dX6_couldStep_44 ?_
      exact lc_zret dX6_couldStep_45 rfl (rfl) (Nat.le_of_ble_eq_true rfl) (Nat.le_of_ble_eq_true rfl) (hQ _ _ _ ⟨lc_some (by rw [if_neg (fun q9 => by have q8 := lc_step_iff.mp q9; omega)]), rfl, rfl⟩)
    · skip
      refine lc_iload_n dX6_couldStep_24 rfl 1 rfl ?_
      refine lc_bipush dX6_couldStep_25 (by decide) ?_
      refine lc_irem dX6_couldStep_27 (by omega) ?_
      refine lc_iload_n dX6_couldStep_28 rfl 2 rfl ?_
      refine lc_bipush dX6_couldStep_29 (by decide) ?_
      refine lc_irem dX6_couldStep_31 (by omega) ?_
      refine lc_isub dX6_couldStep_32 ?_
      refine lc_mabs dX6_couldStep_33 lc_mX6_57 (by omega) ⟨Nat.le_of_ble_eq_true rfl, Nat.le_of_ble_eq_true rfl, Nat.le_of_ble_eq_true rfl, Nat.le_of_ble_eq_true rfl⟩ ?_
      refine lc_iconst dX6_couldStep_36 ?_
      refine lc_icmp_gt (tgt := 44) dX6_couldStep_37 (by decide) (by omega) (fun h_37_6 => ?_) (fun h_37_6 => ?_)
      · skip
        refine lc_iconst dX6_couldStep_44 ?_
        exact lc_zret dX6_couldStep_45 rfl (rfl) (Nat.le_of_ble_eq_true rfl) (Nat.le_of_ble_eq_true rfl) (hQ _ _ _ ⟨lc_some (by rw [if_neg (fun q9 => by have q8 := lc_step_iff.mp q9; omega)]), rfl, rfl⟩)
      · skip
        refine lc_iconst dX6_couldStep_40 ?_
        refine lc_goto (tgt := 45) dX6_couldStep_41 (by decide) ?_
        exact lc_zret dX6_couldStep_45 rfl (rfl) (Nat.le_of_ble_eq_true rfl) (Nat.le_of_ble_eq_true rfl) (hQ _ _ _ ⟨lc_some (by rw [if_pos (lc_step_iff.mpr (by omega))]), rfl, rfl⟩)

set_option maxRecDepth 100000 in
set_option maxHeartbeats 4000000 in
/-- Rules.couldCapture -/
theorem lc_cX6_couldCapture (l : Launch) (n : Nat) (a1 a2 a3 : Int) (w : Int × Int × Int × Int) (b : Nat) (f : Int → Int) (o t s q m : Int) (fr to : Int) (σ : lc_S) (h0_0 : σ (7) = some (.inr (6, [.ref (2), .ref (8), .ref (5)]) : lc_Cel)) (h0_1 : σ (5) = some (.inr (9, [.ref (2), .ref (6), .int (lc_i ((w).1)), .int (lc_i ((w).2.1)), .int (lc_i ((w).2.2.1)), .int (lc_i ((w).2.2.2))]) : lc_Cel)) (h0_2 : σ (6) = some (.inr (8, [.ref (2), .int (lc_i (a1)), .int (lc_i (a2)), .int (lc_i (a3))]) : lc_Cel)) (h0_3 : σ (2) = some (.inr (1, [.ref (3), .ref (4)]) : lc_Cel)) (h0_4 : σ (3) = some (lc_aI 48 (lc_pt))) (h0_5 : σ (4) = some (lc_aI 72 (lc_sp))) (h0_6 : σ (b) = some (.inr (0, [.ref (b + 1), .int (lc_i (o)), .int (lc_i (t)), .int (lc_i (s)), .int (lc_i (q)), .int (lc_i (m))]) : lc_Cel)) (h0_7 : σ (b + 1) = some (lc_aI 36 (f))) (hf : ∀ j : Int, 0 ≤ j → j < 36 → 0 ≤ f j ∧ f j ≤ 2) (hb : 12 ≤ b) (hfr : 0 ≤ fr ∧ fr < 36) (hto : 0 ≤ to ∧ to < 36) : lc_Con l yX6_couldCapture cX6_couldCapture 4 (some .boolean) (lc_Rd 4) [.ref (7), .ref (b), .int (lc_i (fr)), .int (lc_i (to))] n σ (fun v n2 σ2 => ∃ (wk : Int × Int × Int × Int) (c1 c2 c3 : Int), v = some (.int (lc_i (if (lc_cap f fr to = true) then 1 else 0))) ∧ n = n2 ∧ σ2 5 = some (.inr (9, [.ref (2), .ref (6), .int (lc_i ((wk).1)), .int (lc_i ((wk).2.1)), .int (lc_i ((wk).2.2.1)), .int (lc_i ((wk).2.2.2))]) : lc_Cel) ∧ σ2 6 = some (.inr (8, [.ref (2), .int (lc_i (c1)), .int (lc_i (c2)), .int (lc_i (c3))]) : lc_Cel) ∧ (lc_cap f fr to = true → wk = lc_wy f fr to) ∧ ∀ i : Nat, i ≠ 5 → i ≠ 6 → σ2 i = σ i) := by
  refine lc_con RX6 false (by decide) rfl (fun h => absurd h (by decide)) (Nat.le_of_ble_eq_true rfl) ?_
  suffices H : ∀ Q : lc_QT, (∀ v n2 σ2, (fun v n2 σ2 => ∃ (wk : Int × Int × Int × Int) (c1 c2 c3 : Int), v = some (.int (lc_i (if (lc_cap f fr to = true) then 1 else 0))) ∧ n = n2 ∧ σ2 5 = some (.inr (9, [.ref (2), .ref (6), .int (lc_i ((wk).1)), .int (lc_i ((wk).2.1)), .int (lc_i ((wk).2.2.1)), .int (lc_i ((wk).2.2.2))]) : lc_Cel) ∧ σ2 6 = some (.inr (8, [.ref (2), .int (lc_i (c1)), .int (lc_i (c2)), .int (lc_i (c3))]) : lc_Cel) ∧ (lc_cap f fr to = true → wk = lc_wy f fr to) ∧ ∀ i : Nat, i ≠ 5 → i ≠ 6 → σ2 i = σ i : lc_QT) v n2 σ2 → Q v n2 σ2) → lc_V l RX6 cX6_couldCapture 4 (some .boolean) false (lc_Rd 4) (lc_G Q 0 0) lc_E0 0 0 n 0 [(0, .ref (7)), (1, .ref (b)), (2, .int (lc_i (fr))), (3, .int (lc_i (to)))] [] σ from H _ (fun _ _ _ h => h)
  intro Q hQ
  refine lc_aload_n dX6_couldCapture_0 rfl 1 rfl ?_
  refine lc_iload_n dX6_couldCapture_1 rfl 2 rfl ?_
  refine lc_callV (As := [.int (lc_i (fr))]) (stk := []) (b := b) dX6_couldCapture_2 lc_mX6_37 lc_yX0_at h0_6 rfl (lc_cX0_at l n (b) (f) (o) (t) (s) (q) (m) (fr) σ h0_6 h0_7 (by omega)) rfl ⟨Nat.le_of_ble_eq_true rfl, Nat.le_of_ble_eq_true rfl⟩ ⟨Nat.le_of_ble_eq_true rfl, Nat.le_of_ble_eq_true rfl⟩ rfl (Nat.le_of_ble_eq_true rfl) (fun v1 n2 σ3 q4 => ?_)
  obtain ⟨rfl, rfl, rfl⟩ := q4
  refine lc_top (congrArg (fun z => Value.int (lc_i z)) (show (if 0 ≤ (fr) ∧ (fr) < 36 then (f) (fr) else 0 : Int) = f fr from by rw [if_pos (by omega)])) ?_
  refine lc_aload_n dX6_couldCapture_5 rfl 1 rfl ?_
  refine lc_iload_n dX6_couldCapture_6 rfl 3 rfl ?_
  refine lc_callV (As := [.int (lc_i (to))]) (stk := [.int (lc_i (f fr))]) (b := b) dX6_couldCapture_7 lc_mX6_37 lc_yX0_at h0_6 rfl (lc_cX0_at l n (b) (f) (o) (t) (s) (q) (m) (to) σ h0_6 h0_7 (by omega)) rfl ⟨Nat.le_of_ble_eq_true rfl, Nat.le_of_ble_eq_true rfl⟩ ⟨Nat.le_of_ble_eq_true rfl, Nat.le_of_ble_eq_true rfl⟩ rfl (Nat.le_of_ble_eq_true rfl) (fun v5 n6 σ7 q8 => ?_)
  obtain ⟨rfl, rfl, rfl⟩ := q8
  refine lc_top (congrArg (fun z => Value.int (lc_i z)) (show (if 0 ≤ (to) ∧ (to) < 36 then (f) (to) else 0 : Int) = f to from by rw [if_pos (by omega)])) ?_
  refine lc_callS (As := [.int (lc_i (f fr)), .int (lc_i (f to))]) (stk := []) dX6_couldCapture_10 lc_mX6_48 lc_yX6_areOfTwoSides (lc_cX6_areOfTwoSides l n (f fr) (f to) σ (lc_rng2 (hf _ (by omega) (by omega))) (lc_rng2 (hf _ (by omega) (by omega)))) rfl ⟨Nat.le_of_ble_eq_true rfl, Nat.le_of_ble_eq_true rfl⟩ ⟨Nat.le_of_ble_eq_true rfl, Nat.le_of_ble_eq_true rfl⟩ rfl (Nat.le_of_ble_eq_true rfl) (fun v9 n10 σ11 q12 => ?_)
  obtain ⟨rfl, rfl, rfl⟩ := q12
  refine lc_if_eqB (tgt := 33) dX6_couldCapture_13 (by decide) (fun h_13_12 => ?_) (fun h_13_12 => ?_)
  · skip
    refine lc_iconst dX6_couldCapture_33 ?_
    exact lc_zret dX6_couldCapture_34 rfl (rfl) (Nat.le_of_ble_eq_true rfl) (Nat.le_of_ble_eq_true rfl) (hQ _ _ _ ⟨(w), (a1), (a2), (a3), lc_some (by rw [if_neg (fun q9 => h_13_12 (lc_cap_iff.mp q9).1)]), rfl, h0_1, h0_2, fun q9 => absurd (lc_cap_iff.mp q9).1 h_13_12, (fun i _ _ => rfl)⟩)
  · skip
    refine lc_aload_n dX6_couldCapture_16 rfl 0 rfl ?_
    refine lc_get dX6_couldCapture_17 lc_fX6_24 h0_0 rfl ?_
    refine lc_aload_n dX6_couldCapture_20 rfl 1 rfl ?_
    refine lc_iload_n dX6_couldCapture_21 rfl 2 rfl ?_
    refine lc_iload_n dX6_couldCapture_22 rfl 3 rfl ?_
    refine lc_callV (As := [.ref (b), .int (lc_i (fr)), .int (lc_i (to))]) (stk := []) (b := 5) dX6_couldCapture_23 lc_mX6_52 lc_yX9_find h0_1 rfl (lc_cX9_find l n (a1) (a2) (a3) (w) (b) (f) (o) (t) (s) (q) (m) (fr) (to) σ h0_1 h0_2 h0_3 h0_4 h0_5 h0_6 h0_7 (hf) (hb) (by omega) (by omega)) rfl ⟨Nat.le_of_ble_eq_true rfl, Nat.le_of_ble_eq_true rfl⟩ ⟨Nat.le_of_ble_eq_true rfl, Nat.le_of_ble_eq_true rfl⟩ rfl (Nat.le_of_ble_eq_true rfl) (fun v20 n21 σ22 q23 => ?_)
    obtain ⟨c17, c18, c19, rfl, rfl, h15, h16, fr14⟩ := q23
    have h24 : σ22 (7) = some (.inr (6, [.ref (2), .ref (8), .ref (5)]) : lc_Cel) := (fr14 _ (by omega) (by omega)).trans h0_0
    have h25 : σ22 (2) = some (.inr (1, [.ref (3), .ref (4)]) : lc_Cel) := (fr14 _ (by omega) (by omega)).trans h0_3
    have h26 : σ22 (3) = some (lc_aI 48 (lc_pt)) := (fr14 _ (by omega) (by omega)).trans h0_4
    have h27 : σ22 (4) = some (lc_aI 72 (lc_sp)) := (fr14 _ (by omega) (by omega)).trans h0_5
    have h28 : σ22 (b) = some (.inr (0, [.ref (b + 1), .int (lc_i (o)), .int (lc_i (t)), .int (lc_i (s)), .int (lc_i (q)), .int (lc_i (m))]) : lc_Cel) := (fr14 _ (by omega) (by omega)).trans h0_6
    have h29 : σ22 (b + 1) = some (lc_aI 36 (f)) := (fr14 _ (by omega) (by omega)).trans h0_7
    refine lc_if_eqB (tgt := 33) dX6_couldCapture_26 (by decide) (fun h_26_29 => ?_) (fun h_26_29 => ?_)
    · skip
      refine lc_iconst dX6_couldCapture_33 ?_
      exact lc_zret dX6_couldCapture_34 rfl (rfl) (Nat.le_of_ble_eq_true rfl) (Nat.le_of_ble_eq_true rfl) (hQ _ _ _ ⟨(lc_find (f) (fr) (to) (w)), (c17), (c18), (c19), lc_some (by rw [if_neg (fun q9 => h_26_29 (by rw [lc_find_1 f fr to w]; exact (lc_cap_iff.mp q9).2))]), rfl, h15, h16, fun q9 => lc_find_2 (lc_cap_iff.mp q9).2, (fun i _ _ => (fr14 i (by omega) (by omega)))⟩)
    · skip
      refine lc_iconst dX6_couldCapture_29 ?_
      refine lc_goto (tgt := 34) dX6_couldCapture_30 (by decide) ?_
      exact lc_zret dX6_couldCapture_34 rfl (rfl) (Nat.le_of_ble_eq_true rfl) (Nat.le_of_ble_eq_true rfl) (hQ _ _ _ ⟨(lc_find (f) (fr) (to) (w)), (c17), (c18), (c19), lc_some (by rw [if_pos (lc_cap_iff.mpr ⟨h_13_12, by rw [← lc_find_1 f fr to w]; exact h_26_29⟩)]), rfl, h15, h16, fun q9 => lc_find_2 (lc_cap_iff.mp q9).2, (fun i _ _ => (fr14 i (by omega) (by omega)))⟩)

set_option maxRecDepth 100000 in
set_option maxHeartbeats 4000000 in
/-- Rules.threatsTo -/
theorem lc_cX6_threatsTo (l : Launch) (n : Nat) (a1 a2 a3 : Int) (w : Int × Int × Int × Int) (b : Nat) (f : Int → Int) (o t s q m : Int) (p : Int) (σ : lc_S) (h0_0 : σ (7) = some (.inr (6, [.ref (2), .ref (8), .ref (5)]) : lc_Cel)) (h0_1 : σ (5) = some (.inr (9, [.ref (2), .ref (6), .int (lc_i ((w).1)), .int (lc_i ((w).2.1)), .int (lc_i ((w).2.2.1)), .int (lc_i ((w).2.2.2))]) : lc_Cel)) (h0_2 : σ (6) = some (.inr (8, [.ref (2), .int (lc_i (a1)), .int (lc_i (a2)), .int (lc_i (a3))]) : lc_Cel)) (h0_3 : σ (2) = some (.inr (1, [.ref (3), .ref (4)]) : lc_Cel)) (h0_4 : σ (3) = some (lc_aI 48 (lc_pt))) (h0_5 : σ (4) = some (lc_aI 72 (lc_sp))) (h0_6 : σ (b) = some (.inr (0, [.ref (b + 1), .int (lc_i (o)), .int (lc_i (t)), .int (lc_i (s)), .int (lc_i (q)), .int (lc_i (m))]) : lc_Cel)) (h0_7 : σ (b + 1) = some (lc_aI 36 (f))) (hf : ∀ j : Int, 0 ≤ j → j < 36 → 0 ≤ f j ∧ f j ≤ 2) (hb : 12 ≤ b) (hp : 0 ≤ p ∧ p < 36) : lc_Con l yX6_threatsTo cX6_threatsTo 5 (some .int) (lc_Rd 5) [.ref (7), .ref (b), .int (lc_i (p))] n σ (fun v n2 σ2 => ∃ (wk : Int × Int × Int × Int) (c1 c2 c3 : Int), v = some (.int (lc_i (lc_num (fun j : Int => lc_cap f j p) 36))) ∧ n = n2 ∧ σ2 5 = some (.inr (9, [.ref (2), .ref (6), .int (lc_i ((wk).1)), .int (lc_i ((wk).2.1)), .int (lc_i ((wk).2.2.1)), .int (lc_i ((wk).2.2.2))]) : lc_Cel) ∧ σ2 6 = some (.inr (8, [.ref (2), .int (lc_i (c1)), .int (lc_i (c2)), .int (lc_i (c3))]) : lc_Cel) ∧ ∀ i : Nat, i ≠ 5 → i ≠ 6 → σ2 i = σ i) := by
  refine lc_con RX6 false (by decide) rfl (fun h => absurd h (by decide)) (Nat.le_of_ble_eq_true rfl) ?_
  suffices H : ∀ Q : lc_QT, (∀ v n2 σ2, (fun v n2 σ2 => ∃ (wk : Int × Int × Int × Int) (c1 c2 c3 : Int), v = some (.int (lc_i (lc_num (fun j : Int => lc_cap f j p) 36))) ∧ n = n2 ∧ σ2 5 = some (.inr (9, [.ref (2), .ref (6), .int (lc_i ((wk).1)), .int (lc_i ((wk).2.1)), .int (lc_i ((wk).2.2.1)), .int (lc_i ((wk).2.2.2))]) : lc_Cel) ∧ σ2 6 = some (.inr (8, [.ref (2), .int (lc_i (c1)), .int (lc_i (c2)), .int (lc_i (c3))]) : lc_Cel) ∧ ∀ i : Nat, i ≠ 5 → i ≠ 6 → σ2 i = σ i : lc_QT) v n2 σ2 → Q v n2 σ2) → lc_V l RX6 cX6_threatsTo 5 (some .int) false (lc_Rd 5) (lc_G Q 0 0) lc_E0 0 0 n 0 [(0, .ref (7)), (1, .ref (b)), (2, .int (lc_i (p)))] [] σ from H _ (fun _ _ _ h => h)
  intro Q hQ
  refine lc_iconst dX6_threatsTo_0 ?_
  refine lc_top (congrArg (fun z => Value.int (lc_i z)) (show (0 : Int) = lc_num (fun j : Int => lc_cap f j p) (0 : Int).toNat from rfl)) ?_
  refine lc_istore_n (lv' := [(0, .ref (7)), (1, .ref (b)), (2, .int (lc_i (p))), (3, .int (lc_i (lc_num (fun j : Int => lc_cap f j p) (0 : Int).toNat)))]) dX6_threatsTo_1 rfl (by decide) rfl ?_
  refine lc_iconst dX6_threatsTo_2 ?_
  refine lc_istore (lv' := [(0, .ref (7)), (1, .ref (b)), (2, .int (lc_i (p))), (3, .int (lc_i (lc_num (fun j : Int => lc_cap f j p) (0 : Int).toNat))), (4, .int (lc_i (0)))]) dX6_threatsTo_3 (by decide) rfl ?_
  have loop2 : ∀ (N1 : Nat) (i : Int) (wi : Int × Int × Int × Int) (e1 : Int) (e2 : Int) (e3 : Int) (σ4 : lc_S), (σ4 (5) = some (.inr (9, [.ref (2), .ref (6), .int (lc_i ((wi).1)), .int (lc_i ((wi).2.1)), .int (lc_i ((wi).2.2.1)), .int (lc_i ((wi).2.2.2))]) : lc_Cel)) → (σ4 (6) = some (.inr (8, [.ref (2), .int (lc_i (e1)), .int (lc_i (e2)), .int (lc_i (e3))]) : lc_Cel)) → (∀ i : Nat, i ≠ 5 → i ≠ 6 → σ4 i = σ i) → (0 ≤ i ∧ i ≤ 36) → 36 - i < (N1 : Int) → lc_V l RX6 cX6_threatsTo 5 (some .int) false (lc_Rd 5) (lc_G Q 0 0) lc_E0 0 0 n 5 [(0, .ref (7)), (1, .ref (b)), (2, .int (lc_i (p))), (3, .int (lc_i (lc_num (fun j : Int => lc_cap f j p) (i).toNat))), (4, .int (lc_i (i)))] [] σ4 := by
    intro N1
    induction N1 with
    | zero =>
      intro i wi e1 e2 e3 σ4 h5 h6 fr7 hi hm8
      exact absurd hm8 (by omega)
    | succ N1 ih3 =>
      intro i wi e1 e2 e3 σ4 h5 h6 fr7 hi hm8
      have h9 : σ4 (7) = some (.inr (6, [.ref (2), .ref (8), .ref (5)]) : lc_Cel) := (fr7 _ (by omega) (by omega)).trans h0_0
      have h10 : σ4 (2) = some (.inr (1, [.ref (3), .ref (4)]) : lc_Cel) := (fr7 _ (by omega) (by omega)).trans h0_3
      have h11 : σ4 (3) = some (lc_aI 48 (lc_pt)) := (fr7 _ (by omega) (by omega)).trans h0_4
      have h12 : σ4 (4) = some (lc_aI 72 (lc_sp)) := (fr7 _ (by omega) (by omega)).trans h0_5
      have h13 : σ4 (b) = some (.inr (0, [.ref (b + 1), .int (lc_i (o)), .int (lc_i (t)), .int (lc_i (s)), .int (lc_i (q)), .int (lc_i (m))]) : lc_Cel) := (fr7 _ (by omega) (by omega)).trans h0_6
      have h14 : σ4 (b + 1) = some (lc_aI 36 (f)) := (fr7 _ (by omega) (by omega)).trans h0_7
      refine lc_iload dX6_threatsTo_5 4 rfl ?_
      refine lc_bipush dX6_threatsTo_7 (by decide) ?_
      refine lc_icmp_ge (tgt := 32) dX6_threatsTo_9 (by decide) (by omega) (fun h_9_14 => ?_) (fun h_9_14 => ?_)
      · skip
        refine lc_iload_n dX6_threatsTo_32 rfl 3 rfl ?_
        exact lc_iret dX6_threatsTo_33 rfl (Nat.le_of_ble_eq_true rfl) (Nat.le_of_ble_eq_true rfl) (hQ _ _ _ ⟨(wi), (e1), (e2), (e3), by rw [show (i).toNat = 36 from by omega], rfl, h5, h6, (fun i _ _ => (fr7 i (by omega) (by omega)))⟩)
      · skip
        refine lc_aload_n dX6_threatsTo_12 rfl 0 rfl ?_
        refine lc_aload_n dX6_threatsTo_13 rfl 1 rfl ?_
        refine lc_iload dX6_threatsTo_14 4 rfl ?_
        refine lc_iload_n dX6_threatsTo_16 rfl 2 rfl ?_
        refine lc_callV (As := [.ref (b), .int (lc_i (i)), .int (lc_i (p))]) (stk := []) (b := 7) dX6_threatsTo_17 lc_mX6_41 lc_yX6_couldCapture h9 rfl (lc_cX6_couldCapture l n (e1) (e2) (e3) (wi) (b) (f) (o) (t) (s) (q) (m) (i) (p) σ4 h9 h5 h6 h10 h11 h12 h13 h14 (hf) (hb) (by omega) (by omega)) rfl ⟨Nat.le_of_ble_eq_true rfl, Nat.le_of_ble_eq_true rfl⟩ ⟨Nat.le_of_ble_eq_true rfl, Nat.le_of_ble_eq_true rfl⟩ rfl (Nat.le_of_ble_eq_true rfl) (fun v24 n25 σ26 q27 => ?_)
        obtain ⟨wk19, c20, c21, c22, rfl, rfl, h17, h18, he23, fr16⟩ := q27
        have h28 : σ26 (7) = some (.inr (6, [.ref (2), .ref (8), .ref (5)]) : lc_Cel) := (fr16 _ (by omega) (by omega)).trans h9
        have h29 : σ26 (2) = some (.inr (1, [.ref (3), .ref (4)]) : lc_Cel) := (fr16 _ (by omega) (by omega)).trans h10
        have h30 : σ26 (3) = some (lc_aI 48 (lc_pt)) := (fr16 _ (by omega) (by omega)).trans h11
        have h31 : σ26 (4) = some (lc_aI 72 (lc_sp)) := (fr16 _ (by omega) (by omega)).trans h12
        have h32 : σ26 (b) = some (.inr (0, [.ref (b + 1), .int (lc_i (o)), .int (lc_i (t)), .int (lc_i (s)), .int (lc_i (q)), .int (lc_i (m))]) : lc_Cel) := (fr16 _ (by omega) (by omega)).trans h13
        have h33 : σ26 (b + 1) = some (lc_aI 36 (f)) := (fr16 _ (by omega) (by omega)).trans h14
        refine lc_if_eqB (tgt := 26) dX6_threatsTo_20 (by decide) (fun h_20_33 => ?_) (fun h_20_33 => ?_)
        · skip
          refine lc_iinc (lv' := [(0, .ref (7)), (1, .ref (b)), (2, .int (lc_i (p))), (3, .int (lc_i (lc_num (fun j : Int => lc_cap f j p) (i).toNat))), (4, .int (lc_i (i + 1)))]) dX6_threatsTo_26 4 rfl (by decide) rfl ?_
          refine lc_goto (tgt := 5) dX6_threatsTo_29 (by decide) ?_
          refine lc_lveq (lv' := [(0, .ref (7)), (1, .ref (b)), (2, .int (lc_i (p))), (3, .int (lc_i (lc_num (fun j : Int => lc_cap f j p) (i + 1).toNat))), (4, .int (lc_i (i + 1)))]) (by rw [lc_num_0 (P := (fun j : Int => lc_cap f j p)) (by omega) (h_20_33)]) ?_
          exact ih3 (i + 1) (wk19) (c20) (c21) (c22) σ26 h17 h18 (fun i _ _ => ((fr16 i (by omega) (by omega)).trans (fr7 i (by omega) (by omega)))) (by omega) (by omega)
        · skip
          refine lc_iinc (lv' := [(0, .ref (7)), (1, .ref (b)), (2, .int (lc_i (p))), (3, .int (lc_i (lc_num (fun j : Int => lc_cap f j p) (i).toNat + 1))), (4, .int (lc_i (i)))]) dX6_threatsTo_23 3 rfl (by decide) rfl ?_
          refine lc_iinc (lv' := [(0, .ref (7)), (1, .ref (b)), (2, .int (lc_i (p))), (3, .int (lc_i (lc_num (fun j : Int => lc_cap f j p) (i).toNat + 1))), (4, .int (lc_i (i + 1)))]) dX6_threatsTo_26 4 rfl (by decide) rfl ?_
          refine lc_goto (tgt := 5) dX6_threatsTo_29 (by decide) ?_
          refine lc_lveq (lv' := [(0, .ref (7)), (1, .ref (b)), (2, .int (lc_i (p))), (3, .int (lc_i (lc_num (fun j : Int => lc_cap f j p) (i + 1).toNat))), (4, .int (lc_i (i + 1)))]) (by rw [lc_num_1 (P := (fun j : Int => lc_cap f j p)) (by omega) (h_20_33)]) ?_
          exact ih3 (i + 1) (wk19) (c20) (c21) (c22) σ26 h17 h18 (fun i _ _ => ((fr16 i (by omega) (by omega)).trans (fr7 i (by omega) (by omega)))) (by omega) (by omega)
  exact loop2 1000 (0) (w) (a1) (a2) (a3) σ h0_1 h0_2 (fun _ _ _ => rfl) (by omega) (by omega)

set_option maxRecDepth 100000 in
set_option maxHeartbeats 4000000 in
/-- Rules.capturesFrom -/
theorem lc_cX6_capturesFrom (l : Launch) (n : Nat) (a1 a2 a3 : Int) (w : Int × Int × Int × Int) (b : Nat) (f : Int → Int) (o t s q m : Int) (p : Int) (σ : lc_S) (h0_0 : σ (7) = some (.inr (6, [.ref (2), .ref (8), .ref (5)]) : lc_Cel)) (h0_1 : σ (5) = some (.inr (9, [.ref (2), .ref (6), .int (lc_i ((w).1)), .int (lc_i ((w).2.1)), .int (lc_i ((w).2.2.1)), .int (lc_i ((w).2.2.2))]) : lc_Cel)) (h0_2 : σ (6) = some (.inr (8, [.ref (2), .int (lc_i (a1)), .int (lc_i (a2)), .int (lc_i (a3))]) : lc_Cel)) (h0_3 : σ (2) = some (.inr (1, [.ref (3), .ref (4)]) : lc_Cel)) (h0_4 : σ (3) = some (lc_aI 48 (lc_pt))) (h0_5 : σ (4) = some (lc_aI 72 (lc_sp))) (h0_6 : σ (b) = some (.inr (0, [.ref (b + 1), .int (lc_i (o)), .int (lc_i (t)), .int (lc_i (s)), .int (lc_i (q)), .int (lc_i (m))]) : lc_Cel)) (h0_7 : σ (b + 1) = some (lc_aI 36 (f))) (hf : ∀ j : Int, 0 ≤ j → j < 36 → 0 ≤ f j ∧ f j ≤ 2) (hb : 12 ≤ b) (hp : 0 ≤ p ∧ p < 36) : lc_Con l yX6_capturesFrom cX6_capturesFrom 5 (some .int) (lc_Rd 5) [.ref (7), .ref (b), .int (lc_i (p))] n σ (fun v n2 σ2 => ∃ (wk : Int × Int × Int × Int) (c1 c2 c3 : Int), v = some (.int (lc_i (lc_num (fun j : Int => lc_cap f p j) 36))) ∧ n = n2 ∧ σ2 5 = some (.inr (9, [.ref (2), .ref (6), .int (lc_i ((wk).1)), .int (lc_i ((wk).2.1)), .int (lc_i ((wk).2.2.1)), .int (lc_i ((wk).2.2.2))]) : lc_Cel) ∧ σ2 6 = some (.inr (8, [.ref (2), .int (lc_i (c1)), .int (lc_i (c2)), .int (lc_i (c3))]) : lc_Cel) ∧ ∀ i : Nat, i ≠ 5 → i ≠ 6 → σ2 i = σ i) := by
  refine lc_con RX6 false (by decide) rfl (fun h => absurd h (by decide)) (Nat.le_of_ble_eq_true rfl) ?_
  suffices H : ∀ Q : lc_QT, (∀ v n2 σ2, (fun v n2 σ2 => ∃ (wk : Int × Int × Int × Int) (c1 c2 c3 : Int), v = some (.int (lc_i (lc_num (fun j : Int => lc_cap f p j) 36))) ∧ n = n2 ∧ σ2 5 = some (.inr (9, [.ref (2), .ref (6), .int (lc_i ((wk).1)), .int (lc_i ((wk).2.1)), .int (lc_i ((wk).2.2.1)), .int (lc_i ((wk).2.2.2))]) : lc_Cel) ∧ σ2 6 = some (.inr (8, [.ref (2), .int (lc_i (c1)), .int (lc_i (c2)), .int (lc_i (c3))]) : lc_Cel) ∧ ∀ i : Nat, i ≠ 5 → i ≠ 6 → σ2 i = σ i : lc_QT) v n2 σ2 → Q v n2 σ2) → lc_V l RX6 cX6_capturesFrom 5 (some .int) false (lc_Rd 5) (lc_G Q 0 0) lc_E0 0 0 n 0 [(0, .ref (7)), (1, .ref (b)), (2, .int (lc_i (p)))] [] σ from H _ (fun _ _ _ h => h)
  intro Q hQ
  refine lc_iconst dX6_capturesFrom_0 ?_
  refine lc_top (congrArg (fun z => Value.int (lc_i z)) (show (0 : Int) = lc_num (fun j : Int => lc_cap f p j) (0 : Int).toNat from rfl)) ?_
  refine lc_istore_n (lv' := [(0, .ref (7)), (1, .ref (b)), (2, .int (lc_i (p))), (3, .int (lc_i (lc_num (fun j : Int => lc_cap f p j) (0 : Int).toNat)))]) dX6_capturesFrom_1 rfl (by decide) rfl ?_
  refine lc_iconst dX6_capturesFrom_2 ?_
  refine lc_istore (lv' := [(0, .ref (7)), (1, .ref (b)), (2, .int (lc_i (p))), (3, .int (lc_i (lc_num (fun j : Int => lc_cap f p j) (0 : Int).toNat))), (4, .int (lc_i (0)))]) dX6_capturesFrom_3 (by decide) rfl ?_
  have loop2 : ∀ (N1 : Nat) (i : Int) (wi : Int × Int × Int × Int) (e1 : Int) (e2 : Int) (e3 : Int) (σ4 : lc_S), (σ4 (5) = some (.inr (9, [.ref (2), .ref (6), .int (lc_i ((wi).1)), .int (lc_i ((wi).2.1)), .int (lc_i ((wi).2.2.1)), .int (lc_i ((wi).2.2.2))]) : lc_Cel)) → (σ4 (6) = some (.inr (8, [.ref (2), .int (lc_i (e1)), .int (lc_i (e2)), .int (lc_i (e3))]) : lc_Cel)) → (∀ i : Nat, i ≠ 5 → i ≠ 6 → σ4 i = σ i) → (0 ≤ i ∧ i ≤ 36) → 36 - i < (N1 : Int) → lc_V l RX6 cX6_capturesFrom 5 (some .int) false (lc_Rd 5) (lc_G Q 0 0) lc_E0 0 0 n 5 [(0, .ref (7)), (1, .ref (b)), (2, .int (lc_i (p))), (3, .int (lc_i (lc_num (fun j : Int => lc_cap f p j) (i).toNat))), (4, .int (lc_i (i)))] [] σ4 := by
    intro N1
    induction N1 with
    | zero =>
      intro i wi e1 e2 e3 σ4 h5 h6 fr7 hi hm8
      exact absurd hm8 (by omega)
    | succ N1 ih3 =>
      intro i wi e1 e2 e3 σ4 h5 h6 fr7 hi hm8
      have h9 : σ4 (7) = some (.inr (6, [.ref (2), .ref (8), .ref (5)]) : lc_Cel) := (fr7 _ (by omega) (by omega)).trans h0_0
      have h10 : σ4 (2) = some (.inr (1, [.ref (3), .ref (4)]) : lc_Cel) := (fr7 _ (by omega) (by omega)).trans h0_3
      have h11 : σ4 (3) = some (lc_aI 48 (lc_pt)) := (fr7 _ (by omega) (by omega)).trans h0_4
      have h12 : σ4 (4) = some (lc_aI 72 (lc_sp)) := (fr7 _ (by omega) (by omega)).trans h0_5
      have h13 : σ4 (b) = some (.inr (0, [.ref (b + 1), .int (lc_i (o)), .int (lc_i (t)), .int (lc_i (s)), .int (lc_i (q)), .int (lc_i (m))]) : lc_Cel) := (fr7 _ (by omega) (by omega)).trans h0_6
      have h14 : σ4 (b + 1) = some (lc_aI 36 (f)) := (fr7 _ (by omega) (by omega)).trans h0_7
      refine lc_iload dX6_capturesFrom_5 4 rfl ?_
      refine lc_bipush dX6_capturesFrom_7 (by decide) ?_
      refine lc_icmp_ge (tgt := 32) dX6_capturesFrom_9 (by decide) (by omega) (fun h_9_14 => ?_) (fun h_9_14 => ?_)
      · skip
        refine lc_iload_n dX6_capturesFrom_32 rfl 3 rfl ?_
        exact lc_iret dX6_capturesFrom_33 rfl (Nat.le_of_ble_eq_true rfl) (Nat.le_of_ble_eq_true rfl) (hQ _ _ _ ⟨(wi), (e1), (e2), (e3), by rw [show (i).toNat = 36 from by omega], rfl, h5, h6, (fun i _ _ => (fr7 i (by omega) (by omega)))⟩)
      · skip
        refine lc_aload_n dX6_capturesFrom_12 rfl 0 rfl ?_
        refine lc_aload_n dX6_capturesFrom_13 rfl 1 rfl ?_
        refine lc_iload_n dX6_capturesFrom_14 rfl 2 rfl ?_
        refine lc_iload dX6_capturesFrom_15 4 rfl ?_
        refine lc_callV (As := [.ref (b), .int (lc_i (p)), .int (lc_i (i))]) (stk := []) (b := 7) dX6_capturesFrom_17 lc_mX6_41 lc_yX6_couldCapture h9 rfl (lc_cX6_couldCapture l n (e1) (e2) (e3) (wi) (b) (f) (o) (t) (s) (q) (m) (p) (i) σ4 h9 h5 h6 h10 h11 h12 h13 h14 (hf) (hb) (by omega) (by omega)) rfl ⟨Nat.le_of_ble_eq_true rfl, Nat.le_of_ble_eq_true rfl⟩ ⟨Nat.le_of_ble_eq_true rfl, Nat.le_of_ble_eq_true rfl⟩ rfl (Nat.le_of_ble_eq_true rfl) (fun v24 n25 σ26 q27 => ?_)
        obtain ⟨wk19, c20, c21, c22, rfl, rfl, h17, h18, he23, fr16⟩ := q27
        have h28 : σ26 (7) = some (.inr (6, [.ref (2), .ref (8), .ref (5)]) : lc_Cel) := (fr16 _ (by omega) (by omega)).trans h9
        have h29 : σ26 (2) = some (.inr (1, [.ref (3), .ref (4)]) : lc_Cel) := (fr16 _ (by omega) (by omega)).trans h10
        have h30 : σ26 (3) = some (lc_aI 48 (lc_pt)) := (fr16 _ (by omega) (by omega)).trans h11
        have h31 : σ26 (4) = some (lc_aI 72 (lc_sp)) := (fr16 _ (by omega) (by omega)).trans h12
        have h32 : σ26 (b) = some (.inr (0, [.ref (b + 1), .int (lc_i (o)), .int (lc_i (t)), .int (lc_i (s)), .int (lc_i (q)), .int (lc_i (m))]) : lc_Cel) := (fr16 _ (by omega) (by omega)).trans h13
        have h33 : σ26 (b + 1) = some (lc_aI 36 (f)) := (fr16 _ (by omega) (by omega)).trans h14
        refine lc_if_eqB (tgt := 26) dX6_capturesFrom_20 (by decide) (fun h_20_33 => ?_) (fun h_20_33 => ?_)
        · skip
          refine lc_iinc (lv' := [(0, .ref (7)), (1, .ref (b)), (2, .int (lc_i (p))), (3, .int (lc_i (lc_num (fun j : Int => lc_cap f p j) (i).toNat))), (4, .int (lc_i (i + 1)))]) dX6_capturesFrom_26 4 rfl (by decide) rfl ?_
          refine lc_goto (tgt := 5) dX6_capturesFrom_29 (by decide) ?_
          refine lc_lveq (lv' := [(0, .ref (7)), (1, .ref (b)), (2, .int (lc_i (p))), (3, .int (lc_i (lc_num (fun j : Int => lc_cap f p j) (i + 1).toNat))), (4, .int (lc_i (i + 1)))]) (by rw [lc_num_0 (P := (fun j : Int => lc_cap f p j)) (by omega) (h_20_33)]) ?_
          exact ih3 (i + 1) (wk19) (c20) (c21) (c22) σ26 h17 h18 (fun i _ _ => ((fr16 i (by omega) (by omega)).trans (fr7 i (by omega) (by omega)))) (by omega) (by omega)
        · skip
          refine lc_iinc (lv' := [(0, .ref (7)), (1, .ref (b)), (2, .int (lc_i (p))), (3, .int (lc_i (lc_num (fun j : Int => lc_cap f p j) (i).toNat + 1))), (4, .int (lc_i (i)))]) dX6_capturesFrom_23 3 rfl (by decide) rfl ?_
          refine lc_iinc (lv' := [(0, .ref (7)), (1, .ref (b)), (2, .int (lc_i (p))), (3, .int (lc_i (lc_num (fun j : Int => lc_cap f p j) (i).toNat + 1))), (4, .int (lc_i (i + 1)))]) dX6_capturesFrom_26 4 rfl (by decide) rfl ?_
          refine lc_goto (tgt := 5) dX6_capturesFrom_29 (by decide) ?_
          refine lc_lveq (lv' := [(0, .ref (7)), (1, .ref (b)), (2, .int (lc_i (p))), (3, .int (lc_i (lc_num (fun j : Int => lc_cap f p j) (i + 1).toNat))), (4, .int (lc_i (i + 1)))]) (by rw [lc_num_1 (P := (fun j : Int => lc_cap f p j)) (by omega) (h_20_33)]) ?_
          exact ih3 (i + 1) (wk19) (c20) (c21) (c22) σ26 h17 h18 (fun i _ _ => ((fr16 i (by omega) (by omega)).trans (fr7 i (by omega) (by omega)))) (by omega) (by omega)
  exact loop2 1000 (0) (w) (a1) (a2) (a3) σ h0_1 h0_2 (fun _ _ _ => rfl) (by omega) (by omega)

set_option maxRecDepth 100000 in
set_option maxHeartbeats 4000000 in
theorem lc_cX6_quietMovesFrom (l : Launch) (n : Nat) (b : Nat) (f : Int → Int) (o t s q m : Int) (p : Int) (σ : lc_S) (h0_0 : σ (7) = some (.inr (6, [.ref (2), .ref (8), .ref (5)]) : lc_Cel)) (h0_1 : σ (b) = some (.inr (0, [.ref (b + 1), .int (lc_i (o)), .int (lc_i (t)), .int (lc_i (s)), .int (lc_i (q)), .int (lc_i (m))]) : lc_Cel)) (h0_2 : σ (b + 1) = some (lc_aI 36 (f))) (hf : ∀ j : Int, 0 ≤ j → j < 36 → 0 ≤ f j ∧ f j ≤ 2) (hb : 12 ≤ b) (hp : 0 ≤ p ∧ p < 36) : lc_Con l yX6_quietMovesFrom cX6_quietMovesFrom 5 (some .int) (lc_Rd 2) [.ref (7), .ref (b), .int (lc_i (p))] n σ (fun v n2 σ2 => v = some (.int (lc_i (if f p = 0 then 0 else lc_num (fun j : Int => lc_step f p j) 36))) ∧ n = n2 ∧ σ = σ2) := by
  refine lc_con RX6 false (by decide) rfl (fun h => absurd h (by decide)) (Nat.le_of_ble_eq_true rfl) ?_
  suffices H : ∀ Q : lc_QT, (∀ v n2 σ2, (fun v n2 σ2 => v = some (.int (lc_i (if f p = 0 then 0 else lc_num (fun j : Int => lc_step f p j) 36))) ∧ n = n2 ∧ σ = σ2 : lc_QT) v n2 σ2 → Q v n2 σ2) → lc_V l RX6 cX6_quietMovesFrom 5 (some .int) false (lc_Rd 2) (lc_G Q 0 0) lc_E0 0 0 n 0 [(0, .ref (7)), (1, .ref (b)), (2, .int (lc_i (p)))] [] σ from H _ (fun _ _ _ h => h)
  intro Q hQ
  refine lc_iconst dX6_quietMovesFrom_0 ?_
  refine lc_top (congrArg (fun z => Value.int (lc_i z)) (show (0 : Int) = lc_num (fun j : Int => lc_step f p j) (0 : Int).toNat from rfl)) ?_
  refine lc_istore_n (lv' := [(0, .ref (7)), (1, .ref (b)), (2, .int (lc_i (p))), (3, .int (lc_i (lc_num (fun j : Int => lc_step f p j) (0 : Int).toNat)))]) dX6_quietMovesFrom_1 rfl (by decide) rfl ?_
  refine lc_iconst dX6_quietMovesFrom_2 ?_
  refine lc_istore (lv' := [(0, .ref (7)), (1, .ref (b)), (2, .int (lc_i (p))), (3, .int (lc_i (lc_num (fun j : Int => lc_step f p j) (0 : Int).toNat))), (4, .int (lc_i (0)))]) dX6_quietMovesFrom_3 (by decide) rfl ?_
  have loop2 : ∀ (N1 : Nat) (i : Int), (0 ≤ i ∧ i ≤ 36) → (f p = 0 → lc_num (fun j : Int => lc_step f p j) (i).toNat = 0) → 36 - i < (N1 : Int) → lc_V l RX6 cX6_quietMovesFrom 5 (some .int) false (lc_Rd 2) (lc_G Q 0 0) lc_E0 0 0 n 5 [(0, .ref (7)), (1, .ref (b)), (2, .int (lc_i (p))), (3, .int (lc_i (lc_num (fun j : Int => lc_step f p j) (i).toNat))), (4, .int (lc_i (i)))] [] σ := by
    intro N1
    induction N1 with
    | zero =>
      intro i hi hz hm4
      exact absurd hm4 (by omega)
    | succ N1 ih3 =>
      intro i hi hz hm4
      refine lc_iload dX6_quietMovesFrom_5 4 rfl ?_
      refine lc_bipush dX6_quietMovesFrom_7 (by decide) ?_
      refine lc_icmp_ge (tgt := 39) dX6_quietMovesFrom_9 (by decide) (by omega) (fun h_9_4 => ?_) (fun h_9_4 => ?_)
      · skip
        refine lc_iload_n dX6_quietMovesFrom_39 rfl 3 rfl ?_
        exact lc_iret dX6_quietMovesFrom_40 rfl (Nat.le_of_ble_eq_true rfl) (Nat.le_of_ble_eq_true rfl) (hQ _ _ _ ⟨lc_some (by have e9 := hz; rw [show (i).toNat = 36 from by omega] at e9 ⊢; by_cases q9 : f p = 0; (rw [if_pos q9, e9 q9]); (rw [if_neg q9])), rfl, rfl⟩)
      · skip
        refine lc_aload_n dX6_quietMovesFrom_12 rfl 1 rfl ?_
        refine lc_iload_n dX6_quietMovesFrom_13 rfl 2 rfl ?_
        refine lc_callV (As := [.int (lc_i (p))]) (stk := []) (b := b) dX6_quietMovesFrom_14 lc_mX6_37 lc_yX0_at h0_1 rfl (lc_cX0_at l n (b) (f) (o) (t) (s) (q) (m) (p) σ h0_1 h0_2 (by omega)) rfl ⟨Nat.le_of_ble_eq_true rfl, Nat.le_of_ble_eq_true rfl⟩ ⟨Nat.le_of_ble_eq_true rfl, Nat.le_of_ble_eq_true rfl⟩ rfl (Nat.le_of_ble_eq_true rfl) (fun v6 n7 σ8 q9 => ?_)
        obtain ⟨rfl, rfl, rfl⟩ := q9
        refine lc_top (congrArg (fun z => Value.int (lc_i z)) (show (if 0 ≤ (p) ∧ (p) < 36 then (f) (p) else 0 : Int) = f p from by rw [if_pos (by omega)])) ?_
        have hfp := hf p hp.1 hp.2
        refine lc_if_eq (tgt := 39) dX6_quietMovesFrom_17 (by decide) (by omega) (fun h_17_9 => ?_) (fun h_17_9 => ?_)
        · skip
          refine lc_iload_n dX6_quietMovesFrom_39 rfl 3 rfl ?_
          exact lc_iret dX6_quietMovesFrom_40 rfl (Nat.le_of_ble_eq_true rfl) (Nat.le_of_ble_eq_true rfl) (hQ _ _ _ ⟨lc_some (by rw [if_pos h_17_9, hz h_17_9]), rfl, rfl⟩)
        · skip
          refine lc_aload_n dX6_quietMovesFrom_20 rfl 1 rfl ?_
          refine lc_iload_n dX6_quietMovesFrom_21 rfl 2 rfl ?_
          refine lc_iload dX6_quietMovesFrom_22 4 rfl ?_
          refine lc_callS (As := [.ref (b), .int (lc_i (p)), .int (lc_i (i))]) (stk := []) dX6_quietMovesFrom_24 lc_mX6_45 lc_yX6_couldStep (lc_cX6_couldStep l n (b) (f) (o) (t) (s) (q) (m) (p) (i) σ h0_1 h0_2 (hf) (by omega) (by omega)) rfl ⟨Nat.le_of_ble_eq_true rfl, Nat.le_of_ble_eq_true rfl⟩ ⟨Nat.le_of_ble_eq_true rfl, Nat.le_of_ble_eq_true rfl⟩ rfl (Nat.le_of_ble_eq_true rfl) (fun v11 n12 σ13 q14 => ?_)
          obtain ⟨rfl, rfl, rfl⟩ := q14
          refine lc_if_eqB (tgt := 33) dX6_quietMovesFrom_27 (by decide) (fun h_27_14 => ?_) (fun h_27_14 => ?_)
          · skip
            refine lc_iinc (lv' := [(0, .ref (7)), (1, .ref (b)), (2, .int (lc_i (p))), (3, .int (lc_i (lc_num (fun j : Int => lc_step f p j) (i).toNat))), (4, .int (lc_i (i + 1)))]) dX6_quietMovesFrom_33 4 rfl (by decide) rfl ?_
            refine lc_goto (tgt := 5) dX6_quietMovesFrom_36 (by decide) ?_
            refine lc_lveq (lv' := [(0, .ref (7)), (1, .ref (b)), (2, .int (lc_i (p))), (3, .int (lc_i (lc_num (fun j : Int => lc_step f p j) (i + 1).toNat))), (4, .int (lc_i (i + 1)))]) (by rw [lc_num_0 (P := (fun j : Int => lc_step f p j)) (by omega) (h_27_14)]) ?_
            exact ih3 (i + 1) (by omega) (fun q9 => absurd q9 h_17_9) (by omega)
          · skip
            refine lc_iinc (lv' := [(0, .ref (7)), (1, .ref (b)), (2, .int (lc_i (p))), (3, .int (lc_i (lc_num (fun j : Int => lc_step f p j) (i).toNat + 1))), (4, .int (lc_i (i)))]) dX6_quietMovesFrom_30 3 rfl (by decide) rfl ?_
            refine lc_iinc (lv' := [(0, .ref (7)), (1, .ref (b)), (2, .int (lc_i (p))), (3, .int (lc_i (lc_num (fun j : Int => lc_step f p j) (i).toNat + 1))), (4, .int (lc_i (i + 1)))]) dX6_quietMovesFrom_33 4 rfl (by decide) rfl ?_
            refine lc_goto (tgt := 5) dX6_quietMovesFrom_36 (by decide) ?_
            refine lc_lveq (lv' := [(0, .ref (7)), (1, .ref (b)), (2, .int (lc_i (p))), (3, .int (lc_i (lc_num (fun j : Int => lc_step f p j) (i + 1).toNat))), (4, .int (lc_i (i + 1)))]) (by rw [lc_num_1 (P := (fun j : Int => lc_step f p j)) (by omega) (h_27_14)]) ?_
            exact ih3 (i + 1) (by omega) (fun q9 => absurd q9 h_17_9) (by omega)
  exact loop2 1000 (0) (by omega) (fun _ => rfl) (by omega)

def lc_cov (f : Int → Int) (p j : Int) : Bool := decide ((j ≠ p ∧ f j = f p) ∧ 0 < (lc_wy f j p).1)
theorem lc_cov_iff {f : Int → Int} {p j : Int} : lc_cov f p j = true ↔ ((j ≠ p ∧ f j = f p) ∧ 0 < (lc_wy f j p).1) := decide_eq_true_iff

set_option maxRecDepth 100000 in
set_option maxHeartbeats 4000000 in
/-- Rules.coversOf -/
theorem lc_cX6_coversOf (l : Launch) (n : Nat) (a1 a2 a3 : Int) (w : Int × Int × Int × Int) (b : Nat) (f : Int → Int) (o t s q m : Int) (p : Int) (σ : lc_S) (h0_0 : σ (7) = some (.inr (6, [.ref (2), .ref (8), .ref (5)]) : lc_Cel)) (h0_1 : σ (5) = some (.inr (9, [.ref (2), .ref (6), .int (lc_i ((w).1)), .int (lc_i ((w).2.1)), .int (lc_i ((w).2.2.1)), .int (lc_i ((w).2.2.2))]) : lc_Cel)) (h0_2 : σ (6) = some (.inr (8, [.ref (2), .int (lc_i (a1)), .int (lc_i (a2)), .int (lc_i (a3))]) : lc_Cel)) (h0_3 : σ (2) = some (.inr (1, [.ref (3), .ref (4)]) : lc_Cel)) (h0_4 : σ (3) = some (lc_aI 48 (lc_pt))) (h0_5 : σ (4) = some (lc_aI 72 (lc_sp))) (h0_6 : σ (b) = some (.inr (0, [.ref (b + 1), .int (lc_i (o)), .int (lc_i (t)), .int (lc_i (s)), .int (lc_i (q)), .int (lc_i (m))]) : lc_Cel)) (h0_7 : σ (b + 1) = some (lc_aI 36 (f))) (hf : ∀ j : Int, 0 ≤ j → j < 36 → 0 ≤ f j ∧ f j ≤ 2) (hb : 12 ≤ b) (hp : 0 ≤ p ∧ p < 36) : lc_Con l yX6_coversOf cX6_coversOf 6 (some .int) (lc_Rd 4) [.ref (7), .ref (b), .int (lc_i (p))] n σ (fun v n2 σ2 => ∃ (wk : Int × Int × Int × Int) (c1 c2 c3 : Int), v = some (.int (lc_i (if f p = 0 then 0 else lc_num (fun j : Int => lc_cov f p j) 36))) ∧ n = n2 ∧ σ2 5 = some (.inr (9, [.ref (2), .ref (6), .int (lc_i ((wk).1)), .int (lc_i ((wk).2.1)), .int (lc_i ((wk).2.2.1)), .int (lc_i ((wk).2.2.2))]) : lc_Cel) ∧ σ2 6 = some (.inr (8, [.ref (2), .int (lc_i (c1)), .int (lc_i (c2)), .int (lc_i (c3))]) : lc_Cel) ∧ ∀ i : Nat, i ≠ 5 → i ≠ 6 → σ2 i = σ i) := by
  have hfp := hf p hp.1 hp.2
  refine lc_con RX6 false (by decide) rfl (fun h => absurd h (by decide)) (Nat.le_of_ble_eq_true rfl) ?_
  suffices H : ∀ Q : lc_QT, (∀ v n2 σ2, (fun v n2 σ2 => ∃ (wk : Int × Int × Int × Int) (c1 c2 c3 : Int), v = some (.int (lc_i (if f p = 0 then 0 else lc_num (fun j : Int => lc_cov f p j) 36))) ∧ n = n2 ∧ σ2 5 = some (.inr (9, [.ref (2), .ref (6), .int (lc_i ((wk).1)), .int (lc_i ((wk).2.1)), .int (lc_i ((wk).2.2.1)), .int (lc_i ((wk).2.2.2))]) : lc_Cel) ∧ σ2 6 = some (.inr (8, [.ref (2), .int (lc_i (c1)), .int (lc_i (c2)), .int (lc_i (c3))]) : lc_Cel) ∧ ∀ i : Nat, i ≠ 5 → i ≠ 6 → σ2 i = σ i : lc_QT) v n2 σ2 → Q v n2 σ2) → lc_V l RX6 cX6_coversOf 6 (some .int) false (lc_Rd 4) (lc_G Q 0 0) lc_E0 0 0 n 0 [(0, .ref (7)), (1, .ref (b)), (2, .int (lc_i (p)))] [] σ from H _ (fun _ _ _ h => h)
  intro Q hQ
  refine lc_aload_n dX6_coversOf_0 rfl 1 rfl ?_
  refine lc_iload_n dX6_coversOf_1 rfl 2 rfl ?_
  refine lc_callV (As := [.int (lc_i (p))]) (stk := []) (b := b) dX6_coversOf_2 lc_mX6_37 lc_yX0_at h0_6 rfl (lc_cX0_at l n (b) (f) (o) (t) (s) (q) (m) (p) σ h0_6 h0_7 (by omega)) rfl ⟨Nat.le_of_ble_eq_true rfl, Nat.le_of_ble_eq_true rfl⟩ ⟨Nat.le_of_ble_eq_true rfl, Nat.le_of_ble_eq_true rfl⟩ rfl (Nat.le_of_ble_eq_true rfl) (fun v1 n2 σ3 q4 => ?_)
  obtain ⟨rfl, rfl, rfl⟩ := q4
  refine lc_top (congrArg (fun z => Value.int (lc_i z)) (show (if 0 ≤ (p) ∧ (p) < 36 then (f) (p) else 0 : Int) = f p from by rw [if_pos (by omega)])) ?_
  refine lc_istore_n (lv' := [(0, .ref (7)), (1, .ref (b)), (2, .int (lc_i (p))), (3, .int (lc_i (f p)))]) dX6_coversOf_5 rfl (by decide) rfl ?_
  refine lc_iconst dX6_coversOf_6 ?_
  refine lc_top (congrArg (fun z => Value.int (lc_i z)) (show (0 : Int) = lc_num (fun j : Int => lc_cov f p j) (0 : Int).toNat from rfl)) ?_
  refine lc_istore (lv' := [(0, .ref (7)), (1, .ref (b)), (2, .int (lc_i (p))), (3, .int (lc_i (f p))), (4, .int (lc_i (lc_num (fun j : Int => lc_cov f p j) (0 : Int).toNat)))]) dX6_coversOf_7 (by decide) rfl ?_
  refine lc_iconst dX6_coversOf_9 ?_
  refine lc_istore (lv' := [(0, .ref (7)), (1, .ref (b)), (2, .int (lc_i (p))), (3, .int (lc_i (f p))), (4, .int (lc_i (lc_num (fun j : Int => lc_cov f p j) (0 : Int).toNat))), (5, .int (lc_i (0)))]) dX6_coversOf_10 (by decide) rfl ?_
  have loop6 : ∀ (N5 : Nat) (i : Int) (wi : Int × Int × Int × Int) (e1 : Int) (e2 : Int) (e3 : Int) (σ8 : lc_S), (σ8 (5) = some (.inr (9, [.ref (2), .ref (6), .int (lc_i ((wi).1)), .int (lc_i ((wi).2.1)), .int (lc_i ((wi).2.2.1)), .int (lc_i ((wi).2.2.2))]) : lc_Cel)) → (σ8 (6) = some (.inr (8, [.ref (2), .int (lc_i (e1)), .int (lc_i (e2)), .int (lc_i (e3))]) : lc_Cel)) → (∀ i : Nat, i ≠ 5 → i ≠ 6 → σ8 i = σ i) → (0 ≤ i ∧ i ≤ 36) → (f p = 0 → lc_num (fun j : Int => lc_cov f p j) (i).toNat = 0) → 36 - i < (N5 : Int) → lc_V l RX6 cX6_coversOf 6 (some .int) false (lc_Rd 4) (lc_G Q 0 0) lc_E0 0 0 n 12 [(0, .ref (7)), (1, .ref (b)), (2, .int (lc_i (p))), (3, .int (lc_i (f p))), (4, .int (lc_i (lc_num (fun j : Int => lc_cov f p j) (i).toNat))), (5, .int (lc_i (i)))] [] σ8 := by
    intro N5
    induction N5 with
    | zero =>
      intro i wi e1 e2 e3 σ8 h9 h10 fr11 hi hz hm12
      exact absurd hm12 (by omega)
    | succ N5 ih7 =>
      intro i wi e1 e2 e3 σ8 h9 h10 fr11 hi hz hm12
      have h13 : σ8 (7) = some (.inr (6, [.ref (2), .ref (8), .ref (5)]) : lc_Cel) := (fr11 _ (by omega) (by omega)).trans h0_0
      have h14 : σ8 (2) = some (.inr (1, [.ref (3), .ref (4)]) : lc_Cel) := (fr11 _ (by omega) (by omega)).trans h0_3
      have h15 : σ8 (3) = some (lc_aI 48 (lc_pt)) := (fr11 _ (by omega) (by omega)).trans h0_4
      have h16 : σ8 (4) = some (lc_aI 72 (lc_sp)) := (fr11 _ (by omega) (by omega)).trans h0_5
      have h17 : σ8 (b) = some (.inr (0, [.ref (b + 1), .int (lc_i (o)), .int (lc_i (t)), .int (lc_i (s)), .int (lc_i (q)), .int (lc_i (m))]) : lc_Cel) := (fr11 _ (by omega) (by omega)).trans h0_6
      have h18 : σ8 (b + 1) = some (lc_aI 36 (f)) := (fr11 _ (by omega) (by omega)).trans h0_7
      have hfi : i < 36 → 0 ≤ f i ∧ f i ≤ 2 := fun q9 => hf i hi.1 q9
      refine lc_iload dX6_coversOf_12 5 rfl ?_
      refine lc_bipush dX6_coversOf_14 (by decide) ?_
      refine lc_icmp_ge (tgt := 62) dX6_coversOf_16 (by decide) (by omega) (fun h_16_18 => ?_) (fun h_16_18 => ?_)
      · skip
        refine lc_iload dX6_coversOf_62 4 rfl ?_
        exact lc_iret dX6_coversOf_64 rfl (Nat.le_of_ble_eq_true rfl) (Nat.le_of_ble_eq_true rfl) (hQ _ _ _ ⟨(wi), (e1), (e2), (e3), lc_some (by have e9 := hz; rw [show (i).toNat = 36 from by omega] at e9 ⊢; by_cases q9 : f p = 0; (rw [if_pos q9, e9 q9]); (rw [if_neg q9])), rfl, h9, h10, (fun i _ _ => (fr11 i (by omega) (by omega)))⟩)
      · skip
        refine lc_iload_n dX6_coversOf_19 rfl 3 rfl ?_
        refine lc_if_eq (tgt := 62) dX6_coversOf_20 (by decide) (by omega) (fun h_20_19 => ?_) (fun h_20_19 => ?_)
        · skip
          refine lc_iload dX6_coversOf_62 4 rfl ?_
          exact lc_iret dX6_coversOf_64 rfl (Nat.le_of_ble_eq_true rfl) (Nat.le_of_ble_eq_true rfl) (hQ _ _ _ ⟨(wi), (e1), (e2), (e3), lc_some (by rw [if_pos h_20_19, hz h_20_19]), rfl, h9, h10, (fun i _ _ => (fr11 i (by omega) (by omega)))⟩)
        · skip
          refine lc_iload dX6_coversOf_23 5 rfl ?_
          refine lc_iload_n dX6_coversOf_25 rfl 2 rfl ?_
          refine lc_icmp_eq (tgt := 56) dX6_coversOf_26 (by decide) (by omega) (fun h_26_20 => ?_) (fun h_26_20 => ?_)
          · skip
            refine lc_iinc (lv' := [(0, .ref (7)), (1, .ref (b)), (2, .int (lc_i (p))), (3, .int (lc_i (f p))), (4, .int (lc_i (lc_num (fun j : Int => lc_cov f p j) (i).toNat))), (5, .int (lc_i (i + 1)))]) dX6_coversOf_56 5 rfl (by decide) rfl ?_
            refine lc_goto (tgt := 12) dX6_coversOf_59 (by decide) ?_
            refine lc_lveq (lv' := [(0, .ref (7)), (1, .ref (b)), (2, .int (lc_i (p))), (3, .int (lc_i (f p))), (4, .int (lc_i (lc_num (fun j : Int => lc_cov f p j) (i + 1).toNat))), (5, .int (lc_i (i + 1)))]) (by rw [lc_num_0 (P := (fun j : Int => lc_cov f p j)) (by omega) (fun q9 => (lc_cov_iff.mp q9).1.1 h_26_20)]) ?_
            exact ih7 (i + 1) (wi) (e1) (e2) (e3) σ8 h9 h10 (fun i _ _ => (fr11 i (by omega) (by omega))) (by omega) (fun q9 => absurd q9 h_20_19) (by omega)
          · skip
            refine lc_aload_n dX6_coversOf_29 rfl 1 rfl ?_
            refine lc_iload dX6_coversOf_30 5 rfl ?_
            refine lc_callV (As := [.int (lc_i (i))]) (stk := []) (b := b) dX6_coversOf_32 lc_mX6_37 lc_yX0_at h17 rfl (lc_cX0_at l n (b) (f) (o) (t) (s) (q) (m) (i) σ8 h17 h18 (by omega)) rfl ⟨Nat.le_of_ble_eq_true rfl, Nat.le_of_ble_eq_true rfl⟩ ⟨Nat.le_of_ble_eq_true rfl, Nat.le_of_ble_eq_true rfl⟩ rfl (Nat.le_of_ble_eq_true rfl) (fun v22 n23 σ24 q25 => ?_)
            obtain ⟨rfl, rfl, rfl⟩ := q25
            refine lc_top (congrArg (fun z => Value.int (lc_i z)) (show (if 0 ≤ (i) ∧ (i) < 36 then (f) (i) else 0 : Int) = f i from by rw [if_pos (by omega)])) ?_
            refine lc_iload_n dX6_coversOf_35 rfl 3 rfl ?_
            refine lc_icmp_ne (tgt := 56) dX6_coversOf_36 (by decide) (by omega) (fun h_36_25 => ?_) (fun h_36_25 => ?_)
            · skip
              refine lc_iinc (lv' := [(0, .ref (7)), (1, .ref (b)), (2, .int (lc_i (p))), (3, .int (lc_i (f p))), (4, .int (lc_i (lc_num (fun j : Int => lc_cov f p j) (i).toNat))), (5, .int (lc_i (i + 1)))]) dX6_coversOf_56 5 rfl (by decide) rfl ?_
              refine lc_goto (tgt := 12) dX6_coversOf_59 (by decide) ?_
              refine lc_lveq (lv' := [(0, .ref (7)), (1, .ref (b)), (2, .int (lc_i (p))), (3, .int (lc_i (f p))), (4, .int (lc_i (lc_num (fun j : Int => lc_cov f p j) (i + 1).toNat))), (5, .int (lc_i (i + 1)))]) (by rw [lc_num_0 (P := (fun j : Int => lc_cov f p j)) (by omega) (fun q9 => h_36_25 (lc_cov_iff.mp q9).1.2)]) ?_
              exact ih7 (i + 1) (wi) (e1) (e2) (e3) σ8 h9 h10 (fun i _ _ => (fr11 i (by omega) (by omega))) (by omega) (fun q9 => absurd q9 h_20_19) (by omega)
            · skip
              refine lc_aload_n dX6_coversOf_39 rfl 0 rfl ?_
              refine lc_get dX6_coversOf_40 lc_fX6_24 h13 rfl ?_
              refine lc_aload_n dX6_coversOf_43 rfl 1 rfl ?_
              refine lc_iload dX6_coversOf_44 5 rfl ?_
              refine lc_iload_n dX6_coversOf_46 rfl 2 rfl ?_
              refine lc_callV (As := [.ref (b), .int (lc_i (i)), .int (lc_i (p))]) (stk := []) (b := 5) dX6_coversOf_47 lc_mX6_52 lc_yX9_find h9 rfl (lc_cX9_find l n (e1) (e2) (e3) (wi) (b) (f) (o) (t) (s) (q) (m) (i) (p) σ8 h9 h10 h14 h15 h16 h17 h18 (hf) (hb) (by omega) (by omega)) rfl ⟨Nat.le_of_ble_eq_true rfl, Nat.le_of_ble_eq_true rfl⟩ ⟨Nat.le_of_ble_eq_true rfl, Nat.le_of_ble_eq_true rfl⟩ rfl (Nat.le_of_ble_eq_true rfl) (fun v33 n34 σ35 q36 => ?_)
              obtain ⟨c30, c31, c32, rfl, rfl, h28, h29, fr27⟩ := q36
              have h37 : σ35 (7) = some (.inr (6, [.ref (2), .ref (8), .ref (5)]) : lc_Cel) := (fr27 _ (by omega) (by omega)).trans h13
              have h38 : σ35 (2) = some (.inr (1, [.ref (3), .ref (4)]) : lc_Cel) := (fr27 _ (by omega) (by omega)).trans h14
              have h39 : σ35 (3) = some (lc_aI 48 (lc_pt)) := (fr27 _ (by omega) (by omega)).trans h15
              have h40 : σ35 (4) = some (lc_aI 72 (lc_sp)) := (fr27 _ (by omega) (by omega)).trans h16
              have h41 : σ35 (b) = some (.inr (0, [.ref (b + 1), .int (lc_i (o)), .int (lc_i (t)), .int (lc_i (s)), .int (lc_i (q)), .int (lc_i (m))]) : lc_Cel) := (fr27 _ (by omega) (by omega)).trans h17
              have h42 : σ35 (b + 1) = some (lc_aI 36 (f)) := (fr27 _ (by omega) (by omega)).trans h18
              refine lc_if_eqB (tgt := 56) dX6_coversOf_50 (by decide) (fun h_50_42 => ?_) (fun h_50_42 => ?_)
              · skip
                refine lc_iinc (lv' := [(0, .ref (7)), (1, .ref (b)), (2, .int (lc_i (p))), (3, .int (lc_i (f p))), (4, .int (lc_i (lc_num (fun j : Int => lc_cov f p j) (i).toNat))), (5, .int (lc_i (i + 1)))]) dX6_coversOf_56 5 rfl (by decide) rfl ?_
                refine lc_goto (tgt := 12) dX6_coversOf_59 (by decide) ?_
                refine lc_lveq (lv' := [(0, .ref (7)), (1, .ref (b)), (2, .int (lc_i (p))), (3, .int (lc_i (f p))), (4, .int (lc_i (lc_num (fun j : Int => lc_cov f p j) (i + 1).toNat))), (5, .int (lc_i (i + 1)))]) (by rw [lc_num_0 (P := (fun j : Int => lc_cov f p j)) (by omega) (fun q9 => h_50_42 (by rw [lc_find_1 f i p wi]; exact (lc_cov_iff.mp q9).2))]) ?_
                exact ih7 (i + 1) (lc_find (f) (i) (p) (wi)) (c30) (c31) (c32) σ35 h28 h29 (fun i _ _ => ((fr27 i (by omega) (by omega)).trans (fr11 i (by omega) (by omega)))) (by omega) (fun q9 => absurd q9 h_20_19) (by omega)
              · skip
                refine lc_iinc (lv' := [(0, .ref (7)), (1, .ref (b)), (2, .int (lc_i (p))), (3, .int (lc_i (f p))), (4, .int (lc_i (lc_num (fun j : Int => lc_cov f p j) (i).toNat + 1))), (5, .int (lc_i (i)))]) dX6_coversOf_53 4 rfl (by decide) rfl ?_
                refine lc_iinc (lv' := [(0, .ref (7)), (1, .ref (b)), (2, .int (lc_i (p))), (3, .int (lc_i (f p))), (4, .int (lc_i (lc_num (fun j : Int => lc_cov f p j) (i).toNat + 1))), (5, .int (lc_i (i + 1)))]) dX6_coversOf_56 5 rfl (by decide) rfl ?_
                refine lc_goto (tgt := 12) dX6_coversOf_59 (by decide) ?_
                refine lc_lveq (lv' := [(0, .ref (7)), (1, .ref (b)), (2, .int (lc_i (p))), (3, .int (lc_i (f p))), (4, .int (lc_i (lc_num (fun j : Int => lc_cov f p j) (i + 1).toNat))), (5, .int (lc_i (i + 1)))]) (by rw [lc_num_1 (P := (fun j : Int => lc_cov f p j)) (by omega) (lc_cov_iff.mpr ⟨⟨h_26_20, h_36_25⟩, by rw [← lc_find_1 f i p wi]; exact h_50_42⟩)]) ?_
                exact ih7 (i + 1) (lc_find (f) (i) (p) (wi)) (c30) (c31) (c32) σ35 h28 h29 (fun i _ _ => ((fr27 i (by omega) (by omega)).trans (fr11 i (by omega) (by omega)))) (by omega) (fun q9 => absurd q9 h_20_19) (by omega)
  exact loop6 1000 (0) (w) (a1) (a2) (a3) σ h0_1 h0_2 (fun _ _ _ => rfl) (by omega) (fun _ => rfl) (by omega)

def lc_thr (f : Int → Int) (s p : Int) : Bool := decide (f p = s ∧ 0 < lc_num (fun j : Int => lc_cap f j p) 36)
theorem lc_thr_iff {f : Int → Int} {s p : Int} : lc_thr f s p = true ↔ (f p = s ∧ 0 < lc_num (fun j : Int => lc_cap f j p) 36) := decide_eq_true_iff

set_option maxRecDepth 100000 in
set_option maxHeartbeats 4000000 in
/-- Rules.threatened -/
theorem lc_cX6_threatened (l : Launch) (n : Nat) (a1 a2 a3 : Int) (w : Int × Int × Int × Int) (b : Nat) (f : Int → Int) (o t s q m : Int) (σ : lc_S) (h0_0 : σ (7) = some (.inr (6, [.ref (2), .ref (8), .ref (5)]) : lc_Cel)) (h0_1 : σ (5) = some (.inr (9, [.ref (2), .ref (6), .int (lc_i ((w).1)), .int (lc_i ((w).2.1)), .int (lc_i ((w).2.2.1)), .int (lc_i ((w).2.2.2))]) : lc_Cel)) (h0_2 : σ (6) = some (.inr (8, [.ref (2), .int (lc_i (a1)), .int (lc_i (a2)), .int (lc_i (a3))]) : lc_Cel)) (h0_3 : σ (2) = some (.inr (1, [.ref (3), .ref (4)]) : lc_Cel)) (h0_4 : σ (3) = some (lc_aI 48 (lc_pt))) (h0_5 : σ (4) = some (lc_aI 72 (lc_sp))) (h0_6 : σ (b) = some (.inr (0, [.ref (b + 1), .int (lc_i (o)), .int (lc_i (t)), .int (lc_i (s)), .int (lc_i (q)), .int (lc_i (m))]) : lc_Cel)) (h0_7 : σ (b + 1) = some (lc_aI 36 (f))) (hf : ∀ j : Int, 0 ≤ j → j < 36 → 0 ≤ f j ∧ f j ≤ 2) (hb : 12 ≤ b) (hs : 1 ≤ s ∧ s ≤ 2) : lc_Con l yX6_threatened cX6_threatened 4 (some .int) (lc_Rd 6) [.ref (7), .ref (b)] n σ (fun v n2 σ2 => ∃ (wk : Int × Int × Int × Int) (c1 c2 c3 : Int), v = some (.int (lc_i (lc_num (fun j : Int => lc_thr f s j) 36))) ∧ n = n2 ∧ σ2 5 = some (.inr (9, [.ref (2), .ref (6), .int (lc_i ((wk).1)), .int (lc_i ((wk).2.1)), .int (lc_i ((wk).2.2.1)), .int (lc_i ((wk).2.2.2))]) : lc_Cel) ∧ σ2 6 = some (.inr (8, [.ref (2), .int (lc_i (c1)), .int (lc_i (c2)), .int (lc_i (c3))]) : lc_Cel) ∧ ∀ i : Nat, i ≠ 5 → i ≠ 6 → σ2 i = σ i) := by
  refine lc_con RX6 false (by decide) rfl (fun h => absurd h (by decide)) (Nat.le_of_ble_eq_true rfl) ?_
  suffices H : ∀ Q : lc_QT, (∀ v n2 σ2, (fun v n2 σ2 => ∃ (wk : Int × Int × Int × Int) (c1 c2 c3 : Int), v = some (.int (lc_i (lc_num (fun j : Int => lc_thr f s j) 36))) ∧ n = n2 ∧ σ2 5 = some (.inr (9, [.ref (2), .ref (6), .int (lc_i ((wk).1)), .int (lc_i ((wk).2.1)), .int (lc_i ((wk).2.2.1)), .int (lc_i ((wk).2.2.2))]) : lc_Cel) ∧ σ2 6 = some (.inr (8, [.ref (2), .int (lc_i (c1)), .int (lc_i (c2)), .int (lc_i (c3))]) : lc_Cel) ∧ ∀ i : Nat, i ≠ 5 → i ≠ 6 → σ2 i = σ i : lc_QT) v n2 σ2 → Q v n2 σ2) → lc_V l RX6 cX6_threatened 4 (some .int) false (lc_Rd 6) (lc_G Q 0 0) lc_E0 0 0 n 0 [(0, .ref (7)), (1, .ref (b))] [] σ from H _ (fun _ _ _ h => h)
  intro Q hQ
  refine lc_iconst dX6_threatened_0 ?_
  refine lc_top (congrArg (fun z => Value.int (lc_i z)) (show (0 : Int) = lc_num (fun j : Int => lc_thr f s j) (0 : Int).toNat from rfl)) ?_
  refine lc_istore_n (lv' := [(0, .ref (7)), (1, .ref (b)), (2, .int (lc_i (lc_num (fun j : Int => lc_thr f s j) (0 : Int).toNat)))]) dX6_threatened_1 rfl (by decide) rfl ?_
  refine lc_iconst dX6_threatened_2 ?_
  refine lc_istore_n (lv' := [(0, .ref (7)), (1, .ref (b)), (2, .int (lc_i (lc_num (fun j : Int => lc_thr f s j) (0 : Int).toNat))), (3, .int (lc_i (0)))]) dX6_threatened_3 rfl (by decide) rfl ?_
  have loop2 : ∀ (N1 : Nat) (i : Int) (wi : Int × Int × Int × Int) (e1 : Int) (e2 : Int) (e3 : Int) (σ4 : lc_S), (σ4 (5) = some (.inr (9, [.ref (2), .ref (6), .int (lc_i ((wi).1)), .int (lc_i ((wi).2.1)), .int (lc_i ((wi).2.2.1)), .int (lc_i ((wi).2.2.2))]) : lc_Cel)) → (σ4 (6) = some (.inr (8, [.ref (2), .int (lc_i (e1)), .int (lc_i (e2)), .int (lc_i (e3))]) : lc_Cel)) → (∀ i : Nat, i ≠ 5 → i ≠ 6 → σ4 i = σ i) → (0 ≤ i ∧ i ≤ 36) → 36 - i < (N1 : Int) → lc_V l RX6 cX6_threatened 4 (some .int) false (lc_Rd 6) (lc_G Q 0 0) lc_E0 0 0 n 4 [(0, .ref (7)), (1, .ref (b)), (2, .int (lc_i (lc_num (fun j : Int => lc_thr f s j) (i).toNat))), (3, .int (lc_i (i)))] [] σ4 := by
    intro N1
    induction N1 with
    | zero =>
      intro i wi e1 e2 e3 σ4 h5 h6 fr7 hi hm8
      exact absurd hm8 (by omega)
    | succ N1 ih3 =>
      intro i wi e1 e2 e3 σ4 h5 h6 fr7 hi hm8
      have h9 : σ4 (7) = some (.inr (6, [.ref (2), .ref (8), .ref (5)]) : lc_Cel) := (fr7 _ (by omega) (by omega)).trans h0_0
      have h10 : σ4 (2) = some (.inr (1, [.ref (3), .ref (4)]) : lc_Cel) := (fr7 _ (by omega) (by omega)).trans h0_3
      have h11 : σ4 (3) = some (lc_aI 48 (lc_pt)) := (fr7 _ (by omega) (by omega)).trans h0_4
      have h12 : σ4 (4) = some (lc_aI 72 (lc_sp)) := (fr7 _ (by omega) (by omega)).trans h0_5
      have h13 : σ4 (b) = some (.inr (0, [.ref (b + 1), .int (lc_i (o)), .int (lc_i (t)), .int (lc_i (s)), .int (lc_i (q)), .int (lc_i (m))]) : lc_Cel) := (fr7 _ (by omega) (by omega)).trans h0_6
      have h14 : σ4 (b + 1) = some (lc_aI 36 (f)) := (fr7 _ (by omega) (by omega)).trans h0_7
      have hfi : i < 36 → 0 ≤ f i ∧ f i ≤ 2 := fun q9 => hf i hi.1 q9
      have hnr := lc_num_r (fun j : Int => lc_cap f j i) 36
      refine lc_iload_n dX6_threatened_4 rfl 3 rfl ?_
      refine lc_bipush dX6_threatened_5 (by decide) ?_
      refine lc_icmp_ge (tgt := 40) dX6_threatened_7 (by decide) (by omega) (fun h_7_14 => ?_) (fun h_7_14 => ?_)
      · skip
        refine lc_iload_n dX6_threatened_40 rfl 2 rfl ?_
        exact lc_iret dX6_threatened_41 rfl (Nat.le_of_ble_eq_true rfl) (Nat.le_of_ble_eq_true rfl) (hQ _ _ _ ⟨(wi), (e1), (e2), (e3), by rw [show (i).toNat = 36 from by omega], rfl, h5, h6, (fun i _ _ => (fr7 i (by omega) (by omega)))⟩)
      · skip
        refine lc_aload_n dX6_threatened_10 rfl 1 rfl ?_
        refine lc_iload_n dX6_threatened_11 rfl 3 rfl ?_
        refine lc_callV (As := [.int (lc_i (i))]) (stk := []) (b := b) dX6_threatened_12 lc_mX6_37 lc_yX0_at h13 rfl (lc_cX0_at l n (b) (f) (o) (t) (s) (q) (m) (i) σ4 h13 h14 (by omega)) rfl ⟨Nat.le_of_ble_eq_true rfl, Nat.le_of_ble_eq_true rfl⟩ ⟨Nat.le_of_ble_eq_true rfl, Nat.le_of_ble_eq_true rfl⟩ rfl (Nat.le_of_ble_eq_true rfl) (fun v16 n17 σ18 q19 => ?_)
        obtain ⟨rfl, rfl, rfl⟩ := q19
        refine lc_top (congrArg (fun z => Value.int (lc_i z)) (show (if 0 ≤ (i) ∧ (i) < 36 then (f) (i) else 0 : Int) = f i from by rw [if_pos (by omega)])) ?_
        refine lc_aload_n dX6_threatened_15 rfl 1 rfl ?_
        refine lc_callV (As := []) (stk := [.int (lc_i (f i))]) (b := b) dX6_threatened_16 lc_mX6_34 lc_yX0_sideToMove h13 rfl (lc_cX0_sideToMove l n (b) (f) (o) (t) (s) (q) (m) σ4 h13) rfl ⟨Nat.le_of_ble_eq_true rfl, Nat.le_of_ble_eq_true rfl⟩ ⟨Nat.le_of_ble_eq_true rfl, Nat.le_of_ble_eq_true rfl⟩ rfl (Nat.le_of_ble_eq_true rfl) (fun v20 n21 σ22 q23 => ?_)
        obtain ⟨rfl, rfl, rfl⟩ := q23
        refine lc_icmp_ne (tgt := 34) dX6_threatened_19 (by decide) (by omega) (fun h_19_23 => ?_) (fun h_19_23 => ?_)
        · skip
          refine lc_iinc (lv' := [(0, .ref (7)), (1, .ref (b)), (2, .int (lc_i (lc_num (fun j : Int => lc_thr f s j) (i).toNat))), (3, .int (lc_i (i + 1)))]) dX6_threatened_34 3 rfl (by decide) rfl ?_
          refine lc_goto (tgt := 4) dX6_threatened_37 (by decide) ?_
          refine lc_lveq (lv' := [(0, .ref (7)), (1, .ref (b)), (2, .int (lc_i (lc_num (fun j : Int => lc_thr f s j) (i + 1).toNat))), (3, .int (lc_i (i + 1)))]) (by rw [lc_num_0 (P := (fun j : Int => lc_thr f s j)) (by omega) (fun q9 => h_19_23 (lc_thr_iff.mp q9).1)]) ?_
          exact ih3 (i + 1) (wi) (e1) (e2) (e3) σ4 h5 h6 (fun i _ _ => (fr7 i (by omega) (by omega))) (by omega) (by omega)
        · skip
          refine lc_aload_n dX6_threatened_22 rfl 0 rfl ?_
          refine lc_aload_n dX6_threatened_23 rfl 1 rfl ?_
          refine lc_iload_n dX6_threatened_24 rfl 3 rfl ?_
          refine lc_callV (As := [.ref (b), .int (lc_i (i))]) (stk := []) (b := 7) dX6_threatened_25 lc_mX6_62 lc_yX6_threatsTo h9 rfl (lc_cX6_threatsTo l n (e1) (e2) (e3) (wi) (b) (f) (o) (t) (s) (q) (m) (i) σ4 h9 h5 h6 h10 h11 h12 h13 h14 (hf) (hb) (by omega)) rfl ⟨Nat.le_of_ble_eq_true rfl, Nat.le_of_ble_eq_true rfl⟩ ⟨Nat.le_of_ble_eq_true rfl, Nat.le_of_ble_eq_true rfl⟩ rfl (Nat.le_of_ble_eq_true rfl) (fun v32 n33 σ34 q35 => ?_)
          obtain ⟨wk28, c29, c30, c31, rfl, rfl, h26, h27, fr25⟩ := q35
          have h36 : σ34 (7) = some (.inr (6, [.ref (2), .ref (8), .ref (5)]) : lc_Cel) := (fr25 _ (by omega) (by omega)).trans h9
          have h37 : σ34 (2) = some (.inr (1, [.ref (3), .ref (4)]) : lc_Cel) := (fr25 _ (by omega) (by omega)).trans h10
          have h38 : σ34 (3) = some (lc_aI 48 (lc_pt)) := (fr25 _ (by omega) (by omega)).trans h11
          have h39 : σ34 (4) = some (lc_aI 72 (lc_sp)) := (fr25 _ (by omega) (by omega)).trans h12
          have h40 : σ34 (b) = some (.inr (0, [.ref (b + 1), .int (lc_i (o)), .int (lc_i (t)), .int (lc_i (s)), .int (lc_i (q)), .int (lc_i (m))]) : lc_Cel) := (fr25 _ (by omega) (by omega)).trans h13
          have h41 : σ34 (b + 1) = some (lc_aI 36 (f)) := (fr25 _ (by omega) (by omega)).trans h14
          refine lc_if_le (tgt := 34) dX6_threatened_28 (by decide) (by omega) (fun h_28_41 => ?_) (fun h_28_41 => ?_)
          · skip
            refine lc_iinc (lv' := [(0, .ref (7)), (1, .ref (b)), (2, .int (lc_i (lc_num (fun j : Int => lc_thr f s j) (i).toNat))), (3, .int (lc_i (i + 1)))]) dX6_threatened_34 3 rfl (by decide) rfl ?_
            refine lc_goto (tgt := 4) dX6_threatened_37 (by decide) ?_
            refine lc_lveq (lv' := [(0, .ref (7)), (1, .ref (b)), (2, .int (lc_i (lc_num (fun j : Int => lc_thr f s j) (i + 1).toNat))), (3, .int (lc_i (i + 1)))]) (by rw [lc_num_0 (P := (fun j : Int => lc_thr f s j)) (by omega) (fun q9 => absurd (lc_thr_iff.mp q9).2 (by omega))]) ?_
            exact ih3 (i + 1) (wk28) (c29) (c30) (c31) σ34 h26 h27 (fun i _ _ => ((fr25 i (by omega) (by omega)).trans (fr7 i (by omega) (by omega)))) (by omega) (by omega)
          · skip
            refine lc_iinc (lv' := [(0, .ref (7)), (1, .ref (b)), (2, .int (lc_i (lc_num (fun j : Int => lc_thr f s j) (i).toNat + 1))), (3, .int (lc_i (i)))]) dX6_threatened_31 2 rfl (by decide) rfl ?_
            refine lc_iinc (lv' := [(0, .ref (7)), (1, .ref (b)), (2, .int (lc_i (lc_num (fun j : Int => lc_thr f s j) (i).toNat + 1))), (3, .int (lc_i (i + 1)))]) dX6_threatened_34 3 rfl (by decide) rfl ?_
            refine lc_goto (tgt := 4) dX6_threatened_37 (by decide) ?_
            refine lc_lveq (lv' := [(0, .ref (7)), (1, .ref (b)), (2, .int (lc_i (lc_num (fun j : Int => lc_thr f s j) (i + 1).toNat))), (3, .int (lc_i (i + 1)))]) (by rw [lc_num_1 (P := (fun j : Int => lc_thr f s j)) (by omega) (lc_thr_iff.mpr ⟨h_19_23, by omega⟩)]) ?_
            exact ih3 (i + 1) (wk28) (c29) (c30) (c31) σ34 h26 h27 (fun i _ _ => ((fr25 i (by omega) (by omega)).trans (fr7 i (by omega) (by omega)))) (by omega) (by omega)
  exact loop2 1000 (0) (w) (a1) (a2) (a3) σ h0_1 h0_2 (fun _ _ _ => rfl) (by omega) (by omega)

theorem lc_bif_t {c x y : Bool} (h : c = true) : (bif c then x else y) = x := by rw [h]; rfl
theorem lc_bif_f {c x y : Bool} (h : ¬ c = true) : (bif c then x else y) = y := by
  cases c
  · rfl
  · exact absurd rfl h
theorem lc_cc (f : Int → Int) : (0 ≤ lc_cnt f 1 36 ∧ lc_cnt f 1 36 ≤ 36) ∧ (0 ≤ lc_cnt f 2 36 ∧ lc_cnt f 2 36 ≤ 36) := ⟨lc_cnt_r f 1 36, lc_cnt_r f 2 36⟩

set_option maxRecDepth 100000 in
set_option maxHeartbeats 4000000 in
/-- Rules.whyNot -/
theorem lc_cX6_whyNot (l : Launch) (n : Nat) (a1 a2 a3 : Int) (w : Int × Int × Int × Int) (b : Nat) (f : Int → Int) (s q m : Int) (fr to : Int) (c : Bool) (σ : lc_S) (h0_0 : σ (7) = some (.inr (6, [.ref (2), .ref (8), .ref (5)]) : lc_Cel)) (h0_1 : σ (5) = some (.inr (9, [.ref (2), .ref (6), .int (lc_i ((w).1)), .int (lc_i ((w).2.1)), .int (lc_i ((w).2.2.1)), .int (lc_i ((w).2.2.2))]) : lc_Cel)) (h0_2 : σ (6) = some (.inr (8, [.ref (2), .int (lc_i (a1)), .int (lc_i (a2)), .int (lc_i (a3))]) : lc_Cel)) (h0_3 : σ (2) = some (.inr (1, [.ref (3), .ref (4)]) : lc_Cel)) (h0_4 : σ (3) = some (lc_aI 48 (lc_pt))) (h0_5 : σ (4) = some (lc_aI 72 (lc_sp))) (h0_6 : σ (b) = some (.inr (0, [.ref (b + 1), .int (lc_i (lc_cnt (f) 1 36)), .int (lc_i (lc_cnt (f) 2 36)), .int (lc_i (s)), .int (lc_i (q)), .int (lc_i (m))]) : lc_Cel)) (h0_7 : σ (b + 1) = some (lc_aI 36 (f))) (hf : ∀ j : Int, 0 ≤ j → j < 36 → 0 ≤ f j ∧ f j ≤ 2) (hb : 12 ≤ b) (hs : 1 ≤ s ∧ s ≤ 2) (hq : -2147483648 ≤ q ∧ q < 2147483648) (hm : -2147483648 ≤ m ∧ m < 2147483648) (hfr : 0 ≤ fr ∧ fr < 36) (hto : 0 ≤ to ∧ to < 36) : lc_Con l yX6_whyNot cX6_whyNot 7 (some .int) (lc_Rd 5) [.ref (7), .ref (b), .int (lc_i (fr)), .int (lc_i (to)), .int (lc_i (if c = true then 1 else 0))] n σ (fun v n2 σ2 => ∃ (wk : Int × Int × Int × Int) (c1 c2 c3 : Int), v = some (.int (lc_i (lc_why f s q m fr to c))) ∧ n = n2 ∧ σ2 5 = some (.inr (9, [.ref (2), .ref (6), .int (lc_i ((wk).1)), .int (lc_i ((wk).2.1)), .int (lc_i ((wk).2.2.1)), .int (lc_i ((wk).2.2.2))]) : lc_Cel) ∧ σ2 6 = some (.inr (8, [.ref (2), .int (lc_i (c1)), .int (lc_i (c2)), .int (lc_i (c3))]) : lc_Cel) ∧ ∀ i : Nat, i ≠ 5 → i ≠ 6 → σ2 i = σ i) := by
  have hr1 := lc_res_r (lc_cnt f 1 36) (lc_cnt f 2 36) q m
  have hf1 := hf fr hfr.1 hfr.2
  have hf2 := hf to hto.1 hto.2
  refine lc_con RX6 false (by decide) rfl (fun h => absurd h (by decide)) (Nat.le_of_ble_eq_true rfl) ?_
  suffices H : ∀ Q : lc_QT, (∀ v n2 σ2, (fun v n2 σ2 => ∃ (wk : Int × Int × Int × Int) (c1 c2 c3 : Int), v = some (.int (lc_i (lc_why f s q m fr to c))) ∧ n = n2 ∧ σ2 5 = some (.inr (9, [.ref (2), .ref (6), .int (lc_i ((wk).1)), .int (lc_i ((wk).2.1)), .int (lc_i ((wk).2.2.1)), .int (lc_i ((wk).2.2.2))]) : lc_Cel) ∧ σ2 6 = some (.inr (8, [.ref (2), .int (lc_i (c1)), .int (lc_i (c2)), .int (lc_i (c3))]) : lc_Cel) ∧ ∀ i : Nat, i ≠ 5 → i ≠ 6 → σ2 i = σ i : lc_QT) v n2 σ2 → Q v n2 σ2) → lc_V l RX6 cX6_whyNot 7 (some .int) false (lc_Rd 5) (lc_G Q 0 0) lc_E0 0 0 n 0 [(0, .ref (7)), (1, .ref (b)), (2, .int (lc_i (fr))), (3, .int (lc_i (to))), (4, .int (lc_i (if c = true then 1 else 0)))] [] σ from H _ (fun _ _ _ h => h)
  intro Q hQ
  refine lc_aload_n dX6_whyNot_0 rfl 1 rfl ?_
  refine lc_callV (As := []) (stk := []) (b := b) dX6_whyNot_1 lc_mX6_28 lc_yX0_result h0_6 rfl (lc_cX0_result l n (b) (f) (lc_cnt (f) 1 36) (lc_cnt (f) 2 36) (s) (q) (m) σ h0_6 (lc_cnt_r _ _ 36) (lc_cnt_r _ _ 36) (by omega) (by omega)) rfl ⟨Nat.le_of_ble_eq_true rfl, Nat.le_of_ble_eq_true rfl⟩ ⟨Nat.le_of_ble_eq_true rfl, Nat.le_of_ble_eq_true rfl⟩ rfl (Nat.le_of_ble_eq_true rfl) (fun v1 n2 σ3 q4 => ?_)
  obtain ⟨rfl, rfl, rfl⟩ := q4
  refine lc_if_eq (tgt := 9) dX6_whyNot_4 (by decide) (by omega) (fun h_4_4 => ?_) (fun h_4_4 => ?_)
  · skip
    refine lc_aload_n dX6_whyNot_9 rfl 1 rfl ?_
    refine lc_callV (As := []) (stk := []) (b := b) dX6_whyNot_10 lc_mX6_34 lc_yX0_sideToMove h0_6 rfl (lc_cX0_sideToMove l n (b) (f) (lc_cnt (f) 1 36) (lc_cnt (f) 2 36) (s) (q) (m) σ h0_6) rfl ⟨Nat.le_of_ble_eq_true rfl, Nat.le_of_ble_eq_true rfl⟩ ⟨Nat.le_of_ble_eq_true rfl, Nat.le_of_ble_eq_true rfl⟩ rfl (Nat.le_of_ble_eq_true rfl) (fun v6 n7 σ8 q9 => ?_)
    obtain ⟨rfl, rfl, rfl⟩ := q9
    refine lc_istore (lv' := [(0, .ref (7)), (1, .ref (b)), (2, .int (lc_i (fr))), (3, .int (lc_i (to))), (4, .int (lc_i (if c = true then 1 else 0))), (5, .int (lc_i (s)))]) dX6_whyNot_13 (by decide) rfl ?_
    refine lc_aload_n dX6_whyNot_15 rfl 1 rfl ?_
    refine lc_iload_n dX6_whyNot_16 rfl 2 rfl ?_
    refine lc_callV (As := [.int (lc_i (fr))]) (stk := []) (b := b) dX6_whyNot_17 lc_mX6_37 lc_yX0_at h0_6 rfl (lc_cX0_at l n (b) (f) (lc_cnt (f) 1 36) (lc_cnt (f) 2 36) (s) (q) (m) (fr) σ h0_6 h0_7 (by omega)) rfl ⟨Nat.le_of_ble_eq_true rfl, Nat.le_of_ble_eq_true rfl⟩ ⟨Nat.le_of_ble_eq_true rfl, Nat.le_of_ble_eq_true rfl⟩ rfl (Nat.le_of_ble_eq_true rfl) (fun v10 n11 σ12 q13 => ?_)
    obtain ⟨rfl, rfl, rfl⟩ := q13
    refine lc_top (congrArg (fun z => Value.int (lc_i z)) (show (if 0 ≤ (fr) ∧ (fr) < 36 then (f) (fr) else 0 : Int) = f fr from by rw [if_pos (by omega)])) ?_
    refine lc_iload dX6_whyNot_20 5 rfl ?_
    refine lc_icmp_eq (tgt := 27) dX6_whyNot_22 (by decide) (by omega) (fun h_22_13 => ?_) (fun h_22_13 => ?_)
    · skip
      refine lc_aload_n dX6_whyNot_27 rfl 1 rfl ?_
      refine lc_iload_n dX6_whyNot_28 rfl 3 rfl ?_
      refine lc_callV (As := [.int (lc_i (to))]) (stk := []) (b := b) dX6_whyNot_29 lc_mX6_37 lc_yX0_at h0_6 rfl (lc_cX0_at l n (b) (f) (lc_cnt (f) 1 36) (lc_cnt (f) 2 36) (s) (q) (m) (to) σ h0_6 h0_7 (by omega)) rfl ⟨Nat.le_of_ble_eq_true rfl, Nat.le_of_ble_eq_true rfl⟩ ⟨Nat.le_of_ble_eq_true rfl, Nat.le_of_ble_eq_true rfl⟩ rfl (Nat.le_of_ble_eq_true rfl) (fun v15 n16 σ17 q18 => ?_)
      obtain ⟨rfl, rfl, rfl⟩ := q18
      refine lc_top (congrArg (fun z => Value.int (lc_i z)) (show (if 0 ≤ (to) ∧ (to) < 36 then (f) (to) else 0 : Int) = f to from by rw [if_pos (by omega)])) ?_
      refine lc_iload dX6_whyNot_32 5 rfl ?_
      refine lc_icmp_ne (tgt := 39) dX6_whyNot_34 (by decide) (by omega) (fun h_34_18 => ?_) (fun h_34_18 => ?_)
      · skip
        refine lc_iload dX6_whyNot_39 4 rfl ?_
        refine lc_if_eqB (tgt := 54) dX6_whyNot_41 (by decide) (fun h_41_19 => ?_) (fun h_41_19 => ?_)
        · skip
          refine lc_aload_n dX6_whyNot_54 rfl 1 rfl ?_
          refine lc_iload_n dX6_whyNot_55 rfl 2 rfl ?_
          refine lc_iload_n dX6_whyNot_56 rfl 3 rfl ?_
          refine lc_callS (As := [.ref (b), .int (lc_i (fr)), .int (lc_i (to))]) (stk := []) dX6_whyNot_57 lc_mX6_45 lc_yX6_couldStep (lc_cX6_couldStep l n (b) (f) (lc_cnt (f) 1 36) (lc_cnt (f) 2 36) (s) (q) (m) (fr) (to) σ h0_6 h0_7 (hf) (by omega) (by omega)) rfl ⟨Nat.le_of_ble_eq_true rfl, Nat.le_of_ble_eq_true rfl⟩ ⟨Nat.le_of_ble_eq_true rfl, Nat.le_of_ble_eq_true rfl⟩ rfl (Nat.le_of_ble_eq_true rfl) (fun v21 n22 σ23 q24 => ?_)
          obtain ⟨rfl, rfl, rfl⟩ := q24
          refine lc_istore (lv' := [(0, .ref (7)), (1, .ref (b)), (2, .int (lc_i (fr))), (3, .int (lc_i (to))), (4, .int (lc_i (if c = true then 1 else 0))), (5, .int (lc_i (s))), (6, .int (lc_i (if (lc_step (f) (fr) (to) = true) then 1 else 0)))]) dX6_whyNot_60 (by decide) rfl ?_
          refine lc_iload dX6_whyNot_62 6 rfl ?_
          refine lc_if_eqB (tgt := 71) dX6_whyNot_64 (by decide) (fun h_64_24 => ?_) (fun h_64_24 => ?_)
          · skip
            refine lc_iconst dX6_whyNot_71 ?_
            exact lc_iret dX6_whyNot_72 rfl (Nat.le_of_ble_eq_true rfl) (Nat.le_of_ble_eq_true rfl) (hQ _ _ _ ⟨(w), (a1), (a2), (a3), lc_some (by unfold lc_why; rw [if_neg (fun q9 => q9 h_4_4), if_neg (fun q9 => q9 h_22_13), if_neg h_34_18, lc_bif_f h_41_19, if_neg h_64_24]), rfl, h0_1, h0_2, (fun i _ _ => rfl)⟩)
          · skip
            refine lc_iconst dX6_whyNot_67 ?_
            refine lc_goto (tgt := 72) dX6_whyNot_68 (by decide) ?_
            exact lc_iret dX6_whyNot_72 rfl (Nat.le_of_ble_eq_true rfl) (Nat.le_of_ble_eq_true rfl) (hQ _ _ _ ⟨(w), (a1), (a2), (a3), lc_some (by unfold lc_why; rw [if_neg (fun q9 => q9 h_4_4), if_neg (fun q9 => q9 h_22_13), if_neg h_34_18, lc_bif_f h_41_19, if_pos h_64_24]), rfl, h0_1, h0_2, (fun i _ _ => rfl)⟩)
        · skip
          refine lc_aload_n dX6_whyNot_44 rfl 0 rfl ?_
          refine lc_aload_n dX6_whyNot_45 rfl 1 rfl ?_
          refine lc_iload_n dX6_whyNot_46 rfl 2 rfl ?_
          refine lc_iload_n dX6_whyNot_47 rfl 3 rfl ?_
          refine lc_callV (As := [.ref (b), .int (lc_i (fr)), .int (lc_i (to))]) (stk := []) (b := 7) dX6_whyNot_48 lc_mX6_41 lc_yX6_couldCapture h0_0 rfl (lc_cX6_couldCapture l n (a1) (a2) (a3) (w) (b) (f) (lc_cnt (f) 1 36) (lc_cnt (f) 2 36) (s) (q) (m) (fr) (to) σ h0_0 h0_1 h0_2 h0_3 h0_4 h0_5 h0_6 h0_7 (hf) (hb) (by omega) (by omega)) rfl ⟨Nat.le_of_ble_eq_true rfl, Nat.le_of_ble_eq_true rfl⟩ ⟨Nat.le_of_ble_eq_true rfl, Nat.le_of_ble_eq_true rfl⟩ rfl (Nat.le_of_ble_eq_true rfl) (fun v34 n35 σ36 q37 => ?_)
          obtain ⟨wk29, c30, c31, c32, rfl, rfl, h27, h28, he33, fr26⟩ := q37
          have h38 : σ36 (7) = some (.inr (6, [.ref (2), .ref (8), .ref (5)]) : lc_Cel) := (fr26 _ (by omega) (by omega)).trans h0_0
          have h39 : σ36 (2) = some (.inr (1, [.ref (3), .ref (4)]) : lc_Cel) := (fr26 _ (by omega) (by omega)).trans h0_3
          have h40 : σ36 (3) = some (lc_aI 48 (lc_pt)) := (fr26 _ (by omega) (by omega)).trans h0_4
          have h41 : σ36 (4) = some (lc_aI 72 (lc_sp)) := (fr26 _ (by omega) (by omega)).trans h0_5
          have h42 : σ36 (b) = some (.inr (0, [.ref (b + 1), .int (lc_i (lc_cnt (f) 1 36)), .int (lc_i (lc_cnt (f) 2 36)), .int (lc_i (s)), .int (lc_i (q)), .int (lc_i (m))]) : lc_Cel) := (fr26 _ (by omega) (by omega)).trans h0_6
          have h43 : σ36 (b + 1) = some (lc_aI 36 (f)) := (fr26 _ (by omega) (by omega)).trans h0_7
          refine lc_goto (tgt := 60) dX6_whyNot_51 (by decide) ?_
          refine lc_istore (lv' := [(0, .ref (7)), (1, .ref (b)), (2, .int (lc_i (fr))), (3, .int (lc_i (to))), (4, .int (lc_i (if c = true then 1 else 0))), (5, .int (lc_i (s))), (6, .int (lc_i (if (lc_cap (f) (fr) (to) = true) then 1 else 0)))]) dX6_whyNot_60 (by decide) rfl ?_
          refine lc_iload dX6_whyNot_62 6 rfl ?_
          refine lc_if_eqB (tgt := 71) dX6_whyNot_64 (by decide) (fun h_64_43 => ?_) (fun h_64_43 => ?_)
          · skip
            refine lc_iconst dX6_whyNot_71 ?_
            exact lc_iret dX6_whyNot_72 rfl (Nat.le_of_ble_eq_true rfl) (Nat.le_of_ble_eq_true rfl) (hQ _ _ _ ⟨(wk29), (c30), (c31), (c32), lc_some (by unfold lc_why; rw [if_neg (fun q9 => q9 h_4_4), if_neg (fun q9 => q9 h_22_13), if_neg h_34_18, lc_bif_t h_41_19, if_neg h_64_43]), rfl, h27, h28, (fun i _ _ => (fr26 i (by omega) (by omega)))⟩)
          · skip
            refine lc_iconst dX6_whyNot_67 ?_
            refine lc_goto (tgt := 72) dX6_whyNot_68 (by decide) ?_
            exact lc_iret dX6_whyNot_72 rfl (Nat.le_of_ble_eq_true rfl) (Nat.le_of_ble_eq_true rfl) (hQ _ _ _ ⟨(wk29), (c30), (c31), (c32), lc_some (by unfold lc_why; rw [if_neg (fun q9 => q9 h_4_4), if_neg (fun q9 => q9 h_22_13), if_neg h_34_18, lc_bif_t h_41_19, if_pos h_64_43]), rfl, h27, h28, (fun i _ _ => (fr26 i (by omega) (by omega)))⟩)
      · skip
        refine lc_iconst dX6_whyNot_37 ?_
        exact lc_iret dX6_whyNot_38 rfl (Nat.le_of_ble_eq_true rfl) (Nat.le_of_ble_eq_true rfl) (hQ _ _ _ ⟨(w), (a1), (a2), (a3), lc_some (by unfold lc_why; rw [if_neg (fun q9 => q9 h_4_4), if_neg (fun q9 => q9 h_22_13), if_pos h_34_18]), rfl, h0_1, h0_2, (fun i _ _ => rfl)⟩)
    · skip
      refine lc_iconst dX6_whyNot_25 ?_
      exact lc_iret dX6_whyNot_26 rfl (Nat.le_of_ble_eq_true rfl) (Nat.le_of_ble_eq_true rfl) (hQ _ _ _ ⟨(w), (a1), (a2), (a3), lc_some (by unfold lc_why; rw [if_neg (fun q9 => q9 h_4_4), if_pos h_22_13]), rfl, h0_1, h0_2, (fun i _ _ => rfl)⟩)
  · skip
    refine lc_iconst dX6_whyNot_7 ?_
    exact lc_iret dX6_whyNot_8 rfl (Nat.le_of_ble_eq_true rfl) (Nat.le_of_ble_eq_true rfl) (hQ _ _ _ ⟨(w), (a1), (a2), (a3), lc_some (by unfold lc_why; rw [if_pos h_4_4]), rfl, h0_1, h0_2, (fun i _ _ => rfl)⟩)
