/-! LoopCaptures$Board -/
def lc_d (x k : Int) : Int := if x = k then 1 else 0
def lc_cnt (f : Int → Int) (k : Int) : Nat → Int
  | 0 => 0
  | n + 1 => lc_cnt f k n + lc_d (f n) k
theorem lc_cnt_ext {f g : Int → Int} {k : Int} : ∀ (N : Nat), (∀ i : Int, 0 ≤ i → i < N → f i = g i) → lc_cnt f k N = lc_cnt g k N
  | 0, _ => rfl
  | N + 1, h => by
    unfold lc_cnt
    rw [lc_cnt_ext N (fun i h1 h2 => h i h1 (by omega)), h N (by omega) (by omega)]
theorem lc_cnt_u {f : Int → Int} {k p w : Int} : ∀ (N : Nat), 0 ≤ p → p < N → lc_cnt (lc_u f p w) k N = lc_cnt f k N - lc_d (f p) k + lc_d w k
  | 0, h1, h2 => absurd h2 (by omega)
  | N + 1, h1, h2 => by
    unfold lc_cnt
    by_cases h : p = N
    · subst h
      rw [lc_u_s, lc_cnt_ext (g := f) N (fun i h3 h4 => lc_u_n _ _ (by omega))]
      omega
    · rw [lc_u_n _ _ (by omega), lc_cnt_u N h1 (by omega)]
      omega
theorem lc_d_r (x k : Int) : 0 ≤ lc_d x k ∧ lc_d x k ≤ 1 := by
  unfold lc_d
  split <;> omega
theorem lc_cnt_r (f : Int → Int) (k : Int) : ∀ (N : Nat), 0 ≤ lc_cnt f k N ∧ lc_cnt f k N ≤ N
  | 0 => by unfold lc_cnt; omega
  | N + 1 => by
    have h1 := lc_cnt_r f k N
    have h2 := lc_d_r (f N) k
    unfold lc_cnt
    omega
def lc_f0 (p : Int) : Int := if p < 12 then 1 else if p < 24 then 0 else 2
def lc_res (o t q m : Int) : Int := if o = 0 ∧ t = 0 then 3 else if t = 0 then 1 else if o = 0 then 2 else if m ≤ q then 3 else 0
def lc_key (f : Int → Int) (s : Int) : Nat → Int
  | 0 => s
  | k + 1 => lc_key f s k * 3 + f k
def lc_j (z : Int) : Int64 := Int64.ofInt z
theorem lc_j_add (a b : Int) : lc_j a + lc_j b = lc_j (a + b) := (Int64.ofInt_add a b).symm
theorem lc_j_mul (a b : Int) : lc_j a * lc_j b = lc_j (a * b) := (Int64.ofInt_mul a b).symm
theorem lc_j_i {z : Int} (h : -2147483648 ≤ z ∧ z < 2147483648) : (lc_i z).toInt64 = lc_j z := by
  unfold lc_i lc_j
  exact Int32.toInt64_ofInt (by have : Int32.minValue.toInt = -2147483648 := by decide
                                omega) (by have : Int32.maxValue.toInt = 2147483647 := by decide
                                           omega)
theorem lc_j_3 : (3 : Int64) = lc_j 3 := by decide
theorem lc_ub {α : Type} {fi g : Int → α} {i : Int} (h : ∀ j : Int, 0 ≤ j → j < i → fi j = g j) : ∀ j : Int, 0 ≤ j → j < i + 1 → lc_u fi i (g i) j = g j := by
  intro j h1 h2
  by_cases e : j = i
  · rw [e, lc_u_s]
  · rw [lc_u_n _ _ e]
    exact h j h1 (by omega)
theorem lc_ua {α : Type} {fi f : Int → α} {i N : Int} {w : α} (h : ∀ j : Int, i ≤ j → j < N → fi j = f j) : ∀ j : Int, i + 1 ≤ j → j < N → lc_u fi i w j = f j := by
  intro j h1 h2
  rw [lc_u_n _ _ (by omega)]
  exact h j (by omega) h2
theorem lc_f0_r (p : Int) : -2147483648 ≤ lc_f0 p ∧ lc_f0 p < 2147483648 := by unfold lc_f0; (repeat' split) <;> omega
theorem lc_f0_1 : lc_cnt lc_f0 1 36 = 12 := by decide
theorem lc_f0_2 : lc_cnt lc_f0 2 36 = 12 := by decide
theorem lc_rng2 {x : Int} (h : 0 ≤ x ∧ x ≤ 2) : -2147483648 ≤ x ∧ x < 2147483648 := by omega

set_option maxRecDepth 100000 in
set_option maxHeartbeats 4000000 in
theorem lc_cX0_firstSideAt (l : Launch) (n : Nat) (p : Int) (σ : lc_S)  (hp : 0 ≤ p ∧ p < 36) : lc_Con l yX0_firstSideAt cX0_firstSideAt 1 (some .int) (lc_Rd 0) [.int (lc_i (p))] n σ (fun v n2 σ2 => v = some (.int (lc_i (lc_f0 p))) ∧ n = n2 ∧ σ = σ2) := by
  refine lc_con RX0 false (by decide) rfl (fun h => absurd h (by decide)) (Nat.le_of_ble_eq_true rfl) ?_
  suffices H : ∀ Q : lc_QT, (∀ v n2 σ2, (fun v n2 σ2 => v = some (.int (lc_i (lc_f0 p))) ∧ n = n2 ∧ σ = σ2 : lc_QT) v n2 σ2 → Q v n2 σ2) → lc_V l RX0 cX0_firstSideAt 1 (some .int) false (lc_Rd 0) (lc_G Q 0 0) lc_E0 0 0 n 0 [(0, .int (lc_i (p)))] [] σ from H _ (fun _ _ _ h => h)
  intro Q hQ
  refine lc_iload_n dX0_firstSideAt_0 rfl 0 rfl ?_
  refine lc_bipush dX0_firstSideAt_1 (by decide) ?_
  refine lc_icmp_ge (tgt := 8) dX0_firstSideAt_3 (by decide) (by omega) (fun h_3_0 => ?_) (fun h_3_0 => ?_)
  · skip
    refine lc_iload_n dX0_firstSideAt_8 rfl 0 rfl ?_
    refine lc_bipush dX0_firstSideAt_9 (by decide) ?_
    refine lc_icmp_ge (tgt := 18) dX0_firstSideAt_11 (by decide) (by omega) (fun h_11_1 => ?_) (fun h_11_1 => ?_)
    · skip
      refine lc_iconst dX0_firstSideAt_18 ?_
      exact lc_iret dX0_firstSideAt_19 rfl (Nat.le_of_ble_eq_true rfl) (Nat.le_of_ble_eq_true rfl) (hQ _ _ _ ⟨lc_some (by unfold lc_f0; (repeat' split) <;> omega), rfl, rfl⟩)
    · skip
      refine lc_iconst dX0_firstSideAt_14 ?_
      refine lc_goto (tgt := 19) dX0_firstSideAt_15 (by decide) ?_
      exact lc_iret dX0_firstSideAt_19 rfl (Nat.le_of_ble_eq_true rfl) (Nat.le_of_ble_eq_true rfl) (hQ _ _ _ ⟨lc_some (by unfold lc_f0; (repeat' split) <;> omega), rfl, rfl⟩)
  · skip
    refine lc_iconst dX0_firstSideAt_6 ?_
    exact lc_iret dX0_firstSideAt_7 rfl (Nat.le_of_ble_eq_true rfl) (Nat.le_of_ble_eq_true rfl) (hQ _ _ _ ⟨lc_some (by unfold lc_f0; (repeat' split) <;> omega), rfl, rfl⟩)

set_option maxRecDepth 100000 in
set_option maxHeartbeats 4000000 in
/-- Board.at: what stands at a point -/
theorem lc_cX0_at (l : Launch) (n : Nat) (b : Nat) (f : Int → Int) (o t s q m : Int) (p : Int) (σ : lc_S) (h0_0 : σ (b) = some (.inr (0, [.ref (b + 1), .int (lc_i (o)), .int (lc_i (t)), .int (lc_i (s)), .int (lc_i (q)), .int (lc_i (m))]) : lc_Cel)) (h0_1 : σ (b + 1) = some (lc_aI 36 (f))) (hp : -2147483648 ≤ p ∧ p < 2147483648) : lc_Con l yX0_at cX0_at 2 (some .int) (lc_Rd 0) [.ref (b), .int (lc_i (p))] n σ (fun v n2 σ2 => v = some (.int (lc_i (if 0 ≤ p ∧ p < 36 then f p else 0))) ∧ n = n2 ∧ σ = σ2) := by
  refine lc_con RX0 false (by decide) rfl (fun h => absurd h (by decide)) (Nat.le_of_ble_eq_true rfl) ?_
  suffices H : ∀ Q : lc_QT, (∀ v n2 σ2, (fun v n2 σ2 => v = some (.int (lc_i (if 0 ≤ p ∧ p < 36 then f p else 0))) ∧ n = n2 ∧ σ = σ2 : lc_QT) v n2 σ2 → Q v n2 σ2) → lc_V l RX0 cX0_at 2 (some .int) false (lc_Rd 0) (lc_G Q 0 0) lc_E0 0 0 n 0 [(0, .ref (b)), (1, .int (lc_i (p)))] [] σ from H _ (fun _ _ _ h => h)
  intro Q hQ
  refine lc_iload_n dX0_at_0 rfl 1 rfl ?_
  refine lc_if_lt (tgt := 22) dX0_at_1 (by decide) (by omega) (fun h_1_0 => ?_) (fun h_1_0 => ?_)
  · skip
    refine lc_iconst dX0_at_22 ?_
    exact lc_iret dX0_at_23 rfl (Nat.le_of_ble_eq_true rfl) (Nat.le_of_ble_eq_true rfl) (hQ _ _ _ ⟨lc_some (by (repeat' split) <;> omega), rfl, rfl⟩)
  · skip
    refine lc_iload_n dX0_at_4 rfl 1 rfl ?_
    refine lc_aload_n dX0_at_5 rfl 0 rfl ?_
    refine lc_get dX0_at_6 lc_fX0_9 h0_0 rfl ?_
    refine lc_alenV (v := 36) dX0_at_9 h0_1 (by decide) rfl ?_
    refine lc_icmp_ge (tgt := 22) dX0_at_10 (by decide) (by omega) (fun h_10_1 => ?_) (fun h_10_1 => ?_)
    · skip
      refine lc_iconst dX0_at_22 ?_
      exact lc_iret dX0_at_23 rfl (Nat.le_of_ble_eq_true rfl) (Nat.le_of_ble_eq_true rfl) (hQ _ _ _ ⟨lc_some (by (repeat' split) <;> omega), rfl, rfl⟩)
    · skip
      refine lc_aload_n dX0_at_13 rfl 0 rfl ?_
      refine lc_get dX0_at_14 lc_fX0_9 h0_0 rfl ?_
      refine lc_iload_n dX0_at_17 rfl 1 rfl ?_
      refine lc_iald dX0_at_18 h0_1 (by omega) (by decide) ?_
      refine lc_goto (tgt := 23) dX0_at_19 (by decide) ?_
      exact lc_iret dX0_at_23 rfl (Nat.le_of_ble_eq_true rfl) (Nat.le_of_ble_eq_true rfl) (hQ _ _ _ ⟨lc_some (by (repeat' split) <;> omega), rfl, rfl⟩)

set_option maxRecDepth 100000 in
set_option maxHeartbeats 4000000 in
/-- Board.tally -/
theorem lc_cX0_tally (l : Launch) (n : Nat) (b : Nat) (f : Int → Int) (o t s q m : Int) (w c : Int) (σ : lc_S) (h0_0 : σ (b) = some (.inr (0, [.ref (b + 1), .int (lc_i (o)), .int (lc_i (t)), .int (lc_i (s)), .int (lc_i (q)), .int (lc_i (m))]) : lc_Cel)) (hw : -2147483648 ≤ w ∧ w < 2147483648) : lc_Con l yX0_tally cX0_tally 3 none (lc_Rd 0) [.ref (b), .int (lc_i (w)), .int (lc_i (c))] n σ (fun v n2 σ2 => v = none ∧ n = n2 ∧ σ2 (b) = some (.inr (0, [.ref (b + 1), .int (lc_i (if w = 1 then o + c else o)), .int (lc_i (if w = 2 then t + c else t)), .int (lc_i (s)), .int (lc_i (q)), .int (lc_i (m))]) : lc_Cel) ∧ ∀ i : Nat, i ≠ b → σ2 i = σ i) := by
  refine lc_con RX0 false (by decide) rfl (fun h => absurd h (by decide)) (Nat.le_of_ble_eq_true rfl) ?_
  suffices H : ∀ Q : lc_QT, (∀ v n2 σ2, (fun v n2 σ2 => v = none ∧ n = n2 ∧ σ2 (b) = some (.inr (0, [.ref (b + 1), .int (lc_i (if w = 1 then o + c else o)), .int (lc_i (if w = 2 then t + c else t)), .int (lc_i (s)), .int (lc_i (q)), .int (lc_i (m))]) : lc_Cel) ∧ ∀ i : Nat, i ≠ b → σ2 i = σ i : lc_QT) v n2 σ2 → Q v n2 σ2) → lc_V l RX0 cX0_tally 3 none false (lc_Rd 0) (lc_G Q 0 0) lc_E0 0 0 n 0 [(0, .ref (b)), (1, .int (lc_i (w))), (2, .int (lc_i (c)))] [] σ from H _ (fun _ _ _ h => h)
  intro Q hQ
  refine lc_iload_n dX0_tally_0 rfl 1 rfl ?_
  refine lc_iconst dX0_tally_1 ?_
  refine lc_icmp_ne (tgt := 18) dX0_tally_2 (by decide) (by omega) (fun h_2_0 => ?_) (fun h_2_0 => ?_)
  · skip
    refine lc_iload_n dX0_tally_18 rfl 1 rfl ?_
    refine lc_iconst dX0_tally_19 ?_
    refine lc_icmp_ne (tgt := 33) dX0_tally_20 (by decide) (by omega) (fun h_20_1 => ?_) (fun h_20_1 => ?_)
    · skip
      exact lc_vret dX0_tally_33 rfl (Nat.le_of_ble_eq_true rfl) (Nat.le_of_ble_eq_true rfl) (hQ _ _ _ ⟨rfl, rfl, (by rw [h0_0, show (if w = 1 then o + c else o : Int) = o from (by (repeat' split) <;> omega), show (if w = 2 then t + c else t : Int) = t from (by (repeat' split) <;> omega)]), (fun i _ => rfl)⟩)
    · skip
      refine lc_aload_n dX0_tally_23 rfl 0 rfl ?_
      refine lc_dup dX0_tally_24 rfl ?_
      refine lc_get dX0_tally_25 lc_fX0_39 h0_0 rfl ?_
      refine lc_iload_n dX0_tally_28 rfl 2 rfl ?_
      refine lc_iadd dX0_tally_29 ?_
      refine lc_wI (vs' := [.ref (b + 1), .int (lc_i (o)), .int (lc_i ((t) + (c))), .int (lc_i (s)), .int (lc_i (q)), .int (lc_i (m))]) dX0_tally_30 lc_fX0_39 h0_0 (Nat.le_of_ble_eq_true rfl) rfl rfl rfl (fun σ3 h4 fr5 => ?_)
      exact lc_vret dX0_tally_33 rfl (Nat.le_of_ble_eq_true rfl) (Nat.le_of_ble_eq_true rfl) (hQ _ _ _ ⟨rfl, rfl, (by rw [h4, show (if w = 1 then o + c else o : Int) = o from (by (repeat' split) <;> omega), show (if w = 2 then t + c else t : Int) = (t) + (c) from (by (repeat' split) <;> omega)]), (fun i _ => (fr5 i (by omega)))⟩)
  · skip
    refine lc_aload_n dX0_tally_5 rfl 0 rfl ?_
    refine lc_dup dX0_tally_6 rfl ?_
    refine lc_get dX0_tally_7 lc_fX0_36 h0_0 rfl ?_
    refine lc_iload_n dX0_tally_10 rfl 2 rfl ?_
    refine lc_iadd dX0_tally_11 ?_
    refine lc_wI (vs' := [.ref (b + 1), .int (lc_i ((o) + (c))), .int (lc_i (t)), .int (lc_i (s)), .int (lc_i (q)), .int (lc_i (m))]) dX0_tally_12 lc_fX0_36 h0_0 (Nat.le_of_ble_eq_true rfl) rfl rfl rfl (fun σ6 h7 fr8 => ?_)
    refine lc_goto (tgt := 33) dX0_tally_15 (by decide) ?_
    exact lc_vret dX0_tally_33 rfl (Nat.le_of_ble_eq_true rfl) (Nat.le_of_ble_eq_true rfl) (hQ _ _ _ ⟨rfl, rfl, (by rw [h7, show (if w = 1 then o + c else o : Int) = (o) + (c) from (by (repeat' split) <;> omega), show (if w = 2 then t + c else t : Int) = t from (by (repeat' split) <;> omega)]), (fun i _ => (fr8 i (by omega)))⟩)

set_option maxRecDepth 100000 in
set_option maxHeartbeats 4000000 in
/-- Board.put: the counts stay right -/
theorem lc_cX0_put (l : Launch) (n : Nat) (b : Nat) (f : Int → Int) (s q m : Int) (p w : Int) (σ : lc_S) (h0_0 : σ (b) = some (.inr (0, [.ref (b + 1), .int (lc_i (lc_cnt (f) 1 36)), .int (lc_i (lc_cnt (f) 2 36)), .int (lc_i (s)), .int (lc_i (q)), .int (lc_i (m))]) : lc_Cel)) (h0_1 : σ (b + 1) = some (lc_aI 36 (f))) (hp : 0 ≤ p ∧ p < 36) (hv : -2147483648 ≤ f p ∧ f p < 2147483648) (hw : -2147483648 ≤ w ∧ w < 2147483648) : lc_Con l yX0_put cX0_put 3 none (lc_Rd 1) [.ref (b), .int (lc_i (p)), .int (lc_i (w))] n σ (fun v n2 σ2 => v = none ∧ n = n2 ∧ σ2 (b) = some (.inr (0, [.ref (b + 1), .int (lc_i (lc_cnt (lc_u f p w) 1 36)), .int (lc_i (lc_cnt (lc_u f p w) 2 36)), .int (lc_i (s)), .int (lc_i (q)), .int (lc_i (m))]) : lc_Cel) ∧ σ2 (b + 1) = some (lc_aI 36 (lc_u f p w)) ∧ ∀ i : Nat, i ≠ b → i ≠ b + 1 → σ2 i = σ i) := by
  refine lc_con RX0 false (by decide) rfl (fun h => absurd h (by decide)) (Nat.le_of_ble_eq_true rfl) ?_
  suffices H : ∀ Q : lc_QT, (∀ v n2 σ2, (fun v n2 σ2 => v = none ∧ n = n2 ∧ σ2 (b) = some (.inr (0, [.ref (b + 1), .int (lc_i (lc_cnt (lc_u f p w) 1 36)), .int (lc_i (lc_cnt (lc_u f p w) 2 36)), .int (lc_i (s)), .int (lc_i (q)), .int (lc_i (m))]) : lc_Cel) ∧ σ2 (b + 1) = some (lc_aI 36 (lc_u f p w)) ∧ ∀ i : Nat, i ≠ b → i ≠ b + 1 → σ2 i = σ i : lc_QT) v n2 σ2 → Q v n2 σ2) → lc_V l RX0 cX0_put 3 none false (lc_Rd 1) (lc_G Q 0 0) lc_E0 0 0 n 0 [(0, .ref (b)), (1, .int (lc_i (p))), (2, .int (lc_i (w)))] [] σ from H _ (fun _ _ _ h => h)
  intro Q hQ
  refine lc_iload_n dX0_put_0 rfl 1 rfl ?_
  refine lc_if_lt (tgt := 13) dX0_put_1 (by decide) (by omega) (fun h_1_0 => ?_) (fun h_1_0 => ?_)
  · omega
  · skip
    refine lc_iload_n dX0_put_4 rfl 1 rfl ?_
    refine lc_aload_n dX0_put_5 rfl 0 rfl ?_
    refine lc_get dX0_put_6 lc_fX0_9 h0_0 rfl ?_
    refine lc_alenV (v := 36) dX0_put_9 h0_1 (by decide) rfl ?_
    refine lc_icmp_lt (tgt := 14) dX0_put_10 (by decide) (by omega) (fun h_10_1 => ?_) (fun h_10_1 => ?_)
    · skip
      refine lc_aload_n dX0_put_14 rfl 0 rfl ?_
      refine lc_aload_n dX0_put_15 rfl 0 rfl ?_
      refine lc_get dX0_put_16 lc_fX0_9 h0_0 rfl ?_
      refine lc_iload_n dX0_put_19 rfl 1 rfl ?_
      refine lc_iald dX0_put_20 h0_1 (by omega) (by decide) ?_
      refine lc_iconst dX0_put_21 ?_
      refine lc_callV (As := [.int (lc_i ((f) (p))), .int (lc_i ((-1)))]) (stk := []) (b := b) dX0_put_22 lc_mX0_42 lc_yX0_tally h0_0 rfl (lc_cX0_tally l n (b) (f) (lc_cnt (f) 1 36) (lc_cnt (f) 2 36) (s) (q) (m) ((f) (p)) ((-1)) σ h0_0 (by omega)) rfl ⟨Nat.le_of_ble_eq_true rfl, Nat.le_of_ble_eq_true rfl⟩ ⟨Nat.le_of_ble_eq_true rfl, Nat.le_of_ble_eq_true rfl⟩ rfl (Nat.le_of_ble_eq_true rfl) (fun v5 n6 σ7 q8 => ?_)
      obtain ⟨rfl, rfl, h4, fr3⟩ := q8
      have h9 : σ7 (b + 1) = some (lc_aI 36 (f)) := (fr3 _ (by omega)).trans h0_1
      refine lc_aload_n dX0_put_25 rfl 0 rfl ?_
      refine lc_iload_n dX0_put_26 rfl 2 rfl ?_
      refine lc_iconst dX0_put_27 ?_
      refine lc_callV (As := [.int (lc_i (w)), .int (lc_i (1))]) (stk := []) (b := b) dX0_put_28 lc_mX0_42 lc_yX0_tally h4 rfl (lc_cX0_tally l n (b) (f) (if ((f) (p)) = 1 then (lc_cnt (f) 1 36) + ((-1)) else (lc_cnt (f) 1 36)) (if ((f) (p)) = 2 then (lc_cnt (f) 2 36) + ((-1)) else (lc_cnt (f) 2 36)) (s) (q) (m) (w) (1) σ7 h4 (by omega)) rfl ⟨Nat.le_of_ble_eq_true rfl, Nat.le_of_ble_eq_true rfl⟩ ⟨Nat.le_of_ble_eq_true rfl, Nat.le_of_ble_eq_true rfl⟩ rfl (Nat.le_of_ble_eq_true rfl) (fun v12 n13 σ14 q15 => ?_)
      obtain ⟨rfl, rfl, h11, fr10⟩ := q15
      have h16 : σ14 (b + 1) = some (lc_aI 36 (f)) := (fr10 _ (by omega)).trans h9
      refine lc_aload_n dX0_put_31 rfl 0 rfl ?_
      refine lc_get dX0_put_32 lc_fX0_9 h11 rfl ?_
      refine lc_iload_n dX0_put_35 rfl 1 rfl ?_
      refine lc_iload_n dX0_put_36 rfl 2 rfl ?_
      refine lc_sI dX0_put_37 h16 (by omega) (by decide) (fun σ17 h18 fr19 => ?_)
      have h20 : σ17 (b) = some (.inr (0, [.ref (b + 1), .int (lc_i (if (w) = 1 then (if ((f) (p)) = 1 then (lc_cnt (f) 1 36) + ((-1)) else (lc_cnt (f) 1 36)) + (1) else (if ((f) (p)) = 1 then (lc_cnt (f) 1 36) + ((-1)) else (lc_cnt (f) 1 36)))), .int (lc_i (if (w) = 2 then (if ((f) (p)) = 2 then (lc_cnt (f) 2 36) + ((-1)) else (lc_cnt (f) 2 36)) + (1) else (if ((f) (p)) = 2 then (lc_cnt (f) 2 36) + ((-1)) else (lc_cnt (f) 2 36)))), .int (lc_i (s)), .int (lc_i (q)), .int (lc_i (m))]) : lc_Cel) := (fr19 _ (by omega)).trans h11
      exact lc_vret dX0_put_38 rfl (Nat.le_of_ble_eq_true rfl) (Nat.le_of_ble_eq_true rfl) (hQ _ _ _ ⟨rfl, rfl, (by rw [h20, show (lc_cnt (lc_u f p w) 1 36 : Int) = if (w) = 1 then (if ((f) (p)) = 1 then (lc_cnt (f) 1 36) + ((-1)) else (lc_cnt (f) 1 36)) + (1) else (if ((f) (p)) = 1 then (lc_cnt (f) 1 36) + ((-1)) else (lc_cnt (f) 1 36)) from (by rw [lc_cnt_u (f := f) 36 hp.1 hp.2]; unfold lc_d; (repeat' split) <;> omega), show (lc_cnt (lc_u f p w) 2 36 : Int) = if (w) = 2 then (if ((f) (p)) = 2 then (lc_cnt (f) 2 36) + ((-1)) else (lc_cnt (f) 2 36)) + (1) else (if ((f) (p)) = 2 then (lc_cnt (f) 2 36) + ((-1)) else (lc_cnt (f) 2 36)) from (by rw [lc_cnt_u (f := f) 36 hp.1 hp.2]; unfold lc_d; (repeat' split) <;> omega)]), h18, (fun i _ _ => ((fr19 i (by omega)).trans ((fr10 i (by omega)).trans (fr3 i (by omega)))))⟩)
    · omega

set_option maxRecDepth 100000 in
set_option maxHeartbeats 4000000 in
theorem lc_cX0_piecesOf (l : Launch) (n : Nat) (b : Nat) (f : Int → Int) (o t s q m : Int) (k : Int) (σ : lc_S) (h0_0 : σ (b) = some (.inr (0, [.ref (b + 1), .int (lc_i (o)), .int (lc_i (t)), .int (lc_i (s)), .int (lc_i (q)), .int (lc_i (m))]) : lc_Cel)) (hk : -2147483648 ≤ k ∧ k < 2147483648) : lc_Con l yX0_piecesOf cX0_piecesOf 2 (some .int) (lc_Rd 0) [.ref (b), .int (lc_i (k))] n σ (fun v n2 σ2 => v = some (.int (lc_i (if k = 1 then o else t))) ∧ n = n2 ∧ σ = σ2) := by
  refine lc_con RX0 false (by decide) rfl (fun h => absurd h (by decide)) (Nat.le_of_ble_eq_true rfl) ?_
  suffices H : ∀ Q : lc_QT, (∀ v n2 σ2, (fun v n2 σ2 => v = some (.int (lc_i (if k = 1 then o else t))) ∧ n = n2 ∧ σ = σ2 : lc_QT) v n2 σ2 → Q v n2 σ2) → lc_V l RX0 cX0_piecesOf 2 (some .int) false (lc_Rd 0) (lc_G Q 0 0) lc_E0 0 0 n 0 [(0, .ref (b)), (1, .int (lc_i (k)))] [] σ from H _ (fun _ _ _ h => h)
  intro Q hQ
  refine lc_iload_n dX0_piecesOf_0 rfl 1 rfl ?_
  refine lc_iconst dX0_piecesOf_1 ?_
  refine lc_icmp_ne (tgt := 12) dX0_piecesOf_2 (by decide) (by omega) (fun h_2_0 => ?_) (fun h_2_0 => ?_)
  · skip
    refine lc_aload_n dX0_piecesOf_12 rfl 0 rfl ?_
    refine lc_get dX0_piecesOf_13 lc_fX0_39 h0_0 rfl ?_
    exact lc_iret dX0_piecesOf_16 rfl (Nat.le_of_ble_eq_true rfl) (Nat.le_of_ble_eq_true rfl) (hQ _ _ _ ⟨lc_some (by (repeat' split) <;> omega), rfl, rfl⟩)
  · skip
    refine lc_aload_n dX0_piecesOf_5 rfl 0 rfl ?_
    refine lc_get dX0_piecesOf_6 lc_fX0_36 h0_0 rfl ?_
    refine lc_goto (tgt := 16) dX0_piecesOf_9 (by decide) ?_
    exact lc_iret dX0_piecesOf_16 rfl (Nat.le_of_ble_eq_true rfl) (Nat.le_of_ble_eq_true rfl) (hQ _ _ _ ⟨lc_some (by (repeat' split) <;> omega), rfl, rfl⟩)

set_option maxRecDepth 100000 in
set_option maxHeartbeats 4000000 in
theorem lc_cX0_allPieces (l : Launch) (n : Nat) (b : Nat) (f : Int → Int) (o t s q m : Int) (σ : lc_S) (h0_0 : σ (b) = some (.inr (0, [.ref (b + 1), .int (lc_i (o)), .int (lc_i (t)), .int (lc_i (s)), .int (lc_i (q)), .int (lc_i (m))]) : lc_Cel))  : lc_Con l yX0_allPieces cX0_allPieces 1 (some .int) (lc_Rd 0) [.ref (b)] n σ (fun v n2 σ2 => v = some (.int (lc_i (o + t))) ∧ n = n2 ∧ σ = σ2) := by
  refine lc_con RX0 false (by decide) rfl (fun h => absurd h (by decide)) (Nat.le_of_ble_eq_true rfl) ?_
  suffices H : ∀ Q : lc_QT, (∀ v n2 σ2, (fun v n2 σ2 => v = some (.int (lc_i (o + t))) ∧ n = n2 ∧ σ = σ2 : lc_QT) v n2 σ2 → Q v n2 σ2) → lc_V l RX0 cX0_allPieces 1 (some .int) false (lc_Rd 0) (lc_G Q 0 0) lc_E0 0 0 n 0 [(0, .ref (b))] [] σ from H _ (fun _ _ _ h => h)
  intro Q hQ
  refine lc_aload_n dX0_allPieces_0 rfl 0 rfl ?_
  refine lc_get dX0_allPieces_1 lc_fX0_36 h0_0 rfl ?_
  refine lc_aload_n dX0_allPieces_4 rfl 0 rfl ?_
  refine lc_get dX0_allPieces_5 lc_fX0_39 h0_0 rfl ?_
  refine lc_iadd dX0_allPieces_8 ?_
  exact lc_iret dX0_allPieces_9 rfl (Nat.le_of_ble_eq_true rfl) (Nat.le_of_ble_eq_true rfl) (hQ _ _ _ ⟨rfl, rfl, rfl⟩)

set_option maxRecDepth 100000 in
set_option maxHeartbeats 4000000 in
theorem lc_cX0_sideToMove (l : Launch) (n : Nat) (b : Nat) (f : Int → Int) (o t s q m : Int) (σ : lc_S) (h0_0 : σ (b) = some (.inr (0, [.ref (b + 1), .int (lc_i (o)), .int (lc_i (t)), .int (lc_i (s)), .int (lc_i (q)), .int (lc_i (m))]) : lc_Cel))  : lc_Con l yX0_sideToMove cX0_sideToMove 1 (some .int) (lc_Rd 0) [.ref (b)] n σ (fun v n2 σ2 => v = some (.int (lc_i (s))) ∧ n = n2 ∧ σ = σ2) := by
  refine lc_con RX0 false (by decide) rfl (fun h => absurd h (by decide)) (Nat.le_of_ble_eq_true rfl) ?_
  suffices H : ∀ Q : lc_QT, (∀ v n2 σ2, (fun v n2 σ2 => v = some (.int (lc_i (s))) ∧ n = n2 ∧ σ = σ2 : lc_QT) v n2 σ2 → Q v n2 σ2) → lc_V l RX0 cX0_sideToMove 1 (some .int) false (lc_Rd 0) (lc_G Q 0 0) lc_E0 0 0 n 0 [(0, .ref (b))] [] σ from H _ (fun _ _ _ h => h)
  intro Q hQ
  refine lc_aload_n dX0_sideToMove_0 rfl 0 rfl ?_
  refine lc_get dX0_sideToMove_1 lc_fX0_30 h0_0 rfl ?_
  exact lc_iret dX0_sideToMove_4 rfl (Nat.le_of_ble_eq_true rfl) (Nat.le_of_ble_eq_true rfl) (hQ _ _ _ ⟨rfl, rfl, rfl⟩)

set_option maxRecDepth 100000 in
set_option maxHeartbeats 4000000 in
theorem lc_cX0_quietMoves (l : Launch) (n : Nat) (b : Nat) (f : Int → Int) (o t s q m : Int) (σ : lc_S) (h0_0 : σ (b) = some (.inr (0, [.ref (b + 1), .int (lc_i (o)), .int (lc_i (t)), .int (lc_i (s)), .int (lc_i (q)), .int (lc_i (m))]) : lc_Cel))  : lc_Con l yX0_quietMoves cX0_quietMoves 1 (some .int) (lc_Rd 0) [.ref (b)] n σ (fun v n2 σ2 => v = some (.int (lc_i (q))) ∧ n = n2 ∧ σ = σ2) := by
  refine lc_con RX0 false (by decide) rfl (fun h => absurd h (by decide)) (Nat.le_of_ble_eq_true rfl) ?_
  suffices H : ∀ Q : lc_QT, (∀ v n2 σ2, (fun v n2 σ2 => v = some (.int (lc_i (q))) ∧ n = n2 ∧ σ = σ2 : lc_QT) v n2 σ2 → Q v n2 σ2) → lc_V l RX0 cX0_quietMoves 1 (some .int) false (lc_Rd 0) (lc_G Q 0 0) lc_E0 0 0 n 0 [(0, .ref (b))] [] σ from H _ (fun _ _ _ h => h)
  intro Q hQ
  refine lc_aload_n dX0_quietMoves_0 rfl 0 rfl ?_
  refine lc_get dX0_quietMoves_1 lc_fX0_33 h0_0 rfl ?_
  exact lc_iret dX0_quietMoves_4 rfl (Nat.le_of_ble_eq_true rfl) (Nat.le_of_ble_eq_true rfl) (hQ _ _ _ ⟨rfl, rfl, rfl⟩)

set_option maxRecDepth 100000 in
set_option maxHeartbeats 4000000 in
theorem lc_cX0_limit (l : Launch) (n : Nat) (b : Nat) (f : Int → Int) (o t s q m : Int) (σ : lc_S) (h0_0 : σ (b) = some (.inr (0, [.ref (b + 1), .int (lc_i (o)), .int (lc_i (t)), .int (lc_i (s)), .int (lc_i (q)), .int (lc_i (m))]) : lc_Cel))  : lc_Con l yX0_limit cX0_limit 1 (some .int) (lc_Rd 0) [.ref (b)] n σ (fun v n2 σ2 => v = some (.int (lc_i (m))) ∧ n = n2 ∧ σ = σ2) := by
  refine lc_con RX0 false (by decide) rfl (fun h => absurd h (by decide)) (Nat.le_of_ble_eq_true rfl) ?_
  suffices H : ∀ Q : lc_QT, (∀ v n2 σ2, (fun v n2 σ2 => v = some (.int (lc_i (m))) ∧ n = n2 ∧ σ = σ2 : lc_QT) v n2 σ2 → Q v n2 σ2) → lc_V l RX0 cX0_limit 1 (some .int) false (lc_Rd 0) (lc_G Q 0 0) lc_E0 0 0 n 0 [(0, .ref (b))] [] σ from H _ (fun _ _ _ h => h)
  intro Q hQ
  refine lc_aload_n dX0_limit_0 rfl 0 rfl ?_
  refine lc_get dX0_limit_1 lc_fX0_15 h0_0 rfl ?_
  exact lc_iret dX0_limit_4 rfl (Nat.le_of_ble_eq_true rfl) (Nat.le_of_ble_eq_true rfl) (hQ _ _ _ ⟨rfl, rfl, rfl⟩)

set_option maxRecDepth 100000 in
set_option maxHeartbeats 4000000 in
theorem lc_cX0_result (l : Launch) (n : Nat) (b : Nat) (f : Int → Int) (o t s q m : Int) (σ : lc_S) (h0_0 : σ (b) = some (.inr (0, [.ref (b + 1), .int (lc_i (o)), .int (lc_i (t)), .int (lc_i (s)), .int (lc_i (q)), .int (lc_i (m))]) : lc_Cel)) (ho : 0 ≤ o ∧ o ≤ 36) (ht : 0 ≤ t ∧ t ≤ 36) (hq : -2147483648 ≤ q ∧ q < 2147483648) (hm : -2147483648 ≤ m ∧ m < 2147483648) : lc_Con l yX0_result cX0_result 1 (some .int) (lc_Rd 0) [.ref (b)] n σ (fun v n2 σ2 => v = some (.int (lc_i (lc_res o t q m))) ∧ n = n2 ∧ σ = σ2) := by
  refine lc_con RX0 false (by decide) rfl (fun h => absurd h (by decide)) (Nat.le_of_ble_eq_true rfl) ?_
  suffices H : ∀ Q : lc_QT, (∀ v n2 σ2, (fun v n2 σ2 => v = some (.int (lc_i (lc_res o t q m))) ∧ n = n2 ∧ σ = σ2 : lc_QT) v n2 σ2 → Q v n2 σ2) → lc_V l RX0 cX0_result 1 (some .int) false (lc_Rd 0) (lc_G Q 0 0) lc_E0 0 0 n 0 [(0, .ref (b))] [] σ from H _ (fun _ _ _ h => h)
  intro Q hQ
  refine lc_aload_n dX0_result_0 rfl 0 rfl ?_
  refine lc_get dX0_result_1 lc_fX0_36 h0_0 rfl ?_
  refine lc_if_ne (tgt := 16) dX0_result_4 (by decide) (by omega) (fun h_4_0 => ?_) (fun h_4_0 => ?_)
  · skip
    refine lc_aload_n dX0_result_16 rfl 0 rfl ?_
    refine lc_get dX0_result_17 lc_fX0_39 h0_0 rfl ?_
    refine lc_if_ne (tgt := 25) dX0_result_20 (by decide) (by omega) (fun h_20_1 => ?_) (fun h_20_1 => ?_)
    · skip
      refine lc_aload_n dX0_result_25 rfl 0 rfl ?_
      refine lc_get dX0_result_26 lc_fX0_36 h0_0 rfl ?_
      refine lc_if_ne (tgt := 34) dX0_result_29 (by decide) (by omega) (fun h_29_2 => ?_) (fun h_29_2 => ?_)
      · skip
        refine lc_aload_n dX0_result_34 rfl 0 rfl ?_
        refine lc_get dX0_result_35 lc_fX0_33 h0_0 rfl ?_
        refine lc_aload_n dX0_result_38 rfl 0 rfl ?_
        refine lc_get dX0_result_39 lc_fX0_15 h0_0 rfl ?_
        refine lc_icmp_lt (tgt := 49) dX0_result_42 (by decide) (by omega) (fun h_42_3 => ?_) (fun h_42_3 => ?_)
        · skip
          refine lc_iconst dX0_result_49 ?_
          exact lc_iret dX0_result_50 rfl (Nat.le_of_ble_eq_true rfl) (Nat.le_of_ble_eq_true rfl) (hQ _ _ _ ⟨lc_some (by unfold lc_res; (repeat' split) <;> omega), rfl, rfl⟩)
        · skip
          refine lc_iconst dX0_result_45 ?_
          refine lc_goto (tgt := 50) dX0_result_46 (by decide) ?_
          exact lc_iret dX0_result_50 rfl (Nat.le_of_ble_eq_true rfl) (Nat.le_of_ble_eq_true rfl) (hQ _ _ _ ⟨lc_some (by unfold lc_res; (repeat' split) <;> omega), rfl, rfl⟩)
      · skip
        refine lc_iconst dX0_result_32 ?_
        exact lc_iret dX0_result_33 rfl (Nat.le_of_ble_eq_true rfl) (Nat.le_of_ble_eq_true rfl) (hQ _ _ _ ⟨lc_some (by unfold lc_res; (repeat' split) <;> omega), rfl, rfl⟩)
    · skip
      refine lc_iconst dX0_result_23 ?_
      exact lc_iret dX0_result_24 rfl (Nat.le_of_ble_eq_true rfl) (Nat.le_of_ble_eq_true rfl) (hQ _ _ _ ⟨lc_some (by unfold lc_res; (repeat' split) <;> omega), rfl, rfl⟩)
  · skip
    refine lc_aload_n dX0_result_7 rfl 0 rfl ?_
    refine lc_get dX0_result_8 lc_fX0_39 h0_0 rfl ?_
    refine lc_if_ne (tgt := 16) dX0_result_11 (by decide) (by omega) (fun h_11_4 => ?_) (fun h_11_4 => ?_)
    · skip
      refine lc_aload_n dX0_result_16 rfl 0 rfl ?_
      refine lc_get dX0_result_17 lc_fX0_39 h0_0 rfl ?_
      refine lc_if_ne (tgt := 25) dX0_result_20 (by decide) (by omega) (fun h_20_5 => ?_) (fun h_20_5 => ?_)
      · skip
        refine lc_aload_n dX0_result_25 rfl 0 rfl ?_
        refine lc_get dX0_result_26 lc_fX0_36 h0_0 rfl ?_
        refine lc_if_ne (tgt := 34) dX0_result_29 (by decide) (by omega) (fun h_29_6 => ?_) (fun h_29_6 => ?_)
        · skip
          refine lc_aload_n dX0_result_34 rfl 0 rfl ?_
          refine lc_get dX0_result_35 lc_fX0_33 h0_0 rfl ?_
          refine lc_aload_n dX0_result_38 rfl 0 rfl ?_
          refine lc_get dX0_result_39 lc_fX0_15 h0_0 rfl ?_
          refine lc_icmp_lt (tgt := 49) dX0_result_42 (by decide) (by omega) (fun h_42_7 => ?_) (fun h_42_7 => ?_)
          · skip
            refine lc_iconst dX0_result_49 ?_
            exact lc_iret dX0_result_50 rfl (Nat.le_of_ble_eq_true rfl) (Nat.le_of_ble_eq_true rfl) (hQ _ _ _ ⟨lc_some (by unfold lc_res; (repeat' split) <;> omega), rfl, rfl⟩)
          · skip
            refine lc_iconst dX0_result_45 ?_
            refine lc_goto (tgt := 50) dX0_result_46 (by decide) ?_
            exact lc_iret dX0_result_50 rfl (Nat.le_of_ble_eq_true rfl) (Nat.le_of_ble_eq_true rfl) (hQ _ _ _ ⟨lc_some (by unfold lc_res; (repeat' split) <;> omega), rfl, rfl⟩)
        · skip
          refine lc_iconst dX0_result_32 ?_
          exact lc_iret dX0_result_33 rfl (Nat.le_of_ble_eq_true rfl) (Nat.le_of_ble_eq_true rfl) (hQ _ _ _ ⟨lc_some (by unfold lc_res; (repeat' split) <;> omega), rfl, rfl⟩)
      · skip
        refine lc_iconst dX0_result_23 ?_
        exact lc_iret dX0_result_24 rfl (Nat.le_of_ble_eq_true rfl) (Nat.le_of_ble_eq_true rfl) (hQ _ _ _ ⟨lc_some (by unfold lc_res; (repeat' split) <;> omega), rfl, rfl⟩)
    · skip
      refine lc_iconst dX0_result_14 ?_
      exact lc_iret dX0_result_15 rfl (Nat.le_of_ble_eq_true rfl) (Nat.le_of_ble_eq_true rfl) (hQ _ _ _ ⟨lc_some (by unfold lc_res; (repeat' split) <;> omega), rfl, rfl⟩)

set_option maxRecDepth 100000 in
set_option maxHeartbeats 4000000 in
theorem lc_cX0_worth (l : Launch) (n : Nat) (b : Nat) (f : Int → Int) (o t s q m : Int) (σ : lc_S) (h0_0 : σ (b) = some (.inr (0, [.ref (b + 1), .int (lc_i (o)), .int (lc_i (t)), .int (lc_i (s)), .int (lc_i (q)), .int (lc_i (m))]) : lc_Cel)) (hs : -2147483648 ≤ s ∧ s < 2147483648) : lc_Con l yX0_worth cX0_worth 1 (some .int) (lc_Rd 0) [.ref (b)] n σ (fun v n2 σ2 => v = some (.int (lc_i (if s = 1 then o - t else t - o))) ∧ n = n2 ∧ σ = σ2) := by
  refine lc_con RX0 false (by decide) rfl (fun h => absurd h (by decide)) (Nat.le_of_ble_eq_true rfl) ?_
  suffices H : ∀ Q : lc_QT, (∀ v n2 σ2, (fun v n2 σ2 => v = some (.int (lc_i (if s = 1 then o - t else t - o))) ∧ n = n2 ∧ σ = σ2 : lc_QT) v n2 σ2 → Q v n2 σ2) → lc_V l RX0 cX0_worth 1 (some .int) false (lc_Rd 0) (lc_G Q 0 0) lc_E0 0 0 n 0 [(0, .ref (b))] [] σ from H _ (fun _ _ _ h => h)
  intro Q hQ
  refine lc_aload_n dX0_worth_0 rfl 0 rfl ?_
  refine lc_get dX0_worth_1 lc_fX0_30 h0_0 rfl ?_
  refine lc_iconst dX0_worth_4 ?_
  refine lc_icmp_ne (tgt := 20) dX0_worth_5 (by decide) (by omega) (fun h_5_0 => ?_) (fun h_5_0 => ?_)
  · skip
    refine lc_aload_n dX0_worth_20 rfl 0 rfl ?_
    refine lc_get dX0_worth_21 lc_fX0_39 h0_0 rfl ?_
    refine lc_aload_n dX0_worth_24 rfl 0 rfl ?_
    refine lc_get dX0_worth_25 lc_fX0_36 h0_0 rfl ?_
    refine lc_isub dX0_worth_28 ?_
    exact lc_iret dX0_worth_29 rfl (Nat.le_of_ble_eq_true rfl) (Nat.le_of_ble_eq_true rfl) (hQ _ _ _ ⟨lc_some (by (repeat' split) <;> omega), rfl, rfl⟩)
  · skip
    refine lc_aload_n dX0_worth_8 rfl 0 rfl ?_
    refine lc_get dX0_worth_9 lc_fX0_36 h0_0 rfl ?_
    refine lc_aload_n dX0_worth_12 rfl 0 rfl ?_
    refine lc_get dX0_worth_13 lc_fX0_39 h0_0 rfl ?_
    refine lc_isub dX0_worth_16 ?_
    refine lc_goto (tgt := 29) dX0_worth_17 (by decide) ?_
    exact lc_iret dX0_worth_29 rfl (Nat.le_of_ble_eq_true rfl) (Nat.le_of_ble_eq_true rfl) (hQ _ _ _ ⟨lc_some (by (repeat' split) <;> omega), rfl, rfl⟩)

set_option maxRecDepth 100000 in
set_option maxHeartbeats 4000000 in
theorem lc_cX0_changeLimit (l : Launch) (n : Nat) (b : Nat) (f : Int → Int) (o t s q m : Int) (x : Int) (σ : lc_S) (h0_0 : σ (b) = some (.inr (0, [.ref (b + 1), .int (lc_i (o)), .int (lc_i (t)), .int (lc_i (s)), .int (lc_i (q)), .int (lc_i (m))]) : lc_Cel))  : lc_Con l yX0_changeLimit cX0_changeLimit 2 none (lc_Rd 0) [.ref (b), .int (lc_i (x))] n σ (fun v n2 σ2 => v = none ∧ n = n2 ∧ σ2 (b) = some (.inr (0, [.ref (b + 1), .int (lc_i (o)), .int (lc_i (t)), .int (lc_i (s)), .int (lc_i (q)), .int (lc_i (x))]) : lc_Cel) ∧ ∀ i : Nat, i ≠ b → σ2 i = σ i) := by
  refine lc_con RX0 false (by decide) rfl (fun h => absurd h (by decide)) (Nat.le_of_ble_eq_true rfl) ?_
  suffices H : ∀ Q : lc_QT, (∀ v n2 σ2, (fun v n2 σ2 => v = none ∧ n = n2 ∧ σ2 (b) = some (.inr (0, [.ref (b + 1), .int (lc_i (o)), .int (lc_i (t)), .int (lc_i (s)), .int (lc_i (q)), .int (lc_i (x))]) : lc_Cel) ∧ ∀ i : Nat, i ≠ b → σ2 i = σ i : lc_QT) v n2 σ2 → Q v n2 σ2) → lc_V l RX0 cX0_changeLimit 2 none false (lc_Rd 0) (lc_G Q 0 0) lc_E0 0 0 n 0 [(0, .ref (b)), (1, .int (lc_i (x)))] [] σ from H _ (fun _ _ _ h => h)
  intro Q hQ
  refine lc_aload_n dX0_changeLimit_0 rfl 0 rfl ?_
  refine lc_iload_n dX0_changeLimit_1 rfl 1 rfl ?_
  refine lc_wI (vs' := [.ref (b + 1), .int (lc_i (o)), .int (lc_i (t)), .int (lc_i (s)), .int (lc_i (q)), .int (lc_i (x))]) dX0_changeLimit_2 lc_fX0_15 h0_0 (Nat.le_of_ble_eq_true rfl) rfl rfl rfl (fun σ1 h2 fr3 => ?_)
  exact lc_vret dX0_changeLimit_5 rfl (Nat.le_of_ble_eq_true rfl) (Nat.le_of_ble_eq_true rfl) (hQ _ _ _ ⟨rfl, rfl, h2, (fun i _ => (fr3 i (by omega)))⟩)

set_option maxRecDepth 100000 in
set_option maxHeartbeats 4000000 in
theorem lc_cX0_forgetQuietMoves (l : Launch) (n : Nat) (b : Nat) (f : Int → Int) (o t s q m : Int) (σ : lc_S) (h0_0 : σ (b) = some (.inr (0, [.ref (b + 1), .int (lc_i (o)), .int (lc_i (t)), .int (lc_i (s)), .int (lc_i (q)), .int (lc_i (m))]) : lc_Cel))  : lc_Con l yX0_forgetQuietMoves cX0_forgetQuietMoves 1 none (lc_Rd 0) [.ref (b)] n σ (fun v n2 σ2 => v = none ∧ n = n2 ∧ σ2 (b) = some (.inr (0, [.ref (b + 1), .int (lc_i (o)), .int (lc_i (t)), .int (lc_i (s)), .int (lc_i (0)), .int (lc_i (m))]) : lc_Cel) ∧ ∀ i : Nat, i ≠ b → σ2 i = σ i) := by
  refine lc_con RX0 false (by decide) rfl (fun h => absurd h (by decide)) (Nat.le_of_ble_eq_true rfl) ?_
  suffices H : ∀ Q : lc_QT, (∀ v n2 σ2, (fun v n2 σ2 => v = none ∧ n = n2 ∧ σ2 (b) = some (.inr (0, [.ref (b + 1), .int (lc_i (o)), .int (lc_i (t)), .int (lc_i (s)), .int (lc_i (0)), .int (lc_i (m))]) : lc_Cel) ∧ ∀ i : Nat, i ≠ b → σ2 i = σ i : lc_QT) v n2 σ2 → Q v n2 σ2) → lc_V l RX0 cX0_forgetQuietMoves 1 none false (lc_Rd 0) (lc_G Q 0 0) lc_E0 0 0 n 0 [(0, .ref (b))] [] σ from H _ (fun _ _ _ h => h)
  intro Q hQ
  refine lc_aload_n dX0_forgetQuietMoves_0 rfl 0 rfl ?_
  refine lc_iconst dX0_forgetQuietMoves_1 ?_
  refine lc_wI (vs' := [.ref (b + 1), .int (lc_i (o)), .int (lc_i (t)), .int (lc_i (s)), .int (lc_i (0)), .int (lc_i (m))]) dX0_forgetQuietMoves_2 lc_fX0_33 h0_0 (Nat.le_of_ble_eq_true rfl) rfl rfl rfl (fun σ1 h2 fr3 => ?_)
  exact lc_vret dX0_forgetQuietMoves_5 rfl (Nat.le_of_ble_eq_true rfl) (Nat.le_of_ble_eq_true rfl) (hQ _ _ _ ⟨rfl, rfl, h2, (fun i _ => (fr3 i (by omega)))⟩)

set_option maxRecDepth 100000 in
set_option maxHeartbeats 4000000 in
theorem lc_cX0_changeSide (l : Launch) (n : Nat) (b : Nat) (f : Int → Int) (o t s q m : Int) (σ : lc_S) (h0_0 : σ (b) = some (.inr (0, [.ref (b + 1), .int (lc_i (o)), .int (lc_i (t)), .int (lc_i (s)), .int (lc_i (q)), .int (lc_i (m))]) : lc_Cel))  : lc_Con l yX0_changeSide cX0_changeSide 1 none (lc_Rd 0) [.ref (b)] n σ (fun v n2 σ2 => v = none ∧ n = n2 ∧ σ2 (b) = some (.inr (0, [.ref (b + 1), .int (lc_i (o)), .int (lc_i (t)), .int (lc_i (3 - s)), .int (lc_i (q)), .int (lc_i (m))]) : lc_Cel) ∧ ∀ i : Nat, i ≠ b → σ2 i = σ i) := by
  refine lc_con RX0 false (by decide) rfl (fun h => absurd h (by decide)) (Nat.le_of_ble_eq_true rfl) ?_
  suffices H : ∀ Q : lc_QT, (∀ v n2 σ2, (fun v n2 σ2 => v = none ∧ n = n2 ∧ σ2 (b) = some (.inr (0, [.ref (b + 1), .int (lc_i (o)), .int (lc_i (t)), .int (lc_i (3 - s)), .int (lc_i (q)), .int (lc_i (m))]) : lc_Cel) ∧ ∀ i : Nat, i ≠ b → σ2 i = σ i : lc_QT) v n2 σ2 → Q v n2 σ2) → lc_V l RX0 cX0_changeSide 1 none false (lc_Rd 0) (lc_G Q 0 0) lc_E0 0 0 n 0 [(0, .ref (b))] [] σ from H _ (fun _ _ _ h => h)
  intro Q hQ
  refine lc_aload_n dX0_changeSide_0 rfl 0 rfl ?_
  refine lc_iconst dX0_changeSide_1 ?_
  refine lc_aload_n dX0_changeSide_2 rfl 0 rfl ?_
  refine lc_get dX0_changeSide_3 lc_fX0_30 h0_0 rfl ?_
  refine lc_isub dX0_changeSide_6 ?_
  refine lc_wI (vs' := [.ref (b + 1), .int (lc_i (o)), .int (lc_i (t)), .int (lc_i ((3) - (s))), .int (lc_i (q)), .int (lc_i (m))]) dX0_changeSide_7 lc_fX0_30 h0_0 (Nat.le_of_ble_eq_true rfl) rfl rfl rfl (fun σ1 h2 fr3 => ?_)
  exact lc_vret dX0_changeSide_10 rfl (Nat.le_of_ble_eq_true rfl) (Nat.le_of_ble_eq_true rfl) (hQ _ _ _ ⟨rfl, rfl, (by rw [h2, show (3 - s : Int) = (3) - (s) from (by (repeat' split) <;> omega)]), (fun i _ => (fr3 i (by omega)))⟩)

set_option maxRecDepth 100000 in
set_option maxHeartbeats 4000000 in
/-- Board.copyFrom -/
theorem lc_cX0_copyFrom (l : Launch) (n : Nat) (b : Nat) (f : Int → Int) (s q m : Int) (c : Nat) (g : Int → Int) (s2 q2 m2 : Int) (σ : lc_S) (h0_0 : σ (b) = some (.inr (0, [.ref (b + 1), .int (lc_i (lc_cnt (f) 1 36)), .int (lc_i (lc_cnt (f) 2 36)), .int (lc_i (s)), .int (lc_i (q)), .int (lc_i (m))]) : lc_Cel)) (h0_1 : σ (b + 1) = some (lc_aI 36 (f))) (h0_2 : σ (c) = some (.inr (0, [.ref (c + 1), .int (lc_i (lc_cnt (g) 1 36)), .int (lc_i (lc_cnt (g) 2 36)), .int (lc_i (s2)), .int (lc_i (q2)), .int (lc_i (m2))]) : lc_Cel)) (h0_3 : σ (c + 1) = some (lc_aI 36 (g))) (hd : b ≠ c ∧ b ≠ c + 1 ∧ b + 1 ≠ c) : lc_Con l yX0_copyFrom cX0_copyFrom 3 none (lc_Rd 0) [.ref (b), .ref (c)] n σ (fun v n2 σ2 => v = none ∧ n = n2 ∧ σ2 (b) = some (.inr (0, [.ref (b + 1), .int (lc_i (lc_cnt (g) 1 36)), .int (lc_i (lc_cnt (g) 2 36)), .int (lc_i (s2)), .int (lc_i (q2)), .int (lc_i (m2))]) : lc_Cel) ∧ σ2 (b + 1) = some (lc_aI 36 (g)) ∧ ∀ i : Nat, i ≠ b → i ≠ b + 1 → σ2 i = σ i) := by
  refine lc_con RX0 false (by decide) rfl (fun h => absurd h (by decide)) (Nat.le_of_ble_eq_true rfl) ?_
  suffices H : ∀ Q : lc_QT, (∀ v n2 σ2, (fun v n2 σ2 => v = none ∧ n = n2 ∧ σ2 (b) = some (.inr (0, [.ref (b + 1), .int (lc_i (lc_cnt (g) 1 36)), .int (lc_i (lc_cnt (g) 2 36)), .int (lc_i (s2)), .int (lc_i (q2)), .int (lc_i (m2))]) : lc_Cel) ∧ σ2 (b + 1) = some (lc_aI 36 (g)) ∧ ∀ i : Nat, i ≠ b → i ≠ b + 1 → σ2 i = σ i : lc_QT) v n2 σ2 → Q v n2 σ2) → lc_V l RX0 cX0_copyFrom 3 none false (lc_Rd 0) (lc_G Q 0 0) lc_E0 0 0 n 0 [(0, .ref (b)), (1, .ref (c))] [] σ from H _ (fun _ _ _ h => h)
  intro Q hQ
  refine lc_iconst dX0_copyFrom_0 ?_
  refine lc_istore_n (lv' := [(0, .ref (b)), (1, .ref (c)), (2, .int (lc_i (0)))]) dX0_copyFrom_1 rfl (by decide) rfl ?_
  have loop2 : ∀ (N1 : Nat) (i : Int) (fi : Int → Int) (σ4 : lc_S), (σ4 (b + 1) = some (lc_aI 36 (fi))) → (∀ i : Nat, i ≠ b + 1 → σ4 i = σ i) → (0 ≤ i ∧ i ≤ 36) → (∀ j : Int, 0 ≤ j → j < i → fi j = g j) → 36 - i < (N1 : Int) → lc_V l RX0 cX0_copyFrom 3 none false (lc_Rd 0) (lc_G Q 0 0) lc_E0 0 0 n 2 [(0, .ref (b)), (1, .ref (c)), (2, .int (lc_i (i)))] [] σ4 := by
    intro N1
    induction N1 with
    | zero =>
      intro i fi σ4 h5 fr6 hi hf hm7
      exact absurd hm7 (by omega)
    | succ N1 ih3 =>
      intro i fi σ4 h5 fr6 hi hf hm7
      have h8 : σ4 (b) = some (.inr (0, [.ref (b + 1), .int (lc_i (lc_cnt (f) 1 36)), .int (lc_i (lc_cnt (f) 2 36)), .int (lc_i (s)), .int (lc_i (q)), .int (lc_i (m))]) : lc_Cel) := (fr6 _ (by omega)).trans h0_0
      have h9 : σ4 (c) = some (.inr (0, [.ref (c + 1), .int (lc_i (lc_cnt (g) 1 36)), .int (lc_i (lc_cnt (g) 2 36)), .int (lc_i (s2)), .int (lc_i (q2)), .int (lc_i (m2))]) : lc_Cel) := (fr6 _ (by omega)).trans h0_2
      have h10 : σ4 (c + 1) = some (lc_aI 36 (g)) := (fr6 _ (by omega)).trans h0_3
      refine lc_iload_n dX0_copyFrom_2 rfl 2 rfl ?_
      refine lc_bipush dX0_copyFrom_3 (by decide) ?_
      refine lc_icmp_ge (tgt := 26) dX0_copyFrom_5 (by decide) (by omega) (fun h_5_10 => ?_) (fun h_5_10 => ?_)
      · skip
        refine lc_extI (g := g) h5 (fun j h1 h2 => hf j h1 (by omega)) (fun σ12 h13 fr14 => ?_)
        have h15 : σ12 (b) = some (.inr (0, [.ref (b + 1), .int (lc_i (lc_cnt (f) 1 36)), .int (lc_i (lc_cnt (f) 2 36)), .int (lc_i (s)), .int (lc_i (q)), .int (lc_i (m))]) : lc_Cel) := (fr14 _ (by omega)).trans h8
        have h16 : σ12 (c) = some (.inr (0, [.ref (c + 1), .int (lc_i (lc_cnt (g) 1 36)), .int (lc_i (lc_cnt (g) 2 36)), .int (lc_i (s2)), .int (lc_i (q2)), .int (lc_i (m2))]) : lc_Cel) := (fr14 _ (by omega)).trans h9
        have h17 : σ12 (c + 1) = some (lc_aI 36 (g)) := (fr14 _ (by omega)).trans h10
        refine lc_aload_n dX0_copyFrom_26 rfl 0 rfl ?_
        refine lc_aload_n dX0_copyFrom_27 rfl 1 rfl ?_
        refine lc_get dX0_copyFrom_28 lc_fX0_36 h16 rfl ?_
        refine lc_wI (vs' := [.ref (b + 1), .int (lc_i (lc_cnt (g) 1 36)), .int (lc_i (lc_cnt (f) 2 36)), .int (lc_i (s)), .int (lc_i (q)), .int (lc_i (m))]) dX0_copyFrom_31 lc_fX0_36 h15 (Nat.le_of_ble_eq_true rfl) rfl rfl rfl (fun σ18 h19 fr20 => ?_)
        have h21 : σ18 (c) = some (.inr (0, [.ref (c + 1), .int (lc_i (lc_cnt (g) 1 36)), .int (lc_i (lc_cnt (g) 2 36)), .int (lc_i (s2)), .int (lc_i (q2)), .int (lc_i (m2))]) : lc_Cel) := (fr20 _ (by omega)).trans h16
        have h22 : σ18 (c + 1) = some (lc_aI 36 (g)) := (fr20 _ (by omega)).trans h17
        have h23 : σ18 (b + 1) = some (lc_aI 36 (g)) := (fr20 _ (by omega)).trans h13
        refine lc_aload_n dX0_copyFrom_34 rfl 0 rfl ?_
        refine lc_aload_n dX0_copyFrom_35 rfl 1 rfl ?_
        refine lc_get dX0_copyFrom_36 lc_fX0_39 h21 rfl ?_
        refine lc_wI (vs' := [.ref (b + 1), .int (lc_i (lc_cnt (g) 1 36)), .int (lc_i (lc_cnt (g) 2 36)), .int (lc_i (s)), .int (lc_i (q)), .int (lc_i (m))]) dX0_copyFrom_39 lc_fX0_39 h19 (Nat.le_of_ble_eq_true rfl) rfl rfl rfl (fun σ24 h25 fr26 => ?_)
        have h27 : σ24 (c) = some (.inr (0, [.ref (c + 1), .int (lc_i (lc_cnt (g) 1 36)), .int (lc_i (lc_cnt (g) 2 36)), .int (lc_i (s2)), .int (lc_i (q2)), .int (lc_i (m2))]) : lc_Cel) := (fr26 _ (by omega)).trans h21
        have h28 : σ24 (c + 1) = some (lc_aI 36 (g)) := (fr26 _ (by omega)).trans h22
        have h29 : σ24 (b + 1) = some (lc_aI 36 (g)) := (fr26 _ (by omega)).trans h23
        refine lc_aload_n dX0_copyFrom_42 rfl 0 rfl ?_
        refine lc_aload_n dX0_copyFrom_43 rfl 1 rfl ?_
        refine lc_get dX0_copyFrom_44 lc_fX0_30 h27 rfl ?_
        refine lc_wI (vs' := [.ref (b + 1), .int (lc_i (lc_cnt (g) 1 36)), .int (lc_i (lc_cnt (g) 2 36)), .int (lc_i (s2)), .int (lc_i (q)), .int (lc_i (m))]) dX0_copyFrom_47 lc_fX0_30 h25 (Nat.le_of_ble_eq_true rfl) rfl rfl rfl (fun σ30 h31 fr32 => ?_)
        have h33 : σ30 (c) = some (.inr (0, [.ref (c + 1), .int (lc_i (lc_cnt (g) 1 36)), .int (lc_i (lc_cnt (g) 2 36)), .int (lc_i (s2)), .int (lc_i (q2)), .int (lc_i (m2))]) : lc_Cel) := (fr32 _ (by omega)).trans h27
        have h34 : σ30 (c + 1) = some (lc_aI 36 (g)) := (fr32 _ (by omega)).trans h28
        have h35 : σ30 (b + 1) = some (lc_aI 36 (g)) := (fr32 _ (by omega)).trans h29
        refine lc_aload_n dX0_copyFrom_50 rfl 0 rfl ?_
        refine lc_aload_n dX0_copyFrom_51 rfl 1 rfl ?_
        refine lc_get dX0_copyFrom_52 lc_fX0_33 h33 rfl ?_
        refine lc_wI (vs' := [.ref (b + 1), .int (lc_i (lc_cnt (g) 1 36)), .int (lc_i (lc_cnt (g) 2 36)), .int (lc_i (s2)), .int (lc_i (q2)), .int (lc_i (m))]) dX0_copyFrom_55 lc_fX0_33 h31 (Nat.le_of_ble_eq_true rfl) rfl rfl rfl (fun σ36 h37 fr38 => ?_)
        have h39 : σ36 (c) = some (.inr (0, [.ref (c + 1), .int (lc_i (lc_cnt (g) 1 36)), .int (lc_i (lc_cnt (g) 2 36)), .int (lc_i (s2)), .int (lc_i (q2)), .int (lc_i (m2))]) : lc_Cel) := (fr38 _ (by omega)).trans h33
        have h40 : σ36 (c + 1) = some (lc_aI 36 (g)) := (fr38 _ (by omega)).trans h34
        have h41 : σ36 (b + 1) = some (lc_aI 36 (g)) := (fr38 _ (by omega)).trans h35
        refine lc_aload_n dX0_copyFrom_58 rfl 0 rfl ?_
        refine lc_aload_n dX0_copyFrom_59 rfl 1 rfl ?_
        refine lc_get dX0_copyFrom_60 lc_fX0_15 h39 rfl ?_
        refine lc_wI (vs' := [.ref (b + 1), .int (lc_i (lc_cnt (g) 1 36)), .int (lc_i (lc_cnt (g) 2 36)), .int (lc_i (s2)), .int (lc_i (q2)), .int (lc_i (m2))]) dX0_copyFrom_63 lc_fX0_15 h37 (Nat.le_of_ble_eq_true rfl) rfl rfl rfl (fun σ42 h43 fr44 => ?_)
        have h45 : σ42 (c) = some (.inr (0, [.ref (c + 1), .int (lc_i (lc_cnt (g) 1 36)), .int (lc_i (lc_cnt (g) 2 36)), .int (lc_i (s2)), .int (lc_i (q2)), .int (lc_i (m2))]) : lc_Cel) := (fr44 _ (by omega)).trans h39
        have h46 : σ42 (c + 1) = some (lc_aI 36 (g)) := (fr44 _ (by omega)).trans h40
        have h47 : σ42 (b + 1) = some (lc_aI 36 (g)) := (fr44 _ (by omega)).trans h41
        exact lc_vret dX0_copyFrom_66 rfl (Nat.le_of_ble_eq_true rfl) (Nat.le_of_ble_eq_true rfl) (hQ _ _ _ ⟨rfl, rfl, h43, h47, (fun i _ _ => ((fr44 i (by omega)).trans ((fr38 i (by omega)).trans ((fr32 i (by omega)).trans ((fr26 i (by omega)).trans ((fr20 i (by omega)).trans ((fr14 i (by omega)).trans (fr6 i (by omega)))))))))⟩)
      · skip
        refine lc_aload_n dX0_copyFrom_8 rfl 0 rfl ?_
        refine lc_get dX0_copyFrom_9 lc_fX0_9 h8 rfl ?_
        refine lc_iload_n dX0_copyFrom_12 rfl 2 rfl ?_
        refine lc_aload_n dX0_copyFrom_13 rfl 1 rfl ?_
        refine lc_get dX0_copyFrom_14 lc_fX0_9 h9 rfl ?_
        refine lc_iload_n dX0_copyFrom_17 rfl 2 rfl ?_
        refine lc_iald dX0_copyFrom_18 h10 (by omega) (by decide) ?_
        refine lc_sI dX0_copyFrom_19 h5 (by omega) (by decide) (fun σ48 h49 fr50 => ?_)
        have h51 : σ48 (b) = some (.inr (0, [.ref (b + 1), .int (lc_i (lc_cnt (f) 1 36)), .int (lc_i (lc_cnt (f) 2 36)), .int (lc_i (s)), .int (lc_i (q)), .int (lc_i (m))]) : lc_Cel) := (fr50 _ (by omega)).trans h8
        have h52 : σ48 (c) = some (.inr (0, [.ref (c + 1), .int (lc_i (lc_cnt (g) 1 36)), .int (lc_i (lc_cnt (g) 2 36)), .int (lc_i (s2)), .int (lc_i (q2)), .int (lc_i (m2))]) : lc_Cel) := (fr50 _ (by omega)).trans h9
        have h53 : σ48 (c + 1) = some (lc_aI 36 (g)) := (fr50 _ (by omega)).trans h10
        refine lc_iinc (lv' := [(0, .ref (b)), (1, .ref (c)), (2, .int (lc_i (i + 1)))]) dX0_copyFrom_20 2 rfl (by decide) rfl ?_
        refine lc_goto (tgt := 2) dX0_copyFrom_23 (by decide) ?_
        exact ih3 (i + 1) (lc_u (fi) (i) ((g) (i))) σ48 h49 (fun i _ => ((fr50 i (by omega)).trans (fr6 i (by omega)))) (by omega) (lc_ub hf) (by omega)
  exact loop2 1000 (0) (f) σ h0_1 (fun _ _ => rfl) (by omega) (fun j h1 h2 => absurd h2 (by omega)) (by omega)

set_option maxRecDepth 100000 in
set_option maxHeartbeats 4000000 in
/-- Board.startAnew -/
theorem lc_cX0_startAnew (l : Launch) (n : Nat) (b : Nat) (f : Int → Int) (s q m : Int) (σ : lc_S) (h0_0 : σ (b) = some (.inr (0, [.ref (b + 1), .int (lc_i (lc_cnt (f) 1 36)), .int (lc_i (lc_cnt (f) 2 36)), .int (lc_i (s)), .int (lc_i (q)), .int (lc_i (m))]) : lc_Cel)) (h0_1 : σ (b + 1) = some (lc_aI 36 (f))) (hv : ∀ j : Int, 0 ≤ j → j < 36 → -2147483648 ≤ f j ∧ f j < 2147483648) : lc_Con l yX0_startAnew cX0_startAnew 2 none (lc_Rd 2) [.ref (b)] n σ (fun v n2 σ2 => v = none ∧ n = n2 ∧ σ2 (b) = some (.inr (0, [.ref (b + 1), .int (lc_i (lc_cnt (lc_f0) 1 36)), .int (lc_i (lc_cnt (lc_f0) 2 36)), .int (lc_i (1)), .int (lc_i (0)), .int (lc_i (m))]) : lc_Cel) ∧ σ2 (b + 1) = some (lc_aI 36 (lc_f0)) ∧ ∀ i : Nat, i ≠ b → i ≠ b + 1 → σ2 i = σ i) := by
  refine lc_con RX0 false (by decide) rfl (fun h => absurd h (by decide)) (Nat.le_of_ble_eq_true rfl) ?_
  suffices H : ∀ Q : lc_QT, (∀ v n2 σ2, (fun v n2 σ2 => v = none ∧ n = n2 ∧ σ2 (b) = some (.inr (0, [.ref (b + 1), .int (lc_i (lc_cnt (lc_f0) 1 36)), .int (lc_i (lc_cnt (lc_f0) 2 36)), .int (lc_i (1)), .int (lc_i (0)), .int (lc_i (m))]) : lc_Cel) ∧ σ2 (b + 1) = some (lc_aI 36 (lc_f0)) ∧ ∀ i : Nat, i ≠ b → i ≠ b + 1 → σ2 i = σ i : lc_QT) v n2 σ2 → Q v n2 σ2) → lc_V l RX0 cX0_startAnew 2 none false (lc_Rd 2) (lc_G Q 0 0) lc_E0 0 0 n 0 [(0, .ref (b))] [] σ from H _ (fun _ _ _ h => h)
  intro Q hQ
  refine lc_iconst dX0_startAnew_0 ?_
  refine lc_istore_n (lv' := [(0, .ref (b)), (1, .int (lc_i (0)))]) dX0_startAnew_1 rfl (by decide) rfl ?_
  have loop2 : ∀ (N1 : Nat) (i : Int) (fi : Int → Int) (σ4 : lc_S), (σ4 (b) = some (.inr (0, [.ref (b + 1), .int (lc_i (lc_cnt (fi) 1 36)), .int (lc_i (lc_cnt (fi) 2 36)), .int (lc_i (s)), .int (lc_i (q)), .int (lc_i (m))]) : lc_Cel)) → (σ4 (b + 1) = some (lc_aI 36 (fi))) → (∀ i : Nat, i ≠ b → i ≠ b + 1 → σ4 i = σ i) → (0 ≤ i ∧ i ≤ 36) → (∀ j : Int, 0 ≤ j → j < i → fi j = lc_f0 j) → (∀ j : Int, i ≤ j → j < 36 → fi j = f j) → 36 - i < (N1 : Int) → lc_V l RX0 cX0_startAnew 2 none false (lc_Rd 2) (lc_G Q 0 0) lc_E0 0 0 n 2 [(0, .ref (b)), (1, .int (lc_i (i)))] [] σ4 := by
    intro N1
    induction N1 with
    | zero =>
      intro i fi σ4 h5 h6 fr7 hi hf hg hm8
      exact absurd hm8 (by omega)
    | succ N1 ih3 =>
      intro i fi σ4 h5 h6 fr7 hi hf hg hm8
      refine lc_iload_n dX0_startAnew_2 rfl 1 rfl ?_
      refine lc_bipush dX0_startAnew_3 (by decide) ?_
      refine lc_icmp_ge (tgt := 23) dX0_startAnew_5 (by decide) (by omega) (fun h_5_8 => ?_) (fun h_5_8 => ?_)
      · skip
        refine lc_extI (g := lc_f0) h6 (fun j h1 h2 => hf j h1 (by omega)) (fun σ10 h11 fr12 => ?_)
        have h13 : σ10 (b) = some (.inr (0, [.ref (b + 1), .int (lc_i (lc_cnt (fi) 1 36)), .int (lc_i (lc_cnt (fi) 2 36)), .int (lc_i (s)), .int (lc_i (q)), .int (lc_i (m))]) : lc_Cel) := (fr12 _ (by omega)).trans h5
        refine lc_aload_n dX0_startAnew_23 rfl 0 rfl ?_
        refine lc_iconst dX0_startAnew_24 ?_
        refine lc_wI (vs' := [.ref (b + 1), .int (lc_i (lc_cnt (fi) 1 36)), .int (lc_i (lc_cnt (fi) 2 36)), .int (lc_i (1)), .int (lc_i (q)), .int (lc_i (m))]) dX0_startAnew_25 lc_fX0_30 h13 (Nat.le_of_ble_eq_true rfl) rfl rfl rfl (fun σ14 h15 fr16 => ?_)
        have h17 : σ14 (b + 1) = some (lc_aI 36 (lc_f0)) := (fr16 _ (by omega)).trans h11
        refine lc_aload_n dX0_startAnew_28 rfl 0 rfl ?_
        refine lc_iconst dX0_startAnew_29 ?_
        refine lc_wI (vs' := [.ref (b + 1), .int (lc_i (lc_cnt (fi) 1 36)), .int (lc_i (lc_cnt (fi) 2 36)), .int (lc_i (1)), .int (lc_i (0)), .int (lc_i (m))]) dX0_startAnew_30 lc_fX0_33 h15 (Nat.le_of_ble_eq_true rfl) rfl rfl rfl (fun σ18 h19 fr20 => ?_)
        have h21 : σ18 (b + 1) = some (lc_aI 36 (lc_f0)) := (fr20 _ (by omega)).trans h17
        exact lc_vret dX0_startAnew_33 rfl (Nat.le_of_ble_eq_true rfl) (Nat.le_of_ble_eq_true rfl) (hQ _ _ _ ⟨rfl, rfl, (by rw [h19, show (lc_cnt (lc_f0) 1 36 : Int) = lc_cnt (fi) 1 36 from (lc_cnt_ext 36 (fun j h1 h2 => (hf j h1 (by omega)).symm)), show (lc_cnt (lc_f0) 2 36 : Int) = lc_cnt (fi) 2 36 from (lc_cnt_ext 36 (fun j h1 h2 => (hf j h1 (by omega)).symm))]), h21, (fun i _ _ => ((fr20 i (by omega)).trans ((fr16 i (by omega)).trans ((fr12 i (by omega)).trans (fr7 i (by omega) (by omega))))))⟩)
      · skip
        refine lc_aload_n dX0_startAnew_8 rfl 0 rfl ?_
        refine lc_iload_n dX0_startAnew_9 rfl 1 rfl ?_
        refine lc_iload_n dX0_startAnew_10 rfl 1 rfl ?_
        refine lc_callS (As := [.int (lc_i (i))]) (stk := [.int (lc_i (i)), .ref (b)]) dX0_startAnew_11 lc_mX0_22 lc_yX0_firstSideAt (lc_cX0_firstSideAt l n (i) σ4 (by omega)) rfl ⟨Nat.le_of_ble_eq_true rfl, Nat.le_of_ble_eq_true rfl⟩ ⟨Nat.le_of_ble_eq_true rfl, Nat.le_of_ble_eq_true rfl⟩ rfl (Nat.le_of_ble_eq_true rfl) (fun v22 n23 σ24 q25 => ?_)
        obtain ⟨rfl, rfl, rfl⟩ := q25
        refine lc_callV (As := [.int (lc_i (i)), .int (lc_i (lc_f0 (i)))]) (stk := []) (b := b) dX0_startAnew_14 lc_mX0_26 lc_yX0_put h5 rfl (lc_cX0_put l n (b) (fi) (s) (q) (m) (i) (lc_f0 (i)) σ4 h5 h6 (by omega) (by rw [hg _ (by omega) (by omega)]; exact hv _ (by omega) (by omega)) (lc_f0_r _)) rfl ⟨Nat.le_of_ble_eq_true rfl, Nat.le_of_ble_eq_true rfl⟩ ⟨Nat.le_of_ble_eq_true rfl, Nat.le_of_ble_eq_true rfl⟩ rfl (Nat.le_of_ble_eq_true rfl) (fun v29 n30 σ31 q32 => ?_)
        obtain ⟨rfl, rfl, h27, h28, fr26⟩ := q32
        refine lc_iinc (lv' := [(0, .ref (b)), (1, .int (lc_i (i + 1)))]) dX0_startAnew_17 1 rfl (by decide) rfl ?_
        refine lc_goto (tgt := 2) dX0_startAnew_20 (by decide) ?_
        exact ih3 (i + 1) (lc_u (fi) (i) (lc_f0 (i))) σ31 h27 h28 (fun i _ _ => ((fr26 i (by omega) (by omega)).trans (fr7 i (by omega) (by omega)))) (by omega) (lc_ub hf) (lc_ua hg) (by omega)
  exact loop2 1000 (0) (f) σ h0_0 h0_1 (fun _ _ _ => rfl) (by omega) (fun j h1 h2 => absurd h2 (by omega)) (fun j _ _ => rfl) (by omega)

set_option maxRecDepth 100000 in
set_option maxHeartbeats 4000000 in
/-- Board.make -/
theorem lc_cX0_make (l : Launch) (n : Nat) (b : Nat) (f : Int → Int) (s q m : Int) (x y : Int) (σ : lc_S) (h0_0 : σ (b) = some (.inr (0, [.ref (b + 1), .int (lc_i (lc_cnt (f) 1 36)), .int (lc_i (lc_cnt (f) 2 36)), .int (lc_i (s)), .int (lc_i (q)), .int (lc_i (m))]) : lc_Cel)) (h0_1 : σ (b + 1) = some (lc_aI 36 (f))) (hf : ∀ j : Int, 0 ≤ j → j < 36 → 0 ≤ f j ∧ f j ≤ 2) (hs : 1 ≤ s ∧ s ≤ 2) (hp : 0 ≤ x ∧ x < 36 ∧ 0 ≤ y ∧ y < 36) : lc_Con l yX0_make cX0_make 4 (some .int) (lc_Rd 2) [.ref (b), .int (lc_i (x)), .int (lc_i (y))] n σ (fun v n2 σ2 => v = some (.int (lc_i (f y))) ∧ n = n2 ∧ σ2 (b) = some (.inr (0, [.ref (b + 1), .int (lc_i (lc_cnt (lc_u (lc_u f y s) x 0) 1 36)), .int (lc_i (lc_cnt (lc_u (lc_u f y s) x 0) 2 36)), .int (lc_i (3 - s)), .int (lc_i (if f y = 0 then q + 1 else 0)), .int (lc_i (m))]) : lc_Cel) ∧ σ2 (b + 1) = some (lc_aI 36 (lc_u (lc_u f y s) x 0)) ∧ ∀ i : Nat, i ≠ b → i ≠ b + 1 → σ2 i = σ i) := by
  refine lc_con RX0 false (by decide) rfl (fun h => absurd h (by decide)) (Nat.le_of_ble_eq_true rfl) ?_
  suffices H : ∀ Q : lc_QT, (∀ v n2 σ2, (fun v n2 σ2 => v = some (.int (lc_i (f y))) ∧ n = n2 ∧ σ2 (b) = some (.inr (0, [.ref (b + 1), .int (lc_i (lc_cnt (lc_u (lc_u f y s) x 0) 1 36)), .int (lc_i (lc_cnt (lc_u (lc_u f y s) x 0) 2 36)), .int (lc_i (3 - s)), .int (lc_i (if f y = 0 then q + 1 else 0)), .int (lc_i (m))]) : lc_Cel) ∧ σ2 (b + 1) = some (lc_aI 36 (lc_u (lc_u f y s) x 0)) ∧ ∀ i : Nat, i ≠ b → i ≠ b + 1 → σ2 i = σ i : lc_QT) v n2 σ2 → Q v n2 σ2) → lc_V l RX0 cX0_make 4 (some .int) false (lc_Rd 2) (lc_G Q 0 0) lc_E0 0 0 n 0 [(0, .ref (b)), (1, .int (lc_i (x))), (2, .int (lc_i (y)))] [] σ from H _ (fun _ _ _ h => h)
  intro Q hQ
  refine lc_aload_n dX0_make_0 rfl 0 rfl ?_
  refine lc_iload_n dX0_make_1 rfl 2 rfl ?_
  refine lc_callV (As := [.int (lc_i (y))]) (stk := []) (b := b) dX0_make_2 lc_mX0_45 lc_yX0_at h0_0 rfl (lc_cX0_at l n (b) (f) (lc_cnt (f) 1 36) (lc_cnt (f) 2 36) (s) (q) (m) (y) σ h0_0 h0_1 (by omega)) rfl ⟨Nat.le_of_ble_eq_true rfl, Nat.le_of_ble_eq_true rfl⟩ ⟨Nat.le_of_ble_eq_true rfl, Nat.le_of_ble_eq_true rfl⟩ rfl (Nat.le_of_ble_eq_true rfl) (fun v1 n2 σ3 q4 => ?_)
  obtain ⟨rfl, rfl, rfl⟩ := q4
  refine lc_top (congrArg (fun z => Value.int (lc_i z)) (show (if 0 ≤ (y) ∧ (y) < 36 then (f) (y) else 0 : Int) = f y from by rw [if_pos (by omega)])) ?_
  refine lc_istore_n (lv' := [(0, .ref (b)), (1, .int (lc_i (x))), (2, .int (lc_i (y))), (3, .int (lc_i (f y)))]) dX0_make_5 rfl (by decide) rfl ?_
  refine lc_aload_n dX0_make_6 rfl 0 rfl ?_
  refine lc_iload_n dX0_make_7 rfl 2 rfl ?_
  refine lc_aload_n dX0_make_8 rfl 0 rfl ?_
  refine lc_get dX0_make_9 lc_fX0_30 h0_0 rfl ?_
  refine lc_callV (As := [.int (lc_i (y)), .int (lc_i (s))]) (stk := []) (b := b) dX0_make_12 lc_mX0_26 lc_yX0_put h0_0 rfl (lc_cX0_put l n (b) (f) (s) (q) (m) (y) (s) σ h0_0 h0_1 (by omega) (by first | exact lc_rng2 (hf _ (by omega) (by omega)) | (unfold lc_u; (repeat' split) <;> first | omega | exact lc_rng2 (hf _ (by omega) (by omega)))) (by omega)) rfl ⟨Nat.le_of_ble_eq_true rfl, Nat.le_of_ble_eq_true rfl⟩ ⟨Nat.le_of_ble_eq_true rfl, Nat.le_of_ble_eq_true rfl⟩ rfl (Nat.le_of_ble_eq_true rfl) (fun v8 n9 σ10 q11 => ?_)
  obtain ⟨rfl, rfl, h6, h7, fr5⟩ := q11
  refine lc_aload_n dX0_make_15 rfl 0 rfl ?_
  refine lc_iload_n dX0_make_16 rfl 1 rfl ?_
  refine lc_iconst dX0_make_17 ?_
  refine lc_callV (As := [.int (lc_i (x)), .int (lc_i (0))]) (stk := []) (b := b) dX0_make_18 lc_mX0_26 lc_yX0_put h6 rfl (lc_cX0_put l n (b) (lc_u (f) (y) (s)) (s) (q) (m) (x) (0) σ10 h6 h7 (by omega) (by first | exact lc_rng2 (hf _ (by omega) (by omega)) | (unfold lc_u; (repeat' split) <;> first | omega | exact lc_rng2 (hf _ (by omega) (by omega)))) (by omega)) rfl ⟨Nat.le_of_ble_eq_true rfl, Nat.le_of_ble_eq_true rfl⟩ ⟨Nat.le_of_ble_eq_true rfl, Nat.le_of_ble_eq_true rfl⟩ rfl (Nat.le_of_ble_eq_true rfl) (fun v15 n16 σ17 q18 => ?_)
  obtain ⟨rfl, rfl, h13, h14, fr12⟩ := q18
  refine lc_aload_n dX0_make_21 rfl 0 rfl ?_
  refine lc_iload_n dX0_make_22 rfl 3 rfl ?_
  refine lc_if_ne (tgt := 35) dX0_make_23 (by decide) (lc_rng2 (hf _ (by omega) (by omega))) (fun h_23_18 => ?_) (fun h_23_18 => ?_)
  · skip
    refine lc_iconst dX0_make_35 ?_
    refine lc_wI (vs' := [.ref (b + 1), .int (lc_i (lc_cnt (lc_u (lc_u (f) (y) (s)) (x) (0)) 1 36)), .int (lc_i (lc_cnt (lc_u (lc_u (f) (y) (s)) (x) (0)) 2 36)), .int (lc_i (s)), .int (lc_i (0)), .int (lc_i (m))]) dX0_make_36 lc_fX0_33 h13 (Nat.le_of_ble_eq_true rfl) rfl rfl rfl (fun σ20 h21 fr22 => ?_)
    have h23 : σ20 (b + 1) = some (lc_aI 36 (lc_u (lc_u (f) (y) (s)) (x) (0))) := (fr22 _ (by omega)).trans h14
    refine lc_aload_n dX0_make_39 rfl 0 rfl ?_
    refine lc_callV (As := []) (stk := []) (b := b) dX0_make_40 lc_mX0_48 lc_yX0_changeSide h21 rfl (lc_cX0_changeSide l n (b) (lc_u (lc_u (f) (y) (s)) (x) (0)) (lc_cnt (lc_u (lc_u (f) (y) (s)) (x) (0)) 1 36) (lc_cnt (lc_u (lc_u (f) (y) (s)) (x) (0)) 2 36) (s) (0) (m) σ20 h21) rfl ⟨Nat.le_of_ble_eq_true rfl, Nat.le_of_ble_eq_true rfl⟩ ⟨Nat.le_of_ble_eq_true rfl, Nat.le_of_ble_eq_true rfl⟩ rfl (Nat.le_of_ble_eq_true rfl) (fun v26 n27 σ28 q29 => ?_)
    obtain ⟨rfl, rfl, h25, fr24⟩ := q29
    have h30 : σ28 (b + 1) = some (lc_aI 36 (lc_u (lc_u (f) (y) (s)) (x) (0))) := (fr24 _ (by omega)).trans h23
    refine lc_iload_n dX0_make_43 rfl 3 rfl ?_
    exact lc_iret dX0_make_44 rfl (Nat.le_of_ble_eq_true rfl) (Nat.le_of_ble_eq_true rfl) (hQ _ _ _ ⟨rfl, rfl, (by rw [h25, show (lc_cnt (lc_u (lc_u f y s) x 0) 1 36 : Int) = lc_cnt (lc_u (lc_u (f) (y) (s)) (x) (0)) 1 36 from (by (repeat' split) <;> omega), show (lc_cnt (lc_u (lc_u f y s) x 0) 2 36 : Int) = lc_cnt (lc_u (lc_u (f) (y) (s)) (x) (0)) 2 36 from (by (repeat' split) <;> omega), show (3 - s : Int) = 3 - ((s)) from (by (repeat' split) <;> omega), show (if f y = 0 then q + 1 else 0 : Int) = 0 from (by (repeat' split) <;> omega)]), h30, (fun i _ _ => ((fr24 i (by omega)).trans ((fr22 i (by omega)).trans ((fr12 i (by omega) (by omega)).trans (fr5 i (by omega) (by omega))))))⟩)
  · skip
    refine lc_aload_n dX0_make_26 rfl 0 rfl ?_
    refine lc_get dX0_make_27 lc_fX0_33 h13 rfl ?_
    refine lc_iconst dX0_make_30 ?_
    refine lc_iadd dX0_make_31 ?_
    refine lc_goto (tgt := 36) dX0_make_32 (by decide) ?_
    refine lc_wI (vs' := [.ref (b + 1), .int (lc_i (lc_cnt (lc_u (lc_u (f) (y) (s)) (x) (0)) 1 36)), .int (lc_i (lc_cnt (lc_u (lc_u (f) (y) (s)) (x) (0)) 2 36)), .int (lc_i (s)), .int (lc_i ((q) + (1))), .int (lc_i (m))]) dX0_make_36 lc_fX0_33 h13 (Nat.le_of_ble_eq_true rfl) rfl rfl rfl (fun σ31 h32 fr33 => ?_)
    have h34 : σ31 (b + 1) = some (lc_aI 36 (lc_u (lc_u (f) (y) (s)) (x) (0))) := (fr33 _ (by omega)).trans h14
    refine lc_aload_n dX0_make_39 rfl 0 rfl ?_
    refine lc_callV (As := []) (stk := []) (b := b) dX0_make_40 lc_mX0_48 lc_yX0_changeSide h32 rfl (lc_cX0_changeSide l n (b) (lc_u (lc_u (f) (y) (s)) (x) (0)) (lc_cnt (lc_u (lc_u (f) (y) (s)) (x) (0)) 1 36) (lc_cnt (lc_u (lc_u (f) (y) (s)) (x) (0)) 2 36) (s) ((q) + (1)) (m) σ31 h32) rfl ⟨Nat.le_of_ble_eq_true rfl, Nat.le_of_ble_eq_true rfl⟩ ⟨Nat.le_of_ble_eq_true rfl, Nat.le_of_ble_eq_true rfl⟩ rfl (Nat.le_of_ble_eq_true rfl) (fun v37 n38 σ39 q40 => ?_)
    obtain ⟨rfl, rfl, h36, fr35⟩ := q40
    have h41 : σ39 (b + 1) = some (lc_aI 36 (lc_u (lc_u (f) (y) (s)) (x) (0))) := (fr35 _ (by omega)).trans h34
    refine lc_iload_n dX0_make_43 rfl 3 rfl ?_
    exact lc_iret dX0_make_44 rfl (Nat.le_of_ble_eq_true rfl) (Nat.le_of_ble_eq_true rfl) (hQ _ _ _ ⟨rfl, rfl, (by rw [h36, show (lc_cnt (lc_u (lc_u f y s) x 0) 1 36 : Int) = lc_cnt (lc_u (lc_u (f) (y) (s)) (x) (0)) 1 36 from (by (repeat' split) <;> omega), show (lc_cnt (lc_u (lc_u f y s) x 0) 2 36 : Int) = lc_cnt (lc_u (lc_u (f) (y) (s)) (x) (0)) 2 36 from (by (repeat' split) <;> omega), show (3 - s : Int) = 3 - ((s)) from (by (repeat' split) <;> omega), show (if f y = 0 then q + 1 else 0 : Int) = (q) + (1) from (by (repeat' split) <;> omega)]), h41, (fun i _ _ => ((fr35 i (by omega)).trans ((fr33 i (by omega)).trans ((fr12 i (by omega) (by omega)).trans (fr5 i (by omega) (by omega))))))⟩)

set_option maxRecDepth 100000 in
set_option maxHeartbeats 4000000 in
/-- Board.takeBack -/
theorem lc_cX0_takeBack (l : Launch) (n : Nat) (b : Nat) (f : Int → Int) (s q m : Int) (x y k q2 : Int) (σ : lc_S) (h0_0 : σ (b) = some (.inr (0, [.ref (b + 1), .int (lc_i (lc_cnt (f) 1 36)), .int (lc_i (lc_cnt (f) 2 36)), .int (lc_i (s)), .int (lc_i (q)), .int (lc_i (m))]) : lc_Cel)) (h0_1 : σ (b + 1) = some (lc_aI 36 (f))) (hf : ∀ j : Int, 0 ≤ j → j < 36 → 0 ≤ f j ∧ f j ≤ 2) (hs : 1 ≤ s ∧ s ≤ 2) (hp : 0 ≤ x ∧ x < 36 ∧ 0 ≤ y ∧ y < 36) (hk : 0 ≤ k ∧ k ≤ 2) : lc_Con l yX0_takeBack cX0_takeBack 5 none (lc_Rd 2) [.ref (b), .int (lc_i (x)), .int (lc_i (y)), .int (lc_i (k)), .int (lc_i (q2))] n σ (fun v n2 σ2 => v = none ∧ n = n2 ∧ σ2 (b) = some (.inr (0, [.ref (b + 1), .int (lc_i (lc_cnt (lc_u (lc_u f x (3 - s)) y k) 1 36)), .int (lc_i (lc_cnt (lc_u (lc_u f x (3 - s)) y k) 2 36)), .int (lc_i (3 - s)), .int (lc_i (q2)), .int (lc_i (m))]) : lc_Cel) ∧ σ2 (b + 1) = some (lc_aI 36 (lc_u (lc_u f x (3 - s)) y k)) ∧ ∀ i : Nat, i ≠ b → i ≠ b + 1 → σ2 i = σ i) := by
  refine lc_con RX0 false (by decide) rfl (fun h => absurd h (by decide)) (Nat.le_of_ble_eq_true rfl) ?_
  suffices H : ∀ Q : lc_QT, (∀ v n2 σ2, (fun v n2 σ2 => v = none ∧ n = n2 ∧ σ2 (b) = some (.inr (0, [.ref (b + 1), .int (lc_i (lc_cnt (lc_u (lc_u f x (3 - s)) y k) 1 36)), .int (lc_i (lc_cnt (lc_u (lc_u f x (3 - s)) y k) 2 36)), .int (lc_i (3 - s)), .int (lc_i (q2)), .int (lc_i (m))]) : lc_Cel) ∧ σ2 (b + 1) = some (lc_aI 36 (lc_u (lc_u f x (3 - s)) y k)) ∧ ∀ i : Nat, i ≠ b → i ≠ b + 1 → σ2 i = σ i : lc_QT) v n2 σ2 → Q v n2 σ2) → lc_V l RX0 cX0_takeBack 5 none false (lc_Rd 2) (lc_G Q 0 0) lc_E0 0 0 n 0 [(0, .ref (b)), (1, .int (lc_i (x))), (2, .int (lc_i (y))), (3, .int (lc_i (k))), (4, .int (lc_i (q2)))] [] σ from H _ (fun _ _ _ h => h)
  intro Q hQ
  refine lc_aload_n dX0_takeBack_0 rfl 0 rfl ?_
  refine lc_callV (As := []) (stk := []) (b := b) dX0_takeBack_1 lc_mX0_48 lc_yX0_changeSide h0_0 rfl (lc_cX0_changeSide l n (b) (f) (lc_cnt (f) 1 36) (lc_cnt (f) 2 36) (s) (q) (m) σ h0_0) rfl ⟨Nat.le_of_ble_eq_true rfl, Nat.le_of_ble_eq_true rfl⟩ ⟨Nat.le_of_ble_eq_true rfl, Nat.le_of_ble_eq_true rfl⟩ rfl (Nat.le_of_ble_eq_true rfl) (fun v3 n4 σ5 q6 => ?_)
  obtain ⟨rfl, rfl, h2, fr1⟩ := q6
  have h7 : σ5 (b + 1) = some (lc_aI 36 (f)) := (fr1 _ (by omega)).trans h0_1
  refine lc_aload_n dX0_takeBack_4 rfl 0 rfl ?_
  refine lc_iload_n dX0_takeBack_5 rfl 1 rfl ?_
  refine lc_aload_n dX0_takeBack_6 rfl 0 rfl ?_
  refine lc_get dX0_takeBack_7 lc_fX0_30 h2 rfl ?_
  refine lc_callV (As := [.int (lc_i (x)), .int (lc_i (3 - ((s))))]) (stk := []) (b := b) dX0_takeBack_10 lc_mX0_26 lc_yX0_put h2 rfl (lc_cX0_put l n (b) (f) (3 - ((s))) (q) (m) (x) (3 - ((s))) σ5 h2 h7 (by omega) (by first | exact lc_rng2 (hf _ (by omega) (by omega)) | (unfold lc_u; (repeat' split) <;> first | omega | exact lc_rng2 (hf _ (by omega) (by omega)))) (by omega)) rfl ⟨Nat.le_of_ble_eq_true rfl, Nat.le_of_ble_eq_true rfl⟩ ⟨Nat.le_of_ble_eq_true rfl, Nat.le_of_ble_eq_true rfl⟩ rfl (Nat.le_of_ble_eq_true rfl) (fun v11 n12 σ13 q14 => ?_)
  obtain ⟨rfl, rfl, h9, h10, fr8⟩ := q14
  refine lc_aload_n dX0_takeBack_13 rfl 0 rfl ?_
  refine lc_iload_n dX0_takeBack_14 rfl 2 rfl ?_
  refine lc_iload_n dX0_takeBack_15 rfl 3 rfl ?_
  refine lc_callV (As := [.int (lc_i (y)), .int (lc_i (k))]) (stk := []) (b := b) dX0_takeBack_16 lc_mX0_26 lc_yX0_put h9 rfl (lc_cX0_put l n (b) (lc_u (f) (x) (3 - ((s)))) (3 - ((s))) (q) (m) (y) (k) σ13 h9 h10 (by omega) (by first | exact lc_rng2 (hf _ (by omega) (by omega)) | (unfold lc_u; (repeat' split) <;> first | omega | exact lc_rng2 (hf _ (by omega) (by omega)))) (by omega)) rfl ⟨Nat.le_of_ble_eq_true rfl, Nat.le_of_ble_eq_true rfl⟩ ⟨Nat.le_of_ble_eq_true rfl, Nat.le_of_ble_eq_true rfl⟩ rfl (Nat.le_of_ble_eq_true rfl) (fun v18 n19 σ20 q21 => ?_)
  obtain ⟨rfl, rfl, h16, h17, fr15⟩ := q21
  refine lc_aload_n dX0_takeBack_19 rfl 0 rfl ?_
  refine lc_iload dX0_takeBack_20 4 rfl ?_
  refine lc_wI (vs' := [.ref (b + 1), .int (lc_i (lc_cnt (lc_u (lc_u (f) (x) (3 - ((s)))) (y) (k)) 1 36)), .int (lc_i (lc_cnt (lc_u (lc_u (f) (x) (3 - ((s)))) (y) (k)) 2 36)), .int (lc_i (3 - ((s)))), .int (lc_i (q2)), .int (lc_i (m))]) dX0_takeBack_22 lc_fX0_33 h16 (Nat.le_of_ble_eq_true rfl) rfl rfl rfl (fun σ22 h23 fr24 => ?_)
  have h25 : σ22 (b + 1) = some (lc_aI 36 (lc_u (lc_u (f) (x) (3 - ((s)))) (y) (k))) := (fr24 _ (by omega)).trans h17
  exact lc_vret dX0_takeBack_25 rfl (Nat.le_of_ble_eq_true rfl) (Nat.le_of_ble_eq_true rfl) (hQ _ _ _ ⟨rfl, rfl, (by rw [h23, show (lc_cnt (lc_u (lc_u f x (3 - s)) y k) 1 36 : Int) = lc_cnt (lc_u (lc_u (f) (x) (3 - ((s)))) (y) (k)) 1 36 from (by (repeat' split) <;> omega), show (lc_cnt (lc_u (lc_u f x (3 - s)) y k) 2 36 : Int) = lc_cnt (lc_u (lc_u (f) (x) (3 - ((s)))) (y) (k)) 2 36 from (by (repeat' split) <;> omega), show (3 - s : Int) = 3 - ((s)) from (by (repeat' split) <;> omega)]), h25, (fun i _ _ => ((fr24 i (by omega)).trans ((fr15 i (by omega) (by omega)).trans ((fr8 i (by omega) (by omega)).trans (fr1 i (by omega))))))⟩)

set_option maxRecDepth 100000 in
set_option maxHeartbeats 4000000 in
/-- Board.key -/
theorem lc_cX0_key (l : Launch) (n : Nat) (b : Nat) (f : Int → Int) (o t s q m : Int) (σ : lc_S) (h0_0 : σ (b) = some (.inr (0, [.ref (b + 1), .int (lc_i (o)), .int (lc_i (t)), .int (lc_i (s)), .int (lc_i (q)), .int (lc_i (m))]) : lc_Cel)) (h0_1 : σ (b + 1) = some (lc_aI 36 (f))) (hf : ∀ j : Int, 0 ≤ j → j < 36 → 0 ≤ f j ∧ f j ≤ 2) (hs : 1 ≤ s ∧ s ≤ 2) : lc_Con l yX0_key cX0_key 4 (some .long) (lc_Rd 0) [.ref (b)] n σ (fun v n2 σ2 => v = some (.long (lc_j (lc_key f s 36))) ∧ n = n2 ∧ σ = σ2) := by
  refine lc_con RX0 false (by decide) rfl (fun h => absurd h (by decide)) (Nat.le_of_ble_eq_true rfl) ?_
  suffices H : ∀ Q : lc_QT, (∀ v n2 σ2, (fun v n2 σ2 => v = some (.long (lc_j (lc_key f s 36))) ∧ n = n2 ∧ σ = σ2 : lc_QT) v n2 σ2 → Q v n2 σ2) → lc_V l RX0 cX0_key 4 (some .long) false (lc_Rd 0) (lc_G Q 0 0) lc_E0 0 0 n 0 [(0, .ref (b))] [] σ from H _ (fun _ _ _ h => h)
  intro Q hQ
  refine lc_aload_n dX0_key_0 rfl 0 rfl ?_
  refine lc_get dX0_key_1 lc_fX0_30 h0_0 rfl ?_
  refine lc_i2l dX0_key_4 rfl ?_
  refine lc_top (congrArg Value.long (show ((lc_i (s)).toInt64 : Int64) = lc_j (lc_key f s (0 : Int).toNat) from by rw [lc_j_i (by omega)]; rfl)) ?_
  refine lc_lstore_n (lv' := [(0, .ref (b)), (1, .long (lc_j (lc_key f s (0 : Int).toNat)))]) dX0_key_5 rfl (by decide) rfl ?_
  refine lc_iconst dX0_key_6 ?_
  refine lc_istore_n (lv' := [(0, .ref (b)), (1, .long (lc_j (lc_key f s (0 : Int).toNat))), (3, .int (lc_i (0)))]) dX0_key_7 rfl (by decide) rfl ?_
  have loop2 : ∀ (N1 : Nat) (i : Int), (0 ≤ i ∧ i ≤ 36) → 36 - i < (N1 : Int) → lc_V l RX0 cX0_key 4 (some .long) false (lc_Rd 0) (lc_G Q 0 0) lc_E0 0 0 n 8 [(0, .ref (b)), (1, .long (lc_j (lc_key f s (i).toNat))), (3, .int (lc_i (i)))] [] σ := by
    intro N1
    induction N1 with
    | zero =>
      intro i hi hm4
      exact absurd hm4 (by omega)
    | succ N1 ih3 =>
      intro i hi hm4
      refine lc_iload_n dX0_key_8 rfl 2 rfl ?_
      refine lc_bipush dX0_key_9 (by decide) ?_
      refine lc_icmp_ge (tgt := 34) dX0_key_11 (by decide) (by omega) (fun h_11_4 => ?_) (fun h_11_4 => ?_)
      · skip
        refine lc_lload_n dX0_key_34 rfl 1 rfl ?_
        exact lc_lret dX0_key_35 rfl (Nat.le_of_ble_eq_true rfl) (Nat.le_of_ble_eq_true rfl) (hQ _ _ _ ⟨by rw [show (i).toNat = 36 from by omega], rfl, rfl⟩)
      · skip
        refine lc_lload_n dX0_key_14 rfl 1 rfl ?_
        refine lc_ldc2 (x := 3) dX0_key_15 lc_cl3 ?_
        refine lc_lmul dX0_key_18 ?_
        refine lc_aload_n dX0_key_19 rfl 0 rfl ?_
        refine lc_get dX0_key_20 lc_fX0_9 h0_0 rfl ?_
        refine lc_iload_n dX0_key_23 rfl 2 rfl ?_
        refine lc_iald dX0_key_24 h0_1 (by omega) (by decide) ?_
        refine lc_i2l dX0_key_25 rfl ?_
        refine lc_ladd dX0_key_26 ?_
        refine lc_top (congrArg Value.long (show (((lc_j (lc_key f s (i).toNat)) * (3)) + ((lc_i ((f) (i))).toInt64) : Int64) = lc_j (lc_key f s (i + 1).toNat) from by rw [lc_j_3, lc_j_mul, lc_j_i (lc_rng2 (hf i (by omega) (by omega))), lc_j_add, show (i + 1).toNat = i.toNat + 1 from by omega, lc_key, show ((i.toNat : Nat) : Int) = i from by omega])) ?_
        refine lc_lstore_n (lv' := [(0, .ref (b)), (1, .long (lc_j (lc_key f s (i + 1).toNat))), (3, .int (lc_i (i)))]) dX0_key_27 rfl (by decide) rfl ?_
        refine lc_iinc (lv' := [(0, .ref (b)), (1, .long (lc_j (lc_key f s (i + 1).toNat))), (3, .int (lc_i (i + 1)))]) dX0_key_28 2 rfl (by decide) rfl ?_
        refine lc_goto (tgt := 8) dX0_key_31 (by decide) ?_
        exact ih3 (i + 1) (by omega) (by omega)
  exact loop2 1000 (0) (by omega) (by omega)
