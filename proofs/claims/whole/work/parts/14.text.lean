/-! MoveText -/
theorem lc_nch {c : Int} (h : 0 ≤ c ∧ c < 65536) : narrow .char (.int (lc_i c)) = .int (lc_i c) := by
  have e : lc_i c = nI c.toNat := by
    have := lc_i_nat c.toNat
    rw [show ((c.toNat : Nat) : Int) = c by omega] at this
    exact this
  rw [e]
  exact (pk_charN (by omega)).1
def lc_alw (c p : Int) : Bool := decide (((p = 0 ∨ p = 3) ∧ 97 ≤ c ∧ c ≤ 102) ∨ ((p = 1 ∨ p = 4) ∧ 49 ≤ c ∧ c ≤ 54) ∨ (p = 2 ∧ (c = 45 ∨ c = 120)) ∨ ((p < 0 ∨ 4 < p) ∧ c = 59))
theorem lc_alw_iff {c p : Int} : lc_alw c p = true ↔ (((p = 0 ∨ p = 3) ∧ 97 ≤ c ∧ c ≤ 102) ∨ ((p = 1 ∨ p = 4) ∧ 49 ≤ c ∧ c ≤ 54) ∨ (p = 2 ∧ (c = 45 ∨ c = 120)) ∨ ((p < 0 ∨ 4 < p) ∧ c = 59)) := decide_eq_true_iff
/-- the first place that is not allowed, or the length -/
def lc_ff (tx : Int → Int) : Nat → Nat → Nat
  | 0, k => k
  | n + 1, k => bif lc_alw (tx k) ((k : Int) % 6) then lc_ff tx n (k + 1) else k
theorem lc_ff_t {tx : Int → Int} {n k : Nat} (h : lc_alw (tx k) ((k : Int) % 6) = true) : lc_ff tx (n + 1) k = lc_ff tx n (k + 1) := by
  show (bif lc_alw (tx k) ((k : Int) % 6) then lc_ff tx n (k + 1) else k) = _
  rw [h]; rfl
theorem lc_ff_f {tx : Int → Int} {n k : Nat} (h : ¬ lc_alw (tx k) ((k : Int) % 6) = true) : lc_ff tx (n + 1) k = k := by
  show (bif lc_alw (tx k) ((k : Int) % 6) then lc_ff tx n (k + 1) else k) = _
  cases e : lc_alw (tx k) ((k : Int) % 6)
  · rfl
  · exact absurd e h
theorem lc_ff_r (tx : Int → Int) : ∀ n k : Nat, k ≤ lc_ff tx n k ∧ lc_ff tx n k ≤ k + n
  | 0, k => by unfold lc_ff; omega
  | n + 1, k => by
    by_cases h : lc_alw (tx k) ((k : Int) % 6) = true
    · rw [lc_ff_t h]
      have := lc_ff_r tx n (k + 1)
      omega
    · rw [lc_ff_f h]; omega
/-- all before the first fault are allowed -/
theorem lc_ff_all (tx : Int → Int) : ∀ n k : Nat, ∀ i : Nat, k ≤ i → i < lc_ff tx n k → lc_alw (tx i) ((i : Int) % 6) = true
  | 0, k, i, h1, h2 => by unfold lc_ff at h2; omega
  | n + 1, k, i, h1, h2 => by
    by_cases h : lc_alw (tx k) ((k : Int) % 6) = true
    · rw [lc_ff_t h] at h2
      by_cases e : i = k
      · rw [e]; exact h
      · exact lc_ff_all tx n (k + 1) i (by omega) h2
    · rw [lc_ff_f h] at h2; omega
/-- the fault of a text of z characters: -1 if it has none -/
def lc_fault (tx : Int → Int) (z : Int) : Int := if (lc_ff tx z.toNat 0 : Int) < z then (lc_ff tx z.toNat 0 : Int) else if z % 6 = 5 then -1 else z
def lc_tp (tx : Int → Int) (i : Int) : Int := (tx (i + 1) - 49) * 6 + tx i - 97

set_option maxRecDepth 100000 in
set_option maxHeartbeats 4000000 in
theorem lc_cX5_length (l : Launch) (n : Nat) (tx : Int → Int) (z : Int) (σ : lc_S) (h0_0 : σ (48) = some (.inr (5, [.ref (49), .int (lc_i (z))]) : lc_Cel))  : lc_Con l yX5_length cX5_length 1 (some .int) (lc_Rd 0) [.ref (48)] n σ (fun v n2 σ2 => v = some (.int (lc_i (z))) ∧ n = n2 ∧ σ = σ2) := by
  refine lc_con RX5 false (by decide) rfl (fun h => absurd h (by decide)) (Nat.le_of_ble_eq_true rfl) ?_
  suffices H : ∀ Q : lc_QT, (∀ v n2 σ2, (fun v n2 σ2 => v = some (.int (lc_i (z))) ∧ n = n2 ∧ σ = σ2 : lc_QT) v n2 σ2 → Q v n2 σ2) → lc_V l RX5 cX5_length 1 (some .int) false (lc_Rd 0) (lc_G Q 0 0) lc_E0 0 0 n 0 [(0, .ref (48))] [] σ from H _ (fun _ _ _ h => h)
  intro Q hQ
  refine lc_aload_n dX5_length_0 rfl 0 rfl ?_
  refine lc_get dX5_length_1 lc_fX5_15 h0_0 rfl ?_
  exact lc_iret dX5_length_4 rfl (Nat.le_of_ble_eq_true rfl) (Nat.le_of_ble_eq_true rfl) (hQ _ _ _ ⟨rfl, rfl, rfl⟩)

set_option maxRecDepth 100000 in
set_option maxHeartbeats 4000000 in
theorem lc_cX5_empty (l : Launch) (n : Nat) (tx : Int → Int) (z : Int) (σ : lc_S) (h0_0 : σ (48) = some (.inr (5, [.ref (49), .int (lc_i (z))]) : lc_Cel))  : lc_Con l yX5_empty cX5_empty 1 none (lc_Rd 0) [.ref (48)] n σ (fun v n2 σ2 => v = none ∧ n = n2 ∧ σ2 (48) = some (.inr (5, [.ref (49), .int (lc_i (0))]) : lc_Cel) ∧ ∀ i : Nat, i ≠ 48 → σ2 i = σ i) := by
  refine lc_con RX5 false (by decide) rfl (fun h => absurd h (by decide)) (Nat.le_of_ble_eq_true rfl) ?_
  suffices H : ∀ Q : lc_QT, (∀ v n2 σ2, (fun v n2 σ2 => v = none ∧ n = n2 ∧ σ2 (48) = some (.inr (5, [.ref (49), .int (lc_i (0))]) : lc_Cel) ∧ ∀ i : Nat, i ≠ 48 → σ2 i = σ i : lc_QT) v n2 σ2 → Q v n2 σ2) → lc_V l RX5 cX5_empty 1 none false (lc_Rd 0) (lc_G Q 0 0) lc_E0 0 0 n 0 [(0, .ref (48))] [] σ from H _ (fun _ _ _ h => h)
  intro Q hQ
  refine lc_aload_n dX5_empty_0 rfl 0 rfl ?_
  refine lc_iconst dX5_empty_1 ?_
  refine lc_wI (vs' := [.ref (49), .int (lc_i (0))]) dX5_empty_2 lc_fX5_15 h0_0 (Nat.le_of_ble_eq_true rfl) rfl rfl rfl (fun σ1 h2 fr3 => ?_)
  exact lc_vret dX5_empty_5 rfl (Nat.le_of_ble_eq_true rfl) (Nat.le_of_ble_eq_true rfl) (hQ _ _ _ ⟨rfl, rfl, h2, (fun i _ => (fr3 i (by omega)))⟩)

def lc_ta (tx : Int → Int) (z c : Int) : Int → Int := if z < 80 then lc_u tx z c else tx
def lc_tz (z : Int) : Int := if z < 80 then z + 1 else z

set_option maxRecDepth 100000 in
set_option maxHeartbeats 4000000 in
theorem lc_cX5_append (l : Launch) (n : Nat) (tx : Int → Int) (z : Int) (c : Int) (σ : lc_S) (h0_0 : σ (48) = some (.inr (5, [.ref (49), .int (lc_i (z))]) : lc_Cel)) (h0_1 : σ (49) = some (lc_aC 80 (tx))) (hz : 0 ≤ z ∧ z ≤ 80) (hc : 0 ≤ c ∧ c < 65536) : lc_Con l yX5_append cX5_append 2 (some .boolean) (lc_Rd 0) [.ref (48), .int (lc_i (c))] n σ (fun v n2 σ2 => v = some (.int (lc_i (if (z < 80) then 1 else 0))) ∧ n = n2 ∧ σ2 48 = some (.inr (5, [.ref (49), .int (lc_i (lc_tz z))]) : lc_Cel) ∧ σ2 49 = some (lc_aC 80 (lc_ta tx z c)) ∧ ∀ i : Nat, i ≠ 48 → i ≠ 49 → σ2 i = σ i) := by
  refine lc_con RX5 false (by decide) rfl (fun h => absurd h (by decide)) (Nat.le_of_ble_eq_true rfl) ?_
  suffices H : ∀ Q : lc_QT, (∀ v n2 σ2, (fun v n2 σ2 => v = some (.int (lc_i (if (z < 80) then 1 else 0))) ∧ n = n2 ∧ σ2 48 = some (.inr (5, [.ref (49), .int (lc_i (lc_tz z))]) : lc_Cel) ∧ σ2 49 = some (lc_aC 80 (lc_ta tx z c)) ∧ ∀ i : Nat, i ≠ 48 → i ≠ 49 → σ2 i = σ i : lc_QT) v n2 σ2 → Q v n2 σ2) → lc_V l RX5 cX5_append 2 (some .boolean) false (lc_Rd 0) (lc_G Q 0 0) lc_E0 0 0 n 0 [(0, .ref (48)), (1, .int (lc_i (c)))] [] σ from H _ (fun _ _ _ h => h)
  intro Q hQ
  refine lc_aload_n dX5_append_0 rfl 0 rfl ?_
  refine lc_get dX5_append_1 lc_fX5_15 h0_0 rfl ?_
  refine lc_if_lt (tgt := 19) dX5_append_4 (by decide) (by omega) (fun h_4_0 => ?_) (fun h_4_0 => ?_)
  · omega
  · skip
    refine lc_aload_n dX5_append_7 rfl 0 rfl ?_
    refine lc_get dX5_append_8 lc_fX5_15 h0_0 rfl ?_
    refine lc_aload_n dX5_append_11 rfl 0 rfl ?_
    refine lc_get dX5_append_12 lc_fX5_11 h0_0 rfl ?_
    refine lc_alenV (v := 80) dX5_append_15 h0_1 (by decide) rfl ?_
    refine lc_icmp_lt (tgt := 21) dX5_append_16 (by decide) (by omega) (fun h_16_1 => ?_) (fun h_16_1 => ?_)
    · skip
      refine lc_aload_n dX5_append_21 rfl 0 rfl ?_
      refine lc_get dX5_append_22 lc_fX5_11 h0_0 rfl ?_
      refine lc_aload_n dX5_append_25 rfl 0 rfl ?_
      refine lc_get dX5_append_26 lc_fX5_15 h0_0 rfl ?_
      refine lc_iload_n dX5_append_29 rfl 1 rfl ?_
      refine lc_sC dX5_append_30 h0_1 (by omega) (by decide) (lc_nch hc) (fun σ3 h4 fr5 => ?_)
      have h6 : σ3 (48) = some (.inr (5, [.ref (49), .int (lc_i (z))]) : lc_Cel) := (fr5 _ (by omega)).trans h0_0
      refine lc_aload_n dX5_append_31 rfl 0 rfl ?_
      refine lc_dup dX5_append_32 rfl ?_
      refine lc_get dX5_append_33 lc_fX5_15 h6 rfl ?_
      refine lc_iconst dX5_append_36 ?_
      refine lc_iadd dX5_append_37 ?_
      refine lc_wI (vs' := [.ref (49), .int (lc_i ((z) + (1)))]) dX5_append_38 lc_fX5_15 h6 (Nat.le_of_ble_eq_true rfl) rfl rfl rfl (fun σ7 h8 fr9 => ?_)
      have h10 : σ7 (49) = some (lc_aC 80 (lc_u (tx) (z) (c))) := (fr9 _ (by omega)).trans h4
      refine lc_iconst dX5_append_41 ?_
      exact lc_zret dX5_append_42 rfl (rfl) (Nat.le_of_ble_eq_true rfl) (Nat.le_of_ble_eq_true rfl) (hQ _ _ _ ⟨lc_some (by rw [if_pos h_16_1]), rfl, by rw [show lc_tz z = _ from if_pos h_16_1]; exact h8, by rw [show lc_ta tx z c = _ from if_pos h_16_1]; exact h10, (fun i _ _ => ((fr9 i (by omega)).trans (fr5 i (by omega))))⟩)
    · skip
      refine lc_iconst dX5_append_19 ?_
      exact lc_zret dX5_append_20 rfl (rfl) (Nat.le_of_ble_eq_true rfl) (Nat.le_of_ble_eq_true rfl) (hQ _ _ _ ⟨lc_some (by rw [if_neg (by omega)]), rfl, by rw [show lc_tz z = _ from if_neg (by omega)]; exact h0_0, by rw [show lc_ta tx z c = _ from if_neg (by omega)]; exact h0_1, (fun i _ _ => rfl)⟩)

set_option maxRecDepth 100000 in
set_option maxHeartbeats 4000000 in
theorem lc_cX5_at (l : Launch) (n : Nat) (tx : Int → Int) (z : Int) (x : Int) (σ : lc_S) (h0_0 : σ (48) = some (.inr (5, [.ref (49), .int (lc_i (z))]) : lc_Cel)) (h0_1 : σ (49) = some (lc_aC 80 (tx))) (hz : 0 ≤ z ∧ z ≤ 80) (htx : ∀ i : Int, 0 ≤ i → i < z → 0 ≤ tx i ∧ tx i < 65536) (hx : -2147483648 ≤ x ∧ x < 2147483648) : lc_Con l yX5_at cX5_at 2 (some .char) (lc_Rd 0) [.ref (48), .int (lc_i (x))] n σ (fun v n2 σ2 => v = some (.int (lc_i (if 0 ≤ x ∧ x < z then tx x else 32))) ∧ n = n2 ∧ σ = σ2) := by
  refine lc_con RX5 false (by decide) rfl (fun h => absurd h (by decide)) (Nat.le_of_ble_eq_true rfl) ?_
  suffices H : ∀ Q : lc_QT, (∀ v n2 σ2, (fun v n2 σ2 => v = some (.int (lc_i (if 0 ≤ x ∧ x < z then tx x else 32))) ∧ n = n2 ∧ σ = σ2 : lc_QT) v n2 σ2 → Q v n2 σ2) → lc_V l RX5 cX5_at 2 (some .char) false (lc_Rd 0) (lc_G Q 0 0) lc_E0 0 0 n 0 [(0, .ref (48)), (1, .int (lc_i (x)))] [] σ from H _ (fun _ _ _ h => h)
  intro Q hQ
  refine lc_iload_n dX5_at_0 rfl 1 rfl ?_
  refine lc_if_lt (tgt := 30) dX5_at_1 (by decide) (by omega) (fun h_1_0 => ?_) (fun h_1_0 => ?_)
  · skip
    refine lc_bipush dX5_at_30 (by decide) ?_
    exact lc_zret dX5_at_32 rfl (rfl) (Nat.le_of_ble_eq_true rfl) (Nat.le_of_ble_eq_true rfl) (hQ _ _ _ ⟨lc_some (by (repeat' split) <;> omega), rfl, rfl⟩)
  · skip
    refine lc_iload_n dX5_at_4 rfl 1 rfl ?_
    refine lc_aload_n dX5_at_5 rfl 0 rfl ?_
    refine lc_get dX5_at_6 lc_fX5_15 h0_0 rfl ?_
    refine lc_icmp_ge (tgt := 30) dX5_at_9 (by decide) (by omega) (fun h_9_1 => ?_) (fun h_9_1 => ?_)
    · skip
      refine lc_bipush dX5_at_30 (by decide) ?_
      exact lc_zret dX5_at_32 rfl (rfl) (Nat.le_of_ble_eq_true rfl) (Nat.le_of_ble_eq_true rfl) (hQ _ _ _ ⟨lc_some (by (repeat' split) <;> omega), rfl, rfl⟩)
    · skip
      refine lc_iload_n dX5_at_12 rfl 1 rfl ?_
      refine lc_aload_n dX5_at_13 rfl 0 rfl ?_
      refine lc_get dX5_at_14 lc_fX5_11 h0_0 rfl ?_
      refine lc_alenV (v := 80) dX5_at_17 h0_1 (by decide) rfl ?_
      refine lc_icmp_ge (tgt := 30) dX5_at_18 (by decide) (by omega) (fun h_18_2 => ?_) (fun h_18_2 => ?_)
      · omega
      · skip
        refine lc_aload_n dX5_at_21 rfl 0 rfl ?_
        refine lc_get dX5_at_22 lc_fX5_11 h0_0 rfl ?_
        refine lc_iload_n dX5_at_25 rfl 1 rfl ?_
        refine lc_cald dX5_at_26 h0_1 (by omega) (by decide) ?_
        refine lc_goto (tgt := 32) dX5_at_27 (by decide) ?_
        exact lc_zret dX5_at_32 rfl (lc_nch (htx x (by omega) (by omega))) (Nat.le_of_ble_eq_true rfl) (Nat.le_of_ble_eq_true rfl) (hQ _ _ _ ⟨lc_some (by (repeat' split) <;> omega), rfl, rfl⟩)

set_option maxRecDepth 100000 in
set_option maxHeartbeats 4000000 in
theorem lc_cX5_isAllowed (l : Launch) (n : Nat) (c p : Int) (σ : lc_S)  (hc : -2147483648 ≤ c ∧ c < 2147483648) (hp : -2147483648 ≤ p ∧ p < 2147483648) : lc_Con l yX5_isAllowed cX5_isAllowed 2 (some .boolean) (lc_Rd 0) [.int (lc_i (c)), .int (lc_i (p))] n σ (fun v n2 σ2 => v = some (.int (lc_i (if (lc_alw c p = true) then 1 else 0))) ∧ n = n2 ∧ σ = σ2) := by
  refine lc_con RX5 false (by decide) rfl (fun h => absurd h (by decide)) (Nat.le_of_ble_eq_true rfl) ?_
  suffices H : ∀ Q : lc_QT, (∀ v n2 σ2, (fun v n2 σ2 => v = some (.int (lc_i (if (lc_alw c p = true) then 1 else 0))) ∧ n = n2 ∧ σ = σ2 : lc_QT) v n2 σ2 → Q v n2 σ2) → lc_V l RX5 cX5_isAllowed 2 (some .boolean) false (lc_Rd 0) (lc_G Q 0 0) lc_E0 0 0 n 0 [(0, .int (lc_i (c))), (1, .int (lc_i (p)))] [] σ from H _ (fun _ _ _ h => h)
  intro Q hQ
  refine lc_iload_n dX5_isAllowed_0 rfl 1 rfl ?_
  rcases (show p = 0 ∨ p = 1 ∨ p = 2 ∨ p = 3 ∨ p = 4 ∨ (p < 0 ∨ 4 < p) by omega) with h_1_0 | h_1_0 | h_1_0 | h_1_0 | h_1_0 | h_1_0
  · refine lc_swC (v := 0) (tgt := 36) dX5_isAllowed_1 h_1_0 (by decide) rfl (by decide) ?_
    refine lc_iload_n dX5_isAllowed_36 rfl 0 rfl ?_
    refine lc_bipush dX5_isAllowed_37 (by decide) ?_
    refine lc_icmp_lt (tgt := 52) dX5_isAllowed_39 (by decide) (by omega) (fun h_39_1 => ?_) (fun h_39_1 => ?_)
    · skip
      refine lc_iconst dX5_isAllowed_52 ?_
      exact lc_zret dX5_isAllowed_53 rfl (rfl) (Nat.le_of_ble_eq_true rfl) (Nat.le_of_ble_eq_true rfl) (hQ _ _ _ ⟨lc_some (by rw [if_neg (fun q9 => by have q8 := lc_alw_iff.mp q9; omega)]), rfl, rfl⟩)
    · skip
      refine lc_iload_n dX5_isAllowed_42 rfl 0 rfl ?_
      refine lc_bipush dX5_isAllowed_43 (by decide) ?_
      refine lc_icmp_gt (tgt := 52) dX5_isAllowed_45 (by decide) (by omega) (fun h_45_2 => ?_) (fun h_45_2 => ?_)
      · skip
        refine lc_iconst dX5_isAllowed_52 ?_
        exact lc_zret dX5_isAllowed_53 rfl (rfl) (Nat.le_of_ble_eq_true rfl) (Nat.le_of_ble_eq_true rfl) (hQ _ _ _ ⟨lc_some (by rw [if_neg (fun q9 => by have q8 := lc_alw_iff.mp q9; omega)]), rfl, rfl⟩)
      · skip
        refine lc_iconst dX5_isAllowed_48 ?_
        refine lc_goto (tgt := 53) dX5_isAllowed_49 (by decide) ?_
        exact lc_zret dX5_isAllowed_53 rfl (rfl) (Nat.le_of_ble_eq_true rfl) (Nat.le_of_ble_eq_true rfl) (hQ _ _ _ ⟨lc_some (by rw [if_pos (lc_alw_iff.mpr (by omega))]), rfl, rfl⟩)
  · refine lc_swC (v := 1) (tgt := 54) dX5_isAllowed_1 h_1_0 (by decide) rfl (by decide) ?_
    refine lc_iload_n dX5_isAllowed_54 rfl 0 rfl ?_
    refine lc_bipush dX5_isAllowed_55 (by decide) ?_
    refine lc_icmp_lt (tgt := 70) dX5_isAllowed_57 (by decide) (by omega) (fun h_57_3 => ?_) (fun h_57_3 => ?_)
    · skip
      refine lc_iconst dX5_isAllowed_70 ?_
      exact lc_zret dX5_isAllowed_71 rfl (rfl) (Nat.le_of_ble_eq_true rfl) (Nat.le_of_ble_eq_true rfl) (hQ _ _ _ ⟨lc_some (by rw [if_neg (fun q9 => by have q8 := lc_alw_iff.mp q9; omega)]), rfl, rfl⟩)
    · skip
      refine lc_iload_n dX5_isAllowed_60 rfl 0 rfl ?_
      refine lc_bipush dX5_isAllowed_61 (by decide) ?_
      refine lc_icmp_gt (tgt := 70) dX5_isAllowed_63 (by decide) (by omega) (fun h_63_4 => ?_) (fun h_63_4 => ?_)
      · skip
        refine lc_iconst dX5_isAllowed_70 ?_
        exact lc_zret dX5_isAllowed_71 rfl (rfl) (Nat.le_of_ble_eq_true rfl) (Nat.le_of_ble_eq_true rfl) (hQ _ _ _ ⟨lc_some (by rw [if_neg (fun q9 => by have q8 := lc_alw_iff.mp q9; omega)]), rfl, rfl⟩)
      · skip
        refine lc_iconst dX5_isAllowed_66 ?_
        refine lc_goto (tgt := 71) dX5_isAllowed_67 (by decide) ?_
        exact lc_zret dX5_isAllowed_71 rfl (rfl) (Nat.le_of_ble_eq_true rfl) (Nat.le_of_ble_eq_true rfl) (hQ _ _ _ ⟨lc_some (by rw [if_pos (lc_alw_iff.mpr (by omega))]), rfl, rfl⟩)
  · refine lc_swC (v := 2) (tgt := 72) dX5_isAllowed_1 h_1_0 (by decide) rfl (by decide) ?_
    refine lc_iload_n dX5_isAllowed_72 rfl 0 rfl ?_
    refine lc_bipush dX5_isAllowed_73 (by decide) ?_
    refine lc_icmp_eq (tgt := 84) dX5_isAllowed_75 (by decide) (by omega) (fun h_75_5 => ?_) (fun h_75_5 => ?_)
    · skip
      refine lc_iconst dX5_isAllowed_84 ?_
      refine lc_goto (tgt := 89) dX5_isAllowed_85 (by decide) ?_
      exact lc_zret dX5_isAllowed_89 rfl (rfl) (Nat.le_of_ble_eq_true rfl) (Nat.le_of_ble_eq_true rfl) (hQ _ _ _ ⟨lc_some (by rw [if_pos (lc_alw_iff.mpr (by omega))]), rfl, rfl⟩)
    · skip
      refine lc_iload_n dX5_isAllowed_78 rfl 0 rfl ?_
      refine lc_bipush dX5_isAllowed_79 (by decide) ?_
      refine lc_icmp_ne (tgt := 88) dX5_isAllowed_81 (by decide) (by omega) (fun h_81_6 => ?_) (fun h_81_6 => ?_)
      · skip
        refine lc_iconst dX5_isAllowed_88 ?_
        exact lc_zret dX5_isAllowed_89 rfl (rfl) (Nat.le_of_ble_eq_true rfl) (Nat.le_of_ble_eq_true rfl) (hQ _ _ _ ⟨lc_some (by rw [if_neg (fun q9 => by have q8 := lc_alw_iff.mp q9; omega)]), rfl, rfl⟩)
      · skip
        refine lc_iconst dX5_isAllowed_84 ?_
        refine lc_goto (tgt := 89) dX5_isAllowed_85 (by decide) ?_
        exact lc_zret dX5_isAllowed_89 rfl (rfl) (Nat.le_of_ble_eq_true rfl) (Nat.le_of_ble_eq_true rfl) (hQ _ _ _ ⟨lc_some (by rw [if_pos (lc_alw_iff.mpr (by omega))]), rfl, rfl⟩)
  · refine lc_swC (v := 3) (tgt := 36) dX5_isAllowed_1 h_1_0 (by decide) rfl (by decide) ?_
    refine lc_iload_n dX5_isAllowed_36 rfl 0 rfl ?_
    refine lc_bipush dX5_isAllowed_37 (by decide) ?_
    refine lc_icmp_lt (tgt := 52) dX5_isAllowed_39 (by decide) (by omega) (fun h_39_7 => ?_) (fun h_39_7 => ?_)
    · skip
      refine lc_iconst dX5_isAllowed_52 ?_
      exact lc_zret dX5_isAllowed_53 rfl (rfl) (Nat.le_of_ble_eq_true rfl) (Nat.le_of_ble_eq_true rfl) (hQ _ _ _ ⟨lc_some (by rw [if_neg (fun q9 => by have q8 := lc_alw_iff.mp q9; omega)]), rfl, rfl⟩)
    · skip
      refine lc_iload_n dX5_isAllowed_42 rfl 0 rfl ?_
      refine lc_bipush dX5_isAllowed_43 (by decide) ?_
      refine lc_icmp_gt (tgt := 52) dX5_isAllowed_45 (by decide) (by omega) (fun h_45_8 => ?_) (fun h_45_8 => ?_)
      · skip
        refine lc_iconst dX5_isAllowed_52 ?_
        exact lc_zret dX5_isAllowed_53 rfl (rfl) (Nat.le_of_ble_eq_true rfl) (Nat.le_of_ble_eq_true rfl) (hQ _ _ _ ⟨lc_some (by rw [if_neg (fun q9 => by have q8 := lc_alw_iff.mp q9; omega)]), rfl, rfl⟩)
      · skip
        refine lc_iconst dX5_isAllowed_48 ?_
        refine lc_goto (tgt := 53) dX5_isAllowed_49 (by decide) ?_
        exact lc_zret dX5_isAllowed_53 rfl (rfl) (Nat.le_of_ble_eq_true rfl) (Nat.le_of_ble_eq_true rfl) (hQ _ _ _ ⟨lc_some (by rw [if_pos (lc_alw_iff.mpr (by omega))]), rfl, rfl⟩)
  · refine lc_swC (v := 4) (tgt := 54) dX5_isAllowed_1 h_1_0 (by decide) rfl (by decide) ?_
    refine lc_iload_n dX5_isAllowed_54 rfl 0 rfl ?_
    refine lc_bipush dX5_isAllowed_55 (by decide) ?_
    refine lc_icmp_lt (tgt := 70) dX5_isAllowed_57 (by decide) (by omega) (fun h_57_9 => ?_) (fun h_57_9 => ?_)
    · skip
      refine lc_iconst dX5_isAllowed_70 ?_
      exact lc_zret dX5_isAllowed_71 rfl (rfl) (Nat.le_of_ble_eq_true rfl) (Nat.le_of_ble_eq_true rfl) (hQ _ _ _ ⟨lc_some (by rw [if_neg (fun q9 => by have q8 := lc_alw_iff.mp q9; omega)]), rfl, rfl⟩)
    · skip
      refine lc_iload_n dX5_isAllowed_60 rfl 0 rfl ?_
      refine lc_bipush dX5_isAllowed_61 (by decide) ?_
      refine lc_icmp_gt (tgt := 70) dX5_isAllowed_63 (by decide) (by omega) (fun h_63_10 => ?_) (fun h_63_10 => ?_)
      · skip
        refine lc_iconst dX5_isAllowed_70 ?_
        exact lc_zret dX5_isAllowed_71 rfl (rfl) (Nat.le_of_ble_eq_true rfl) (Nat.le_of_ble_eq_true rfl) (hQ _ _ _ ⟨lc_some (by rw [if_neg (fun q9 => by have q8 := lc_alw_iff.mp q9; omega)]), rfl, rfl⟩)
      · skip
        refine lc_iconst dX5_isAllowed_66 ?_
        refine lc_goto (tgt := 71) dX5_isAllowed_67 (by decide) ?_
        exact lc_zret dX5_isAllowed_71 rfl (rfl) (Nat.le_of_ble_eq_true rfl) (Nat.le_of_ble_eq_true rfl) (hQ _ _ _ ⟨lc_some (by rw [if_pos (lc_alw_iff.mpr (by omega))]), rfl, rfl⟩)
  · refine lc_swD (tgt := 90) dX5_isAllowed_1 (by omega) h_1_0 (by decide) ?_
    refine lc_iload_n dX5_isAllowed_90 rfl 0 rfl ?_
    refine lc_bipush dX5_isAllowed_91 (by decide) ?_
    refine lc_icmp_ne (tgt := 100) dX5_isAllowed_93 (by decide) (by omega) (fun h_93_11 => ?_) (fun h_93_11 => ?_)
    · skip
      refine lc_iconst dX5_isAllowed_100 ?_
      exact lc_zret dX5_isAllowed_101 rfl (rfl) (Nat.le_of_ble_eq_true rfl) (Nat.le_of_ble_eq_true rfl) (hQ _ _ _ ⟨lc_some (by rw [if_neg (fun q9 => by have q8 := lc_alw_iff.mp q9; omega)]), rfl, rfl⟩)
    · skip
      refine lc_iconst dX5_isAllowed_96 ?_
      refine lc_goto (tgt := 101) dX5_isAllowed_97 (by decide) ?_
      exact lc_zret dX5_isAllowed_101 rfl (rfl) (Nat.le_of_ble_eq_true rfl) (Nat.le_of_ble_eq_true rfl) (hQ _ _ _ ⟨lc_some (by rw [if_pos (lc_alw_iff.mpr (by omega))]), rfl, rfl⟩)

set_option maxRecDepth 100000 in
set_option maxHeartbeats 4000000 in
/-- MoveText.fault -/
theorem lc_cX5_fault (l : Launch) (n : Nat) (tx : Int → Int) (z : Int) (σ : lc_S) (h0_0 : σ (48) = some (.inr (5, [.ref (49), .int (lc_i (z))]) : lc_Cel)) (h0_1 : σ (49) = some (lc_aC 80 (tx))) (hz : 0 ≤ z ∧ z ≤ 80) (htx : ∀ i : Int, 0 ≤ i → i < z → 0 ≤ tx i ∧ tx i < 65536) : lc_Con l yX5_fault cX5_fault 2 (some .int) (lc_Rd 1) [.ref (48)] n σ (fun v n2 σ2 => v = some (.int (lc_i (lc_fault tx z))) ∧ n = n2 ∧ σ = σ2) := by
  refine lc_con RX5 false (by decide) rfl (fun h => absurd h (by decide)) (Nat.le_of_ble_eq_true rfl) ?_
  suffices H : ∀ Q : lc_QT, (∀ v n2 σ2, (fun v n2 σ2 => v = some (.int (lc_i (lc_fault tx z))) ∧ n = n2 ∧ σ = σ2 : lc_QT) v n2 σ2 → Q v n2 σ2) → lc_V l RX5 cX5_fault 2 (some .int) false (lc_Rd 1) (lc_G Q 0 0) lc_E0 0 0 n 0 [(0, .ref (48))] [] σ from H _ (fun _ _ _ h => h)
  intro Q hQ
  refine lc_iconst dX5_fault_0 ?_
  refine lc_istore_n (lv' := [(0, .ref (48)), (1, .int (lc_i (0)))]) dX5_fault_1 rfl (by decide) rfl ?_
  have loop2 : ∀ (N1 : Nat) (k : Nat), ((k : Int) ≤ z) → (lc_ff tx z.toNat 0 = lc_ff tx (z.toNat - k) k) → z - (k : Int) < (N1 : Int) → lc_V l RX5 cX5_fault 2 (some .int) false (lc_Rd 1) (lc_G Q 0 0) lc_E0 0 0 n 2 [(0, .ref (48)), (1, .int (lc_i ((k : Int))))] [] σ := by
    intro N1
    induction N1 with
    | zero =>
      intro k hk hK hm4
      exact absurd hm4 (by omega)
    | succ N1 ih3 =>
      intro k hk hK hm4
      have hxk := fun q9 : (k : Int) < z => htx k (by omega) q9
      refine lc_iload_n dX5_fault_2 rfl 1 rfl ?_
      refine lc_aload_n dX5_fault_3 rfl 0 rfl ?_
      refine lc_get dX5_fault_4 lc_fX5_15 h0_0 rfl ?_
      refine lc_icmp_ge (tgt := 33) dX5_fault_7 (by decide) (by omega) (fun h_7_4 => ?_) (fun h_7_4 => ?_)
      · skip
        refine lc_aload_n dX5_fault_33 rfl 0 rfl ?_
        refine lc_get dX5_fault_34 lc_fX5_15 h0_0 rfl ?_
        refine lc_bipush dX5_fault_37 (by decide) ?_
        refine lc_irem dX5_fault_39 (by omega) ?_
        refine lc_iconst dX5_fault_40 ?_
        refine lc_icmp_ne (tgt := 48) dX5_fault_41 (by decide) (by omega) (fun h_41_5 => ?_) (fun h_41_5 => ?_)
        · skip
          refine lc_aload_n dX5_fault_48 rfl 0 rfl ?_
          refine lc_get dX5_fault_49 lc_fX5_15 h0_0 rfl ?_
          have eK : lc_ff tx z.toNat 0 = k := (by rw [hK, show z.toNat - k = 0 from by omega]; rfl)
          exact lc_iret dX5_fault_52 rfl (Nat.le_of_ble_eq_true rfl) (Nat.le_of_ble_eq_true rfl) (hQ _ _ _ ⟨lc_some (by unfold lc_fault; rw [eK, if_neg (by omega), if_neg h_41_5]), rfl, rfl⟩)
        · skip
          refine lc_iconst dX5_fault_44 ?_
          refine lc_goto (tgt := 52) dX5_fault_45 (by decide) ?_
          have eK : lc_ff tx z.toNat 0 = k := (by rw [hK, show z.toNat - k = 0 from by omega]; rfl)
          exact lc_iret dX5_fault_52 rfl (Nat.le_of_ble_eq_true rfl) (Nat.le_of_ble_eq_true rfl) (hQ _ _ _ ⟨lc_some (by unfold lc_fault; rw [eK, if_neg (by omega), if_pos h_41_5]), rfl, rfl⟩)
      · skip
        refine lc_aload_n dX5_fault_10 rfl 0 rfl ?_
        refine lc_iload_n dX5_fault_11 rfl 1 rfl ?_
        refine lc_callV (As := [.int (lc_i ((k : Int)))]) (stk := []) (b := 48) dX5_fault_12 lc_mX5_19 lc_yX5_at h0_0 rfl (lc_cX5_at l n (tx) (z) ((k : Int)) σ h0_0 h0_1 (hz) (htx) (by omega)) rfl ⟨Nat.le_of_ble_eq_true rfl, Nat.le_of_ble_eq_true rfl⟩ ⟨Nat.le_of_ble_eq_true rfl, Nat.le_of_ble_eq_true rfl⟩ rfl (Nat.le_of_ble_eq_true rfl) (fun v7 n8 σ9 q10 => ?_)
        obtain ⟨rfl, rfl, rfl⟩ := q10
        refine lc_top (congrArg (fun z => Value.int (lc_i z)) (show (if 0 ≤ ((k : Int)) ∧ ((k : Int)) < z then tx ((k : Int)) else 32 : Int) = tx k from by rw [if_pos (by omega)])) ?_
        refine lc_iload_n dX5_fault_15 rfl 1 rfl ?_
        refine lc_bipush dX5_fault_16 (by decide) ?_
        refine lc_irem dX5_fault_18 (by omega) ?_
        refine lc_callS (As := [.int (lc_i (tx k)), .int (lc_i (((k : Int)) % (6)))]) (stk := []) dX5_fault_19 lc_mX5_23 lc_yX5_isAllowed (lc_cX5_isAllowed l n (tx k) (((k : Int)) % (6)) σ (by omega) (by omega)) rfl ⟨Nat.le_of_ble_eq_true rfl, Nat.le_of_ble_eq_true rfl⟩ ⟨Nat.le_of_ble_eq_true rfl, Nat.le_of_ble_eq_true rfl⟩ rfl (Nat.le_of_ble_eq_true rfl) (fun v11 n12 σ13 q14 => ?_)
        obtain ⟨rfl, rfl, rfl⟩ := q14
        refine lc_if_neB (tgt := 27) dX5_fault_22 (by decide) (fun h_22_14 => ?_) (fun h_22_14 => ?_)
        · skip
          refine lc_iinc (lv' := [(0, .ref (48)), (1, .int (lc_i ((k : Int) + 1)))]) dX5_fault_27 1 rfl (by decide) rfl ?_
          refine lc_goto (tgt := 2) dX5_fault_30 (by decide) ?_
          refine lc_lveq (lv' := [(0, .ref (48)), (1, .int (lc_i (((k + 1 : Nat) : Int))))]) (by rw [show ((k + 1 : Nat) : Int) = (k : Int) + 1 from by omega]) ?_
          exact ih3 (k + 1) (by omega) (by rw [hK, show z.toNat - k = (z.toNat - (k + 1)) + 1 from by omega, lc_ff_t h_22_14]) (by omega)
        · skip
          refine lc_iload_n dX5_fault_25 rfl 1 rfl ?_
          have eK : lc_ff tx z.toNat 0 = k := (by rw [hK, show z.toNat - k = (z.toNat - (k + 1)) + 1 from by omega, lc_ff_f h_22_14])
          exact lc_iret dX5_fault_26 rfl (Nat.le_of_ble_eq_true rfl) (Nat.le_of_ble_eq_true rfl) (hQ _ _ _ ⟨lc_some (by unfold lc_fault; rw [eK, if_pos (by omega)]), rfl, rfl⟩)
  exact loop2 1000 (0) (by omega) (rfl) (by omega)

set_option maxRecDepth 100000 in
set_option maxHeartbeats 4000000 in
theorem lc_cX5_moves (l : Launch) (n : Nat) (tx : Int → Int) (z : Int) (σ : lc_S) (h0_0 : σ (48) = some (.inr (5, [.ref (49), .int (lc_i (z))]) : lc_Cel)) (hz : 0 ≤ z ∧ z ≤ 80) : lc_Con l yX5_moves cX5_moves 1 (some .int) (lc_Rd 0) [.ref (48)] n σ (fun v n2 σ2 => v = some (.int (lc_i ((z + 1) / 6))) ∧ n = n2 ∧ σ = σ2) := by
  refine lc_con RX5 false (by decide) rfl (fun h => absurd h (by decide)) (Nat.le_of_ble_eq_true rfl) ?_
  suffices H : ∀ Q : lc_QT, (∀ v n2 σ2, (fun v n2 σ2 => v = some (.int (lc_i ((z + 1) / 6))) ∧ n = n2 ∧ σ = σ2 : lc_QT) v n2 σ2 → Q v n2 σ2) → lc_V l RX5 cX5_moves 1 (some .int) false (lc_Rd 0) (lc_G Q 0 0) lc_E0 0 0 n 0 [(0, .ref (48))] [] σ from H _ (fun _ _ _ h => h)
  intro Q hQ
  refine lc_aload_n dX5_moves_0 rfl 0 rfl ?_
  refine lc_get dX5_moves_1 lc_fX5_15 h0_0 rfl ?_
  refine lc_iconst dX5_moves_4 ?_
  refine lc_iadd dX5_moves_5 ?_
  refine lc_bipush dX5_moves_6 (by decide) ?_
  refine lc_idiv dX5_moves_8 (by omega) ?_
  exact lc_iret dX5_moves_9 rfl (Nat.le_of_ble_eq_true rfl) (Nat.le_of_ble_eq_true rfl) (hQ _ _ _ ⟨rfl, rfl, rfl⟩)

set_option maxRecDepth 100000 in
set_option maxHeartbeats 4000000 in
theorem lc_cX5_pointAt (l : Launch) (n : Nat) (tx : Int → Int) (z : Int) (x : Int) (σ : lc_S) (h0_0 : σ (48) = some (.inr (5, [.ref (49), .int (lc_i (z))]) : lc_Cel)) (h0_1 : σ (49) = some (lc_aC 80 (tx))) (hz : 0 ≤ z ∧ z ≤ 80) (htx : ∀ i : Int, 0 ≤ i → i < z → 0 ≤ tx i ∧ tx i < 65536) (hx : 0 ≤ x ∧ x + 1 < z) : lc_Con l yX5_pointAt cX5_pointAt 2 (some .int) (lc_Rd 1) [.ref (48), .int (lc_i (x))] n σ (fun v n2 σ2 => v = some (.int (lc_i (lc_tp tx x))) ∧ n = n2 ∧ σ = σ2) := by
  refine lc_con RX5 false (by decide) rfl (fun h => absurd h (by decide)) (Nat.le_of_ble_eq_true rfl) ?_
  suffices H : ∀ Q : lc_QT, (∀ v n2 σ2, (fun v n2 σ2 => v = some (.int (lc_i (lc_tp tx x))) ∧ n = n2 ∧ σ = σ2 : lc_QT) v n2 σ2 → Q v n2 σ2) → lc_V l RX5 cX5_pointAt 2 (some .int) false (lc_Rd 1) (lc_G Q 0 0) lc_E0 0 0 n 0 [(0, .ref (48)), (1, .int (lc_i (x)))] [] σ from H _ (fun _ _ _ h => h)
  intro Q hQ
  refine lc_aload_n dX5_pointAt_0 rfl 0 rfl ?_
  refine lc_iload_n dX5_pointAt_1 rfl 1 rfl ?_
  refine lc_iconst dX5_pointAt_2 ?_
  refine lc_iadd dX5_pointAt_3 ?_
  refine lc_callV (As := [.int (lc_i ((x) + (1)))]) (stk := []) (b := 48) dX5_pointAt_4 lc_mX5_19 lc_yX5_at h0_0 rfl (lc_cX5_at l n (tx) (z) ((x) + (1)) σ h0_0 h0_1 (hz) (htx) (by omega)) rfl ⟨Nat.le_of_ble_eq_true rfl, Nat.le_of_ble_eq_true rfl⟩ ⟨Nat.le_of_ble_eq_true rfl, Nat.le_of_ble_eq_true rfl⟩ rfl (Nat.le_of_ble_eq_true rfl) (fun v1 n2 σ3 q4 => ?_)
  obtain ⟨rfl, rfl, rfl⟩ := q4
  refine lc_top (congrArg (fun z => Value.int (lc_i z)) (show (if 0 ≤ ((x) + (1)) ∧ ((x) + (1)) < z then tx ((x) + (1)) else 32 : Int) = tx (x + 1) from by rw [if_pos (by omega)])) ?_
  refine lc_bipush dX5_pointAt_7 (by decide) ?_
  refine lc_isub dX5_pointAt_9 ?_
  refine lc_bipush dX5_pointAt_10 (by decide) ?_
  refine lc_imul dX5_pointAt_12 ?_
  refine lc_aload_n dX5_pointAt_13 rfl 0 rfl ?_
  refine lc_iload_n dX5_pointAt_14 rfl 1 rfl ?_
  refine lc_callV (As := [.int (lc_i (x))]) (stk := [.int (lc_i (((tx (x + 1)) - (49)) * (6)))]) (b := 48) dX5_pointAt_15 lc_mX5_19 lc_yX5_at h0_0 rfl (lc_cX5_at l n (tx) (z) (x) σ h0_0 h0_1 (hz) (htx) (by omega)) rfl ⟨Nat.le_of_ble_eq_true rfl, Nat.le_of_ble_eq_true rfl⟩ ⟨Nat.le_of_ble_eq_true rfl, Nat.le_of_ble_eq_true rfl⟩ rfl (Nat.le_of_ble_eq_true rfl) (fun v5 n6 σ7 q8 => ?_)
  obtain ⟨rfl, rfl, rfl⟩ := q8
  refine lc_top (congrArg (fun z => Value.int (lc_i z)) (show (if 0 ≤ (x) ∧ (x) < z then tx (x) else 32 : Int) = tx (x) from by rw [if_pos (by omega)])) ?_
  refine lc_iadd dX5_pointAt_18 ?_
  refine lc_bipush dX5_pointAt_19 (by decide) ?_
  refine lc_isub dX5_pointAt_21 ?_
  exact lc_iret dX5_pointAt_22 rfl (Nat.le_of_ble_eq_true rfl) (Nat.le_of_ble_eq_true rfl) (hQ _ _ _ ⟨rfl, rfl, rfl⟩)

set_option maxRecDepth 100000 in
set_option maxHeartbeats 4000000 in
theorem lc_cX5_fromOf (l : Launch) (n : Nat) (tx : Int → Int) (z : Int) (x : Int) (σ : lc_S) (h0_0 : σ (48) = some (.inr (5, [.ref (49), .int (lc_i (z))]) : lc_Cel)) (h0_1 : σ (49) = some (lc_aC 80 (tx))) (hz : 0 ≤ z ∧ z ≤ 80) (htx : ∀ i : Int, 0 ≤ i → i < z → 0 ≤ tx i ∧ tx i < 65536) (hx : 0 ≤ x ∧ x * 6 + 1 < z) : lc_Con l yX5_fromOf cX5_fromOf 2 (some .int) (lc_Rd 2) [.ref (48), .int (lc_i (x))] n σ (fun v n2 σ2 => v = some (.int (lc_i (lc_tp tx (x * 6)))) ∧ n = n2 ∧ σ = σ2) := by
  refine lc_con RX5 false (by decide) rfl (fun h => absurd h (by decide)) (Nat.le_of_ble_eq_true rfl) ?_
  suffices H : ∀ Q : lc_QT, (∀ v n2 σ2, (fun v n2 σ2 => v = some (.int (lc_i (lc_tp tx (x * 6)))) ∧ n = n2 ∧ σ = σ2 : lc_QT) v n2 σ2 → Q v n2 σ2) → lc_V l RX5 cX5_fromOf 2 (some .int) false (lc_Rd 2) (lc_G Q 0 0) lc_E0 0 0 n 0 [(0, .ref (48)), (1, .int (lc_i (x)))] [] σ from H _ (fun _ _ _ h => h)
  intro Q hQ
  refine lc_aload_n dX5_fromOf_0 rfl 0 rfl ?_
  refine lc_iload_n dX5_fromOf_1 rfl 1 rfl ?_
  refine lc_bipush dX5_fromOf_2 (by decide) ?_
  refine lc_imul dX5_fromOf_4 ?_
  refine lc_callV (As := [.int (lc_i ((x) * (6)))]) (stk := []) (b := 48) dX5_fromOf_5 lc_mX5_27 lc_yX5_pointAt h0_0 rfl (lc_cX5_pointAt l n (tx) (z) ((x) * (6)) σ h0_0 h0_1 (hz) (htx) (by omega)) rfl ⟨Nat.le_of_ble_eq_true rfl, Nat.le_of_ble_eq_true rfl⟩ ⟨Nat.le_of_ble_eq_true rfl, Nat.le_of_ble_eq_true rfl⟩ rfl (Nat.le_of_ble_eq_true rfl) (fun v1 n2 σ3 q4 => ?_)
  obtain ⟨rfl, rfl, rfl⟩ := q4
  exact lc_iret dX5_fromOf_8 rfl (Nat.le_of_ble_eq_true rfl) (Nat.le_of_ble_eq_true rfl) (hQ _ _ _ ⟨rfl, rfl, rfl⟩)

set_option maxRecDepth 100000 in
set_option maxHeartbeats 4000000 in
theorem lc_cX5_toOf (l : Launch) (n : Nat) (tx : Int → Int) (z : Int) (x : Int) (σ : lc_S) (h0_0 : σ (48) = some (.inr (5, [.ref (49), .int (lc_i (z))]) : lc_Cel)) (h0_1 : σ (49) = some (lc_aC 80 (tx))) (hz : 0 ≤ z ∧ z ≤ 80) (htx : ∀ i : Int, 0 ≤ i → i < z → 0 ≤ tx i ∧ tx i < 65536) (hx : 0 ≤ x ∧ x * 6 + 4 < z) : lc_Con l yX5_toOf cX5_toOf 2 (some .int) (lc_Rd 2) [.ref (48), .int (lc_i (x))] n σ (fun v n2 σ2 => v = some (.int (lc_i (lc_tp tx (x * 6 + 3)))) ∧ n = n2 ∧ σ = σ2) := by
  refine lc_con RX5 false (by decide) rfl (fun h => absurd h (by decide)) (Nat.le_of_ble_eq_true rfl) ?_
  suffices H : ∀ Q : lc_QT, (∀ v n2 σ2, (fun v n2 σ2 => v = some (.int (lc_i (lc_tp tx (x * 6 + 3)))) ∧ n = n2 ∧ σ = σ2 : lc_QT) v n2 σ2 → Q v n2 σ2) → lc_V l RX5 cX5_toOf 2 (some .int) false (lc_Rd 2) (lc_G Q 0 0) lc_E0 0 0 n 0 [(0, .ref (48)), (1, .int (lc_i (x)))] [] σ from H _ (fun _ _ _ h => h)
  intro Q hQ
  refine lc_aload_n dX5_toOf_0 rfl 0 rfl ?_
  refine lc_iload_n dX5_toOf_1 rfl 1 rfl ?_
  refine lc_bipush dX5_toOf_2 (by decide) ?_
  refine lc_imul dX5_toOf_4 ?_
  refine lc_iconst dX5_toOf_5 ?_
  refine lc_iadd dX5_toOf_6 ?_
  refine lc_callV (As := [.int (lc_i (((x) * (6)) + (3)))]) (stk := []) (b := 48) dX5_toOf_7 lc_mX5_27 lc_yX5_pointAt h0_0 rfl (lc_cX5_pointAt l n (tx) (z) (((x) * (6)) + (3)) σ h0_0 h0_1 (hz) (htx) (by omega)) rfl ⟨Nat.le_of_ble_eq_true rfl, Nat.le_of_ble_eq_true rfl⟩ ⟨Nat.le_of_ble_eq_true rfl, Nat.le_of_ble_eq_true rfl⟩ rfl (Nat.le_of_ble_eq_true rfl) (fun v1 n2 σ3 q4 => ?_)
  obtain ⟨rfl, rfl, rfl⟩ := q4
  exact lc_iret dX5_toOf_10 rfl (Nat.le_of_ble_eq_true rfl) (Nat.le_of_ble_eq_true rfl) (hQ _ _ _ ⟨rfl, rfl, rfl⟩)

set_option maxRecDepth 100000 in
set_option maxHeartbeats 4000000 in
theorem lc_cX5_isCapture (l : Launch) (n : Nat) (tx : Int → Int) (z : Int) (x : Int) (σ : lc_S) (h0_0 : σ (48) = some (.inr (5, [.ref (49), .int (lc_i (z))]) : lc_Cel)) (h0_1 : σ (49) = some (lc_aC 80 (tx))) (hz : 0 ≤ z ∧ z ≤ 80) (htx : ∀ i : Int, 0 ≤ i → i < z → 0 ≤ tx i ∧ tx i < 65536) (hx : 0 ≤ x ∧ x * 6 + 2 < z) : lc_Con l yX5_isCapture cX5_isCapture 2 (some .boolean) (lc_Rd 1) [.ref (48), .int (lc_i (x))] n σ (fun v n2 σ2 => v = some (.int (lc_i (if (tx (x * 6 + 2) = 120) then 1 else 0))) ∧ n = n2 ∧ σ = σ2) := by
  refine lc_con RX5 false (by decide) rfl (fun h => absurd h (by decide)) (Nat.le_of_ble_eq_true rfl) ?_
  suffices H : ∀ Q : lc_QT, (∀ v n2 σ2, (fun v n2 σ2 => v = some (.int (lc_i (if (tx (x * 6 + 2) = 120) then 1 else 0))) ∧ n = n2 ∧ σ = σ2 : lc_QT) v n2 σ2 → Q v n2 σ2) → lc_V l RX5 cX5_isCapture 2 (some .boolean) false (lc_Rd 1) (lc_G Q 0 0) lc_E0 0 0 n 0 [(0, .ref (48)), (1, .int (lc_i (x)))] [] σ from H _ (fun _ _ _ h => h)
  intro Q hQ
  refine lc_aload_n dX5_isCapture_0 rfl 0 rfl ?_
  refine lc_iload_n dX5_isCapture_1 rfl 1 rfl ?_
  refine lc_bipush dX5_isCapture_2 (by decide) ?_
  refine lc_imul dX5_isCapture_4 ?_
  refine lc_iconst dX5_isCapture_5 ?_
  refine lc_iadd dX5_isCapture_6 ?_
  refine lc_callV (As := [.int (lc_i (((x) * (6)) + (2)))]) (stk := []) (b := 48) dX5_isCapture_7 lc_mX5_19 lc_yX5_at h0_0 rfl (lc_cX5_at l n (tx) (z) (((x) * (6)) + (2)) σ h0_0 h0_1 (hz) (htx) (by omega)) rfl ⟨Nat.le_of_ble_eq_true rfl, Nat.le_of_ble_eq_true rfl⟩ ⟨Nat.le_of_ble_eq_true rfl, Nat.le_of_ble_eq_true rfl⟩ rfl (Nat.le_of_ble_eq_true rfl) (fun v1 n2 σ3 q4 => ?_)
  obtain ⟨rfl, rfl, rfl⟩ := q4
  refine lc_top (congrArg (fun z => Value.int (lc_i z)) (show (if 0 ≤ (((x) * (6)) + (2)) ∧ (((x) * (6)) + (2)) < z then tx (((x) * (6)) + (2)) else 32 : Int) = tx (x * 6 + 2) from by rw [if_pos (by omega)])) ?_
  have hx2 := htx (x * 6 + 2) (by omega) (by omega)
  refine lc_bipush dX5_isCapture_10 (by decide) ?_
  refine lc_icmp_ne (tgt := 19) dX5_isCapture_12 (by decide) (by omega) (fun h_12_4 => ?_) (fun h_12_4 => ?_)
  · skip
    refine lc_iconst dX5_isCapture_19 ?_
    exact lc_zret dX5_isCapture_20 rfl (rfl) (Nat.le_of_ble_eq_true rfl) (Nat.le_of_ble_eq_true rfl) (hQ _ _ _ ⟨lc_some (by rw [if_neg h_12_4]), rfl, rfl⟩)
  · skip
    refine lc_iconst dX5_isCapture_15 ?_
    refine lc_goto (tgt := 20) dX5_isCapture_16 (by decide) ?_
    exact lc_zret dX5_isCapture_20 rfl (rfl) (Nat.le_of_ble_eq_true rfl) (Nat.le_of_ble_eq_true rfl) (hQ _ _ _ ⟨lc_some (by rw [if_pos h_12_4]), rfl, rfl⟩)
