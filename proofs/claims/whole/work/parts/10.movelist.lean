/-! MoveList, and the lists that Rules makes -/
theorem lc_mem_t {f g g0 g' : Int → Int} {z z0 z' fr j d v : Int} (hd : d = 1 ∨ d = -1) (h : ∀ x : Int, lc_has g 0 z x ↔ (lc_has g0 0 z0 x ∨ lc_U f fr j d x)) (hi : ∀ x : Int, lc_has g' 0 z' x ↔ (x = v ∨ lc_has g 0 z x)) (hT : ∀ x : Int, lc_T f fr j d x ↔ x = v) : ∀ x : Int, lc_has g' 0 z' x ↔ (lc_has g0 0 z0 x ∨ lc_U f fr j (d + (-2)) x) := by
  intro x
  rw [hi x, h x, lc_U_step hd, hT x]
  constructor
  · rintro (h1 | h1 | h1)
    · exact Or.inr (Or.inr h1)
    · exact Or.inl h1
    · exact Or.inr (Or.inl h1)
  · rintro (h1 | h1 | h1)
    · exact Or.inr (Or.inl h1)
    · exact Or.inr (Or.inr h1)
    · exact Or.inl h1
theorem lc_mem_f {f g g0 : Int → Int} {z z0 fr j d : Int} (hd : d = 1 ∨ d = -1) (h : ∀ x : Int, lc_has g 0 z x ↔ (lc_has g0 0 z0 x ∨ lc_U f fr j d x)) (hT : ∀ x : Int, ¬ lc_T f fr j d x) : ∀ x : Int, lc_has g 0 z x ↔ (lc_has g0 0 z0 x ∨ lc_U f fr j (d + (-2)) x) := by
  intro x
  rw [h x, lc_U_step hd]
  constructor
  · rintro (h1 | h1)
    · exact Or.inl h1
    · exact Or.inr (Or.inl h1)
  · rintro (h1 | h1 | h1)
    · exact Or.inl h1
    · exact Or.inr h1
    · exact absurd h1 (hT x)
theorem lc_has_r {g g0 : Int → Int} {z z0 v : Int} {P : Int → Prop} (h0 : ∀ x : Int, lc_has g0 0 z0 x → P x) (hv : P v) (h : ∀ x : Int, lc_has g 0 z x ↔ (x = v ∨ lc_has g0 0 z0 x)) : ∀ x : Int, lc_has g 0 z x → P x := by
  intro x hx
  rcases (h x).mp hx with rfl | h1
  · exact hv
  · exact h0 x h1

set_option maxRecDepth 100000 in
set_option maxHeartbeats 4000000 in
theorem lc_cX4_clear (l : Launch) (n : Nat) (a : Nat) (g : Int → Int) (z c : Int) (σ : lc_S) (h0_0 : σ (a) = some (.inr (4, [.ref (a + 1), .int (lc_i (z)), .int (lc_i (c))]) : lc_Cel))  : lc_Con l yX4_clear cX4_clear 1 none (lc_Rd 0) [.ref (a)] n σ (fun v n2 σ2 => v = none ∧ n = n2 ∧ σ2 (a) = some (.inr (4, [.ref (a + 1), .int (lc_i (0)), .int (lc_i (0))]) : lc_Cel) ∧ ∀ i : Nat, i ≠ a → σ2 i = σ i) := by
  refine lc_con RX4 false (by decide) rfl (fun h => absurd h (by decide)) (Nat.le_of_ble_eq_true rfl) ?_
  suffices H : ∀ Q : lc_QT, (∀ v n2 σ2, (fun v n2 σ2 => v = none ∧ n = n2 ∧ σ2 (a) = some (.inr (4, [.ref (a + 1), .int (lc_i (0)), .int (lc_i (0))]) : lc_Cel) ∧ ∀ i : Nat, i ≠ a → σ2 i = σ i : lc_QT) v n2 σ2 → Q v n2 σ2) → lc_V l RX4 cX4_clear 1 none false (lc_Rd 0) (lc_G Q 0 0) lc_E0 0 0 n 0 [(0, .ref (a))] [] σ from H _ (fun _ _ _ h => h)
  intro Q hQ
  refine lc_aload_n dX4_clear_0 rfl 0 rfl ?_
  refine lc_iconst dX4_clear_1 ?_
  refine lc_wI (vs' := [.ref (a + 1), .int (lc_i (0)), .int (lc_i (c))]) dX4_clear_2 lc_fX4_15 h0_0 (Nat.le_of_ble_eq_true rfl) rfl rfl rfl (fun σ1 h2 fr3 => ?_)
  refine lc_aload_n dX4_clear_5 rfl 0 rfl ?_
  refine lc_iconst dX4_clear_6 ?_
  refine lc_wI (vs' := [.ref (a + 1), .int (lc_i (0)), .int (lc_i (0))]) dX4_clear_7 lc_fX4_19 h2 (Nat.le_of_ble_eq_true rfl) rfl rfl rfl (fun σ4 h5 fr6 => ?_)
  exact lc_vret dX4_clear_10 rfl (Nat.le_of_ble_eq_true rfl) (Nat.le_of_ble_eq_true rfl) (hQ _ _ _ ⟨rfl, rfl, h5, (fun i _ => ((fr6 i (by omega)).trans (fr3 i (by omega))))⟩)

set_option maxRecDepth 100000 in
set_option maxHeartbeats 4000000 in
theorem lc_cX4_size (l : Launch) (n : Nat) (a : Nat) (g : Int → Int) (z c : Int) (σ : lc_S) (h0_0 : σ (a) = some (.inr (4, [.ref (a + 1), .int (lc_i (z)), .int (lc_i (c))]) : lc_Cel))  : lc_Con l yX4_size cX4_size 1 (some .int) (lc_Rd 0) [.ref (a)] n σ (fun v n2 σ2 => v = some (.int (lc_i (z))) ∧ n = n2 ∧ σ = σ2) := by
  refine lc_con RX4 false (by decide) rfl (fun h => absurd h (by decide)) (Nat.le_of_ble_eq_true rfl) ?_
  suffices H : ∀ Q : lc_QT, (∀ v n2 σ2, (fun v n2 σ2 => v = some (.int (lc_i (z))) ∧ n = n2 ∧ σ = σ2 : lc_QT) v n2 σ2 → Q v n2 σ2) → lc_V l RX4 cX4_size 1 (some .int) false (lc_Rd 0) (lc_G Q 0 0) lc_E0 0 0 n 0 [(0, .ref (a))] [] σ from H _ (fun _ _ _ h => h)
  intro Q hQ
  refine lc_aload_n dX4_size_0 rfl 0 rfl ?_
  refine lc_get dX4_size_1 lc_fX4_15 h0_0 rfl ?_
  exact lc_iret dX4_size_4 rfl (Nat.le_of_ble_eq_true rfl) (Nat.le_of_ble_eq_true rfl) (hQ _ _ _ ⟨rfl, rfl, rfl⟩)

set_option maxRecDepth 100000 in
set_option maxHeartbeats 4000000 in
theorem lc_cX4_captures (l : Launch) (n : Nat) (a : Nat) (g : Int → Int) (z c : Int) (σ : lc_S) (h0_0 : σ (a) = some (.inr (4, [.ref (a + 1), .int (lc_i (z)), .int (lc_i (c))]) : lc_Cel))  : lc_Con l yX4_captures cX4_captures 1 (some .int) (lc_Rd 0) [.ref (a)] n σ (fun v n2 σ2 => v = some (.int (lc_i (c))) ∧ n = n2 ∧ σ = σ2) := by
  refine lc_con RX4 false (by decide) rfl (fun h => absurd h (by decide)) (Nat.le_of_ble_eq_true rfl) ?_
  suffices H : ∀ Q : lc_QT, (∀ v n2 σ2, (fun v n2 σ2 => v = some (.int (lc_i (c))) ∧ n = n2 ∧ σ = σ2 : lc_QT) v n2 σ2 → Q v n2 σ2) → lc_V l RX4 cX4_captures 1 (some .int) false (lc_Rd 0) (lc_G Q 0 0) lc_E0 0 0 n 0 [(0, .ref (a))] [] σ from H _ (fun _ _ _ h => h)
  intro Q hQ
  refine lc_aload_n dX4_captures_0 rfl 0 rfl ?_
  refine lc_get dX4_captures_1 lc_fX4_19 h0_0 rfl ?_
  exact lc_iret dX4_captures_4 rfl (Nat.le_of_ble_eq_true rfl) (Nat.le_of_ble_eq_true rfl) (hQ _ _ _ ⟨rfl, rfl, rfl⟩)

set_option maxRecDepth 100000 in
set_option maxHeartbeats 4000000 in
theorem lc_cX4_get (l : Launch) (n : Nat) (a : Nat) (g : Int → Int) (z c : Int) (x : Int) (σ : lc_S) (h0_0 : σ (a) = some (.inr (4, [.ref (a + 1), .int (lc_i (z)), .int (lc_i (c))]) : lc_Cel)) (h0_1 : σ (a + 1) = some (lc_aI 364 (g))) (hz : 0 ≤ z ∧ z ≤ 364) (hx : -2147483648 ≤ x ∧ x < 2147483648) : lc_Con l yX4_get cX4_get 2 (some .int) (lc_Rd 0) [.ref (a), .int (lc_i (x))] n σ (fun v n2 σ2 => v = some (.int (lc_i (if 0 ≤ x ∧ x < z then g x else -1))) ∧ n = n2 ∧ σ = σ2) := by
  refine lc_con RX4 false (by decide) rfl (fun h => absurd h (by decide)) (Nat.le_of_ble_eq_true rfl) ?_
  suffices H : ∀ Q : lc_QT, (∀ v n2 σ2, (fun v n2 σ2 => v = some (.int (lc_i (if 0 ≤ x ∧ x < z then g x else -1))) ∧ n = n2 ∧ σ = σ2 : lc_QT) v n2 σ2 → Q v n2 σ2) → lc_V l RX4 cX4_get 2 (some .int) false (lc_Rd 0) (lc_G Q 0 0) lc_E0 0 0 n 0 [(0, .ref (a)), (1, .int (lc_i (x)))] [] σ from H _ (fun _ _ _ h => h)
  intro Q hQ
  refine lc_iload_n dX4_get_0 rfl 1 rfl ?_
  refine lc_if_lt (tgt := 30) dX4_get_1 (by decide) (by omega) (fun h_1_0 => ?_) (fun h_1_0 => ?_)
  · skip
    refine lc_iconst dX4_get_30 ?_
    exact lc_iret dX4_get_31 rfl (Nat.le_of_ble_eq_true rfl) (Nat.le_of_ble_eq_true rfl) (hQ _ _ _ ⟨lc_some (by (repeat' split) <;> omega), rfl, rfl⟩)
  · skip
    refine lc_iload_n dX4_get_4 rfl 1 rfl ?_
    refine lc_aload_n dX4_get_5 rfl 0 rfl ?_
    refine lc_get dX4_get_6 lc_fX4_15 h0_0 rfl ?_
    refine lc_icmp_ge (tgt := 30) dX4_get_9 (by decide) (by omega) (fun h_9_1 => ?_) (fun h_9_1 => ?_)
    · skip
      refine lc_iconst dX4_get_30 ?_
      exact lc_iret dX4_get_31 rfl (Nat.le_of_ble_eq_true rfl) (Nat.le_of_ble_eq_true rfl) (hQ _ _ _ ⟨lc_some (by (repeat' split) <;> omega), rfl, rfl⟩)
    · skip
      refine lc_iload_n dX4_get_12 rfl 1 rfl ?_
      refine lc_aload_n dX4_get_13 rfl 0 rfl ?_
      refine lc_get dX4_get_14 lc_fX4_11 h0_0 rfl ?_
      refine lc_alenV (v := 364) dX4_get_17 h0_1 (by decide) rfl ?_
      refine lc_icmp_ge (tgt := 30) dX4_get_18 (by decide) (by omega) (fun h_18_2 => ?_) (fun h_18_2 => ?_)
      · skip
        refine lc_iconst dX4_get_30 ?_
        exact lc_iret dX4_get_31 rfl (Nat.le_of_ble_eq_true rfl) (Nat.le_of_ble_eq_true rfl) (hQ _ _ _ ⟨lc_some (by (repeat' split) <;> omega), rfl, rfl⟩)
      · skip
        refine lc_aload_n dX4_get_21 rfl 0 rfl ?_
        refine lc_get dX4_get_22 lc_fX4_11 h0_0 rfl ?_
        refine lc_iload_n dX4_get_25 rfl 1 rfl ?_
        refine lc_iald dX4_get_26 h0_1 (by omega) (by decide) ?_
        refine lc_goto (tgt := 31) dX4_get_27 (by decide) ?_
        exact lc_iret dX4_get_31 rfl (Nat.le_of_ble_eq_true rfl) (Nat.le_of_ble_eq_true rfl) (hQ _ _ _ ⟨lc_some (by (repeat' split) <;> omega), rfl, rfl⟩)

set_option maxRecDepth 100000 in
set_option maxHeartbeats 4000000 in
theorem lc_cX4_addQuiet (l : Launch) (n : Nat) (a : Nat) (g : Int → Int) (z c : Int) (u : Int) (σ : lc_S) (h0_0 : σ (a) = some (.inr (4, [.ref (a + 1), .int (lc_i (z)), .int (lc_i (c))]) : lc_Cel)) (h0_1 : σ (a + 1) = some (lc_aI 364 (g))) (hz : 0 ≤ z ∧ z < 364) : lc_Con l yX4_addQuiet cX4_addQuiet 2 none (lc_Rd 0) [.ref (a), .int (lc_i (u))] n σ (fun v n2 σ2 => v = none ∧ n = n2 ∧ σ2 (a) = some (.inr (4, [.ref (a + 1), .int (lc_i (z + 1)), .int (lc_i (c))]) : lc_Cel) ∧ σ2 (a + 1) = some (lc_aI 364 (lc_u g z u)) ∧ ∀ i : Nat, i ≠ a → i ≠ a + 1 → σ2 i = σ i) := by
  refine lc_con RX4 false (by decide) rfl (fun h => absurd h (by decide)) (Nat.le_of_ble_eq_true rfl) ?_
  suffices H : ∀ Q : lc_QT, (∀ v n2 σ2, (fun v n2 σ2 => v = none ∧ n = n2 ∧ σ2 (a) = some (.inr (4, [.ref (a + 1), .int (lc_i (z + 1)), .int (lc_i (c))]) : lc_Cel) ∧ σ2 (a + 1) = some (lc_aI 364 (lc_u g z u)) ∧ ∀ i : Nat, i ≠ a → i ≠ a + 1 → σ2 i = σ i : lc_QT) v n2 σ2 → Q v n2 σ2) → lc_V l RX4 cX4_addQuiet 2 none false (lc_Rd 0) (lc_G Q 0 0) lc_E0 0 0 n 0 [(0, .ref (a)), (1, .int (lc_i (u)))] [] σ from H _ (fun _ _ _ h => h)
  intro Q hQ
  refine lc_aload_n dX4_addQuiet_0 rfl 0 rfl ?_
  refine lc_get dX4_addQuiet_1 lc_fX4_15 h0_0 rfl ?_
  refine lc_if_lt (tgt := 39) dX4_addQuiet_4 (by decide) (by omega) (fun h_4_0 => ?_) (fun h_4_0 => ?_)
  · omega
  · skip
    refine lc_aload_n dX4_addQuiet_7 rfl 0 rfl ?_
    refine lc_get dX4_addQuiet_8 lc_fX4_15 h0_0 rfl ?_
    refine lc_aload_n dX4_addQuiet_11 rfl 0 rfl ?_
    refine lc_get dX4_addQuiet_12 lc_fX4_11 h0_0 rfl ?_
    refine lc_alenV (v := 364) dX4_addQuiet_15 h0_1 (by decide) rfl ?_
    refine lc_icmp_ge (tgt := 39) dX4_addQuiet_16 (by decide) (by omega) (fun h_16_1 => ?_) (fun h_16_1 => ?_)
    · omega
    · skip
      refine lc_aload_n dX4_addQuiet_19 rfl 0 rfl ?_
      refine lc_get dX4_addQuiet_20 lc_fX4_11 h0_0 rfl ?_
      refine lc_aload_n dX4_addQuiet_23 rfl 0 rfl ?_
      refine lc_get dX4_addQuiet_24 lc_fX4_15 h0_0 rfl ?_
      refine lc_iload_n dX4_addQuiet_27 rfl 1 rfl ?_
      refine lc_sI dX4_addQuiet_28 h0_1 (by omega) (by decide) (fun σ3 h4 fr5 => ?_)
      have h6 : σ3 (a) = some (.inr (4, [.ref (a + 1), .int (lc_i (z)), .int (lc_i (c))]) : lc_Cel) := (fr5 _ (by omega)).trans h0_0
      refine lc_aload_n dX4_addQuiet_29 rfl 0 rfl ?_
      refine lc_dup dX4_addQuiet_30 rfl ?_
      refine lc_get dX4_addQuiet_31 lc_fX4_15 h6 rfl ?_
      refine lc_iconst dX4_addQuiet_34 ?_
      refine lc_iadd dX4_addQuiet_35 ?_
      refine lc_wI (vs' := [.ref (a + 1), .int (lc_i ((z) + (1))), .int (lc_i (c))]) dX4_addQuiet_36 lc_fX4_15 h6 (Nat.le_of_ble_eq_true rfl) rfl rfl rfl (fun σ7 h8 fr9 => ?_)
      have h10 : σ7 (a + 1) = some (lc_aI 364 (lc_u (g) (z) (u))) := (fr9 _ (by omega)).trans h4
      exact lc_vret dX4_addQuiet_39 rfl (Nat.le_of_ble_eq_true rfl) (Nat.le_of_ble_eq_true rfl) (hQ _ _ _ ⟨rfl, rfl, h8, h10, (fun i _ _ => ((fr9 i (by omega)).trans (fr5 i (by omega))))⟩)

set_option maxRecDepth 100000 in
set_option maxHeartbeats 4000000 in
/-- MoveList.addCapture: one more member, in order, once -/
theorem lc_cX4_addCapture (l : Launch) (n : Nat) (a : Nat) (g : Int → Int) (z : Int) (u : Int) (σ : lc_S) (h0_0 : σ (a) = some (.inr (4, [.ref (a + 1), .int (lc_i (z)), .int (lc_i (z))]) : lc_Cel)) (h0_1 : σ (a + 1) = some (lc_aI 364 (g))) (hz : 0 ≤ z ∧ z < 364) (hasc : lc_asc g 0 z) (hg : ∀ x : Int, lc_has g 0 z x → -2147483648 ≤ x ∧ x < 2147483648) (hv : -2147483648 ≤ u ∧ u < 2147483648) : lc_Con l yX4_addCapture cX4_addCapture 4 none (lc_Rd 0) [.ref (a), .int (lc_i (u))] n σ (fun v9 n2 σ2 => ∃ (g2 : Int → Int) (z2 : Int), v9 = none ∧ n = n2 ∧ σ2 a = some (.inr (4, [.ref (a + 1), .int (lc_i (z2)), .int (lc_i (z2))]) : lc_Cel) ∧ σ2 (a + 1) = some (lc_aI 364 (g2)) ∧ lc_insd g z u g2 z2 ∧ ∀ i : Nat, i ≠ a → i ≠ a + 1 → σ2 i = σ i) := by
  refine lc_con RX4 false (by decide) rfl (fun h => absurd h (by decide)) (Nat.le_of_ble_eq_true rfl) ?_
  suffices H : ∀ Q : lc_QT, (∀ v n2 σ2, (fun v9 n2 σ2 => ∃ (g2 : Int → Int) (z2 : Int), v9 = none ∧ n = n2 ∧ σ2 a = some (.inr (4, [.ref (a + 1), .int (lc_i (z2)), .int (lc_i (z2))]) : lc_Cel) ∧ σ2 (a + 1) = some (lc_aI 364 (g2)) ∧ lc_insd g z u g2 z2 ∧ ∀ i : Nat, i ≠ a → i ≠ a + 1 → σ2 i = σ i : lc_QT) v n2 σ2 → Q v n2 σ2) → lc_V l RX4 cX4_addCapture 4 none false (lc_Rd 0) (lc_G Q 0 0) lc_E0 0 0 n 0 [(0, .ref (a)), (1, .int (lc_i (u)))] [] σ from H _ (fun _ _ _ h => h)
  intro Q hQ
  refine lc_aload_n dX4_addCapture_0 rfl 0 rfl ?_
  refine lc_get dX4_addCapture_1 lc_fX4_15 h0_0 rfl ?_
  refine lc_if_lt (tgt := 19) dX4_addCapture_4 (by decide) (by omega) (fun h_4_0 => ?_) (fun h_4_0 => ?_)
  · omega
  · skip
    refine lc_aload_n dX4_addCapture_7 rfl 0 rfl ?_
    refine lc_get dX4_addCapture_8 lc_fX4_15 h0_0 rfl ?_
    refine lc_aload_n dX4_addCapture_11 rfl 0 rfl ?_
    refine lc_get dX4_addCapture_12 lc_fX4_11 h0_0 rfl ?_
    refine lc_alenV (v := 364) dX4_addCapture_15 h0_1 (by decide) rfl ?_
    refine lc_icmp_lt (tgt := 20) dX4_addCapture_16 (by decide) (by omega) (fun h_16_1 => ?_) (fun h_16_1 => ?_)
    · skip
      refine lc_aload_n dX4_addCapture_20 rfl 0 rfl ?_
      refine lc_get dX4_addCapture_21 lc_fX4_15 h0_0 rfl ?_
      refine lc_istore_n (lv' := [(0, .ref (a)), (1, .int (lc_i (u))), (2, .int (lc_i (z)))]) dX4_addCapture_24 rfl (by decide) rfl ?_
      have loop4 : ∀ (N3 : Nat) (r : Int), (0 ≤ r ∧ r ≤ z) → (∀ i : Int, r ≤ i → i < z → u < g i) → r < (N3 : Int) → lc_V l RX4 cX4_addCapture 4 none false (lc_Rd 0) (lc_G Q 0 0) lc_E0 0 0 n 25 [(0, .ref (a)), (1, .int (lc_i (u))), (2, .int (lc_i (r)))] [] σ := by
        intro N3
        induction N3 with
        | zero =>
          intro r hr hgt hm6
          exact absurd hm6 (by omega)
        | succ N3 ih5 =>
          intro r hr hgt hm6
          have hgr : 0 < r → -2147483648 ≤ g (r - 1) ∧ g (r - 1) < 2147483648 := fun q9 => hg _ ⟨r - 1, by omega, rfl⟩
          have loop8 : (r = 0 ∨ g (r - 1) < u) → lc_V l RX4 cX4_addCapture 4 none false (lc_Rd 0) (lc_G Q 0 0) lc_E0 0 0 n 64 [(0, .ref (a)), (1, .int (lc_i (u))), (2, .int (lc_i (r)))] [] σ := by
            intro  hlt
            refine lc_aload_n dX4_addCapture_64 rfl 0 rfl ?_
            refine lc_get dX4_addCapture_65 lc_fX4_15 h0_0 rfl ?_
            refine lc_istore_n (lv' := [(0, .ref (a)), (1, .int (lc_i (u))), (2, .int (lc_i (r))), (3, .int (lc_i (z)))]) dX4_addCapture_68 rfl (by decide) rfl ?_
            have loop11 : ∀ (N10 : Nat) (i : Int) (hh : Int → Int) (σ13 : lc_S), (σ13 (a + 1) = some (lc_aI 364 (hh))) → (∀ i : Nat, i ≠ a + 1 → σ13 i = σ i) → (r ≤ i ∧ i ≤ z) → (∀ j : Int, j ≤ i → hh j = g j) → (∀ j : Int, i < j → j ≤ z → hh j = g (j - 1)) → i - r < (N10 : Int) → lc_V l RX4 cX4_addCapture 4 none false (lc_Rd 0) (lc_G Q 0 0) lc_E0 0 0 n 69 [(0, .ref (a)), (1, .int (lc_i (u))), (2, .int (lc_i (r))), (3, .int (lc_i (i)))] [] σ13 := by
              intro N10
              induction N10 with
              | zero =>
                intro i hh σ13 h14 fr15 hi hlo hhi hm16
                exact absurd hm16 (by omega)
              | succ N10 ih12 =>
                intro i hh σ13 h14 fr15 hi hlo hhi hm16
                have h17 : σ13 (a) = some (.inr (4, [.ref (a + 1), .int (lc_i (z)), .int (lc_i (z))]) : lc_Cel) := (fr15 _ (by omega)).trans h0_0
                refine lc_iload_n dX4_addCapture_69 rfl 3 rfl ?_
                refine lc_iload_n dX4_addCapture_70 rfl 2 rfl ?_
                refine lc_icmp_le (tgt := 94) dX4_addCapture_71 (by decide) (by omega) (fun h_71_17 => ?_) (fun h_71_17 => ?_)
                · skip
                  refine lc_aload_n dX4_addCapture_94 rfl 0 rfl ?_
                  refine lc_get dX4_addCapture_95 lc_fX4_11 h17 rfl ?_
                  refine lc_iload_n dX4_addCapture_98 rfl 2 rfl ?_
                  refine lc_iload_n dX4_addCapture_99 rfl 1 rfl ?_
                  refine lc_sI dX4_addCapture_100 h14 (by omega) (by decide) (fun σ19 h20 fr21 => ?_)
                  have h22 : σ19 (a) = some (.inr (4, [.ref (a + 1), .int (lc_i (z)), .int (lc_i (z))]) : lc_Cel) := (fr21 _ (by omega)).trans h17
                  refine lc_aload_n dX4_addCapture_101 rfl 0 rfl ?_
                  refine lc_dup dX4_addCapture_102 rfl ?_
                  refine lc_get dX4_addCapture_103 lc_fX4_15 h22 rfl ?_
                  refine lc_iconst dX4_addCapture_106 ?_
                  refine lc_iadd dX4_addCapture_107 ?_
                  refine lc_wI (vs' := [.ref (a + 1), .int (lc_i ((z) + (1))), .int (lc_i (z))]) dX4_addCapture_108 lc_fX4_15 h22 (Nat.le_of_ble_eq_true rfl) rfl rfl rfl (fun σ23 h24 fr25 => ?_)
                  have h26 : σ23 (a + 1) = some (lc_aI 364 (lc_u (hh) (r) (u))) := (fr25 _ (by omega)).trans h20
                  refine lc_aload_n dX4_addCapture_111 rfl 0 rfl ?_
                  refine lc_aload_n dX4_addCapture_112 rfl 0 rfl ?_
                  refine lc_get dX4_addCapture_113 lc_fX4_15 h24 rfl ?_
                  refine lc_wI (vs' := [.ref (a + 1), .int (lc_i ((z) + (1))), .int (lc_i ((z) + (1)))]) dX4_addCapture_116 lc_fX4_19 h24 (Nat.le_of_ble_eq_true rfl) rfl rfl rfl (fun σ27 h28 fr29 => ?_)
                  have h30 : σ27 (a + 1) = some (lc_aI 364 (lc_u (hh) (r) (u))) := (fr29 _ (by omega)).trans h26
                  exact lc_vret dX4_addCapture_119 rfl (Nat.le_of_ble_eq_true rfl) (Nat.le_of_ble_eq_true rfl) (hQ _ _ _ ⟨(lc_u (hh) (r) (u)), ((z) + (1)), rfl, rfl, h28, h30, by have ei : r = i := (by omega); subst ei; exact lc_insd_n hasc hr hgt hlt hlo hhi, (fun i _ _ => ((fr29 i (by omega)).trans ((fr25 i (by omega)).trans ((fr21 i (by omega)).trans (fr15 i (by omega))))))⟩)
                · skip
                  refine lc_aload_n dX4_addCapture_74 rfl 0 rfl ?_
                  refine lc_get dX4_addCapture_75 lc_fX4_11 h17 rfl ?_
                  refine lc_iload_n dX4_addCapture_78 rfl 3 rfl ?_
                  refine lc_aload_n dX4_addCapture_79 rfl 0 rfl ?_
                  refine lc_get dX4_addCapture_80 lc_fX4_11 h17 rfl ?_
                  refine lc_iload_n dX4_addCapture_83 rfl 3 rfl ?_
                  refine lc_iconst dX4_addCapture_84 ?_
                  refine lc_isub dX4_addCapture_85 ?_
                  refine lc_iald dX4_addCapture_86 h14 (by omega) (by decide) ?_
                  refine lc_sI dX4_addCapture_87 h14 (by omega) (by decide) (fun σ31 h32 fr33 => ?_)
                  have h34 : σ31 (a) = some (.inr (4, [.ref (a + 1), .int (lc_i (z)), .int (lc_i (z))]) : lc_Cel) := (fr33 _ (by omega)).trans h17
                  refine lc_iinc (lv' := [(0, .ref (a)), (1, .int (lc_i (u))), (2, .int (lc_i (r))), (3, .int (lc_i (i + (-1))))]) dX4_addCapture_88 3 rfl (by decide) rfl ?_
                  refine lc_goto (tgt := 69) dX4_addCapture_91 (by decide) ?_
                  exact ih12 (i + (-1)) (lc_u (hh) (i) ((hh) ((i) - (1)))) σ31 h32 (fun i _ => ((fr33 i (by omega)).trans (fr15 i (by omega)))) (by omega) (fun j h1 => by rw [lc_u_n _ _ (by omega)]; exact hlo j (by omega)) (fun j h1 h2 => by by_cases e9 : j = i; (rw [e9, lc_u_s]; exact hlo _ (by omega)); (rw [lc_u_n _ _ e9]; exact hhi j (by omega) h2)) (by omega)
            exact loop11 1000 (z) (g) σ h0_1 (fun _ _ => rfl) (by omega) (fun j _ => rfl) (fun j h1 h2 => absurd h1 (by omega)) (by omega)
          refine lc_iload_n dX4_addCapture_25 rfl 2 rfl ?_
          refine lc_if_le (tgt := 47) dX4_addCapture_26 (by decide) (by omega) (fun h_26_34 => ?_) (fun h_26_34 => ?_)
          · skip
            refine lc_iload_n dX4_addCapture_47 rfl 2 rfl ?_
            refine lc_if_le (tgt := 64) dX4_addCapture_48 (by decide) (by omega) (fun h_48_35 => ?_) (fun h_48_35 => ?_)
            · skip
              exact loop8  (Or.inl (by omega)) 
            · skip
              refine lc_aload_n dX4_addCapture_51 rfl 0 rfl ?_
              refine lc_get dX4_addCapture_52 lc_fX4_11 h0_0 rfl ?_
              refine lc_iload_n dX4_addCapture_55 rfl 2 rfl ?_
              refine lc_iconst dX4_addCapture_56 ?_
              refine lc_isub dX4_addCapture_57 ?_
              refine lc_iald dX4_addCapture_58 h0_1 (by omega) (by decide) ?_
              refine lc_iload_n dX4_addCapture_59 rfl 1 rfl ?_
              refine lc_icmp_ne (tgt := 64) dX4_addCapture_60 (by decide) (by omega) (fun h_60_36 => ?_) (fun h_60_36 => ?_)
              · skip
                exact loop8  (Or.inr (by omega)) 
              · skip
                exact lc_vret dX4_addCapture_63 rfl (Nat.le_of_ble_eq_true rfl) (Nat.le_of_ble_eq_true rfl) (hQ _ _ _ ⟨g, z, rfl, rfl, h0_0, h0_1, lc_insd_o hasc (r := r) ⟨by omega, by omega⟩ h_60_36, (fun i _ _ => rfl)⟩)
          · skip
            refine lc_aload_n dX4_addCapture_29 rfl 0 rfl ?_
            refine lc_get dX4_addCapture_30 lc_fX4_11 h0_0 rfl ?_
            refine lc_iload_n dX4_addCapture_33 rfl 2 rfl ?_
            refine lc_iconst dX4_addCapture_34 ?_
            refine lc_isub dX4_addCapture_35 ?_
            refine lc_iald dX4_addCapture_36 h0_1 (by omega) (by decide) ?_
            refine lc_iload_n dX4_addCapture_37 rfl 1 rfl ?_
            refine lc_icmp_le (tgt := 47) dX4_addCapture_38 (by decide) (by omega) (fun h_38_37 => ?_) (fun h_38_37 => ?_)
            · skip
              refine lc_iload_n dX4_addCapture_47 rfl 2 rfl ?_
              refine lc_if_le (tgt := 64) dX4_addCapture_48 (by decide) (by omega) (fun h_48_38 => ?_) (fun h_48_38 => ?_)
              · skip
                exact loop8  (Or.inl (by omega)) 
              · skip
                refine lc_aload_n dX4_addCapture_51 rfl 0 rfl ?_
                refine lc_get dX4_addCapture_52 lc_fX4_11 h0_0 rfl ?_
                refine lc_iload_n dX4_addCapture_55 rfl 2 rfl ?_
                refine lc_iconst dX4_addCapture_56 ?_
                refine lc_isub dX4_addCapture_57 ?_
                refine lc_iald dX4_addCapture_58 h0_1 (by omega) (by decide) ?_
                refine lc_iload_n dX4_addCapture_59 rfl 1 rfl ?_
                refine lc_icmp_ne (tgt := 64) dX4_addCapture_60 (by decide) (by omega) (fun h_60_39 => ?_) (fun h_60_39 => ?_)
                · skip
                  exact loop8  (Or.inr (by omega)) 
                · skip
                  exact lc_vret dX4_addCapture_63 rfl (Nat.le_of_ble_eq_true rfl) (Nat.le_of_ble_eq_true rfl) (hQ _ _ _ ⟨g, z, rfl, rfl, h0_0, h0_1, lc_insd_o hasc (r := r) ⟨by omega, by omega⟩ h_60_39, (fun i _ _ => rfl)⟩)
            · skip
              refine lc_iinc (lv' := [(0, .ref (a)), (1, .int (lc_i (u))), (2, .int (lc_i (r + (-1))))]) dX4_addCapture_41 2 rfl (by decide) rfl ?_
              refine lc_goto (tgt := 25) dX4_addCapture_44 (by decide) ?_
              exact ih5 (r + (-1)) (by omega) (fun i h1 h2 => by by_cases e9 : i = r - 1; (rw [e9]; exact h_38_37); (exact hgt i (by omega) h2)) (by omega)
      exact loop4 1000 (z) (by omega) (fun i h1 h2 => absurd h1 (by omega)) (by omega)
    · omega

def lc_lo1 (x : Int) : Int := if (0 : Int) < x - 1 then x - 1 else 0
def lc_hi1 (x : Int) : Int := if x + 1 < 5 then x + 1 else 5
theorem lc_lo1_r (x : Int) : 0 ≤ lc_lo1 x ∧ x - 1 ≤ lc_lo1 x ∧ (lc_lo1 x = 0 ∨ lc_lo1 x = x - 1) := by unfold lc_lo1; split <;> omega
theorem lc_hi1_r (x : Int) : lc_hi1 x ≤ 5 ∧ lc_hi1 x ≤ x + 1 ∧ (lc_hi1 x = 5 ∨ lc_hi1 x = x + 1) := by unfold lc_hi1; split <;> omega
def lc_Vs (f : Int → Int) (fr r c x : Int) : Prop := ∃ to : Int, (0 ≤ to ∧ to < 36) ∧ lc_step f fr to = true ∧ (to / 6 < r ∨ (to / 6 = r ∧ to % 6 < c)) ∧ x = fr * 100 + to
theorem lc_Vs_0 {f : Int → Int} {fr r x : Int} (h : r ≤ fr / 6 - 1 ∨ r ≤ 0) : ¬ lc_Vs f fr r 0 x := by
  rintro ⟨to, h1, h2, h3, -⟩
  have h4 := lc_step_iff.mp h2
  omega
theorem lc_Vs_c0 {f : Int → Int} {fr r c x : Int} (h : c ≤ fr % 6 - 1 ∨ c ≤ 0) : lc_Vs f fr r c x ↔ lc_Vs f fr r 0 x := by
  constructor
  · rintro ⟨to, h1, h2, h3, h5⟩
    have h4 := lc_step_iff.mp h2
    exact ⟨to, h1, h2, by omega, h5⟩
  · rintro ⟨to, h1, h2, h3, h5⟩
    exact ⟨to, h1, h2, by omega, h5⟩
theorem lc_Vs_end {f : Int → Int} {fr r c x : Int} (h : 5 < c ∨ fr % 6 + 1 < c) : lc_Vs f fr (r + 1) 0 x ↔ lc_Vs f fr r c x := by
  constructor
  · rintro ⟨to, h1, h2, h3, h5⟩
    have h4 := lc_step_iff.mp h2
    exact ⟨to, h1, h2, by omega, h5⟩
  · rintro ⟨to, h1, h2, h3, h5⟩
    exact ⟨to, h1, h2, by omega, h5⟩
theorem lc_Vs_all {f : Int → Int} {fr r x : Int} (h : 5 < r ∨ fr / 6 + 1 < r) : lc_Vs f fr r 0 x ↔ ∃ to : Int, (0 ≤ to ∧ to < 36) ∧ lc_step f fr to = true ∧ x = fr * 100 + to := by
  constructor
  · rintro ⟨to, h1, h2, h3, h5⟩
    exact ⟨to, h1, h2, h5⟩
  · rintro ⟨to, h1, h2, h5⟩
    have h4 := lc_step_iff.mp h2
    exact ⟨to, h1, h2, by omega, h5⟩
theorem lc_Vs_skip {f : Int → Int} {fr r c x : Int} (hr : 0 ≤ r ∧ r ≤ 5) (hc : 0 ≤ c ∧ c ≤ 5) (h : f (r * 6 + c) ≠ 0) : lc_Vs f fr r (c + 1) x ↔ lc_Vs f fr r c x := by
  constructor
  · rintro ⟨to, h1, h2, h3, h5⟩
    have h4 := (lc_step_iff.mp h2).1
    refine ⟨to, h1, h2, ?_, h5⟩
    by_cases e : to = r * 6 + c
    · rw [e] at h4; exact absurd h4 h
    · omega
  · rintro ⟨to, h1, h2, h3, h5⟩
    exact ⟨to, h1, h2, by omega, h5⟩
theorem lc_Vs_add {f : Int → Int} {fr r c x : Int} (hr : (0 ≤ r ∧ r ≤ 5) ∧ (-1 ≤ fr / 6 - r ∧ fr / 6 - r ≤ 1)) (hc : (0 ≤ c ∧ c ≤ 5) ∧ (-1 ≤ fr % 6 - c ∧ fr % 6 - c ≤ 1)) (h : f (r * 6 + c) = 0) : lc_Vs f fr r (c + 1) x ↔ (lc_Vs f fr r c x ∨ x = fr * 100 + (r * 6 + c)) := by
  constructor
  · rintro ⟨to, h1, h2, h3, h5⟩
    by_cases e : to = r * 6 + c
    · exact Or.inr (by rw [h5, e])
    · exact Or.inl ⟨to, h1, h2, by omega, h5⟩
  · rintro (⟨to, h1, h2, h3, h5⟩ | h5)
    · exact ⟨to, h1, h2, by omega, h5⟩
    · exact ⟨r * 6 + c, by omega, lc_step_iff.mpr ⟨h, by omega, by omega⟩, by omega, h5⟩
theorem lc_push {g : Int → Int} {lo z v : Int} (hz : lo ≤ z) (ha : lc_asc g lo z) (hl : ∀ x : Int, lc_has g lo z x → x < v) : lc_asc (lc_u g z v) lo (z + 1) ∧ ∀ x : Int, lc_has (lc_u g z v) lo (z + 1) x ↔ (lc_has g lo z x ∨ x = v) := by
  refine ⟨fun i j h1 h2 h3 => ?_, fun x => ⟨?_, ?_⟩⟩
  · by_cases e : j = z
    · rw [e, lc_u_s, lc_u_n _ _ (by omega)]
      exact hl _ ⟨i, by omega, rfl⟩
    · rw [lc_u_n _ _ e, lc_u_n _ _ (by omega)]
      exact ha i j h1 h2 (by omega)
  · rintro ⟨i, h1, rfl⟩
    by_cases e : i = z
    · exact Or.inr (by rw [e, lc_u_s])
    · exact Or.inl ⟨i, by omega, (lc_u_n _ _ e).symm⟩
  · rintro (⟨i, h1, rfl⟩ | rfl)
    · exact ⟨i, by omega, lc_u_n _ _ (by omega)⟩
    · exact ⟨z, by omega, lc_u_s _ _ _⟩
theorem lc_nb_step {fr to : Int} {f : Int → Int} (hfr : 0 ≤ fr ∧ fr < 36) (hto : 0 ≤ to ∧ to < 36) (h : lc_step f fr to = true) (hf : f fr ≠ 0) : lc_nb (fr * 100 + to) = true := by
  have h1 := lc_step_iff.mp h
  have h2 : fr ≠ to := fun e => hf (by rw [e]; exact h1.1)
  have e1 : (fr * 100 + to) / 100 = fr := by omega
  have e2 : (fr * 100 + to) % 100 = to := by omega
  exact decide_eq_true (by rw [e1, e2]; omega)

set_option maxRecDepth 100000 in
set_option maxHeartbeats 4000000 in
/-- Rules.listCaptures -/
theorem lc_cX6_listCaptures (l : Launch) (n : Nat) (a1 a2 a3 : Int) (b : Nat) (f : Int → Int) (o t s q m : Int) (fr : Int) (a : Nat) (g : Int → Int) (z : Int) (σ : lc_S) (h0_0 : σ (7) = some (.inr (6, [.ref (2), .ref (8), .ref (5)]) : lc_Cel)) (h0_1 : σ (2) = some (.inr (1, [.ref (3), .ref (4)]) : lc_Cel)) (h0_2 : σ (3) = some (lc_aI 48 (lc_pt))) (h0_3 : σ (4) = some (lc_aI 72 (lc_sp))) (h0_4 : σ (8) = some (.inr (8, [.ref (2), .int (lc_i (a1)), .int (lc_i (a2)), .int (lc_i (a3))]) : lc_Cel)) (h0_5 : σ (b) = some (.inr (0, [.ref (b + 1), .int (lc_i (o)), .int (lc_i (t)), .int (lc_i (s)), .int (lc_i (q)), .int (lc_i (m))]) : lc_Cel)) (h0_6 : σ (b + 1) = some (lc_aI 36 (f))) (h0_7 : σ (a) = some (.inr (4, [.ref (a + 1), .int (lc_i (z)), .int (lc_i (z))]) : lc_Cel)) (h0_8 : σ (a + 1) = some (lc_aI 364 (g))) (hf : ∀ j : Int, 0 ≤ j → j < 36 → 0 ≤ f j ∧ f j ≤ 2) (hb : 12 ≤ b) (hfr : 0 ≤ fr ∧ fr < 36) (hs1 : 1 ≤ f fr) (hz : 0 ≤ z ∧ z ≤ 140) (hasc : lc_asc g 0 z) (hg : ∀ x : Int, lc_has g 0 z x → 0 ≤ x ∧ x < 3600) (hab : 8 < a ∧ b ≠ a ∧ b ≠ a + 1 ∧ b + 1 ≠ a) : lc_Con l yX6_listCaptures cX6_listCaptures 8 none (lc_Rd 2) [.ref (7), .ref (b), .int (lc_i (fr)), .ref (a)] n σ (fun v n2 σ2 => ∃ (c1 c2 c3 : Int) (g2 : Int → Int) (z2 : Int), v = none ∧ n = n2 ∧ σ2 8 = some (.inr (8, [.ref (2), .int (lc_i (c1)), .int (lc_i (c2)), .int (lc_i (c3))]) : lc_Cel) ∧ σ2 (a) = some (.inr (4, [.ref (a + 1), .int (lc_i (z2)), .int (lc_i (z2))]) : lc_Cel) ∧ σ2 (a + 1) = some (lc_aI 364 (g2)) ∧ ((z ≤ z2 ∧ z2 ≤ z + 4) ∧ lc_asc g2 0 z2 ∧ ∀ x : Int, lc_has g2 0 z2 x ↔ (lc_has g 0 z x ∨ lc_U f fr 2 1 x)) ∧ ∀ i : Nat, i ≠ 8 → i ≠ a → i ≠ a + 1 → σ2 i = σ i) := by
  have hffr := hf fr hfr.1 hfr.2
  refine lc_con RX6 false (by decide) rfl (fun h => absurd h (by decide)) (Nat.le_of_ble_eq_true rfl) ?_
  suffices H : ∀ Q : lc_QT, (∀ v n2 σ2, (fun v n2 σ2 => ∃ (c1 c2 c3 : Int) (g2 : Int → Int) (z2 : Int), v = none ∧ n = n2 ∧ σ2 8 = some (.inr (8, [.ref (2), .int (lc_i (c1)), .int (lc_i (c2)), .int (lc_i (c3))]) : lc_Cel) ∧ σ2 (a) = some (.inr (4, [.ref (a + 1), .int (lc_i (z2)), .int (lc_i (z2))]) : lc_Cel) ∧ σ2 (a + 1) = some (lc_aI 364 (g2)) ∧ ((z ≤ z2 ∧ z2 ≤ z + 4) ∧ lc_asc g2 0 z2 ∧ ∀ x : Int, lc_has g2 0 z2 x ↔ (lc_has g 0 z x ∨ lc_U f fr 2 1 x)) ∧ ∀ i : Nat, i ≠ 8 → i ≠ a → i ≠ a + 1 → σ2 i = σ i : lc_QT) v n2 σ2 → Q v n2 σ2) → lc_V l RX6 cX6_listCaptures 8 none false (lc_Rd 2) (lc_G Q 0 0) lc_E0 0 0 n 0 [(0, .ref (7)), (1, .ref (b)), (2, .int (lc_i (fr))), (3, .ref (a))] [] σ from H _ (fun _ _ _ h => h)
  intro Q hQ
  refine lc_iconst dX6_listCaptures_0 ?_
  refine lc_aload_n dX6_listCaptures_1 rfl 1 rfl ?_
  refine lc_iload_n dX6_listCaptures_2 rfl 2 rfl ?_
  refine lc_callV (As := [.int (lc_i (fr))]) (stk := [.int (lc_i (3))]) (b := b) dX6_listCaptures_3 lc_mX6_37 lc_yX0_at h0_5 rfl (lc_cX0_at l n (b) (f) (o) (t) (s) (q) (m) (fr) σ h0_5 h0_6 (by omega)) rfl ⟨Nat.le_of_ble_eq_true rfl, Nat.le_of_ble_eq_true rfl⟩ ⟨Nat.le_of_ble_eq_true rfl, Nat.le_of_ble_eq_true rfl⟩ rfl (Nat.le_of_ble_eq_true rfl) (fun v1 n2 σ3 q4 => ?_)
  obtain ⟨rfl, rfl, rfl⟩ := q4
  refine lc_top (congrArg (fun z => Value.int (lc_i z)) (show (if 0 ≤ (fr) ∧ (fr) < 36 then (f) (fr) else 0 : Int) = f fr from by rw [if_pos (by omega)])) ?_
  refine lc_isub dX6_listCaptures_6 ?_
  refine lc_istore (lv' := [(0, .ref (7)), (1, .ref (b)), (2, .int (lc_i (fr))), (3, .ref (a)), (4, .int (lc_i ((3) - (f fr))))]) dX6_listCaptures_7 (by decide) rfl ?_
  refine lc_iconst dX6_listCaptures_9 ?_
  refine lc_istore (lv' := [(0, .ref (7)), (1, .ref (b)), (2, .int (lc_i (fr))), (3, .ref (a)), (4, .int (lc_i ((3) - (f fr)))), (5, .int (lc_i (0)))]) dX6_listCaptures_10 (by decide) rfl ?_
  have loop6 : ∀ (N5 : Nat) (j : Int) (gk : Int → Int) (zk : Int) (e1 : Int) (e2 : Int) (e3 : Int) (σ8 : lc_S), (σ8 (8) = some (.inr (8, [.ref (2), .int (lc_i (e1)), .int (lc_i (e2)), .int (lc_i (e3))]) : lc_Cel)) → (σ8 (a) = some (.inr (4, [.ref (a + 1), .int (lc_i (zk)), .int (lc_i (zk))]) : lc_Cel)) → (σ8 (a + 1) = some (lc_aI 364 (gk))) → (∀ i : Nat, i ≠ 8 → i ≠ a → i ≠ a + 1 → σ8 i = σ i) → (0 ≤ j ∧ j ≤ 2) → (z ≤ zk ∧ zk ≤ z + 2 * j) → (lc_asc gk 0 zk) → (∀ x : Int, lc_has gk 0 zk x ↔ (lc_has g 0 z x ∨ lc_U f fr j 1 x)) → (∀ x : Int, lc_has gk 0 zk x → 0 ≤ x ∧ x < 3600) → 2 - j < (N5 : Int) → lc_V l RX6 cX6_listCaptures 8 none false (lc_Rd 2) (lc_G Q 0 0) lc_E0 0 0 n 12 [(0, .ref (7)), (1, .ref (b)), (2, .int (lc_i (fr))), (3, .ref (a)), (4, .int (lc_i ((3) - (f fr)))), (5, .int (lc_i (j)))] [] σ8 := by
    intro N5
    induction N5 with
    | zero =>
      intro j gk zk e1 e2 e3 σ8 h9 h10 h11 fr12 hj hzk hasck hmk hgk hm13
      exact absurd hm13 (by omega)
    | succ N5 ih7 =>
      intro j gk zk e1 e2 e3 σ8 h9 h10 h11 fr12 hj hzk hasck hmk hgk hm13
      have h14 : σ8 (7) = some (.inr (6, [.ref (2), .ref (8), .ref (5)]) : lc_Cel) := (fr12 _ (by omega) (by omega) (by omega)).trans h0_0
      have h15 : σ8 (2) = some (.inr (1, [.ref (3), .ref (4)]) : lc_Cel) := (fr12 _ (by omega) (by omega) (by omega)).trans h0_1
      have h16 : σ8 (3) = some (lc_aI 48 (lc_pt)) := (fr12 _ (by omega) (by omega) (by omega)).trans h0_2
      have h17 : σ8 (4) = some (lc_aI 72 (lc_sp)) := (fr12 _ (by omega) (by omega) (by omega)).trans h0_3
      have h18 : σ8 (b) = some (.inr (0, [.ref (b + 1), .int (lc_i (o)), .int (lc_i (t)), .int (lc_i (s)), .int (lc_i (q)), .int (lc_i (m))]) : lc_Cel) := (fr12 _ (by omega) (by omega) (by omega)).trans h0_5
      have h19 : σ8 (b + 1) = some (lc_aI 36 (f)) := (fr12 _ (by omega) (by omega) (by omega)).trans h0_6
      refine lc_iload dX6_listCaptures_12 5 rfl ?_
      refine lc_iconst dX6_listCaptures_14 ?_
      refine lc_icmp_ge (tgt := 122) dX6_listCaptures_15 (by decide) (by omega) (fun h_15_19 => ?_) (fun h_15_19 => ?_)
      · skip
        exact lc_vret dX6_listCaptures_122 rfl (Nat.le_of_ble_eq_true rfl) (Nat.le_of_ble_eq_true rfl) (hQ _ _ _ ⟨e1, e2, e3, gk, zk, rfl, rfl, h9, h10, h11, ⟨by omega, hasck, by have ej : j = 2 := (by omega); rw [ej] at hmk; exact hmk⟩, (fun i _ _ _ => (fr12 i (by omega) (by omega) (by omega)))⟩)
      · skip
        refine lc_aload_n dX6_listCaptures_18 rfl 0 rfl ?_
        refine lc_get dX6_listCaptures_19 lc_fX6_9 h14 rfl ?_
        refine lc_iload_n dX6_listCaptures_22 rfl 2 rfl ?_
        refine lc_iload dX6_listCaptures_23 5 rfl ?_
        refine lc_callV (As := [.int (lc_i (fr)), .int (lc_i (j))]) (stk := []) (b := 2) dX6_listCaptures_25 lc_mX6_80 lc_yX1_spotOf h15 rfl (lc_cX1_spotOf l n (fr) (j) σ8 h15 h17 (by omega) (by omega)) rfl ⟨Nat.le_of_ble_eq_true rfl, Nat.le_of_ble_eq_true rfl⟩ ⟨Nat.le_of_ble_eq_true rfl, Nat.le_of_ble_eq_true rfl⟩ rfl (Nat.le_of_ble_eq_true rfl) (fun v21 n22 σ23 q24 => ?_)
        obtain ⟨rfl, rfl, rfl⟩ := q24
        refine lc_top (congrArg (fun z => Value.int (lc_i z)) (show (lc_sp ((fr) * 2 + (j)) : Int) = lc_sp (fr * 2 + j) from rfl)) ?_
        refine lc_istore (lv' := [(0, .ref (7)), (1, .ref (b)), (2, .int (lc_i (fr))), (3, .ref (a)), (4, .int (lc_i ((3) - (f fr)))), (5, .int (lc_i (j))), (6, .int (lc_i (lc_sp (fr * 2 + j))))]) dX6_listCaptures_28 (by decide) rfl ?_
        refine lc_iconst dX6_listCaptures_30 ?_
        refine lc_istore (lv' := [(0, .ref (7)), (1, .ref (b)), (2, .int (lc_i (fr))), (3, .ref (a)), (4, .int (lc_i ((3) - (f fr)))), (5, .int (lc_i (j))), (6, .int (lc_i (lc_sp (fr * 2 + j)))), (7, .int (lc_i (1)))]) dX6_listCaptures_31 (by decide) rfl ?_
        have loop26 : ∀ (N25 : Nat) (d : Int) (gi : Int → Int) (zi : Int) (p1 : Int) (p2 : Int) (p3 : Int) (σ28 : lc_S), (σ28 (8) = some (.inr (8, [.ref (2), .int (lc_i (p1)), .int (lc_i (p2)), .int (lc_i (p3))]) : lc_Cel)) → (σ28 (a) = some (.inr (4, [.ref (a + 1), .int (lc_i (zi)), .int (lc_i (zi))]) : lc_Cel)) → (σ28 (a + 1) = some (lc_aI 364 (gi))) → (∀ i : Nat, i ≠ 8 → i ≠ a → i ≠ a + 1 → σ28 i = σ8 i) → (d = 1 ∨ d = -1 ∨ d = -3) → (z ≤ zi ∧ 2 * zi ≤ 2 * z + 4 * j + 1 - d) → (lc_asc gi 0 zi) → (∀ x : Int, lc_has gi 0 zi x ↔ (lc_has g 0 z x ∨ lc_U f fr j d x)) → (∀ x : Int, lc_has gi 0 zi x → 0 ≤ x ∧ x < 3600) → d + 4 < (N25 : Int) → lc_V l RX6 cX6_listCaptures 8 none false (lc_Rd 2) (lc_G Q 0 0) lc_E0 0 0 n 33 [(0, .ref (7)), (1, .ref (b)), (2, .int (lc_i (fr))), (3, .ref (a)), (4, .int (lc_i ((3) - (f fr)))), (5, .int (lc_i (j))), (6, .int (lc_i (lc_sp (fr * 2 + j)))), (7, .int (lc_i (d)))] [] σ28 := by
          intro N25
          induction N25 with
          | zero =>
            intro d gi zi p1 p2 p3 σ28 h29 h30 h31 fr32 hd hzi hasci hmi hgi hm33
            exact absurd hm33 (by omega)
          | succ N25 ih27 =>
            intro d gi zi p1 p2 p3 σ28 h29 h30 h31 fr32 hd hzi hasci hmi hgi hm33
            have h34 : σ28 (7) = some (.inr (6, [.ref (2), .ref (8), .ref (5)]) : lc_Cel) := (fr32 _ (by omega) (by omega) (by omega)).trans h14
            have h35 : σ28 (2) = some (.inr (1, [.ref (3), .ref (4)]) : lc_Cel) := (fr32 _ (by omega) (by omega) (by omega)).trans h15
            have h36 : σ28 (3) = some (lc_aI 48 (lc_pt)) := (fr32 _ (by omega) (by omega) (by omega)).trans h16
            have h37 : σ28 (4) = some (lc_aI 72 (lc_sp)) := (fr32 _ (by omega) (by omega) (by omega)).trans h17
            have h38 : σ28 (b) = some (.inr (0, [.ref (b + 1), .int (lc_i (o)), .int (lc_i (t)), .int (lc_i (s)), .int (lc_i (q)), .int (lc_i (m))]) : lc_Cel) := (fr32 _ (by omega) (by omega) (by omega)).trans h18
            have h39 : σ28 (b + 1) = some (lc_aI 36 (f)) := (fr32 _ (by omega) (by omega) (by omega)).trans h19
            have hsp := lc_sp_r (x := fr * 2 + j) (by omega)
            refine lc_iload dX6_listCaptures_33 7 rfl ?_
            refine lc_iconst dX6_listCaptures_35 ?_
            refine lc_icmp_lt (tgt := 116) dX6_listCaptures_36 (by decide) (by omega) (fun h_36_39 => ?_) (fun h_36_39 => ?_)
            · skip
              refine lc_iinc (lv' := [(0, .ref (7)), (1, .ref (b)), (2, .int (lc_i (fr))), (3, .ref (a)), (4, .int (lc_i ((3) - (f fr)))), (5, .int (lc_i (j + 1))), (6, .int (lc_i (lc_sp (fr * 2 + j)))), (7, .int (lc_i (d)))]) dX6_listCaptures_116 5 rfl (by decide) rfl ?_
              refine lc_goto (tgt := 12) dX6_listCaptures_119 (by decide) ?_
              refine lc_pick (lv' := [(0, .ref (7)), (1, .ref (b)), (2, .int (lc_i (fr))), (3, .ref (a)), (4, .int (lc_i ((3) - (f fr)))), (5, .int (lc_i (j + 1)))]) [0, 1, 2, 3, 4, 5] rfl ?_
              exact ih7 (j + 1) (gi) (zi) (p1) (p2) (p3) σ28 h29 h30 h31 (fun i _ _ _ => ((fr32 i (by omega) (by omega) (by omega)).trans (fr12 i (by omega) (by omega) (by omega)))) (by omega) (by omega) (hasci) (fun x => by rw [hmi x, lc_U_end (f := f) (fr := fr) (j := j) (d := d) (x := x) (by omega) (Or.inl (by omega))]) (hgi) (by omega)
            · skip
              refine lc_iload dX6_listCaptures_39 6 rfl ?_
              refine lc_iconst dX6_listCaptures_41 ?_
              refine lc_icmp_eq (tgt := 116) dX6_listCaptures_42 (by decide) (by omega) (fun h_42_40 => ?_) (fun h_42_40 => ?_)
              · skip
                refine lc_iinc (lv' := [(0, .ref (7)), (1, .ref (b)), (2, .int (lc_i (fr))), (3, .ref (a)), (4, .int (lc_i ((3) - (f fr)))), (5, .int (lc_i (j + 1))), (6, .int (lc_i (lc_sp (fr * 2 + j)))), (7, .int (lc_i (d)))]) dX6_listCaptures_116 5 rfl (by decide) rfl ?_
                refine lc_goto (tgt := 12) dX6_listCaptures_119 (by decide) ?_
                refine lc_pick (lv' := [(0, .ref (7)), (1, .ref (b)), (2, .int (lc_i (fr))), (3, .ref (a)), (4, .int (lc_i ((3) - (f fr)))), (5, .int (lc_i (j + 1)))]) [0, 1, 2, 3, 4, 5] rfl ?_
                exact ih7 (j + 1) (gi) (zi) (p1) (p2) (p3) σ28 h29 h30 h31 (fun i _ _ _ => ((fr32 i (by omega) (by omega) (by omega)).trans (fr12 i (by omega) (by omega) (by omega)))) (by omega) (by omega) (hasci) (fun x => by rw [hmi x, lc_U_end (f := f) (fr := fr) (j := j) (d := d) (x := x) (by omega) (Or.inr ⟨hd, h_42_40⟩)]) (hgi) (by omega)
              · skip
                have hMr := lc_M_r f d (x := lc_sp (fr * 2 + j)) (by omega)
                have hLr := lc_Lo_r f (lc_sp (fr * 2 + j)) d
                refine lc_aload_n dX6_listCaptures_45 rfl 0 rfl ?_
                refine lc_get dX6_listCaptures_46 lc_fX6_20 h34 rfl ?_
                refine lc_aload_n dX6_listCaptures_49 rfl 1 rfl ?_
                refine lc_iload dX6_listCaptures_50 6 rfl ?_
                refine lc_iload dX6_listCaptures_52 7 rfl ?_
                refine lc_callV (As := [.ref (b), .int (lc_i (lc_sp (fr * 2 + j))), .int (lc_i (d))]) (stk := []) (b := 8) dX6_listCaptures_54 lc_mX6_84 lc_yX8_go h29 rfl (lc_cX8_go l n (8) (p1) (p2) (p3) (b) (f) (o) (t) (s) (q) (m) (lc_sp (fr * 2 + j)) (d) σ28 h29 h35 h36 h38 h39 (hf) (by omega) (by omega) (Or.inr rfl) (hb)) rfl ⟨Nat.le_of_ble_eq_true rfl, Nat.le_of_ble_eq_true rfl⟩ ⟨Nat.le_of_ble_eq_true rfl, Nat.le_of_ble_eq_true rfl⟩ rfl (Nat.le_of_ble_eq_true rfl) (fun v44 n45 σ46 q47 => ?_)
                obtain ⟨rfl, rfl, h43, fr42⟩ := q47
                have h48 : σ46 (7) = some (.inr (6, [.ref (2), .ref (8), .ref (5)]) : lc_Cel) := (fr42 _ (by omega)).trans h34
                have h49 : σ46 (2) = some (.inr (1, [.ref (3), .ref (4)]) : lc_Cel) := (fr42 _ (by omega)).trans h35
                have h50 : σ46 (3) = some (lc_aI 48 (lc_pt)) := (fr42 _ (by omega)).trans h36
                have h51 : σ46 (4) = some (lc_aI 72 (lc_sp)) := (fr42 _ (by omega)).trans h37
                have h52 : σ46 (b) = some (.inr (0, [.ref (b + 1), .int (lc_i (o)), .int (lc_i (t)), .int (lc_i (s)), .int (lc_i (q)), .int (lc_i (m))]) : lc_Cel) := (fr42 _ (by omega)).trans h38
                have h53 : σ46 (b + 1) = some (lc_aI 36 (f)) := (fr42 _ (by omega)).trans h39
                have h54 : σ46 (a) = some (.inr (4, [.ref (a + 1), .int (lc_i (zi)), .int (lc_i (zi))]) : lc_Cel) := (fr42 _ (by omega)).trans h30
                have h55 : σ46 (a + 1) = some (lc_aI 364 (gi)) := (fr42 _ (by omega)).trans h31
                refine lc_aload_n dX6_listCaptures_57 rfl 0 rfl ?_
                refine lc_get dX6_listCaptures_58 lc_fX6_20 h48 rfl ?_
                refine lc_get dX6_listCaptures_61 lc_fX6_88 h43 rfl ?_
                refine lc_if_le (tgt := 110) dX6_listCaptures_64 (by decide) (by omega) (fun h_64_55 => ?_) (fun h_64_55 => ?_)
                · skip
                  refine lc_iinc (lv' := [(0, .ref (7)), (1, .ref (b)), (2, .int (lc_i (fr))), (3, .ref (a)), (4, .int (lc_i ((3) - (f fr)))), (5, .int (lc_i (j))), (6, .int (lc_i (lc_sp (fr * 2 + j)))), (7, .int (lc_i (d + (-2))))]) dX6_listCaptures_110 7 rfl (by decide) rfl ?_
                  refine lc_goto (tgt := 33) dX6_listCaptures_113 (by decide) ?_
                  exact ih27 (d + (-2)) (gi) (zi) (lc_M (f) (lc_sp (fr * 2 + j)) (d)) (lc_Lo (f) (lc_sp (fr * 2 + j)) (d)) (lc_Sp (f) (lc_sp (fr * 2 + j)) (d)) σ46 h43 h54 h55 (fun i _ _ _ => ((fr42 i (by omega)).trans (fr32 i (by omega) (by omega) (by omega)))) (by omega) (by omega) (hasci) (lc_mem_f (by omega) hmi (fun x q9 => absurd q9.2.1 (by omega))) (hgi) (by omega)
                · skip
                  refine lc_aload_n dX6_listCaptures_67 rfl 0 rfl ?_
                  refine lc_get dX6_listCaptures_68 lc_fX6_20 h48 rfl ?_
                  refine lc_get dX6_listCaptures_71 lc_fX6_92 h43 rfl ?_
                  refine lc_iconst dX6_listCaptures_74 ?_
                  refine lc_icmp_eq (tgt := 110) dX6_listCaptures_75 (by decide) (by omega) (fun h_75_56 => ?_) (fun h_75_56 => ?_)
                  · skip
                    refine lc_iinc (lv' := [(0, .ref (7)), (1, .ref (b)), (2, .int (lc_i (fr))), (3, .ref (a)), (4, .int (lc_i ((3) - (f fr)))), (5, .int (lc_i (j))), (6, .int (lc_i (lc_sp (fr * 2 + j)))), (7, .int (lc_i (d + (-2))))]) dX6_listCaptures_110 7 rfl (by decide) rfl ?_
                    refine lc_goto (tgt := 33) dX6_listCaptures_113 (by decide) ?_
                    exact ih27 (d + (-2)) (gi) (zi) (lc_M (f) (lc_sp (fr * 2 + j)) (d)) (lc_Lo (f) (lc_sp (fr * 2 + j)) (d)) (lc_Sp (f) (lc_sp (fr * 2 + j)) (d)) σ46 h43 h54 h55 (fun i _ _ _ => ((fr42 i (by omega)).trans (fr32 i (by omega) (by omega) (by omega)))) (by omega) (by omega) (hasci) (lc_mem_f (by omega) hmi (fun x q9 => q9.2.2.1 h_75_56)) (hgi) (by omega)
                  · skip
                    refine lc_aload_n dX6_listCaptures_78 rfl 1 rfl ?_
                    refine lc_aload_n dX6_listCaptures_79 rfl 0 rfl ?_
                    refine lc_get dX6_listCaptures_80 lc_fX6_20 h48 rfl ?_
                    refine lc_get dX6_listCaptures_83 lc_fX6_92 h43 rfl ?_
                    refine lc_callV (As := [.int (lc_i (lc_M (f) (lc_sp (fr * 2 + j)) (d)))]) (stk := []) (b := b) dX6_listCaptures_86 lc_mX6_37 lc_yX0_at h52 rfl (lc_cX0_at l n (b) (f) (o) (t) (s) (q) (m) (lc_M (f) (lc_sp (fr * 2 + j)) (d)) σ46 h52 h53 (by omega)) rfl ⟨Nat.le_of_ble_eq_true rfl, Nat.le_of_ble_eq_true rfl⟩ ⟨Nat.le_of_ble_eq_true rfl, Nat.le_of_ble_eq_true rfl⟩ rfl (Nat.le_of_ble_eq_true rfl) (fun v58 n59 σ60 q61 => ?_)
                    obtain ⟨rfl, rfl, rfl⟩ := q61
                    refine lc_top (congrArg (fun z => Value.int (lc_i z)) (show (if 0 ≤ (lc_M (f) (lc_sp (fr * 2 + j)) (d)) ∧ (lc_M (f) (lc_sp (fr * 2 + j)) (d)) < 36 then (f) (lc_M (f) (lc_sp (fr * 2 + j)) (d)) else 0 : Int) = f (lc_M (f) (lc_sp (fr * 2 + j)) (d)) from by rw [if_pos (by omega)])) ?_
                    have hfM := hf (lc_M f (lc_sp (fr * 2 + j)) d) (by omega) (by omega)
                    refine lc_iload dX6_listCaptures_89 4 rfl ?_
                    refine lc_icmp_ne (tgt := 110) dX6_listCaptures_91 (by decide) (by omega) (fun h_91_61 => ?_) (fun h_91_61 => ?_)
                    · skip
                      refine lc_iinc (lv' := [(0, .ref (7)), (1, .ref (b)), (2, .int (lc_i (fr))), (3, .ref (a)), (4, .int (lc_i ((3) - (f fr)))), (5, .int (lc_i (j))), (6, .int (lc_i (lc_sp (fr * 2 + j)))), (7, .int (lc_i (d + (-2))))]) dX6_listCaptures_110 7 rfl (by decide) rfl ?_
                      refine lc_goto (tgt := 33) dX6_listCaptures_113 (by decide) ?_
                      exact ih27 (d + (-2)) (gi) (zi) (lc_M (f) (lc_sp (fr * 2 + j)) (d)) (lc_Lo (f) (lc_sp (fr * 2 + j)) (d)) (lc_Sp (f) (lc_sp (fr * 2 + j)) (d)) σ46 h43 h54 h55 (fun i _ _ _ => ((fr42 i (by omega)).trans (fr32 i (by omega) (by omega) (by omega)))) (by omega) (by omega) (hasci) (lc_mem_f (by omega) hmi (fun x q9 => h_91_61 q9.2.2.2.1)) (hgi) (by omega)
                    · skip
                      refine lc_aload_n dX6_listCaptures_94 rfl 3 rfl ?_
                      refine lc_iload_n dX6_listCaptures_95 rfl 2 rfl ?_
                      refine lc_bipush dX6_listCaptures_96 (by decide) ?_
                      refine lc_imul dX6_listCaptures_98 ?_
                      refine lc_aload_n dX6_listCaptures_99 rfl 0 rfl ?_
                      refine lc_get dX6_listCaptures_100 lc_fX6_20 h48 rfl ?_
                      refine lc_get dX6_listCaptures_103 lc_fX6_92 h43 rfl ?_
                      refine lc_iadd dX6_listCaptures_106 ?_
                      refine lc_callV (As := [.int (lc_i (((fr) * (100)) + (lc_M (f) (lc_sp (fr * 2 + j)) (d))))]) (stk := []) (b := a) dX6_listCaptures_107 lc_mX6_95 lc_yX4_addCapture h54 rfl (lc_cX4_addCapture l n (a) (gi) (zi) (((fr) * (100)) + (lc_M (f) (lc_sp (fr * 2 + j)) (d))) σ46 h54 h55 (by omega) (hasci) (fun x h9 => by have := hgi x h9; omega) (by omega)) rfl ⟨Nat.le_of_ble_eq_true rfl, Nat.le_of_ble_eq_true rfl⟩ ⟨Nat.le_of_ble_eq_true rfl, Nat.le_of_ble_eq_true rfl⟩ rfl (Nat.le_of_ble_eq_true rfl) (fun v69 n70 σ71 q72 => ?_)
                      obtain ⟨g66, z67, rfl, rfl, h64, h65, hin68, fr63⟩ := q72
                      have h73 : σ71 (7) = some (.inr (6, [.ref (2), .ref (8), .ref (5)]) : lc_Cel) := (fr63 _ (by omega) (by omega)).trans h48
                      have h74 : σ71 (2) = some (.inr (1, [.ref (3), .ref (4)]) : lc_Cel) := (fr63 _ (by omega) (by omega)).trans h49
                      have h75 : σ71 (3) = some (lc_aI 48 (lc_pt)) := (fr63 _ (by omega) (by omega)).trans h50
                      have h76 : σ71 (4) = some (lc_aI 72 (lc_sp)) := (fr63 _ (by omega) (by omega)).trans h51
                      have h77 : σ71 (b) = some (.inr (0, [.ref (b + 1), .int (lc_i (o)), .int (lc_i (t)), .int (lc_i (s)), .int (lc_i (q)), .int (lc_i (m))]) : lc_Cel) := (fr63 _ (by omega) (by omega)).trans h52
                      have h78 : σ71 (b + 1) = some (lc_aI 36 (f)) := (fr63 _ (by omega) (by omega)).trans h53
                      have h79 : σ71 (8) = some (.inr (8, [.ref (2), .int (lc_i (lc_M (f) (lc_sp (fr * 2 + j)) (d))), .int (lc_i (lc_Lo (f) (lc_sp (fr * 2 + j)) (d))), .int (lc_i (lc_Sp (f) (lc_sp (fr * 2 + j)) (d)))]) : lc_Cel) := (fr63 _ (by omega) (by omega)).trans h43
                      refine lc_iinc (lv' := [(0, .ref (7)), (1, .ref (b)), (2, .int (lc_i (fr))), (3, .ref (a)), (4, .int (lc_i ((3) - (f fr)))), (5, .int (lc_i (j))), (6, .int (lc_i (lc_sp (fr * 2 + j)))), (7, .int (lc_i (d + (-2))))]) dX6_listCaptures_110 7 rfl (by decide) rfl ?_
                      refine lc_goto (tgt := 33) dX6_listCaptures_113 (by decide) ?_
                      have hin1 := hin68.1
                      exact ih27 (d + (-2)) (g66) (z67) (lc_M (f) (lc_sp (fr * 2 + j)) (d)) (lc_Lo (f) (lc_sp (fr * 2 + j)) (d)) (lc_Sp (f) (lc_sp (fr * 2 + j)) (d)) σ71 h79 h64 h65 (fun i _ _ _ => ((fr63 i (by omega) (by omega)).trans ((fr42 i (by omega)).trans (fr32 i (by omega) (by omega) (by omega))))) (by omega) (by omega) (hin68.2.1) (lc_mem_t (by omega) hmi hin68.2.2 (fun x => ⟨fun q9 => q9.2.2.2.2, fun q9 => ⟨h_42_40, h_64_55, h_75_56, h_91_61, q9⟩⟩)) (lc_has_r (P := fun x => 0 ≤ x ∧ x < 3600) hgi (by show 0 ≤ _ ∧ _ < 3600; omega) hin68.2.2) (by omega)
        exact loop26 1000 (1) (gk) (zk) (e1) (e2) (e3) σ8 h9 h10 h11 (fun _ _ _ _ => rfl) (by omega) (by omega) (hasck) (hmk) (hgk) (by omega)
  exact loop6 1000 (0) (g) (z) (a1) (a2) (a3) σ h0_4 h0_7 h0_8 (fun _ _ _ _ => rfl) (by omega) (by omega) (hasc) (fun x => ⟨Or.inl, fun h9 => h9.elim id (fun h8 => absurd h8 lc_U_0)⟩) (hg) (by omega)

set_option maxRecDepth 100000 in
set_option maxHeartbeats 4000000 in
/-- Rules.listQuietMoves -/
theorem lc_cX6_listQuietMoves (l : Launch) (n : Nat) (b : Nat) (f : Int → Int) (o t s q m : Int) (fr : Int) (a : Nat) (g : Int → Int) (z c nc : Int) (σ : lc_S) (h0_0 : σ (b) = some (.inr (0, [.ref (b + 1), .int (lc_i (o)), .int (lc_i (t)), .int (lc_i (s)), .int (lc_i (q)), .int (lc_i (m))]) : lc_Cel)) (h0_1 : σ (b + 1) = some (lc_aI 36 (f))) (h0_2 : σ (a) = some (.inr (4, [.ref (a + 1), .int (lc_i (z)), .int (lc_i (c))]) : lc_Cel)) (h0_3 : σ (a + 1) = some (lc_aI 364 (g))) (hf : ∀ j : Int, 0 ≤ j → j < 36 → 0 ≤ f j ∧ f j ≤ 2) (hb : 12 ≤ b) (hfr : 0 ≤ fr ∧ fr < 36) (hne : f fr ≠ 0) (hnc : 0 ≤ nc ∧ nc ≤ 144 ∧ nc ≤ z) (hz : z ≤ 364) (hasc : lc_asc g nc z) (hlt : ∀ x : Int, lc_has g nc z x → lc_nb x = true ∧ x < fr * 100) (hab : 8 < a ∧ b ≠ a ∧ b ≠ a + 1 ∧ b + 1 ≠ a) : lc_Con l yX6_listQuietMoves cX6_listQuietMoves 8 none (lc_Rd 1) [.ref (b), .int (lc_i (fr)), .ref (a)] n σ (fun v n2 σ2 => ∃ (g2 : Int → Int) (z2 : Int), v = none ∧ n = n2 ∧ σ2 (a) = some (.inr (4, [.ref (a + 1), .int (lc_i (z2)), .int (lc_i (c))]) : lc_Cel) ∧ σ2 (a + 1) = some (lc_aI 364 (g2)) ∧ ((z ≤ z2 ∧ z2 ≤ 364) ∧ lc_asc g2 nc z2 ∧ (∀ i : Int, i < z → g2 i = g i) ∧ ∀ x : Int, lc_has g2 nc z2 x ↔ (lc_has g nc z x ∨ ∃ to : Int, (0 ≤ to ∧ to < 36) ∧ lc_step f fr to = true ∧ x = fr * 100 + to)) ∧ ∀ i : Nat, i ≠ a → i ≠ a + 1 → σ2 i = σ i) := by
  have hl1 := lc_lo1_r (fr / 6)
  have hl2 := lc_lo1_r (fr % 6)
  have hh1 := lc_hi1_r (fr / 6)
  have hh2 := lc_hi1_r (fr % 6)
  refine lc_con RX6 false (by decide) rfl (fun h => absurd h (by decide)) (Nat.le_of_ble_eq_true rfl) ?_
  suffices H : ∀ Q : lc_QT, (∀ v n2 σ2, (fun v n2 σ2 => ∃ (g2 : Int → Int) (z2 : Int), v = none ∧ n = n2 ∧ σ2 (a) = some (.inr (4, [.ref (a + 1), .int (lc_i (z2)), .int (lc_i (c))]) : lc_Cel) ∧ σ2 (a + 1) = some (lc_aI 364 (g2)) ∧ ((z ≤ z2 ∧ z2 ≤ 364) ∧ lc_asc g2 nc z2 ∧ (∀ i : Int, i < z → g2 i = g i) ∧ ∀ x : Int, lc_has g2 nc z2 x ↔ (lc_has g nc z x ∨ ∃ to : Int, (0 ≤ to ∧ to < 36) ∧ lc_step f fr to = true ∧ x = fr * 100 + to)) ∧ ∀ i : Nat, i ≠ a → i ≠ a + 1 → σ2 i = σ i : lc_QT) v n2 σ2 → Q v n2 σ2) → lc_V l RX6 cX6_listQuietMoves 8 none false (lc_Rd 1) (lc_G Q 0 0) lc_E0 0 0 n 0 [(0, .ref (b)), (1, .int (lc_i (fr))), (2, .ref (a))] [] σ from H _ (fun _ _ _ h => h)
  intro Q hQ
  refine lc_iload_n dX6_listQuietMoves_0 rfl 1 rfl ?_
  refine lc_bipush dX6_listQuietMoves_1 (by decide) ?_
  refine lc_idiv dX6_listQuietMoves_3 (by omega) ?_
  refine lc_top (congrArg (fun z => Value.int (lc_i z)) (show ((fr) / (6) : Int) = fr / 6 from rfl)) ?_
  refine lc_istore_n (lv' := [(0, .ref (b)), (1, .int (lc_i (fr))), (2, .ref (a)), (3, .int (lc_i (fr / 6)))]) dX6_listQuietMoves_4 rfl (by decide) rfl ?_
  refine lc_iload_n dX6_listQuietMoves_5 rfl 1 rfl ?_
  refine lc_bipush dX6_listQuietMoves_6 (by decide) ?_
  refine lc_irem dX6_listQuietMoves_8 (by omega) ?_
  refine lc_top (congrArg (fun z => Value.int (lc_i z)) (show ((fr) % (6) : Int) = fr % 6 from rfl)) ?_
  refine lc_istore (lv' := [(0, .ref (b)), (1, .int (lc_i (fr))), (2, .ref (a)), (3, .int (lc_i (fr / 6))), (4, .int (lc_i (fr % 6)))]) dX6_listQuietMoves_9 (by decide) rfl ?_
  refine lc_iconst dX6_listQuietMoves_11 ?_
  refine lc_iload_n dX6_listQuietMoves_12 rfl 3 rfl ?_
  refine lc_iconst dX6_listQuietMoves_13 ?_
  refine lc_isub dX6_listQuietMoves_14 ?_
  refine lc_mmax dX6_listQuietMoves_15 lc_mX6_99 (by omega) ⟨Nat.le_of_ble_eq_true rfl, Nat.le_of_ble_eq_true rfl, Nat.le_of_ble_eq_true rfl, Nat.le_of_ble_eq_true rfl⟩ ?_
  refine lc_top (congrArg (fun z => Value.int (lc_i z)) (show (if (0) < ((fr / 6) - (1)) then ((fr / 6) - (1)) else (0) : Int) = lc_lo1 (fr / 6) from rfl)) ?_
  refine lc_istore (lv' := [(0, .ref (b)), (1, .int (lc_i (fr))), (2, .ref (a)), (3, .int (lc_i (fr / 6))), (4, .int (lc_i (fr % 6))), (5, .int (lc_i (lc_lo1 (fr / 6))))]) dX6_listQuietMoves_18 (by decide) rfl ?_
  have loop2 : ∀ (N1 : Nat) (r : Int) (gk : Int → Int) (zk : Int) (σ4 : lc_S), (σ4 (a) = some (.inr (4, [.ref (a + 1), .int (lc_i (zk)), .int (lc_i (c))]) : lc_Cel)) → (σ4 (a + 1) = some (lc_aI 364 (gk))) → (∀ i : Nat, i ≠ a → i ≠ a + 1 → σ4 i = σ i) → (0 ≤ r ∧ fr / 6 - 1 ≤ r ∧ r ≤ 6) → (z ≤ zk ∧ zk ≤ 364) → (lc_asc gk nc zk) → (∀ i : Int, i < z → gk i = g i) → (∀ x : Int, lc_has gk nc zk x ↔ (lc_has g nc z x ∨ lc_Vs f fr r 0 x)) → (∀ x : Int, lc_has gk nc zk x → lc_nb x = true ∧ x < fr * 100 + (r * 6 + 0)) → 6 - r < (N1 : Int) → lc_V l RX6 cX6_listQuietMoves 8 none false (lc_Rd 1) (lc_G Q 0 0) lc_E0 0 0 n 20 [(0, .ref (b)), (1, .int (lc_i (fr))), (2, .ref (a)), (3, .int (lc_i (fr / 6))), (4, .int (lc_i (fr % 6))), (5, .int (lc_i (r)))] [] σ4 := by
    intro N1
    induction N1 with
    | zero =>
      intro r gk zk σ4 h5 h6 fr7 hr hzgk hagk hpgk hmgk hbgk hm8
      exact absurd hm8 (by omega)
    | succ N1 ih3 =>
      intro r gk zk σ4 h5 h6 fr7 hr hzgk hagk hpgk hmgk hbgk hm8
      have h9 : σ4 (b) = some (.inr (0, [.ref (b + 1), .int (lc_i (o)), .int (lc_i (t)), .int (lc_i (s)), .int (lc_i (q)), .int (lc_i (m))]) : lc_Cel) := (fr7 _ (by omega) (by omega)).trans h0_0
      have h10 : σ4 (b + 1) = some (lc_aI 36 (f)) := (fr7 _ (by omega) (by omega)).trans h0_1
      refine lc_iload dX6_listQuietMoves_20 5 rfl ?_
      refine lc_iconst dX6_listQuietMoves_22 ?_
      refine lc_iload_n dX6_listQuietMoves_23 rfl 3 rfl ?_
      refine lc_iconst dX6_listQuietMoves_24 ?_
      refine lc_iadd dX6_listQuietMoves_25 ?_
      refine lc_mmin dX6_listQuietMoves_26 lc_mX6_102 (by omega) ⟨Nat.le_of_ble_eq_true rfl, Nat.le_of_ble_eq_true rfl, Nat.le_of_ble_eq_true rfl, Nat.le_of_ble_eq_true rfl⟩ ?_
      refine lc_top (congrArg (fun z => Value.int (lc_i z)) (show (if ((fr / 6) + (1)) < (5) then ((fr / 6) + (1)) else (5) : Int) = lc_hi1 (fr / 6) from rfl)) ?_
      refine lc_icmp_gt (tgt := 97) dX6_listQuietMoves_29 (by decide) (by omega) (fun h_29_10 => ?_) (fun h_29_10 => ?_)
      · skip
        exact lc_vret dX6_listQuietMoves_97 rfl (Nat.le_of_ble_eq_true rfl) (Nat.le_of_ble_eq_true rfl) (hQ _ _ _ ⟨gk, zk, rfl, rfl, h5, h6, ⟨hzgk, hagk, hpgk, fun x => by rw [hmgk x, lc_Vs_all (by omega)]⟩, (fun i _ _ => (fr7 i (by omega) (by omega)))⟩)
      · skip
        refine lc_iconst dX6_listQuietMoves_32 ?_
        refine lc_iload dX6_listQuietMoves_33 4 rfl ?_
        refine lc_iconst dX6_listQuietMoves_35 ?_
        refine lc_isub dX6_listQuietMoves_36 ?_
        refine lc_mmax dX6_listQuietMoves_37 lc_mX6_99 (by omega) ⟨Nat.le_of_ble_eq_true rfl, Nat.le_of_ble_eq_true rfl, Nat.le_of_ble_eq_true rfl, Nat.le_of_ble_eq_true rfl⟩ ?_
        refine lc_top (congrArg (fun z => Value.int (lc_i z)) (show (if (0) < ((fr % 6) - (1)) then ((fr % 6) - (1)) else (0) : Int) = lc_lo1 (fr % 6) from rfl)) ?_
        refine lc_istore (lv' := [(0, .ref (b)), (1, .int (lc_i (fr))), (2, .ref (a)), (3, .int (lc_i (fr / 6))), (4, .int (lc_i (fr % 6))), (5, .int (lc_i (r))), (6, .int (lc_i (lc_lo1 (fr % 6))))]) dX6_listQuietMoves_40 (by decide) rfl ?_
        have loop13 : ∀ (N12 : Nat) (k : Int) (gi : Int → Int) (zi : Int) (σ15 : lc_S), (σ15 (a) = some (.inr (4, [.ref (a + 1), .int (lc_i (zi)), .int (lc_i (c))]) : lc_Cel)) → (σ15 (a + 1) = some (lc_aI 364 (gi))) → (∀ i : Nat, i ≠ a → i ≠ a + 1 → σ15 i = σ4 i) → (0 ≤ k ∧ fr % 6 - 1 ≤ k ∧ k ≤ 6) → (z ≤ zi ∧ zi ≤ 364) → (lc_asc gi nc zi) → (∀ i : Int, i < z → gi i = g i) → (∀ x : Int, lc_has gi nc zi x ↔ (lc_has g nc z x ∨ lc_Vs f fr r k x)) → (∀ x : Int, lc_has gi nc zi x → lc_nb x = true ∧ x < fr * 100 + (r * 6 + k)) → 6 - k < (N12 : Int) → lc_V l RX6 cX6_listQuietMoves 8 none false (lc_Rd 1) (lc_G Q 0 0) lc_E0 0 0 n 42 [(0, .ref (b)), (1, .int (lc_i (fr))), (2, .ref (a)), (3, .int (lc_i (fr / 6))), (4, .int (lc_i (fr % 6))), (5, .int (lc_i (r))), (6, .int (lc_i (k)))] [] σ15 := by
          intro N12
          induction N12 with
          | zero =>
            intro k gi zi σ15 h16 h17 fr18 hk hzgi hagi hpgi hmgi hbgi hm19
            exact absurd hm19 (by omega)
          | succ N12 ih14 =>
            intro k gi zi σ15 h16 h17 fr18 hk hzgi hagi hpgi hmgi hbgi hm19
            have h20 : σ15 (b) = some (.inr (0, [.ref (b + 1), .int (lc_i (o)), .int (lc_i (t)), .int (lc_i (s)), .int (lc_i (q)), .int (lc_i (m))]) : lc_Cel) := (fr18 _ (by omega) (by omega)).trans h9
            have h21 : σ15 (b + 1) = some (lc_aI 36 (f)) := (fr18 _ (by omega) (by omega)).trans h10
            refine lc_iload dX6_listQuietMoves_42 6 rfl ?_
            refine lc_iconst dX6_listQuietMoves_44 ?_
            refine lc_iload dX6_listQuietMoves_45 4 rfl ?_
            refine lc_iconst dX6_listQuietMoves_47 ?_
            refine lc_iadd dX6_listQuietMoves_48 ?_
            refine lc_mmin dX6_listQuietMoves_49 lc_mX6_102 (by omega) ⟨Nat.le_of_ble_eq_true rfl, Nat.le_of_ble_eq_true rfl, Nat.le_of_ble_eq_true rfl, Nat.le_of_ble_eq_true rfl⟩ ?_
            refine lc_top (congrArg (fun z => Value.int (lc_i z)) (show (if ((fr % 6) + (1)) < (5) then ((fr % 6) + (1)) else (5) : Int) = lc_hi1 (fr % 6) from rfl)) ?_
            refine lc_icmp_gt (tgt := 91) dX6_listQuietMoves_52 (by decide) (by omega) (fun h_52_21 => ?_) (fun h_52_21 => ?_)
            · skip
              refine lc_iinc (lv' := [(0, .ref (b)), (1, .int (lc_i (fr))), (2, .ref (a)), (3, .int (lc_i (fr / 6))), (4, .int (lc_i (fr % 6))), (5, .int (lc_i (r + 1))), (6, .int (lc_i (k)))]) dX6_listQuietMoves_91 5 rfl (by decide) rfl ?_
              refine lc_goto (tgt := 20) dX6_listQuietMoves_94 (by decide) ?_
              refine lc_pick (lv' := [(0, .ref (b)), (1, .int (lc_i (fr))), (2, .ref (a)), (3, .int (lc_i (fr / 6))), (4, .int (lc_i (fr % 6))), (5, .int (lc_i (r + 1)))]) [0, 1, 2, 3, 4, 5] rfl ?_
              exact ih3 (r + 1) (gi) (zi) σ15 h16 h17 (fun i _ _ => ((fr18 i (by omega) (by omega)).trans (fr7 i (by omega) (by omega)))) (by omega) (by omega) (hagi) (hpgi) (fun x => by rw [hmgi x, lc_Vs_end (c := k) (by omega)]) (fun x h9 => ⟨(hbgi x h9).1, by have := (hbgi x h9).2; omega⟩) (by omega)
            · skip
              refine lc_iload dX6_listQuietMoves_55 5 rfl ?_
              refine lc_bipush dX6_listQuietMoves_57 (by decide) ?_
              refine lc_imul dX6_listQuietMoves_59 ?_
              refine lc_top (congrArg (fun z => Value.int (lc_i z)) (show ((r) * (6) : Int) = r * 6 from rfl)) ?_
              refine lc_iload dX6_listQuietMoves_60 6 rfl ?_
              refine lc_iadd dX6_listQuietMoves_62 ?_
              refine lc_top (congrArg (fun z => Value.int (lc_i z)) (show ((r * 6) + (k) : Int) = r * 6 + k from rfl)) ?_
              refine lc_istore (lv' := [(0, .ref (b)), (1, .int (lc_i (fr))), (2, .ref (a)), (3, .int (lc_i (fr / 6))), (4, .int (lc_i (fr % 6))), (5, .int (lc_i (r))), (6, .int (lc_i (k))), (7, .int (lc_i (r * 6 + k)))]) dX6_listQuietMoves_63 (by decide) rfl ?_
              refine lc_aload_n dX6_listQuietMoves_65 rfl 0 rfl ?_
              refine lc_iload dX6_listQuietMoves_66 7 rfl ?_
              refine lc_callV (As := [.int (lc_i (r * 6 + k))]) (stk := []) (b := b) dX6_listQuietMoves_68 lc_mX6_37 lc_yX0_at h20 rfl (lc_cX0_at l n (b) (f) (o) (t) (s) (q) (m) (r * 6 + k) σ15 h20 h21 (by omega)) rfl ⟨Nat.le_of_ble_eq_true rfl, Nat.le_of_ble_eq_true rfl⟩ ⟨Nat.le_of_ble_eq_true rfl, Nat.le_of_ble_eq_true rfl⟩ rfl (Nat.le_of_ble_eq_true rfl) (fun v23 n24 σ25 q26 => ?_)
              obtain ⟨rfl, rfl, rfl⟩ := q26
              refine lc_top (congrArg (fun z => Value.int (lc_i z)) (show (if 0 ≤ (r * 6 + k) ∧ (r * 6 + k) < 36 then (f) (r * 6 + k) else 0 : Int) = f (r * 6 + k) from by rw [if_pos (by omega)])) ?_
              have hfto := hf (r * 6 + k) (by omega) (by omega)
              refine lc_if_ne (tgt := 85) dX6_listQuietMoves_71 (by decide) (by omega) (fun h_71_26 => ?_) (fun h_71_26 => ?_)
              · skip
                refine lc_iinc (lv' := [(0, .ref (b)), (1, .int (lc_i (fr))), (2, .ref (a)), (3, .int (lc_i (fr / 6))), (4, .int (lc_i (fr % 6))), (5, .int (lc_i (r))), (6, .int (lc_i (k + 1))), (7, .int (lc_i (r * 6 + k)))]) dX6_listQuietMoves_85 6 rfl (by decide) rfl ?_
                refine lc_goto (tgt := 42) dX6_listQuietMoves_88 (by decide) ?_
                refine lc_pick (lv' := [(0, .ref (b)), (1, .int (lc_i (fr))), (2, .ref (a)), (3, .int (lc_i (fr / 6))), (4, .int (lc_i (fr % 6))), (5, .int (lc_i (r))), (6, .int (lc_i (k + 1)))]) [0, 1, 2, 3, 4, 5, 6] rfl ?_
                exact ih14 (k + 1) (gi) (zi) σ15 h16 h17 (fun i _ _ => (fr18 i (by omega) (by omega))) (by omega) (by omega) (hagi) (hpgi) (fun x => by rw [hmgi x, lc_Vs_skip (by omega) (by omega) h_71_26]) (fun x h9 => ⟨(hbgi x h9).1, by have := (hbgi x h9).2; omega⟩) (by omega)
              · skip
                have hst : lc_step f fr (r * 6 + k) = true := lc_step_iff.mpr ⟨h_71_26, by omega, by omega⟩
                have hnb := lc_nb_step hfr (by omega) hst hne
                have hroom := lc_room220 (g := gi) (lo := nc) (z := zi) (by omega) hagi hbgi hnb
                have hpu := lc_push (g := gi) (lo := nc) (z := zi) (v := fr * 100 + (r * 6 + k)) (by omega) hagi (fun x h9 => (hbgi x h9).2)
                refine lc_aload_n dX6_listQuietMoves_74 rfl 2 rfl ?_
                refine lc_iload_n dX6_listQuietMoves_75 rfl 1 rfl ?_
                refine lc_bipush dX6_listQuietMoves_76 (by decide) ?_
                refine lc_imul dX6_listQuietMoves_78 ?_
                refine lc_top (congrArg (fun z => Value.int (lc_i z)) (show ((fr) * (100) : Int) = fr * 100 from rfl)) ?_
                refine lc_iload dX6_listQuietMoves_79 7 rfl ?_
                refine lc_iadd dX6_listQuietMoves_81 ?_
                refine lc_top (congrArg (fun z => Value.int (lc_i z)) (show ((fr * 100) + (r * 6 + k) : Int) = fr * 100 + (r * 6 + k) from rfl)) ?_
                refine lc_callV (As := [.int (lc_i (fr * 100 + (r * 6 + k)))]) (stk := []) (b := a) dX6_listQuietMoves_82 lc_mX6_105 lc_yX4_addQuiet h16 rfl (lc_cX4_addQuiet l n (a) (gi) (zi) (c) (fr * 100 + (r * 6 + k)) σ15 h16 h17 (by omega)) rfl ⟨Nat.le_of_ble_eq_true rfl, Nat.le_of_ble_eq_true rfl⟩ ⟨Nat.le_of_ble_eq_true rfl, Nat.le_of_ble_eq_true rfl⟩ rfl (Nat.le_of_ble_eq_true rfl) (fun v31 n32 σ33 q34 => ?_)
                obtain ⟨rfl, rfl, h29, h30, fr28⟩ := q34
                have h35 : σ33 (b) = some (.inr (0, [.ref (b + 1), .int (lc_i (o)), .int (lc_i (t)), .int (lc_i (s)), .int (lc_i (q)), .int (lc_i (m))]) : lc_Cel) := (fr28 _ (by omega) (by omega)).trans h20
                have h36 : σ33 (b + 1) = some (lc_aI 36 (f)) := (fr28 _ (by omega) (by omega)).trans h21
                refine lc_iinc (lv' := [(0, .ref (b)), (1, .int (lc_i (fr))), (2, .ref (a)), (3, .int (lc_i (fr / 6))), (4, .int (lc_i (fr % 6))), (5, .int (lc_i (r))), (6, .int (lc_i (k + 1))), (7, .int (lc_i (r * 6 + k)))]) dX6_listQuietMoves_85 6 rfl (by decide) rfl ?_
                refine lc_goto (tgt := 42) dX6_listQuietMoves_88 (by decide) ?_
                refine lc_pick (lv' := [(0, .ref (b)), (1, .int (lc_i (fr))), (2, .ref (a)), (3, .int (lc_i (fr / 6))), (4, .int (lc_i (fr % 6))), (5, .int (lc_i (r))), (6, .int (lc_i (k + 1)))]) [0, 1, 2, 3, 4, 5, 6] rfl ?_
                exact ih14 (k + 1) (lc_u (gi) (zi) (fr * 100 + (r * 6 + k))) (zi + 1) σ33 h29 h30 (fun i _ _ => ((fr28 i (by omega) (by omega)).trans (fr18 i (by omega) (by omega)))) (by omega) (by omega) (hpu.1) (fun i h9 => by rw [lc_u_n _ _ (by omega)]; exact hpgi i h9) (fun x => by rw [hpu.2 x, hmgi x, lc_Vs_add (by omega) (by omega) h_71_26, or_assoc]) (fun x h9 => ((hpu.2 x).mp h9).elim (fun h8 => ⟨(hbgi x h8).1, by have := (hbgi x h8).2; omega⟩) (fun h8 => ⟨h8 ▸ hnb, by omega⟩)) (by omega)
        exact loop13 1000 (lc_lo1 (fr % 6)) (gk) (zk) σ4 h5 h6 (fun _ _ _ => rfl) (by omega) (by omega) (hagk) (hpgk) (fun x => by rw [hmgk x, lc_Vs_c0 (c := lc_lo1 (fr % 6)) (by omega)]) (fun x h9 => ⟨(hbgk x h9).1, by have := (hbgk x h9).2; omega⟩) (by omega)
  exact loop2 1000 (lc_lo1 (fr / 6)) (g) (z) σ h0_2 h0_3 (fun _ _ _ => rfl) (by omega) (by omega) (hasc) (fun i _ => rfl) (fun x => ⟨Or.inl, fun h9 => h9.elim id (fun h8 => absurd h8 (lc_Vs_0 (by omega)))⟩) (fun x h9 => ⟨(hlt x h9).1, by have := (hlt x h9).2; omega⟩) (by omega)

theorem lc_mv_0 {f : Int → Int} {s q m : Int} (h : lc_res (lc_cnt f 1 36) (lc_cnt f 2 36) q m ≠ 0) : lc_mv f s q m = [] ∧ lc_caps f s q m = [] := by
  unfold lc_mv lc_caps
  rw [if_neg h]
  exact ⟨rfl, if_neg h⟩
theorem lc_aal_1 {P : Int → Int → Bool} {p x : Int} (hp : 0 ≤ p) : x ∈ lc_aal P 36 (p + 1).toNat ↔ (x ∈ lc_aal P 36 p.toNat ∨ ∃ to : Int, (0 ≤ to ∧ to < 36) ∧ P p to = true ∧ x = p * 100 + to) := by
  rw [show (p + 1).toNat = p.toNat + 1 by omega, lc_aal_s, List.mem_append, lc_row_mem, show ((p.toNat : Nat) : Int) = p by omega]
  exact Iff.rfl
theorem lc_aal_n {P : Int → Int → Bool} {p x : Int} (hp : 0 ≤ p) (h : ∀ to : Int, ¬ P p to = true) : x ∈ lc_aal P 36 (p + 1).toNat ↔ x ∈ lc_aal P 36 p.toNat := by
  rw [lc_aal_1 hp]
  exact ⟨fun h1 => h1.elim id (fun ⟨to, _, h2, _⟩ => absurd h2 (h to)), Or.inl⟩
theorem lc_aal_r {P : Int → Int → Bool} {p x : Int} (hp : 0 ≤ p ∧ p ≤ 36) (h : x ∈ lc_aal P 36 p.toNat) : 0 ≤ x ∧ x < 3600 := by
  obtain ⟨fr, to, h1, h2, -, rfl⟩ := lc_aal_mem.mp h
  omega
theorem lc_PC_iff {f : Int → Int} {s fr to : Int} : lc_PC f s fr to = true ↔ (f fr = s ∧ lc_cap f fr to = true) := by
  unfold lc_PC
  rw [Bool.and_eq_true, decide_eq_true_eq]
theorem lc_PQ_iff {f : Int → Int} {s fr to : Int} : lc_PQ f s fr to = true ↔ (f fr = s ∧ lc_step f fr to = true) := by
  unfold lc_PQ
  rw [Bool.and_eq_true, decide_eq_true_eq]
theorem lc_mem_c {f g g2 : Int → Int} {s p z z2 : Int} (hf : ∀ j : Int, 0 ≤ j → j < 36 → 0 ≤ f j ∧ f j ≤ 2) (hp : 0 ≤ p ∧ p < 36) (hs : 1 ≤ s) (e : f p = s) (h : ∀ x : Int, lc_has g 0 z x ↔ x ∈ lc_aal (lc_PC f s) 36 p.toNat) (h2 : ∀ x : Int, lc_has g2 0 z2 x ↔ (lc_has g 0 z x ∨ lc_U f p 2 1 x)) : ∀ x : Int, lc_has g2 0 z2 x ↔ x ∈ lc_aal (lc_PC f s) 36 (p + 1).toNat := by
  intro x
  rw [h2 x, h x, lc_aal_1 hp.1, lc_U_cap hf hp (by omega)]
  constructor
  · rintro (h3 | ⟨to, h4, h5, h6⟩)
    · exact Or.inl h3
    · exact Or.inr ⟨to, h4, lc_PC_iff.mpr ⟨e, h5⟩, h6⟩
  · rintro (h3 | ⟨to, h4, h5, h6⟩)
    · exact Or.inl h3
    · exact Or.inr ⟨to, h4, (lc_PC_iff.mp h5).2, h6⟩
theorem lc_mem_q {f g g2 : Int → Int} {s p nc z z2 : Int} (hp : 0 ≤ p ∧ p < 36) (e : f p = s) (h : ∀ x : Int, lc_has g nc z x ↔ x ∈ lc_aal (lc_PQ f s) 36 p.toNat) (h2 : ∀ x : Int, lc_has g2 nc z2 x ↔ (lc_has g nc z x ∨ ∃ to : Int, (0 ≤ to ∧ to < 36) ∧ lc_step f p to = true ∧ x = p * 100 + to)) : ∀ x : Int, lc_has g2 nc z2 x ↔ x ∈ lc_aal (lc_PQ f s) 36 (p + 1).toNat := by
  intro x
  rw [h2 x, h x, lc_aal_1 hp.1]
  constructor
  · rintro (h3 | ⟨to, h4, h5, h6⟩)
    · exact Or.inl h3
    · exact Or.inr ⟨to, h4, lc_PQ_iff.mpr ⟨e, h5⟩, h6⟩
  · rintro (h3 | ⟨to, h4, h5, h6⟩)
    · exact Or.inl h3
    · exact Or.inr ⟨to, h4, (lc_PQ_iff.mp h5).2, h6⟩
theorem lc_mv_fin {f gk gq : Int → Int} {s q m zk zq : Int} (hr : lc_res (lc_cnt f 1 36) (lc_cnt f 2 36) q m = 0) (hz : 0 ≤ zk ∧ zk ≤ zq) (ha : lc_asc gk 0 zk) (hm : ∀ x : Int, lc_has gk 0 zk x ↔ x ∈ lc_aal (lc_PC f s) 36 (36 : Int).toNat) (hb : lc_asc gq zk zq) (hp : ∀ i : Int, i < zk → gq i = gk i) (hn : ∀ x : Int, lc_has gq zk zq x ↔ x ∈ lc_aal (lc_PQ f s) 36 (36 : Int).toNat) : ((lc_mv f s q m).length : Int) = zq ∧ ((lc_caps f s q m).length : Int) = zk ∧ lc_rep gq (lc_mv f s q m) := by
  have e1 : lc_mv f s q m = lc_aal (lc_PC f s) 36 36 ++ lc_aal (lc_PQ f s) 36 36 := if_pos hr
  have e2 : lc_caps f s q m = lc_aal (lc_PC f s) 36 36 := if_pos hr
  rw [e1, e2]
  have s1 : lc_srt (lc_aal (lc_PC f s) 36 (36 : Int).toNat) := lc_aal_srt (P := lc_PC f s) (w := 36) (by decide) (36 : Int).toNat
  have s2 : lc_srt (lc_aal (lc_PQ f s) 36 (36 : Int).toNat) := lc_aal_srt (P := lc_PQ f s) (w := 36) (by decide) (36 : Int).toNat
  have t36 : (36 : Int).toNat = 36 := rfl
  rw [t36] at s1 s2 hm hn
  generalize lc_aal (lc_PC f s) 36 36 = A at s1 hm ⊢
  generalize lc_aal (lc_PQ f s) 36 36 = B at s2 hn ⊢
  obtain ⟨a1, a2⟩ := lc_uniq (g := gk) A hz.1 s1 ha hm
  obtain ⟨b1, b2⟩ := lc_uniq (g := gq) B hz.2 s2 hb hn
  have l1 : ((A.length : Nat) : Int) = zk := by omega
  refine ⟨by rw [List.length_append]; omega, l1, lc_rep_app (fun i hi => ?_) (fun i hi => ?_)⟩
  · rw [hp i (by omega)]
    have h := a2 i hi
    rw [Int.zero_add] at h
    exact h
  · rw [l1]
    exact b2 i hi

set_option maxRecDepth 100000 in
set_option maxHeartbeats 4000000 in
/-- Rules.listMoves: the moves in their order -/
theorem lc_cX6_listMoves (l : Launch) (n : Nat) (a1 a2 a3 : Int) (b : Nat) (f : Int → Int) (s q m : Int) (a : Nat) (g : Int → Int) (z c : Int) (σ : lc_S) (h0_0 : σ (7) = some (.inr (6, [.ref (2), .ref (8), .ref (5)]) : lc_Cel)) (h0_1 : σ (2) = some (.inr (1, [.ref (3), .ref (4)]) : lc_Cel)) (h0_2 : σ (3) = some (lc_aI 48 (lc_pt))) (h0_3 : σ (4) = some (lc_aI 72 (lc_sp))) (h0_4 : σ (8) = some (.inr (8, [.ref (2), .int (lc_i (a1)), .int (lc_i (a2)), .int (lc_i (a3))]) : lc_Cel)) (h0_5 : σ (b) = some (.inr (0, [.ref (b + 1), .int (lc_i (lc_cnt (f) 1 36)), .int (lc_i (lc_cnt (f) 2 36)), .int (lc_i (s)), .int (lc_i (q)), .int (lc_i (m))]) : lc_Cel)) (h0_6 : σ (b + 1) = some (lc_aI 36 (f))) (h0_7 : σ (a) = some (.inr (4, [.ref (a + 1), .int (lc_i (z)), .int (lc_i (c))]) : lc_Cel)) (h0_8 : σ (a + 1) = some (lc_aI 364 (g))) (hf : ∀ j : Int, 0 ≤ j → j < 36 → 0 ≤ f j ∧ f j ≤ 2) (hb : 12 ≤ b) (hs : 1 ≤ s ∧ s ≤ 2) (hq : -2147483648 ≤ q ∧ q < 2147483648) (hm : -2147483648 ≤ m ∧ m < 2147483648) (hab : 8 < a ∧ b ≠ a ∧ b ≠ a + 1 ∧ b + 1 ≠ a) : lc_Con l yX6_listMoves cX6_listMoves 5 none (lc_Rd 3) [.ref (7), .ref (b), .ref (a)] n σ (fun v n2 σ2 => ∃ (c1 c2 c3 : Int) (g2 : Int → Int), v = none ∧ n = n2 ∧ σ2 8 = some (.inr (8, [.ref (2), .int (lc_i (c1)), .int (lc_i (c2)), .int (lc_i (c3))]) : lc_Cel) ∧ σ2 (a) = some (.inr (4, [.ref (a + 1), .int (lc_i (((lc_mv f s q m).length : Int))), .int (lc_i (((lc_caps f s q m).length : Int)))]) : lc_Cel) ∧ σ2 (a + 1) = some (lc_aI 364 (g2)) ∧ (lc_rep g2 (lc_mv f s q m) ∧ (lc_mv f s q m).length ≤ 364) ∧ ∀ i : Nat, i ≠ 8 → i ≠ a → i ≠ a + 1 → σ2 i = σ i) := by
  have hrr := lc_res_r (lc_cnt f 1 36) (lc_cnt f 2 36) q m
  refine lc_con RX6 false (by decide) rfl (fun h => absurd h (by decide)) (Nat.le_of_ble_eq_true rfl) ?_
  suffices H : ∀ Q : lc_QT, (∀ v n2 σ2, (fun v n2 σ2 => ∃ (c1 c2 c3 : Int) (g2 : Int → Int), v = none ∧ n = n2 ∧ σ2 8 = some (.inr (8, [.ref (2), .int (lc_i (c1)), .int (lc_i (c2)), .int (lc_i (c3))]) : lc_Cel) ∧ σ2 (a) = some (.inr (4, [.ref (a + 1), .int (lc_i (((lc_mv f s q m).length : Int))), .int (lc_i (((lc_caps f s q m).length : Int)))]) : lc_Cel) ∧ σ2 (a + 1) = some (lc_aI 364 (g2)) ∧ (lc_rep g2 (lc_mv f s q m) ∧ (lc_mv f s q m).length ≤ 364) ∧ ∀ i : Nat, i ≠ 8 → i ≠ a → i ≠ a + 1 → σ2 i = σ i : lc_QT) v n2 σ2 → Q v n2 σ2) → lc_V l RX6 cX6_listMoves 5 none false (lc_Rd 3) (lc_G Q 0 0) lc_E0 0 0 n 0 [(0, .ref (7)), (1, .ref (b)), (2, .ref (a))] [] σ from H _ (fun _ _ _ h => h)
  intro Q hQ
  refine lc_aload_n dX6_listMoves_0 rfl 2 rfl ?_
  refine lc_callV (As := []) (stk := []) (b := a) dX6_listMoves_1 lc_mX6_66 lc_yX4_clear h0_7 rfl (lc_cX4_clear l n (a) (g) (z) (c) σ h0_7) rfl ⟨Nat.le_of_ble_eq_true rfl, Nat.le_of_ble_eq_true rfl⟩ ⟨Nat.le_of_ble_eq_true rfl, Nat.le_of_ble_eq_true rfl⟩ rfl (Nat.le_of_ble_eq_true rfl) (fun v3 n4 σ5 q6 => ?_)
  obtain ⟨rfl, rfl, h2, fr1⟩ := q6
  have h7 : σ5 (7) = some (.inr (6, [.ref (2), .ref (8), .ref (5)]) : lc_Cel) := (fr1 _ (by omega)).trans h0_0
  have h8 : σ5 (2) = some (.inr (1, [.ref (3), .ref (4)]) : lc_Cel) := (fr1 _ (by omega)).trans h0_1
  have h9 : σ5 (3) = some (lc_aI 48 (lc_pt)) := (fr1 _ (by omega)).trans h0_2
  have h10 : σ5 (4) = some (lc_aI 72 (lc_sp)) := (fr1 _ (by omega)).trans h0_3
  have h11 : σ5 (8) = some (.inr (8, [.ref (2), .int (lc_i (a1)), .int (lc_i (a2)), .int (lc_i (a3))]) : lc_Cel) := (fr1 _ (by omega)).trans h0_4
  have h12 : σ5 (b) = some (.inr (0, [.ref (b + 1), .int (lc_i (lc_cnt (f) 1 36)), .int (lc_i (lc_cnt (f) 2 36)), .int (lc_i (s)), .int (lc_i (q)), .int (lc_i (m))]) : lc_Cel) := (fr1 _ (by omega)).trans h0_5
  have h13 : σ5 (b + 1) = some (lc_aI 36 (f)) := (fr1 _ (by omega)).trans h0_6
  have h14 : σ5 (a + 1) = some (lc_aI 364 (g)) := (fr1 _ (by omega)).trans h0_8
  refine lc_aload_n dX6_listMoves_4 rfl 1 rfl ?_
  refine lc_callV (As := []) (stk := []) (b := b) dX6_listMoves_5 lc_mX6_28 lc_yX0_result h12 rfl (lc_cX0_result l n (b) (f) (lc_cnt (f) 1 36) (lc_cnt (f) 2 36) (s) (q) (m) σ5 h12 (lc_cnt_r _ _ 36) (lc_cnt_r _ _ 36) (by omega) (by omega)) rfl ⟨Nat.le_of_ble_eq_true rfl, Nat.le_of_ble_eq_true rfl⟩ ⟨Nat.le_of_ble_eq_true rfl, Nat.le_of_ble_eq_true rfl⟩ rfl (Nat.le_of_ble_eq_true rfl) (fun v15 n16 σ17 q18 => ?_)
  obtain ⟨rfl, rfl, rfl⟩ := q18
  refine lc_if_eq (tgt := 12) dX6_listMoves_8 (by decide) (by omega) (fun h_8_18 => ?_) (fun h_8_18 => ?_)
  · skip
    refine lc_aload_n dX6_listMoves_12 rfl 1 rfl ?_
    refine lc_callV (As := []) (stk := []) (b := b) dX6_listMoves_13 lc_mX6_34 lc_yX0_sideToMove h12 rfl (lc_cX0_sideToMove l n (b) (f) (lc_cnt (f) 1 36) (lc_cnt (f) 2 36) (s) (q) (m) σ5 h12) rfl ⟨Nat.le_of_ble_eq_true rfl, Nat.le_of_ble_eq_true rfl⟩ ⟨Nat.le_of_ble_eq_true rfl, Nat.le_of_ble_eq_true rfl⟩ rfl (Nat.le_of_ble_eq_true rfl) (fun v20 n21 σ22 q23 => ?_)
    obtain ⟨rfl, rfl, rfl⟩ := q23
    refine lc_istore_n (lv' := [(0, .ref (7)), (1, .ref (b)), (2, .ref (a)), (3, .int (lc_i (s)))]) dX6_listMoves_16 rfl (by decide) rfl ?_
    refine lc_iconst dX6_listMoves_17 ?_
    refine lc_istore (lv' := [(0, .ref (7)), (1, .ref (b)), (2, .ref (a)), (3, .int (lc_i (s))), (4, .int (lc_i (0)))]) dX6_listMoves_18 (by decide) rfl ?_
    have loop25 : ∀ (N24 : Nat) (p : Int) (gk : Int → Int) (zk : Int) (e1 : Int) (e2 : Int) (e3 : Int) (σ27 : lc_S), (σ27 (8) = some (.inr (8, [.ref (2), .int (lc_i (e1)), .int (lc_i (e2)), .int (lc_i (e3))]) : lc_Cel)) → (σ27 (a) = some (.inr (4, [.ref (a + 1), .int (lc_i (zk)), .int (lc_i (zk))]) : lc_Cel)) → (σ27 (a + 1) = some (lc_aI 364 (gk))) → (∀ i : Nat, i ≠ 8 → i ≠ a → i ≠ a + 1 → σ27 i = σ5 i) → (0 ≤ p ∧ p ≤ 36) → (0 ≤ zk ∧ zk ≤ 4 * p) → (lc_asc gk 0 zk) → (∀ x : Int, lc_has gk 0 zk x ↔ x ∈ lc_aal (lc_PC f s) 36 p.toNat) → 36 - p < (N24 : Int) → lc_V l RX6 cX6_listMoves 5 none false (lc_Rd 3) (lc_G Q 0 0) lc_E0 0 0 n 20 [(0, .ref (7)), (1, .ref (b)), (2, .ref (a)), (3, .int (lc_i (s))), (4, .int (lc_i (p)))] [] σ27 := by
      intro N24
      induction N24 with
      | zero =>
        intro p gk zk e1 e2 e3 σ27 h28 h29 h30 fr31 hp hzk hak hmk hm32
        exact absurd hm32 (by omega)
      | succ N24 ih26 =>
        intro p gk zk e1 e2 e3 σ27 h28 h29 h30 fr31 hp hzk hak hmk hm32
        have h33 : σ27 (7) = some (.inr (6, [.ref (2), .ref (8), .ref (5)]) : lc_Cel) := (fr31 _ (by omega) (by omega) (by omega)).trans h7
        have h34 : σ27 (2) = some (.inr (1, [.ref (3), .ref (4)]) : lc_Cel) := (fr31 _ (by omega) (by omega) (by omega)).trans h8
        have h35 : σ27 (3) = some (lc_aI 48 (lc_pt)) := (fr31 _ (by omega) (by omega) (by omega)).trans h9
        have h36 : σ27 (4) = some (lc_aI 72 (lc_sp)) := (fr31 _ (by omega) (by omega) (by omega)).trans h10
        have h37 : σ27 (b) = some (.inr (0, [.ref (b + 1), .int (lc_i (lc_cnt (f) 1 36)), .int (lc_i (lc_cnt (f) 2 36)), .int (lc_i (s)), .int (lc_i (q)), .int (lc_i (m))]) : lc_Cel) := (fr31 _ (by omega) (by omega) (by omega)).trans h12
        have h38 : σ27 (b + 1) = some (lc_aI 36 (f)) := (fr31 _ (by omega) (by omega) (by omega)).trans h13
        have hfp := fun q9 : p < 36 => hf p hp.1 q9
        refine lc_iload dX6_listMoves_20 4 rfl ?_
        refine lc_bipush dX6_listMoves_22 (by decide) ?_
        refine lc_icmp_ge (tgt := 51) dX6_listMoves_24 (by decide) (by omega) (fun h_24_38 => ?_) (fun h_24_38 => ?_)
        · skip
          refine lc_iconst dX6_listMoves_51 ?_
          refine lc_istore (lv' := [(0, .ref (7)), (1, .ref (b)), (2, .ref (a)), (3, .int (lc_i (s))), (4, .int (lc_i (0)))]) dX6_listMoves_52 (by decide) rfl ?_
          have loop41 : ∀ (N40 : Nat) (u : Int) (gq : Int → Int) (zq : Int) (σ43 : lc_S), (σ43 (a) = some (.inr (4, [.ref (a + 1), .int (lc_i (zq)), .int (lc_i (zk))]) : lc_Cel)) → (σ43 (a + 1) = some (lc_aI 364 (gq))) → (∀ i : Nat, i ≠ a → i ≠ a + 1 → σ43 i = σ27 i) → (0 ≤ u ∧ u ≤ 36) → (zk ≤ zq ∧ zq ≤ 364) → (lc_asc gq zk zq) → (∀ i : Int, i < zk → gq i = gk i) → (∀ x : Int, lc_has gq zk zq x ↔ x ∈ lc_aal (lc_PQ f s) 36 u.toNat) → (∀ x : Int, lc_has gq zk zq x → lc_nb x = true ∧ x < u * 100) → 36 - u < (N40 : Int) → lc_V l RX6 cX6_listMoves 5 none false (lc_Rd 3) (lc_G Q 0 0) lc_E0 0 0 n 54 [(0, .ref (7)), (1, .ref (b)), (2, .ref (a)), (3, .int (lc_i (s))), (4, .int (lc_i (u)))] [] σ43 := by
            intro N40
            induction N40 with
            | zero =>
              intro u gq zq σ43 h44 h45 fr46 hu hzq haq hpq hmq hlq hm47
              exact absurd hm47 (by omega)
            | succ N40 ih42 =>
              intro u gq zq σ43 h44 h45 fr46 hu hzq haq hpq hmq hlq hm47
              have h48 : σ43 (7) = some (.inr (6, [.ref (2), .ref (8), .ref (5)]) : lc_Cel) := (fr46 _ (by omega) (by omega)).trans h33
              have h49 : σ43 (2) = some (.inr (1, [.ref (3), .ref (4)]) : lc_Cel) := (fr46 _ (by omega) (by omega)).trans h34
              have h50 : σ43 (3) = some (lc_aI 48 (lc_pt)) := (fr46 _ (by omega) (by omega)).trans h35
              have h51 : σ43 (4) = some (lc_aI 72 (lc_sp)) := (fr46 _ (by omega) (by omega)).trans h36
              have h52 : σ43 (b) = some (.inr (0, [.ref (b + 1), .int (lc_i (lc_cnt (f) 1 36)), .int (lc_i (lc_cnt (f) 2 36)), .int (lc_i (s)), .int (lc_i (q)), .int (lc_i (m))]) : lc_Cel) := (fr46 _ (by omega) (by omega)).trans h37
              have h53 : σ43 (b + 1) = some (lc_aI 36 (f)) := (fr46 _ (by omega) (by omega)).trans h38
              have h54 : σ43 (8) = some (.inr (8, [.ref (2), .int (lc_i (e1)), .int (lc_i (e2)), .int (lc_i (e3))]) : lc_Cel) := (fr46 _ (by omega) (by omega)).trans h28
              have hfu := fun q9 : u < 36 => hf u hu.1 q9
              refine lc_iload dX6_listMoves_54 4 rfl ?_
              refine lc_bipush dX6_listMoves_56 (by decide) ?_
              refine lc_icmp_ge (tgt := 84) dX6_listMoves_58 (by decide) (by omega) (fun h_58_54 => ?_) (fun h_58_54 => ?_)
              · skip
                have eu : u = 36 := (by omega)
                have ep : p = 36 := (by omega)
                rw [eu] at hmq
                rw [ep] at hmk
                have hfi := lc_mv_fin (q := q) (m := m) h_8_18 (by omega) hak hmk haq hpq hmq
                exact lc_vret dX6_listMoves_84 rfl (Nat.le_of_ble_eq_true rfl) (Nat.le_of_ble_eq_true rfl) (hQ _ _ _ ⟨e1, e2, e3, gq, rfl, rfl, h54, by rw [hfi.1, hfi.2.1]; exact h44, h45, ⟨hfi.2.2, by have := hfi.1; omega⟩, (fun i _ _ _ => ((fr46 i (by omega) (by omega)).trans ((fr31 i (by omega) (by omega) (by omega)).trans (fr1 i (by omega)))))⟩)
              · skip
                refine lc_aload_n dX6_listMoves_61 rfl 1 rfl ?_
                refine lc_iload dX6_listMoves_62 4 rfl ?_
                refine lc_callV (As := [.int (lc_i (u))]) (stk := []) (b := b) dX6_listMoves_64 lc_mX6_37 lc_yX0_at h52 rfl (lc_cX0_at l n (b) (f) (lc_cnt (f) 1 36) (lc_cnt (f) 2 36) (s) (q) (m) (u) σ43 h52 h53 (by omega)) rfl ⟨Nat.le_of_ble_eq_true rfl, Nat.le_of_ble_eq_true rfl⟩ ⟨Nat.le_of_ble_eq_true rfl, Nat.le_of_ble_eq_true rfl⟩ rfl (Nat.le_of_ble_eq_true rfl) (fun v56 n57 σ58 q59 => ?_)
                obtain ⟨rfl, rfl, rfl⟩ := q59
                refine lc_top (congrArg (fun z => Value.int (lc_i z)) (show (if 0 ≤ (u) ∧ (u) < 36 then (f) (u) else 0 : Int) = f u from by rw [if_pos (by omega)])) ?_
                refine lc_iload_n dX6_listMoves_67 rfl 3 rfl ?_
                refine lc_icmp_ne (tgt := 78) dX6_listMoves_68 (by decide) (by omega) (fun h_68_59 => ?_) (fun h_68_59 => ?_)
                · skip
                  refine lc_iinc (lv' := [(0, .ref (7)), (1, .ref (b)), (2, .ref (a)), (3, .int (lc_i (s))), (4, .int (lc_i (u + 1)))]) dX6_listMoves_78 4 rfl (by decide) rfl ?_
                  refine lc_goto (tgt := 54) dX6_listMoves_81 (by decide) ?_
                  exact ih42 (u + 1) (gq) (zq) σ43 h44 h45 (fun i _ _ => (fr46 i (by omega) (by omega))) (by omega) (by omega) (haq) (hpq) (fun x => by rw [hmq x, lc_aal_n (by omega) (fun to q9 => h_68_59 (lc_PQ_iff.mp q9).1)]) (fun x h9 => ⟨(hlq x h9).1, by have := (hlq x h9).2; omega⟩) (by omega)
                · skip
                  refine lc_aload_n dX6_listMoves_71 rfl 1 rfl ?_
                  refine lc_iload dX6_listMoves_72 4 rfl ?_
                  refine lc_aload_n dX6_listMoves_74 rfl 2 rfl ?_
                  refine lc_callS (As := [.ref (b), .int (lc_i (u)), .ref (a)]) (stk := []) dX6_listMoves_75 lc_mX6_75 lc_yX6_listQuietMoves (lc_cX6_listQuietMoves l n (b) (f) (lc_cnt (f) 1 36) (lc_cnt (f) 2 36) (s) (q) (m) (u) (a) (gq) (zq) (zk) (zk) σ43 h52 h53 h44 h45 (hf) (hb) (by omega) (by omega) (by omega) (by omega) (haq) (hlq) (hab)) rfl ⟨Nat.le_of_ble_eq_true rfl, Nat.le_of_ble_eq_true rfl⟩ ⟨Nat.le_of_ble_eq_true rfl, Nat.le_of_ble_eq_true rfl⟩ rfl (Nat.le_of_ble_eq_true rfl) (fun v67 n68 σ69 q70 => ?_)
                  obtain ⟨g65, z66, rfl, rfl, h61, h62, hl63, fr64⟩ := q70
                  have h71 : σ69 (7) = some (.inr (6, [.ref (2), .ref (8), .ref (5)]) : lc_Cel) := (fr64 _ (by omega) (by omega)).trans h48
                  have h72 : σ69 (2) = some (.inr (1, [.ref (3), .ref (4)]) : lc_Cel) := (fr64 _ (by omega) (by omega)).trans h49
                  have h73 : σ69 (3) = some (lc_aI 48 (lc_pt)) := (fr64 _ (by omega) (by omega)).trans h50
                  have h74 : σ69 (4) = some (lc_aI 72 (lc_sp)) := (fr64 _ (by omega) (by omega)).trans h51
                  have h75 : σ69 (b) = some (.inr (0, [.ref (b + 1), .int (lc_i (lc_cnt (f) 1 36)), .int (lc_i (lc_cnt (f) 2 36)), .int (lc_i (s)), .int (lc_i (q)), .int (lc_i (m))]) : lc_Cel) := (fr64 _ (by omega) (by omega)).trans h52
                  have h76 : σ69 (b + 1) = some (lc_aI 36 (f)) := (fr64 _ (by omega) (by omega)).trans h53
                  have h77 : σ69 (8) = some (.inr (8, [.ref (2), .int (lc_i (e1)), .int (lc_i (e2)), .int (lc_i (e3))]) : lc_Cel) := (fr64 _ (by omega) (by omega)).trans h54
                  refine lc_iinc (lv' := [(0, .ref (7)), (1, .ref (b)), (2, .ref (a)), (3, .int (lc_i (s))), (4, .int (lc_i (u + 1)))]) dX6_listMoves_78 4 rfl (by decide) rfl ?_
                  refine lc_goto (tgt := 54) dX6_listMoves_81 (by decide) ?_
                  have hl1 := hl63.1
                  exact ih42 (u + 1) (g65) (z66) σ69 h61 h62 (fun i _ _ => ((fr64 i (by omega) (by omega)).trans (fr46 i (by omega) (by omega)))) (by omega) (by omega) (hl63.2.1) (fun i h9 => (hl63.2.2.1 i (by omega)).trans (hpq i h9)) (lc_mem_q (by omega) h_68_59 hmq hl63.2.2.2) (fun x h9 => ((hl63.2.2.2 x).mp h9).elim (fun h8 => ⟨(hlq x h8).1, by have := (hlq x h8).2; omega⟩) (fun ⟨to, h5, h6, h7⟩ => ⟨h7 ▸ lc_nb_step (by omega) h5 h6 (by omega), by omega⟩)) (by omega)
          exact loop41 1000 (0) (gk) (zk) σ27 h29 h30 (fun _ _ _ => rfl) (by omega) (by omega) (fun i j h1 h2 h3 => absurd h3 (by omega)) (fun i _ => rfl) (fun x => ⟨fun ⟨i, h1, _⟩ => absurd h1 (by omega), fun h9 => absurd h9 List.not_mem_nil⟩) (fun x ⟨i, h1, _⟩ => absurd h1 (by omega)) (by omega)
        · skip
          refine lc_aload_n dX6_listMoves_27 rfl 1 rfl ?_
          refine lc_iload dX6_listMoves_28 4 rfl ?_
          refine lc_callV (As := [.int (lc_i (p))]) (stk := []) (b := b) dX6_listMoves_30 lc_mX6_37 lc_yX0_at h37 rfl (lc_cX0_at l n (b) (f) (lc_cnt (f) 1 36) (lc_cnt (f) 2 36) (s) (q) (m) (p) σ27 h37 h38 (by omega)) rfl ⟨Nat.le_of_ble_eq_true rfl, Nat.le_of_ble_eq_true rfl⟩ ⟨Nat.le_of_ble_eq_true rfl, Nat.le_of_ble_eq_true rfl⟩ rfl (Nat.le_of_ble_eq_true rfl) (fun v78 n79 σ80 q81 => ?_)
          obtain ⟨rfl, rfl, rfl⟩ := q81
          refine lc_top (congrArg (fun z => Value.int (lc_i z)) (show (if 0 ≤ (p) ∧ (p) < 36 then (f) (p) else 0 : Int) = f p from by rw [if_pos (by omega)])) ?_
          refine lc_iload_n dX6_listMoves_33 rfl 3 rfl ?_
          refine lc_icmp_ne (tgt := 45) dX6_listMoves_34 (by decide) (by omega) (fun h_34_81 => ?_) (fun h_34_81 => ?_)
          · skip
            refine lc_iinc (lv' := [(0, .ref (7)), (1, .ref (b)), (2, .ref (a)), (3, .int (lc_i (s))), (4, .int (lc_i (p + 1)))]) dX6_listMoves_45 4 rfl (by decide) rfl ?_
            refine lc_goto (tgt := 20) dX6_listMoves_48 (by decide) ?_
            exact ih26 (p + 1) (gk) (zk) (e1) (e2) (e3) σ27 h28 h29 h30 (fun i _ _ _ => (fr31 i (by omega) (by omega) (by omega))) (by omega) (by omega) (hak) (fun x => by rw [hmk x, lc_aal_n (by omega) (fun to q9 => h_34_81 (lc_PC_iff.mp q9).1)]) (by omega)
          · skip
            refine lc_aload_n dX6_listMoves_37 rfl 0 rfl ?_
            refine lc_aload_n dX6_listMoves_38 rfl 1 rfl ?_
            refine lc_iload dX6_listMoves_39 4 rfl ?_
            refine lc_aload_n dX6_listMoves_41 rfl 2 rfl ?_
            refine lc_callV (As := [.ref (b), .int (lc_i (p)), .ref (a)]) (stk := []) (b := 7) dX6_listMoves_42 lc_mX6_71 lc_yX6_listCaptures h33 rfl (lc_cX6_listCaptures l n (e1) (e2) (e3) (b) (f) (lc_cnt (f) 1 36) (lc_cnt (f) 2 36) (s) (q) (m) (p) (a) (gk) (zk) σ27 h33 h34 h35 h36 h28 h37 h38 h29 h30 (hf) (hb) (by omega) (by omega) (by omega) (hak) (fun x h9 => lc_aal_r (p := p) (by omega) ((hmk x).mp h9)) (hab)) rfl ⟨Nat.le_of_ble_eq_true rfl, Nat.le_of_ble_eq_true rfl⟩ ⟨Nat.le_of_ble_eq_true rfl, Nat.le_of_ble_eq_true rfl⟩ rfl (Nat.le_of_ble_eq_true rfl) (fun v93 n94 σ95 q96 => ?_)
            obtain ⟨c90, c91, c92, g88, z89, rfl, rfl, h83, h84, h85, hl86, fr87⟩ := q96
            have h97 : σ95 (7) = some (.inr (6, [.ref (2), .ref (8), .ref (5)]) : lc_Cel) := (fr87 _ (by omega) (by omega) (by omega)).trans h33
            have h98 : σ95 (2) = some (.inr (1, [.ref (3), .ref (4)]) : lc_Cel) := (fr87 _ (by omega) (by omega) (by omega)).trans h34
            have h99 : σ95 (3) = some (lc_aI 48 (lc_pt)) := (fr87 _ (by omega) (by omega) (by omega)).trans h35
            have h100 : σ95 (4) = some (lc_aI 72 (lc_sp)) := (fr87 _ (by omega) (by omega) (by omega)).trans h36
            have h101 : σ95 (b) = some (.inr (0, [.ref (b + 1), .int (lc_i (lc_cnt (f) 1 36)), .int (lc_i (lc_cnt (f) 2 36)), .int (lc_i (s)), .int (lc_i (q)), .int (lc_i (m))]) : lc_Cel) := (fr87 _ (by omega) (by omega) (by omega)).trans h37
            have h102 : σ95 (b + 1) = some (lc_aI 36 (f)) := (fr87 _ (by omega) (by omega) (by omega)).trans h38
            refine lc_iinc (lv' := [(0, .ref (7)), (1, .ref (b)), (2, .ref (a)), (3, .int (lc_i (s))), (4, .int (lc_i (p + 1)))]) dX6_listMoves_45 4 rfl (by decide) rfl ?_
            refine lc_goto (tgt := 20) dX6_listMoves_48 (by decide) ?_
            have hl1 := hl86.1
            exact ih26 (p + 1) (g88) (z89) (c90) (c91) (c92) σ95 h83 h84 h85 (fun i _ _ _ => ((fr87 i (by omega) (by omega) (by omega)).trans (fr31 i (by omega) (by omega) (by omega)))) (by omega) (by omega) (hl86.2.1) (lc_mem_c hf (by omega) hs.1 h_34_81 hmk hl86.2.2) (by omega)
    exact loop25 1000 (0) (g) (0) (a1) (a2) (a3) σ5 h11 h2 h14 (fun _ _ _ _ => rfl) (by omega) (by omega) (fun i j h1 h2 h3 => absurd h3 (by omega)) (fun x => ⟨fun ⟨i, h1, _⟩ => absurd h1 (by omega), fun h9 => absurd h9 List.not_mem_nil⟩) (by omega)
  · skip
    exact lc_vret dX6_listMoves_11 rfl (Nat.le_of_ble_eq_true rfl) (Nat.le_of_ble_eq_true rfl) (hQ _ _ _ ⟨a1, a2, a3, g, rfl, rfl, h11, by rw [(lc_mv_0 h_8_18).1, (lc_mv_0 h_8_18).2]; exact h2, h14, ⟨by rw [(lc_mv_0 h_8_18).1]; exact fun i h9 => absurd h9 (Nat.not_lt_zero i), by rw [(lc_mv_0 h_8_18).1]; exact Nat.zero_le _⟩, (fun i _ _ _ => (fr1 i (by omega)))⟩)
