/-! MoveList, and the lists that Rules makes -/
theorem lc_mem_t {f g g0 g' : Int → Int} {z z0 z' fr j d v : Int} (hd : d = 1 ∨ d = -1) (h : ∀ x : Int, lc_has g 0 z x ↔ (lc_has g0 0 z0 x ∨ lc_U f fr j d x)) (hi : ∀ x : Int, lc_has g' 0 z' x ↔ (x = v ∨ lc_has g 0 z x)) (hT : ∀ x : Int, lc_T f fr j d x ↔ x = v) : ∀ x : Int, lc_has g' 0 z' x ↔ (lc_has g0 0 z0 x ∨ lc_U f fr j (d + (-2)) x) := by
  intro x
  rw [hi x, h x, lc_U_step hd, hT x]
  constructor
  · rintro (h1 | h1 | h1)
    · exact Or.inr (Or.inr h1)
    · exact Or.inl h1
    · exact Or.inr (Or.inl h1)
  · rintro (h1 | h1 | h1)
    · exact Or.inr (Or.inl h1)
    · exact Or.inr (Or.inr h1)
    · exact Or.inl h1
theorem lc_mem_f {f g g0 : Int → Int} {z z0 fr j d : Int} (hd : d = 1 ∨ d = -1) (h : ∀ x : Int, lc_has g 0 z x ↔ (lc_has g0 0 z0 x ∨ lc_U f fr j d x)) (hT : ∀ x : Int, ¬ lc_T f fr j d x) : ∀ x : Int, lc_has g 0 z x ↔ (lc_has g0 0 z0 x ∨ lc_U f fr j (d + (-2)) x) := by
  intro x
  rw [h x, lc_U_step hd]
  constructor
  · rintro (h1 | h1)
    · exact Or.inl h1
    · exact Or.inr (Or.inl h1)
  · rintro (h1 | h1 | h1)
    · exact Or.inl h1
    · exact Or.inr h1
    · exact absurd h1 (hT x)
theorem lc_has_r {g g0 : Int → Int} {z z0 v : Int} {P : Int → Prop} (h0 : ∀ x : Int, lc_has g0 0 z0 x → P x) (hv : P v) (h : ∀ x : Int, lc_has g 0 z x ↔ (x = v ∨ lc_has g0 0 z0 x)) : ∀ x : Int, lc_has g 0 z x → P x := by
  intro x hx
  rcases (h x).mp hx with rfl | h1
  · exact hv
  · exact h0 x h1

set_option maxRecDepth 100000 in
set_option maxHeartbeats 4000000 in
theorem lc_cX4_clear (l : Launch) (n : Nat) (a : Nat) (g : Int → Int) (z c : Int) (σ : lc_S) (h0_0 : σ (a) = some (.inr (4, [.ref (a + 1), .int (lc_i (z)), .int (lc_i (c))]) : lc_Cel))  : lc_Con l yX4_clear cX4_clear 1 none (lc_Rd 0) [.ref (a)] n σ (fun v n2 σ2 => v = none ∧ n = n2 ∧ σ2 (a) = some (.inr (4, [.ref (a + 1), .int (lc_i (0)), .int (lc_i (0))]) : lc_Cel) ∧ ∀ i : Nat, i ≠ a → σ2 i = σ i) := by
  refine lc_con RX4 false (by decide) rfl (fun h => absurd h (by decide)) (Nat.le_of_ble_eq_true rfl) ?_
  suffices H : ∀ Q : lc_QT, (∀ v n2 σ2, (fun v n2 σ2 => v = none ∧ n = n2 ∧ σ2 (a) = some (.inr (4, [.ref (a + 1), .int (lc_i (0)), .int (lc_i (0))]) : lc_Cel) ∧ ∀ i : Nat, i ≠ a → σ2 i = σ i : lc_QT) v n2 σ2 → Q v n2 σ2) → lc_V l RX4 cX4_clear 1 none false (lc_Rd 0) (lc_G Q 0 0) lc_E0 0 0 n 0 [(0, .ref (a))] [] σ from H _ (fun _ _ _ h => h)
  intro Q hQ
  refine lc_aload_n dX4_clear_0 rfl 0 rfl ?_
  refine lc_iconst dX4_clear_1 ?_
  refine lc_wI (vs' := [.ref (a + 1), .int (lc_i (0)), .int (lc_i (c))]) dX4_clear_2 lc_fX4_15 h0_0 (Nat.le_of_ble_eq_true rfl) rfl rfl rfl (fun σ1 h2 fr3 => ?_)
  refine lc_aload_n dX4_clear_5 rfl 0 rfl ?_
  refine lc_iconst dX4_clear_6 ?_
  refine lc_wI (vs' := [.ref (a + 1), .int (lc_i (0)), .int (lc_i (0))]) dX4_clear_7 lc_fX4_19 h2 (Nat.le_of_ble_eq_true rfl) rfl rfl rfl (fun σ4 h5 fr6 => ?_)
  exact lc_vret dX4_clear_10 rfl (Nat.le_of_ble_eq_true rfl) (Nat.le_of_ble_eq_true rfl) (hQ _ _ _ ⟨rfl, rfl, h5, (fun i _ => ((fr6 i (by omega)).trans (fr3 i (by omega))))⟩)

set_option maxRecDepth 100000 in
set_option maxHeartbeats 4000000 in
theorem lc_cX4_size (l : Launch) (n : Nat) (a : Nat) (g : Int → Int) (z c : Int) (σ : lc_S) (h0_0 : σ (a) = some (.inr (4, [.ref (a + 1), .int (lc_i (z)), .int (lc_i (c))]) : lc_Cel))  : lc_Con l yX4_size cX4_size 1 (some .int) (lc_Rd 0) [.ref (a)] n σ (fun v n2 σ2 => v = some (.int (lc_i (z))) ∧ n = n2 ∧ σ = σ2) := by
  refine lc_con RX4 false (by decide) rfl (fun h => absurd h (by decide)) (Nat.le_of_ble_eq_true rfl) ?_
  suffices H : ∀ Q : lc_QT, (∀ v n2 σ2, (fun v n2 σ2 => v = some (.int (lc_i (z))) ∧ n = n2 ∧ σ = σ2 : lc_QT) v n2 σ2 → Q v n2 σ2) → lc_V l RX4 cX4_size 1 (some .int) false (lc_Rd 0) (lc_G Q 0 0) lc_E0 0 0 n 0 [(0, .ref (a))] [] σ from H _ (fun _ _ _ h => h)
  intro Q hQ
  refine lc_aload_n dX4_size_0 rfl 0 rfl ?_
  refine lc_get dX4_size_1 lc_fX4_15 h0_0 rfl ?_
  exact lc_iret dX4_size_4 rfl (Nat.le_of_ble_eq_true rfl) (Nat.le_of_ble_eq_true rfl) (hQ _ _ _ ⟨rfl, rfl, rfl⟩)

set_option maxRecDepth 100000 in
set_option maxHeartbeats 4000000 in
theorem lc_cX4_captures (l : Launch) (n : Nat) (a : Nat) (g : Int → Int) (z c : Int) (σ : lc_S) (h0_0 : σ (a) = some (.inr (4, [.ref (a + 1), .int (lc_i (z)), .int (lc_i (c))]) : lc_Cel))  : lc_Con l yX4_captures cX4_captures 1 (some .int) (lc_Rd 0) [.ref (a)] n σ (fun v n2 σ2 => v = some (.int (lc_i (c))) ∧ n = n2 ∧ σ = σ2) := by
  refine lc_con RX4 false (by decide) rfl (fun h => absurd h (by decide)) (Nat.le_of_ble_eq_true rfl) ?_
  suffices H : ∀ Q : lc_QT, (∀ v n2 σ2, (fun v n2 σ2 => v = some (.int (lc_i (c))) ∧ n = n2 ∧ σ = σ2 : lc_QT) v n2 σ2 → Q v n2 σ2) → lc_V l RX4 cX4_captures 1 (some .int) false (lc_Rd 0) (lc_G Q 0 0) lc_E0 0 0 n 0 [(0, .ref (a))] [] σ from H _ (fun _ _ _ h => h)
  intro Q hQ
  refine lc_aload_n dX4_captures_0 rfl 0 rfl ?_
  refine lc_get dX4_captures_1 lc_fX4_19 h0_0 rfl ?_
  exact lc_iret dX4_captures_4 rfl (Nat.le_of_ble_eq_true rfl) (Nat.le_of_ble_eq_true rfl) (hQ _ _ _ ⟨rfl, rfl, rfl⟩)

set_option maxRecDepth 100000 in
set_option maxHeartbeats 4000000 in
theorem lc_cX4_get (l : Launch) (n : Nat) (a : Nat) (g : Int → Int) (z c : Int) (x : Int) (σ : lc_S) (h0_0 : σ (a) = some (.inr (4, [.ref (a + 1), .int (lc_i (z)), .int (lc_i (c))]) : lc_Cel)) (h0_1 : σ (a + 1) = some (lc_aI 364 (g))) (hz : 0 ≤ z ∧ z ≤ 364) (hx : -2147483648 ≤ x ∧ x < 2147483648) : lc_Con l yX4_get cX4_get 2 (some .int) (lc_Rd 0) [.ref (a), .int (lc_i (x))] n σ (fun v n2 σ2 => v = some (.int (lc_i (if 0 ≤ x ∧ x < z then g x else -1))) ∧ n = n2 ∧ σ = σ2) := by
  refine lc_con RX4 false (by decide) rfl (fun h => absurd h (by decide)) (Nat.le_of_ble_eq_true rfl) ?_
  suffices H : ∀ Q : lc_QT, (∀ v n2 σ2, (fun v n2 σ2 => v = some (.int (lc_i (if 0 ≤ x ∧ x < z then g x else -1))) ∧ n = n2 ∧ σ = σ2 : lc_QT) v n2 σ2 → Q v n2 σ2) → lc_V l RX4 cX4_get 2 (some .int) false (lc_Rd 0) (lc_G Q 0 0) lc_E0 0 0 n 0 [(0, .ref (a)), (1, .int (lc_i (x)))] [] σ from H _ (fun _ _ _ h => h)
  intro Q hQ
  refine lc_iload_n dX4_get_0 rfl 1 rfl ?_
  refine lc_if_lt (tgt := 30) dX4_get_1 (by decide) (by omega) (fun h_1_0 => ?_) (fun h_1_0 => ?_)
  · skip
    refine lc_iconst dX4_get_30 ?_
    exact lc_iret dX4_get_31 rfl (Nat.le_of_ble_eq_true rfl) (Nat.le_of_ble_eq_true rfl) (hQ _ _ _ ⟨lc_some (by (repeat' split) <;> omega), rfl, rfl⟩)
  · skip
    refine lc_iload_n dX4_get_4 rfl 1 rfl ?_
    refine lc_aload_n dX4_get_5 rfl 0 rfl ?_
    refine lc_get dX4_get_6 lc_fX4_15 h0_0 rfl ?_
    refine lc_icmp_ge (tgt := 30) dX4_get_9 (by decide) (by omega) (fun h_9_1 => ?_) (fun h_9_1 => ?_)
    · skip
      refine lc_iconst dX4_get_30 ?_
      exact lc_iret dX4_get_31 rfl (Nat.le_of_ble_eq_true rfl) (Nat.le_of_ble_eq_true rfl) (hQ _ _ _ ⟨lc_some (by (repeat' split) <;> omega), rfl, rfl⟩)
    · skip
      refine lc_iload_n dX4_get_12 rfl 1 rfl ?_
      refine lc_aload_n dX4_get_13 rfl 0 rfl ?_
      refine lc_get dX4_get_14 lc_fX4_11 h0_0 rfl ?_
      refine lc_alen dX4_get_17 h0_1 (by decide) ?_
      refine lc_icmp_ge (tgt := 30) dX4_get_18 (by decide) (by omega) (fun h_18_2 => ?_) (fun h_18_2 => ?_)
      · skip
        refine lc_iconst dX4_get_30 ?_
        exact lc_iret dX4_get_31 rfl (Nat.le_of_ble_eq_true rfl) (Nat.le_of_ble_eq_true rfl) (hQ _ _ _ ⟨lc_some (by (repeat' split) <;> omega), rfl, rfl⟩)
      · skip
        refine lc_aload_n dX4_get_21 rfl 0 rfl ?_
        refine lc_get dX4_get_22 lc_fX4_11 h0_0 rfl ?_
        refine lc_iload_n dX4_get_25 rfl 1 rfl ?_
        refine lc_iald dX4_get_26 h0_1 (by omega) (by decide) ?_
        refine lc_goto (tgt := 31) dX4_get_27 (by decide) ?_
        exact lc_iret dX4_get_31 rfl (Nat.le_of_ble_eq_true rfl) (Nat.le_of_ble_eq_true rfl) (hQ _ _ _ ⟨lc_some (by (repeat' split) <;> omega), rfl, rfl⟩)

set_option maxRecDepth 100000 in
set_option maxHeartbeats 4000000 in
theorem lc_cX4_addQuiet (l : Launch) (n : Nat) (a : Nat) (g : Int → Int) (z c : Int) (u : Int) (σ : lc_S) (h0_0 : σ (a) = some (.inr (4, [.ref (a + 1), .int (lc_i (z)), .int (lc_i (c))]) : lc_Cel)) (h0_1 : σ (a + 1) = some (lc_aI 364 (g))) (hz : 0 ≤ z ∧ z < 364) : lc_Con l yX4_addQuiet cX4_addQuiet 2 none (lc_Rd 0) [.ref (a), .int (lc_i (u))] n σ (fun v n2 σ2 => v = none ∧ n = n2 ∧ σ2 (a) = some (.inr (4, [.ref (a + 1), .int (lc_i (z + 1)), .int (lc_i (c))]) : lc_Cel) ∧ σ2 (a + 1) = some (lc_aI 364 (lc_u g z u)) ∧ ∀ i : Nat, i ≠ a → i ≠ a + 1 → σ2 i = σ i) := by
  refine lc_con RX4 false (by decide) rfl (fun h => absurd h (by decide)) (Nat.le_of_ble_eq_true rfl) ?_
  suffices H : ∀ Q : lc_QT, (∀ v n2 σ2, (fun v n2 σ2 => v = none ∧ n = n2 ∧ σ2 (a) = some (.inr (4, [.ref (a + 1), .int (lc_i (z + 1)), .int (lc_i (c))]) : lc_Cel) ∧ σ2 (a + 1) = some (lc_aI 364 (lc_u g z u)) ∧ ∀ i : Nat, i ≠ a → i ≠ a + 1 → σ2 i = σ i : lc_QT) v n2 σ2 → Q v n2 σ2) → lc_V l RX4 cX4_addQuiet 2 none false (lc_Rd 0) (lc_G Q 0 0) lc_E0 0 0 n 0 [(0, .ref (a)), (1, .int (lc_i (u)))] [] σ from H _ (fun _ _ _ h => h)
  intro Q hQ
  refine lc_aload_n dX4_addQuiet_0 rfl 0 rfl ?_
  refine lc_get dX4_addQuiet_1 lc_fX4_15 h0_0 rfl ?_
  refine lc_if_lt (tgt := 39) dX4_addQuiet_4 (by decide) (by omega) (fun h_4_0 => ?_) (fun h_4_0 => ?_)
  · omega
  · skip
    refine lc_aload_n dX4_addQuiet_7 rfl 0 rfl ?_
    refine lc_get dX4_addQuiet_8 lc_fX4_15 h0_0 rfl ?_
    refine lc_aload_n dX4_addQuiet_11 rfl 0 rfl ?_
    refine lc_get dX4_addQuiet_12 lc_fX4_11 h0_0 rfl ?_
    refine lc_alen dX4_addQuiet_15 h0_1 (by decide) ?_
    refine lc_icmp_ge (tgt := 39) dX4_addQuiet_16 (by decide) (by omega) (fun h_16_1 => ?_) (fun h_16_1 => ?_)
    · omega
    · skip
      refine lc_aload_n dX4_addQuiet_19 rfl 0 rfl ?_
      refine lc_get dX4_addQuiet_20 lc_fX4_11 h0_0 rfl ?_
      refine lc_aload_n dX4_addQuiet_23 rfl 0 rfl ?_
      refine lc_get dX4_addQuiet_24 lc_fX4_15 h0_0 rfl ?_
      refine lc_iload_n dX4_addQuiet_27 rfl 1 rfl ?_
      refine lc_sI dX4_addQuiet_28 h0_1 (by omega) (by decide) (fun σ3 h4 fr5 => ?_)
      have h6 : σ3 (a) = some (.inr (4, [.ref (a + 1), .int (lc_i (z)), .int (lc_i (c))]) : lc_Cel) := (fr5 _ (by omega)).trans h0_0
      refine lc_aload_n dX4_addQuiet_29 rfl 0 rfl ?_
      refine lc_dup dX4_addQuiet_30 rfl ?_
      refine lc_get dX4_addQuiet_31 lc_fX4_15 h6 rfl ?_
      refine lc_iconst dX4_addQuiet_34 ?_
      refine lc_iadd dX4_addQuiet_35 ?_
      refine lc_wI (vs' := [.ref (a + 1), .int (lc_i ((z) + (1))), .int (lc_i (c))]) dX4_addQuiet_36 lc_fX4_15 h6 (Nat.le_of_ble_eq_true rfl) rfl rfl rfl (fun σ7 h8 fr9 => ?_)
      have h10 : σ7 (a + 1) = some (lc_aI 364 (lc_u (g) (z) (u))) := (fr9 _ (by omega)).trans h4
      exact lc_vret dX4_addQuiet_39 rfl (Nat.le_of_ble_eq_true rfl) (Nat.le_of_ble_eq_true rfl) (hQ _ _ _ ⟨rfl, rfl, h8, h10, (fun i _ _ => ((fr9 i (by omega)).trans (fr5 i (by omega))))⟩)

set_option maxRecDepth 100000 in
set_option maxHeartbeats 4000000 in
/-- MoveList.addCapture: one more member, in order, once -/
theorem lc_cX4_addCapture (l : Launch) (n : Nat) (a : Nat) (g : Int → Int) (z : Int) (u : Int) (σ : lc_S) (h0_0 : σ (a) = some (.inr (4, [.ref (a + 1), .int (lc_i (z)), .int (lc_i (z))]) : lc_Cel)) (h0_1 : σ (a + 1) = some (lc_aI 364 (g))) (hz : 0 ≤ z ∧ z < 364) (hasc : lc_asc g 0 z) (hg : ∀ x : Int, lc_has g 0 z x → -2147483648 ≤ x ∧ x < 2147483648) (hv : -2147483648 ≤ u ∧ u < 2147483648) : lc_Con l yX4_addCapture cX4_addCapture 4 none (lc_Rd 0) [.ref (a), .int (lc_i (u))] n σ (fun v9 n2 σ2 => ∃ (g2 : Int → Int) (z2 : Int), v9 = none ∧ n = n2 ∧ σ2 a = some (.inr (4, [.ref (a + 1), .int (lc_i (z2)), .int (lc_i (z2))]) : lc_Cel) ∧ σ2 (a + 1) = some (lc_aI 364 (g2)) ∧ lc_insd g z u g2 z2 ∧ ∀ i : Nat, i ≠ a → i ≠ a + 1 → σ2 i = σ i) := by
  refine lc_con RX4 false (by decide) rfl (fun h => absurd h (by decide)) (Nat.le_of_ble_eq_true rfl) ?_
  suffices H : ∀ Q : lc_QT, (∀ v n2 σ2, (fun v9 n2 σ2 => ∃ (g2 : Int → Int) (z2 : Int), v9 = none ∧ n = n2 ∧ σ2 a = some (.inr (4, [.ref (a + 1), .int (lc_i (z2)), .int (lc_i (z2))]) : lc_Cel) ∧ σ2 (a + 1) = some (lc_aI 364 (g2)) ∧ lc_insd g z u g2 z2 ∧ ∀ i : Nat, i ≠ a → i ≠ a + 1 → σ2 i = σ i : lc_QT) v n2 σ2 → Q v n2 σ2) → lc_V l RX4 cX4_addCapture 4 none false (lc_Rd 0) (lc_G Q 0 0) lc_E0 0 0 n 0 [(0, .ref (a)), (1, .int (lc_i (u)))] [] σ from H _ (fun _ _ _ h => h)
  intro Q hQ
  refine lc_aload_n dX4_addCapture_0 rfl 0 rfl ?_
  refine lc_get dX4_addCapture_1 lc_fX4_15 h0_0 rfl ?_
  refine lc_if_lt (tgt := 19) dX4_addCapture_4 (by decide) (by omega) (fun h_4_0 => ?_) (fun h_4_0 => ?_)
  · omega
  · skip
    refine lc_aload_n dX4_addCapture_7 rfl 0 rfl ?_
    refine lc_get dX4_addCapture_8 lc_fX4_15 h0_0 rfl ?_
    refine lc_aload_n dX4_addCapture_11 rfl 0 rfl ?_
    refine lc_get dX4_addCapture_12 lc_fX4_11 h0_0 rfl ?_
    refine lc_alen dX4_addCapture_15 h0_1 (by decide) ?_
    refine lc_icmp_lt (tgt := 20) dX4_addCapture_16 (by decide) (by omega) (fun h_16_1 => ?_) (fun h_16_1 => ?_)
    · skip
      refine lc_aload_n dX4_addCapture_20 rfl 0 rfl ?_
      refine lc_get dX4_addCapture_21 lc_fX4_15 h0_0 rfl ?_
      refine lc_istore_n (lv' := [(0, .ref (a)), (1, .int (lc_i (u))), (2, .int (lc_i (z)))]) dX4_addCapture_24 rfl (by decide) rfl ?_
      have loop4 : ∀ (N3 : Nat) (r : Int), (0 ≤ r ∧ r ≤ z) → (∀ i : Int, r ≤ i → i < z → u < g i) → r < (N3 : Int) → lc_V l RX4 cX4_addCapture 4 none false (lc_Rd 0) (lc_G Q 0 0) lc_E0 0 0 n 25 [(0, .ref (a)), (1, .int (lc_i (u))), (2, .int (lc_i (r)))] [] σ := by
        intro N3
        induction N3 with
        | zero =>
          intro r hr hgt hm6
          exact absurd hm6 (by omega)
        | succ N3 ih5 =>
          intro r hr hgt hm6
          have hgr : 0 < r → -2147483648 ≤ g (r - 1) ∧ g (r - 1) < 2147483648 := fun q9 => hg _ ⟨r - 1, by omega, rfl⟩
          have loop8 : (r = 0 ∨ g (r - 1) < u) → lc_V l RX4 cX4_addCapture 4 none false (lc_Rd 0) (lc_G Q 0 0) lc_E0 0 0 n 64 [(0, .ref (a)), (1, .int (lc_i (u))), (2, .int (lc_i (r)))] [] σ := by
            intro  hlt
            refine lc_aload_n dX4_addCapture_64 rfl 0 rfl ?_
            refine lc_get dX4_addCapture_65 lc_fX4_15 h0_0 rfl ?_
            refine lc_istore_n (lv' := [(0, .ref (a)), (1, .int (lc_i (u))), (2, .int (lc_i (r))), (3, .int (lc_i (z)))]) dX4_addCapture_68 rfl (by decide) rfl ?_
            have loop11 : ∀ (N10 : Nat) (i : Int) (hh : Int → Int) (σ13 : lc_S), (σ13 (a + 1) = some (lc_aI 364 (hh))) → (∀ i : Nat, i ≠ a + 1 → σ13 i = σ i) → (r ≤ i ∧ i ≤ z) → (∀ j : Int, j ≤ i → hh j = g j) → (∀ j : Int, i < j → j ≤ z → hh j = g (j - 1)) → i - r < (N10 : Int) → lc_V l RX4 cX4_addCapture 4 none false (lc_Rd 0) (lc_G Q 0 0) lc_E0 0 0 n 69 [(0, .ref (a)), (1, .int (lc_i (u))), (2, .int (lc_i (r))), (3, .int (lc_i (i)))] [] σ13 := by
              intro N10
              induction N10 with
              | zero =>
                intro i hh σ13 h14 fr15 hi hlo hhi hm16
                exact absurd hm16 (by omega)
              | succ N10 ih12 =>
                intro i hh σ13 h14 fr15 hi hlo hhi hm16
                have h17 : σ13 (a) = some (.inr (4, [.ref (a + 1), .int (lc_i (z)), .int (lc_i (z))]) : lc_Cel) := (fr15 _ (by omega)).trans h0_0
                refine lc_iload_n dX4_addCapture_69 rfl 3 rfl ?_
                refine lc_iload_n dX4_addCapture_70 rfl 2 rfl ?_
                refine lc_icmp_le (tgt := 94) dX4_addCapture_71 (by decide) (by omega) (fun h_71_17 => ?_) (fun h_71_17 => ?_)
                · skip
                  refine lc_aload_n dX4_addCapture_94 rfl 0 rfl ?_
                  refine lc_get dX4_addCapture_95 lc_fX4_11 h17 rfl ?_
                  refine lc_iload_n dX4_addCapture_98 rfl 2 rfl ?_
                  refine lc_iload_n dX4_addCapture_99 rfl 1 rfl ?_
                  refine lc_sI dX4_addCapture_100 h14 (by omega) (by decide) (fun σ19 h20 fr21 => ?_)
                  have h22 : σ19 (a) = some (.inr (4, [.ref (a + 1), .int (lc_i (z)), .int (lc_i (z))]) : lc_Cel) := (fr21 _ (by omega)).trans h17
                  refine lc_aload_n dX4_addCapture_101 rfl 0 rfl ?_
                  refine lc_dup dX4_addCapture_102 rfl ?_
                  refine lc_get dX4_addCapture_103 lc_fX4_15 h22 rfl ?_
                  refine lc_iconst dX4_addCapture_106 ?_
                  refine lc_iadd dX4_addCapture_107 ?_
                  refine lc_wI (vs' := [.ref (a + 1), .int (lc_i ((z) + (1))), .int (lc_i (z))]) dX4_addCapture_108 lc_fX4_15 h22 (Nat.le_of_ble_eq_true rfl) rfl rfl rfl (fun σ23 h24 fr25 => ?_)
                  have h26 : σ23 (a + 1) = some (lc_aI 364 (lc_u (hh) (r) (u))) := (fr25 _ (by omega)).trans h20
                  refine lc_aload_n dX4_addCapture_111 rfl 0 rfl ?_
                  refine lc_aload_n dX4_addCapture_112 rfl 0 rfl ?_
                  refine lc_get dX4_addCapture_113 lc_fX4_15 h24 rfl ?_
                  refine lc_wI (vs' := [.ref (a + 1), .int (lc_i ((z) + (1))), .int (lc_i ((z) + (1)))]) dX4_addCapture_116 lc_fX4_19 h24 (Nat.le_of_ble_eq_true rfl) rfl rfl rfl (fun σ27 h28 fr29 => ?_)
                  have h30 : σ27 (a + 1) = some (lc_aI 364 (lc_u (hh) (r) (u))) := (fr29 _ (by omega)).trans h26
                  exact lc_vret dX4_addCapture_119 rfl (Nat.le_of_ble_eq_true rfl) (Nat.le_of_ble_eq_true rfl) (hQ _ _ _ ⟨(lc_u (hh) (r) (u)), ((z) + (1)), rfl, rfl, h28, h30, by have ei : r = i := (by omega); subst ei; exact lc_insd_n hasc hr hgt hlt hlo hhi, (fun i _ _ => ((fr29 i (by omega)).trans ((fr25 i (by omega)).trans ((fr21 i (by omega)).trans (fr15 i (by omega))))))⟩)
                · skip
                  refine lc_aload_n dX4_addCapture_74 rfl 0 rfl ?_
                  refine lc_get dX4_addCapture_75 lc_fX4_11 h17 rfl ?_
                  refine lc_iload_n dX4_addCapture_78 rfl 3 rfl ?_
                  refine lc_aload_n dX4_addCapture_79 rfl 0 rfl ?_
                  refine lc_get dX4_addCapture_80 lc_fX4_11 h17 rfl ?_
                  refine lc_iload_n dX4_addCapture_83 rfl 3 rfl ?_
                  refine lc_iconst dX4_addCapture_84 ?_
                  refine lc_isub dX4_addCapture_85 ?_
                  refine lc_iald dX4_addCapture_86 h14 (by omega) (by decide) ?_
                  refine lc_sI dX4_addCapture_87 h14 (by omega) (by decide) (fun σ31 h32 fr33 => ?_)
                  have h34 : σ31 (a) = some (.inr (4, [.ref (a + 1), .int (lc_i (z)), .int (lc_i (z))]) : lc_Cel) := (fr33 _ (by omega)).trans h17
                  refine lc_iinc (lv' := [(0, .ref (a)), (1, .int (lc_i (u))), (2, .int (lc_i (r))), (3, .int (lc_i (i + (-1))))]) dX4_addCapture_88 3 rfl (by decide) rfl ?_
                  refine lc_goto (tgt := 69) dX4_addCapture_91 (by decide) ?_
                  exact ih12 (i + (-1)) (lc_u (hh) (i) ((hh) ((i) - (1)))) σ31 h32 (fun i _ => ((fr33 i (by omega)).trans (fr15 i (by omega)))) (by omega) (fun j h1 => by rw [lc_u_n _ _ (by omega)]; exact hlo j (by omega)) (fun j h1 h2 => by by_cases e9 : j = i; (rw [e9, lc_u_s]; exact hlo _ (by omega)); (rw [lc_u_n _ _ e9]; exact hhi j (by omega) h2)) (by omega)
            exact loop11 1000 (z) (g) σ h0_1 (fun _ _ => rfl) (by omega) (fun j _ => rfl) (fun j h1 h2 => absurd h1 (by omega)) (by omega)
          refine lc_iload_n dX4_addCapture_25 rfl 2 rfl ?_
          refine lc_if_le (tgt := 47) dX4_addCapture_26 (by decide) (by omega) (fun h_26_34 => ?_) (fun h_26_34 => ?_)
          · skip
            refine lc_iload_n dX4_addCapture_47 rfl 2 rfl ?_
            refine lc_if_le (tgt := 64) dX4_addCapture_48 (by decide) (by omega) (fun h_48_35 => ?_) (fun h_48_35 => ?_)
            · skip
              exact loop8  (Or.inl (by omega)) 
            · skip
              refine lc_aload_n dX4_addCapture_51 rfl 0 rfl ?_
              refine lc_get dX4_addCapture_52 lc_fX4_11 h0_0 rfl ?_
              refine lc_iload_n dX4_addCapture_55 rfl 2 rfl ?_
              refine lc_iconst dX4_addCapture_56 ?_
              refine lc_isub dX4_addCapture_57 ?_
              refine lc_iald dX4_addCapture_58 h0_1 (by omega) (by decide) ?_
              refine lc_iload_n dX4_addCapture_59 rfl 1 rfl ?_
              refine lc_icmp_ne (tgt := 64) dX4_addCapture_60 (by decide) (by omega) (fun h_60_36 => ?_) (fun h_60_36 => ?_)
              · skip
                exact loop8  (Or.inr (by omega)) 
              · skip
                exact lc_vret dX4_addCapture_63 rfl (Nat.le_of_ble_eq_true rfl) (Nat.le_of_ble_eq_true rfl) (hQ _ _ _ ⟨g, z, rfl, rfl, h0_0, h0_1, lc_insd_o hasc (r := r) ⟨by omega, by omega⟩ h_60_36, (fun i _ _ => rfl)⟩)
          · skip
            refine lc_aload_n dX4_addCapture_29 rfl 0 rfl ?_
            refine lc_get dX4_addCapture_30 lc_fX4_11 h0_0 rfl ?_
            refine lc_iload_n dX4_addCapture_33 rfl 2 rfl ?_
            refine lc_iconst dX4_addCapture_34 ?_
            refine lc_isub dX4_addCapture_35 ?_
            refine lc_iald dX4_addCapture_36 h0_1 (by omega) (by decide) ?_
            refine lc_iload_n dX4_addCapture_37 rfl 1 rfl ?_
            refine lc_icmp_le (tgt := 47) dX4_addCapture_38 (by decide) (by omega) (fun h_38_37 => ?_) (fun h_38_37 => ?_)
            · skip
              refine lc_iload_n dX4_addCapture_47 rfl 2 rfl ?_
              refine lc_if_le (tgt := 64) dX4_addCapture_48 (by decide) (by omega) (fun h_48_38 => ?_) (fun h_48_38 => ?_)
              · skip
                exact loop8  (Or.inl (by omega)) 
              · skip
                refine lc_aload_n dX4_addCapture_51 rfl 0 rfl ?_
                refine lc_get dX4_addCapture_52 lc_fX4_11 h0_0 rfl ?_
                refine lc_iload_n dX4_addCapture_55 rfl 2 rfl ?_
                refine lc_iconst dX4_addCapture_56 ?_
                refine lc_isub dX4_addCapture_57 ?_
                refine lc_iald dX4_addCapture_58 h0_1 (by omega) (by decide) ?_
                refine lc_iload_n dX4_addCapture_59 rfl 1 rfl ?_
                refine lc_icmp_ne (tgt := 64) dX4_addCapture_60 (by decide) (by omega) (fun h_60_39 => ?_) (fun h_60_39 => ?_)
                · skip
                  exact loop8  (Or.inr (by omega)) 
                · skip
                  exact lc_vret dX4_addCapture_63 rfl (Nat.le_of_ble_eq_true rfl) (Nat.le_of_ble_eq_true rfl) (hQ _ _ _ ⟨g, z, rfl, rfl, h0_0, h0_1, lc_insd_o hasc (r := r) ⟨by omega, by omega⟩ h_60_39, (fun i _ _ => rfl)⟩)
            · skip
              refine lc_iinc (lv' := [(0, .ref (a)), (1, .int (lc_i (u))), (2, .int (lc_i (r + (-1))))]) dX4_addCapture_41 2 rfl (by decide) rfl ?_
              refine lc_goto (tgt := 25) dX4_addCapture_44 (by decide) ?_
              exact ih5 (r + (-1)) (by omega) (fun i h1 h2 => by by_cases e9 : i = r - 1; (rw [e9]; exact h_38_37); (exact hgt i (by omega) h2)) (by omega)
      exact loop4 1000 (z) (by omega) (fun i h1 h2 => absurd h1 (by omega)) (by omega)
    · omega
