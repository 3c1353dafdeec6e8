/-! the circuits, a going along them, and ways -/
def lc_pa (c p : Int) : Int := if p / 6 = 0 then 6 * (1 + c) + p % 6 else if p / 6 = 1 then 6 * (p % 6) + (4 - c) else if p / 6 = 2 then 6 * (4 - c) + 5 - p % 6 else 6 * (5 - p % 6) + (1 + c)
def lc_pt (x : Int) : Int := lc_pa (x / 24) (x % 24)
def lc_spL : List Int := [-1, -1, 23, -1, 47, -1, 30, -1, 6, -1, -1, -1, 0, -1, 1, 22, 2, 46, 3, 31, 4, 7, 5, -1, 24, -1, 21, 25, 26, 45, 27, 32, 8, 28, 29, -1, 41, -1, 20, 40, 39, 44, 33, 38, 9, 37, 36, -1, 17, -1, 16, 19, 15, 43, 14, 34, 10, 13, 12, -1, -1, -1, 18, -1, 42, -1, 35, -1, 11, -1, -1, -1]
def lc_sp (i : Int) : Int := lc_spL.getD i.toNat (-1)
theorem lc_pt_r {x : Int} (h : 0 ≤ x ∧ x < 48) : 0 ≤ lc_pt x ∧ lc_pt x < 36 := by
  unfold lc_pt lc_pa
  (repeat' split) <;> omega
theorem lc_all_dec {N : Nat} {P : Nat → Prop} [DecidablePred P] (h : ∀ i, i < N → P i) {x : Int} (hx : 0 ≤ x ∧ x < N) : P x.toNat := h x.toNat (by omega)
theorem lc_sp_r0 : ∀ i : Nat, i < 72 → -1 ≤ lc_sp i ∧ lc_sp i < 48 := by decide
theorem lc_sp_r {x : Int} (h : 0 ≤ x ∧ x < 72) : -1 ≤ lc_sp x ∧ lc_sp x < 48 := by
  have := lc_sp_r0 x.toNat (by omega)
  rwa [show ((x.toNat : Nat) : Int) = x by omega] at this
def lc_el (d : Int) : Int := if 0 < d then 5 else 0
theorem lc_el_r (d : Int) : 0 ≤ lc_el d ∧ lc_el d ≤ 5 := by unfold lc_el; split <;> omega
def lc_pl (x d : Int) : Nat → Int
  | 0 => x % 24
  | k + 1 => (lc_pl x d k + d + 24) % 24
def lc_lo (x d : Int) : Nat → Int
  | 0 => 0
  | k + 1 => lc_lo x d k + (if lc_pl x d k % 6 = lc_el d then 1 else 0)
def lc_wp (x d : Int) (k : Nat) : Int := lc_pt (x - x % 24 + lc_pl x d k)
def lc_oc (f : Int → Int) (x d : Int) (k : Nat) : Bool := decide (lc_wp x d k ≠ lc_pt x) && decide (f (lc_wp x d k) ≠ 0)
def lc_Kf (f : Int → Int) (x d : Int) : Nat → Nat → Nat
  | 0, k => k
  | n + 1, k => bif lc_oc f x d k then k else lc_Kf f x d n (k + 1)
def lc_K (f : Int → Int) (x d : Int) : Nat := lc_Kf f x d 23 1
def lc_M (f : Int → Int) (x d : Int) : Int := if lc_K f x d = 24 then -1 else lc_wp x d (lc_K f x d)
def lc_Lo (f : Int → Int) (x d : Int) : Int := if lc_K f x d = 24 then lc_lo x d 23 else lc_lo x d (lc_K f x d)
theorem lc_pl_r (x d : Int) : ∀ k : Nat, 0 ≤ lc_pl x d k ∧ lc_pl x d k < 24
  | 0 => by unfold lc_pl; omega
  | k + 1 => by unfold lc_pl; omega
theorem lc_lo_s1 {x d : Int} {j : Nat} (h : lc_pl x d j % 6 = lc_el d) : lc_lo x d (j + 1) = (lc_lo x d j) + (1) := by
  show lc_lo x d j + (if lc_pl x d j % 6 = lc_el d then 1 else 0) = _
  rw [if_pos h]
theorem lc_lo_s0 {x d : Int} {j : Nat} (h : lc_pl x d j % 6 ≠ lc_el d) : lc_lo x d (j + 1) = lc_lo x d j := by
  show lc_lo x d j + (if lc_pl x d j % 6 = lc_el d then 1 else 0) = _
  rw [if_neg h, Int.add_zero]
theorem lc_lo_r (x d : Int) : ∀ k : Nat, 0 ≤ lc_lo x d k ∧ lc_lo x d k ≤ k
  | 0 => by unfold lc_lo; omega
  | k + 1 => by
    have := lc_lo_r x d k
    unfold lc_lo
    split <;> omega
theorem lc_wp_r {x : Int} (d : Int) (h : 0 ≤ x ∧ x < 48) (k : Nat) : 0 ≤ lc_wp x d k ∧ lc_wp x d k < 36 := by
  have := lc_pl_r x d k
  exact lc_pt_r (by omega)
theorem lc_Kf_r (f : Int → Int) (x d : Int) : ∀ (n k : Nat), k ≤ lc_Kf f x d n k ∧ lc_Kf f x d n k ≤ k + n
  | 0, k => by unfold lc_Kf; omega
  | n + 1, k => by
    have := lc_Kf_r f x d n (k + 1)
    unfold lc_Kf
    cases lc_oc f x d k
    · simp only [cond_false]; omega
    · simp only [cond_true]; omega
theorem lc_K_r (f : Int → Int) (x d : Int) : 1 ≤ lc_K f x d ∧ lc_K f x d ≤ 24 := lc_Kf_r f x d 23 1
theorem lc_M_r (f : Int → Int) {x : Int} (d : Int) (h : 0 ≤ x ∧ x < 48) : -1 ≤ lc_M f x d ∧ lc_M f x d < 36 := by
  have := lc_wp_r d h (lc_K f x d)
  unfold lc_M
  split <;> omega
theorem lc_Lo_r (f : Int → Int) (x d : Int) : 0 ≤ lc_Lo f x d ∧ lc_Lo f x d ≤ 24 := by
  have h1 := lc_lo_r x d 23
  have h2 := lc_lo_r x d (lc_K f x d)
  have h3 := lc_K_r f x d
  unfold lc_Lo
  split <;> omega
/-- one step of the search for the first piece -/
theorem lc_Kf_s {f : Int → Int} {x d : Int} {n k : Nat} (h : lc_oc f x d k = false) : lc_Kf f x d (n + 1) k = lc_Kf f x d n (k + 1) := by
  show (bif lc_oc f x d k then k else lc_Kf f x d n (k + 1)) = _
  rw [h]; rfl
theorem lc_Kf_t {f : Int → Int} {x d : Int} {n k : Nat} (h : lc_oc f x d k = true) : lc_Kf f x d (n + 1) k = k := by
  show (bif lc_oc f x d k then k else lc_Kf f x d n (k + 1)) = _
  rw [h]; rfl
theorem lc_oc_n1 {f : Int → Int} {x d : Int} {k : Nat} (h : lc_wp x d k = lc_pt x) : lc_oc f x d k = false := by simp [lc_oc, h]
theorem lc_oc_n2 {f : Int → Int} {x d : Int} {k : Nat} (h : f (lc_wp x d k) = 0) : lc_oc f x d k = false := by simp [lc_oc, h]
theorem lc_oc_y {f : Int → Int} {x d : Int} {k : Nat} (h1 : lc_wp x d k ≠ lc_pt x) (h2 : f (lc_wp x d k) ≠ 0) : lc_oc f x d k = true := by simp [lc_oc, h1, h2]
theorem lc_Kf_b {f : Int → Int} {x d : Int} {j : Nat} (hK : lc_K f x d = lc_Kf f x d (23 - j) (j + 1)) (hj : j < 23) (h : lc_oc f x d (j + 1) = false) : lc_K f x d = lc_Kf f x d (23 - (j + 1)) (j + 1 + 1) := by
  rw [hK, show 23 - j = (22 - j) + 1 by omega, lc_Kf_s h, show 23 - (j + 1) = 22 - j by omega]
theorem lc_Kf_e {f : Int → Int} {x d : Int} {j : Nat} (hK : lc_K f x d = lc_Kf f x d (23 - j) (j + 1)) (hj : j < 23) (h : lc_oc f x d (j + 1) = true) : lc_K f x d = j + 1 := by
  rw [hK, show 23 - j = (22 - j) + 1 by omega, lc_Kf_t h]
theorem lc_Kf_n {f : Int → Int} {x d : Int} {j : Nat} (hK : lc_K f x d = lc_Kf f x d (23 - j) (j + 1)) (hj : ¬ j < 23) (h : j ≤ 23) : lc_K f x d = 24 := by
  rw [hK, show j = 23 by omega]
  rfl
theorem lc_M_1 {f : Int → Int} {x d : Int} {j : Nat} (h : lc_K f x d = j + 1) (hj : j < 23) : lc_M f x d = lc_wp x d (j + 1) := by
  unfold lc_M
  rw [h, if_neg (by omega)]
theorem lc_Lo_1 {f : Int → Int} {x d : Int} {j : Nat} (h : lc_K f x d = j + 1) (hj : j < 23) : lc_Lo f x d = lc_lo x d (j + 1) := by
  unfold lc_Lo
  rw [h, if_neg (by omega)]
theorem lc_M_0 {f : Int → Int} {x d : Int} (h : lc_K f x d = 24) : lc_M f x d = -1 := by
  unfold lc_M
  rw [if_pos h]
theorem lc_Lo_0 {f : Int → Int} {x d : Int} (h : lc_K f x d = 24) : lc_Lo f x d = lc_lo x d 23 := by
  unfold lc_Lo
  rw [if_pos h]
/-- the places that a going along notes: 0 where nothing is met -/
def lc_Sp (f : Int → Int) (x d : Int) : Int := if lc_K f x d = 24 then 0 else (lc_K f x d : Int)
theorem lc_Sp_1 {f : Int → Int} {x d : Int} {j : Nat} (h : lc_K f x d = j + 1) (hj : j < 23) : lc_Sp f x d = ((j : Nat) : Int) + 1 := by
  unfold lc_Sp
  rw [h, if_neg (by omega)]
  omega
theorem lc_Sp_0 {f : Int → Int} {x d : Int} (h : lc_K f x d = 24) : lc_Sp f x d = 0 := by
  unfold lc_Sp
  rw [if_pos h]
theorem lc_Sp_r (f : Int → Int) (x d : Int) : 0 ≤ lc_Sp f x d ∧ lc_Sp f x d ≤ 24 := by
  have h := lc_K_r f x d
  unfold lc_Sp
  split <;> omega
theorem lc_Sp_K {f : Int → Int} {x d to : Int} (hto : 0 ≤ to) (h : lc_M f x d = to) : lc_Sp f x d = (lc_K f x d : Int) := by
  unfold lc_Sp
  split
  · rename_i e
    rw [lc_M_0 e] at h
    omega
  · rfl
/-- the way that matters, of those that were tried: loops, places, where it begins, its direction -/
def lc_try (f : Int → Int) (to : Int) (w : Int × Int × Int × Int) (x d : Int) : Int × Int × Int × Int := if (0 < lc_Lo f x d ∧ lc_M f x d = to) ∧ (w.1 = 0 ∨ (lc_Lo f x d < w.1 ∨ (lc_Lo f x d = w.1 ∧ (lc_K f x d : Int) < w.2.1))) then (lc_Lo f x d, (lc_K f x d : Int), x, d) else w
def lc_two (f : Int → Int) (to : Int) (w : Int × Int × Int × Int) (x : Int) : Int × Int × Int × Int := if x = -1 then w else lc_try f to (lc_try f to w x 1) x (-1)
def lc_find (f : Int → Int) (fr to : Int) (w : Int × Int × Int × Int) : Int × Int × Int × Int := lc_two f to (lc_two f to (0, w.2) (lc_sp (fr * 2))) (lc_sp (fr * 2 + 1))
def lc_wok (w : Int × Int × Int × Int) : Prop := (0 ≤ w.1 ∧ w.1 ≤ 24) ∧ (w.1 ≠ 0 → (1 ≤ w.2.1 ∧ w.2.1 ≤ 24) ∧ (0 ≤ w.2.2.1 ∧ w.2.2.1 < 48) ∧ (w.2.2.2 = 1 ∨ w.2.2.2 = -1))
theorem lc_try_ok {f : Int → Int} {to x d : Int} {w : Int × Int × Int × Int} (h : lc_wok w) (hx : 0 ≤ x ∧ x < 48) (hd : d = 1 ∨ d = -1) : lc_wok (lc_try f to w x d) := by
  have h1 := lc_Lo_r f x d
  have h2 := lc_K_r f x d
  unfold lc_try
  split
  · exact ⟨h1, fun _ => ⟨by show 1 ≤ (lc_K f x d : Int) ∧ (lc_K f x d : Int) ≤ 24; omega, hx, hd⟩⟩
  · exact h
theorem lc_two_ok {f : Int → Int} {to x : Int} {w : Int × Int × Int × Int} (h : lc_wok w) (hx : -1 ≤ x ∧ x < 48) : lc_wok (lc_two f to w x) := by
  unfold lc_two
  split
  · exact h
  · exact lc_try_ok (lc_try_ok h (by omega) (Or.inl rfl)) (by omega) (Or.inr rfl)
theorem lc_w0 (w : Int × Int × Int) : lc_wok (0, w) := ⟨⟨Int.le_refl 0, show (0 : Int) ≤ 24 by decide⟩, fun h => absurd rfl h⟩

set_option maxRecDepth 100000 in
set_option maxHeartbeats 4000000 in
theorem lc_cX1_pointAt (l : Launch) (n : Nat) (x : Int) (σ : lc_S) (h0_0 : σ (2) = some (.inr (1, [.ref (3), .ref (4)]) : lc_Cel)) (h0_1 : σ (3) = some (lc_aI 48 (lc_pt))) (hx : -2147483648 ≤ x ∧ x < 2147483648) : lc_Con l yX1_pointAt cX1_pointAt 2 (some .int) (lc_Rd 0) [.ref (2), .int (lc_i (x))] n σ (fun v n2 σ2 => v = some (.int (lc_i (if 0 ≤ x ∧ x < 48 then lc_pt x else -1))) ∧ n = n2 ∧ σ = σ2) := by
  refine lc_con RX1 false (by decide) rfl (fun h => absurd h (by decide)) (Nat.le_of_ble_eq_true rfl) ?_
  suffices H : ∀ Q : lc_QT, (∀ v n2 σ2, (fun v n2 σ2 => v = some (.int (lc_i (if 0 ≤ x ∧ x < 48 then lc_pt x else -1))) ∧ n = n2 ∧ σ = σ2 : lc_QT) v n2 σ2 → Q v n2 σ2) → lc_V l RX1 cX1_pointAt 2 (some .int) false (lc_Rd 0) (lc_G Q 0 0) lc_E0 0 0 n 0 [(0, .ref (2)), (1, .int (lc_i (x)))] [] σ from H _ (fun _ _ _ h => h)
  intro Q hQ
  refine lc_iload_n dX1_pointAt_0 rfl 1 rfl ?_
  refine lc_if_lt (tgt := 22) dX1_pointAt_1 (by decide) (by omega) (fun h_1_0 => ?_) (fun h_1_0 => ?_)
  · skip
    refine lc_iconst dX1_pointAt_22 ?_
    exact lc_iret dX1_pointAt_23 rfl (Nat.le_of_ble_eq_true rfl) (Nat.le_of_ble_eq_true rfl) (hQ _ _ _ ⟨lc_some (by (repeat' split) <;> omega), rfl, rfl⟩)
  · skip
    refine lc_iload_n dX1_pointAt_4 rfl 1 rfl ?_
    refine lc_aload_n dX1_pointAt_5 rfl 0 rfl ?_
    refine lc_get dX1_pointAt_6 lc_fX1_11 h0_0 rfl ?_
    refine lc_alenV (v := 48) dX1_pointAt_9 h0_1 (by decide) rfl ?_
    refine lc_icmp_ge (tgt := 22) dX1_pointAt_10 (by decide) (by omega) (fun h_10_1 => ?_) (fun h_10_1 => ?_)
    · skip
      refine lc_iconst dX1_pointAt_22 ?_
      exact lc_iret dX1_pointAt_23 rfl (Nat.le_of_ble_eq_true rfl) (Nat.le_of_ble_eq_true rfl) (hQ _ _ _ ⟨lc_some (by (repeat' split) <;> omega), rfl, rfl⟩)
    · skip
      refine lc_aload_n dX1_pointAt_13 rfl 0 rfl ?_
      refine lc_get dX1_pointAt_14 lc_fX1_11 h0_0 rfl ?_
      refine lc_iload_n dX1_pointAt_17 rfl 1 rfl ?_
      refine lc_iald dX1_pointAt_18 h0_1 (by omega) (by decide) ?_
      refine lc_goto (tgt := 23) dX1_pointAt_19 (by decide) ?_
      exact lc_iret dX1_pointAt_23 rfl (Nat.le_of_ble_eq_true rfl) (Nat.le_of_ble_eq_true rfl) (hQ _ _ _ ⟨lc_some (by (repeat' split) <;> omega), rfl, rfl⟩)

set_option maxRecDepth 100000 in
set_option maxHeartbeats 4000000 in
theorem lc_cX1_spotOf (l : Launch) (n : Nat) (x y : Int) (σ : lc_S) (h0_0 : σ (2) = some (.inr (1, [.ref (3), .ref (4)]) : lc_Cel)) (h0_1 : σ (4) = some (lc_aI 72 (lc_sp))) (hx : 0 ≤ x ∧ x < 36) (hy : 0 ≤ y ∧ y < 2) : lc_Con l yX1_spotOf cX1_spotOf 4 (some .int) (lc_Rd 0) [.ref (2), .int (lc_i (x)), .int (lc_i (y))] n σ (fun v n2 σ2 => v = some (.int (lc_i (lc_sp (x * 2 + y)))) ∧ n = n2 ∧ σ = σ2) := by
  refine lc_con RX1 false (by decide) rfl (fun h => absurd h (by decide)) (Nat.le_of_ble_eq_true rfl) ?_
  suffices H : ∀ Q : lc_QT, (∀ v n2 σ2, (fun v n2 σ2 => v = some (.int (lc_i (lc_sp (x * 2 + y)))) ∧ n = n2 ∧ σ = σ2 : lc_QT) v n2 σ2 → Q v n2 σ2) → lc_V l RX1 cX1_spotOf 4 (some .int) false (lc_Rd 0) (lc_G Q 0 0) lc_E0 0 0 n 0 [(0, .ref (2)), (1, .int (lc_i (x))), (2, .int (lc_i (y)))] [] σ from H _ (fun _ _ _ h => h)
  intro Q hQ
  refine lc_iload_n dX1_spotOf_0 rfl 1 rfl ?_
  refine lc_iconst dX1_spotOf_1 ?_
  refine lc_imul dX1_spotOf_2 ?_
  refine lc_top (congrArg (fun z => Value.int (lc_i z)) (show ((x) * (2) : Int) = x * 2 from rfl)) ?_
  refine lc_iload_n dX1_spotOf_3 rfl 2 rfl ?_
  refine lc_iadd dX1_spotOf_4 ?_
  refine lc_top (congrArg (fun z => Value.int (lc_i z)) (show ((x * 2) + (y) : Int) = x * 2 + y from rfl)) ?_
  refine lc_istore_n (lv' := [(0, .ref (2)), (1, .int (lc_i (x))), (2, .int (lc_i (y))), (3, .int (lc_i (x * 2 + y)))]) dX1_spotOf_5 rfl (by decide) rfl ?_
  refine lc_iload_n dX1_spotOf_6 rfl 3 rfl ?_
  refine lc_if_lt (tgt := 28) dX1_spotOf_7 (by decide) (by omega) (fun h_7_0 => ?_) (fun h_7_0 => ?_)
  · omega
  · skip
    refine lc_iload_n dX1_spotOf_10 rfl 3 rfl ?_
    refine lc_aload_n dX1_spotOf_11 rfl 0 rfl ?_
    refine lc_get dX1_spotOf_12 lc_fX1_15 h0_0 rfl ?_
    refine lc_alenV (v := 72) dX1_spotOf_15 h0_1 (by decide) rfl ?_
    refine lc_icmp_ge (tgt := 28) dX1_spotOf_16 (by decide) (by omega) (fun h_16_1 => ?_) (fun h_16_1 => ?_)
    · omega
    · skip
      refine lc_aload_n dX1_spotOf_19 rfl 0 rfl ?_
      refine lc_get dX1_spotOf_20 lc_fX1_15 h0_0 rfl ?_
      refine lc_iload_n dX1_spotOf_23 rfl 3 rfl ?_
      refine lc_iald dX1_spotOf_24 h0_1 (by omega) (by decide) ?_
      refine lc_goto (tgt := 29) dX1_spotOf_25 (by decide) ?_
      exact lc_iret dX1_spotOf_29 rfl (Nat.le_of_ble_eq_true rfl) (Nat.le_of_ble_eq_true rfl) (hQ _ _ _ ⟨rfl, rfl, rfl⟩)

set_option maxRecDepth 100000 in
set_option maxHeartbeats 4000000 in
/-- Walk.go: the first piece on the way, its loops and places -/
theorem lc_cX8_go (l : Launch) (n : Nat) (w : Nat) (a1 a2 a3 : Int) (b : Nat) (f : Int → Int) (o t s q m : Int) (x d : Int) (σ : lc_S) (h0_0 : σ (w) = some (.inr (8, [.ref (2), .int (lc_i (a1)), .int (lc_i (a2)), .int (lc_i (a3))]) : lc_Cel)) (h0_1 : σ (2) = some (.inr (1, [.ref (3), .ref (4)]) : lc_Cel)) (h0_2 : σ (3) = some (lc_aI 48 (lc_pt))) (h0_3 : σ (b) = some (.inr (0, [.ref (b + 1), .int (lc_i (o)), .int (lc_i (t)), .int (lc_i (s)), .int (lc_i (q)), .int (lc_i (m))]) : lc_Cel)) (h0_4 : σ (b + 1) = some (lc_aI 36 (f))) (hf : ∀ j : Int, 0 ≤ j → j < 36 → 0 ≤ f j ∧ f j ≤ 2) (hx : 0 ≤ x ∧ x < 48) (hd : d = 1 ∨ d = -1) (hw : w = 6 ∨ w = 8) (hb : 12 ≤ b) : lc_Con l yX8_go cX8_go 10 none (lc_Rd 1) [.ref (w), .ref (b), .int (lc_i (x)), .int (lc_i (d))] n σ (fun v n2 σ2 => v = none ∧ n = n2 ∧ σ2 (w) = some (.inr (8, [.ref (2), .int (lc_i (lc_M f x d)), .int (lc_i (lc_Lo f x d)), .int (lc_i (lc_Sp f x d))]) : lc_Cel) ∧ ∀ i : Nat, i ≠ w → σ2 i = σ i) := by
  have hel := lc_el_r d
  have hpx := lc_pt_r hx
  refine lc_con RX8 false (by decide) rfl (fun h => absurd h (by decide)) (Nat.le_of_ble_eq_true rfl) ?_
  suffices H : ∀ Q : lc_QT, (∀ v n2 σ2, (fun v n2 σ2 => v = none ∧ n = n2 ∧ σ2 (w) = some (.inr (8, [.ref (2), .int (lc_i (lc_M f x d)), .int (lc_i (lc_Lo f x d)), .int (lc_i (lc_Sp f x d))]) : lc_Cel) ∧ ∀ i : Nat, i ≠ w → σ2 i = σ i : lc_QT) v n2 σ2 → Q v n2 σ2) → lc_V l RX8 cX8_go 10 none false (lc_Rd 1) (lc_G Q 0 0) lc_E0 0 0 n 0 [(0, .ref (w)), (1, .ref (b)), (2, .int (lc_i (x))), (3, .int (lc_i (d)))] [] σ from H _ (fun _ _ _ h => h)
  intro Q hQ
  refine lc_aload_n dX8_go_0 rfl 0 rfl ?_
  refine lc_iconst dX8_go_1 ?_
  refine lc_wI (vs' := [.ref (2), .int (lc_i ((-1))), .int (lc_i (a2)), .int (lc_i (a3))]) dX8_go_2 lc_fX8_15 h0_0 (Nat.le_of_ble_eq_true rfl) rfl rfl rfl (fun σ1 h2 fr3 => ?_)
  have h4 : σ1 (2) = some (.inr (1, [.ref (3), .ref (4)]) : lc_Cel) := (fr3 _ (by omega)).trans h0_1
  have h5 : σ1 (3) = some (lc_aI 48 (lc_pt)) := (fr3 _ (by omega)).trans h0_2
  have h6 : σ1 (b) = some (.inr (0, [.ref (b + 1), .int (lc_i (o)), .int (lc_i (t)), .int (lc_i (s)), .int (lc_i (q)), .int (lc_i (m))]) : lc_Cel) := (fr3 _ (by omega)).trans h0_3
  have h7 : σ1 (b + 1) = some (lc_aI 36 (f)) := (fr3 _ (by omega)).trans h0_4
  refine lc_aload_n dX8_go_5 rfl 0 rfl ?_
  refine lc_iconst dX8_go_6 ?_
  refine lc_wI (vs' := [.ref (2), .int (lc_i ((-1))), .int (lc_i (0)), .int (lc_i (a3))]) dX8_go_7 lc_fX8_19 h2 (Nat.le_of_ble_eq_true rfl) rfl rfl rfl (fun σ8 h9 fr10 => ?_)
  have h11 : σ8 (2) = some (.inr (1, [.ref (3), .ref (4)]) : lc_Cel) := (fr10 _ (by omega)).trans h4
  have h12 : σ8 (3) = some (lc_aI 48 (lc_pt)) := (fr10 _ (by omega)).trans h5
  have h13 : σ8 (b) = some (.inr (0, [.ref (b + 1), .int (lc_i (o)), .int (lc_i (t)), .int (lc_i (s)), .int (lc_i (q)), .int (lc_i (m))]) : lc_Cel) := (fr10 _ (by omega)).trans h6
  have h14 : σ8 (b + 1) = some (lc_aI 36 (f)) := (fr10 _ (by omega)).trans h7
  refine lc_aload_n dX8_go_10 rfl 0 rfl ?_
  refine lc_iconst dX8_go_11 ?_
  refine lc_wI (vs' := [.ref (2), .int (lc_i ((-1))), .int (lc_i (0)), .int (lc_i (0))]) dX8_go_12 lc_fX8_22 h9 (Nat.le_of_ble_eq_true rfl) rfl rfl rfl (fun σ15 h16 fr17 => ?_)
  have h18 : σ15 (2) = some (.inr (1, [.ref (3), .ref (4)]) : lc_Cel) := (fr17 _ (by omega)).trans h11
  have h19 : σ15 (3) = some (lc_aI 48 (lc_pt)) := (fr17 _ (by omega)).trans h12
  have h20 : σ15 (b) = some (.inr (0, [.ref (b + 1), .int (lc_i (o)), .int (lc_i (t)), .int (lc_i (s)), .int (lc_i (q)), .int (lc_i (m))]) : lc_Cel) := (fr17 _ (by omega)).trans h13
  have h21 : σ15 (b + 1) = some (lc_aI 36 (f)) := (fr17 _ (by omega)).trans h14
  refine lc_aload_n dX8_go_15 rfl 0 rfl ?_
  refine lc_get dX8_go_16 lc_fX8_9 h16 rfl ?_
  refine lc_iload_n dX8_go_19 rfl 2 rfl ?_
  refine lc_callV (As := [.int (lc_i (x))]) (stk := []) (b := 2) dX8_go_20 lc_mX8_25 lc_yX1_pointAt h18 rfl (lc_cX1_pointAt l n (x) σ15 h18 h19 (by omega)) rfl ⟨Nat.le_of_ble_eq_true rfl, Nat.le_of_ble_eq_true rfl⟩ ⟨Nat.le_of_ble_eq_true rfl, Nat.le_of_ble_eq_true rfl⟩ rfl (Nat.le_of_ble_eq_true rfl) (fun v22 n23 σ24 q25 => ?_)
  obtain ⟨rfl, rfl, rfl⟩ := q25
  refine lc_top (congrArg (fun z => Value.int (lc_i z)) (show (if 0 ≤ (x) ∧ (x) < 48 then lc_pt (x) else -1 : Int) = lc_pt x from by rw [if_pos (by omega)])) ?_
  refine lc_istore (lv' := [(0, .ref (w)), (1, .ref (b)), (2, .int (lc_i (x))), (3, .int (lc_i (d))), (4, .int (lc_i (lc_pt x)))]) dX8_go_23 (by decide) rfl ?_
  refine lc_iload_n dX8_go_25 rfl 2 rfl ?_
  refine lc_bipush dX8_go_26 (by decide) ?_
  refine lc_irem dX8_go_28 (by omega) ?_
  refine lc_top (congrArg (fun z => Value.int (lc_i z)) (show ((x) % (24) : Int) = x % 24 from rfl)) ?_
  refine lc_istore (lv' := [(0, .ref (w)), (1, .ref (b)), (2, .int (lc_i (x))), (3, .int (lc_i (d))), (4, .int (lc_i (lc_pt x))), (5, .int (lc_i (x % 24)))]) dX8_go_29 (by decide) rfl ?_
  refine lc_iload_n dX8_go_31 rfl 2 rfl ?_
  refine lc_iload dX8_go_32 5 rfl ?_
  refine lc_isub dX8_go_34 ?_
  refine lc_istore (lv' := [(0, .ref (w)), (1, .ref (b)), (2, .int (lc_i (x))), (3, .int (lc_i (d))), (4, .int (lc_i (lc_pt x))), (5, .int (lc_i (x % 24))), (6, .int (lc_i ((x) - (x % 24))))]) dX8_go_35 (by decide) rfl ?_
  refine lc_iload_n dX8_go_37 rfl 3 rfl ?_
  have loop27 : lc_V l RX8 cX8_go 10 none false (lc_Rd 1) (lc_G Q 0 0) lc_E0 0 0 n 46 [(0, .ref (w)), (1, .ref (b)), (2, .int (lc_i (x))), (3, .int (lc_i (d))), (4, .int (lc_i (lc_pt x))), (5, .int (lc_i (x % 24))), (6, .int (lc_i ((x) - (x % 24))))] [.int (lc_i (lc_el d))] σ15 := by
    refine lc_istore (lv' := [(0, .ref (w)), (1, .ref (b)), (2, .int (lc_i (x))), (3, .int (lc_i (d))), (4, .int (lc_i (lc_pt x))), (5, .int (lc_i (x % 24))), (6, .int (lc_i ((x) - (x % 24)))), (7, .int (lc_i (lc_el d)))]) dX8_go_46 (by decide) rfl ?_
    refine lc_iconst dX8_go_48 ?_
    refine lc_top (congrArg (fun z => Value.int (lc_i z)) (show (1 : Int) = ((0 : Nat) : Int) + 1 from rfl)) ?_
    refine lc_istore (lv' := [(0, .ref (w)), (1, .ref (b)), (2, .int (lc_i (x))), (3, .int (lc_i (d))), (4, .int (lc_i (lc_pt x))), (5, .int (lc_i (x % 24))), (6, .int (lc_i ((x) - (x % 24)))), (7, .int (lc_i (lc_el d))), (8, .int (lc_i (((0 : Nat) : Int) + 1)))]) dX8_go_49 (by decide) rfl ?_
    have loop30 : ∀ (N29 : Nat) (j : Nat) (σ32 : lc_S), (σ32 (w) = some (.inr (8, [.ref (2), .int (lc_i (-1)), .int (lc_i (lc_lo x d j)), .int (lc_i (0))]) : lc_Cel)) → (∀ i : Nat, i ≠ w → σ32 i = σ15 i) → (j ≤ 23) → (lc_K f x d = lc_Kf f x d (23 - j) (j + 1)) → 23 - (j : Int) < (N29 : Int) → lc_V l RX8 cX8_go 10 none false (lc_Rd 1) (lc_G Q 0 0) lc_E0 0 0 n 51 [(0, .ref (w)), (1, .ref (b)), (2, .int (lc_i (x))), (3, .int (lc_i (d))), (4, .int (lc_i (lc_pt x))), (5, .int (lc_i (lc_pl x d j))), (6, .int (lc_i ((x) - (x % 24)))), (7, .int (lc_i (lc_el d))), (8, .int (lc_i (((j : Nat) : Int) + 1)))] [] σ32 := by
      intro N29
      induction N29 with
      | zero =>
        intro j σ32 h33 fr34 hj hK hm35
        exact absurd hm35 (by omega)
      | succ N29 ih31 =>
        intro j σ32 h33 fr34 hj hK hm35
        have h36 : σ32 (2) = some (.inr (1, [.ref (3), .ref (4)]) : lc_Cel) := (fr34 _ (by omega)).trans h18
        have h37 : σ32 (3) = some (lc_aI 48 (lc_pt)) := (fr34 _ (by omega)).trans h19
        have h38 : σ32 (b) = some (.inr (0, [.ref (b + 1), .int (lc_i (o)), .int (lc_i (t)), .int (lc_i (s)), .int (lc_i (q)), .int (lc_i (m))]) : lc_Cel) := (fr34 _ (by omega)).trans h20
        have h39 : σ32 (b + 1) = some (lc_aI 36 (f)) := (fr34 _ (by omega)).trans h21
        have hpl := lc_pl_r x d j; have hpl1 := lc_pl_r x d (j + 1); have hwp := lc_wp_r d hx (j + 1); have hlo := lc_lo_r x d j; have hfv := hf (lc_wp x d (j + 1)) hwp.1 hwp.2
        refine lc_iload dX8_go_51 8 rfl ?_
        refine lc_bipush dX8_go_53 (by decide) ?_
        refine lc_icmp_ge (tgt := 139) dX8_go_55 (by decide) (by omega) (fun h_55_39 => ?_) (fun h_55_39 => ?_)
        · skip
          exact lc_vret dX8_go_139 rfl (Nat.le_of_ble_eq_true rfl) (Nat.le_of_ble_eq_true rfl) (hQ _ _ _ ⟨rfl, rfl, (by rw [h33, show (lc_M f x d : Int) = -1 from (lc_M_0 (lc_Kf_n hK (by omega) hj)), show (lc_Lo f x d : Int) = lc_lo x d j from ((lc_Lo_0 (lc_Kf_n hK (by omega) hj)).trans (by rw [show j = 23 by omega])), show (lc_Sp f x d : Int) = 0 from (lc_Sp_0 (lc_Kf_n hK (by omega) hj))]), (fun i _ => ((fr34 i (by omega)).trans ((fr17 i (by omega)).trans ((fr10 i (by omega)).trans (fr3 i (by omega))))))⟩)
        · skip
          refine lc_iload dX8_go_58 5 rfl ?_
          refine lc_bipush dX8_go_60 (by decide) ?_
          refine lc_irem dX8_go_62 (by omega) ?_
          refine lc_iload dX8_go_63 7 rfl ?_
          have loop42 : ∀  (σ44 : lc_S), (σ44 (w) = some (.inr (8, [.ref (2), .int (lc_i (-1)), .int (lc_i (lc_lo x d (j + 1))), .int (lc_i (0))]) : lc_Cel)) → (∀ i : Nat, i ≠ w → σ44 i = σ32 i) → lc_V l RX8 cX8_go 10 none false (lc_Rd 1) (lc_G Q 0 0) lc_E0 0 0 n 78 [(0, .ref (w)), (1, .ref (b)), (2, .int (lc_i (x))), (3, .int (lc_i (d))), (4, .int (lc_i (lc_pt x))), (5, .int (lc_i (lc_pl x d j))), (6, .int (lc_i ((x) - (x % 24)))), (7, .int (lc_i (lc_el d))), (8, .int (lc_i (((j : Nat) : Int) + 1)))] [] σ44 := by
            intro  σ44 h45 fr46
            have h47 : σ44 (2) = some (.inr (1, [.ref (3), .ref (4)]) : lc_Cel) := (fr46 _ (by omega)).trans h36
            have h48 : σ44 (3) = some (lc_aI 48 (lc_pt)) := (fr46 _ (by omega)).trans h37
            have h49 : σ44 (b) = some (.inr (0, [.ref (b + 1), .int (lc_i (o)), .int (lc_i (t)), .int (lc_i (s)), .int (lc_i (q)), .int (lc_i (m))]) : lc_Cel) := (fr46 _ (by omega)).trans h38
            have h50 : σ44 (b + 1) = some (lc_aI 36 (f)) := (fr46 _ (by omega)).trans h39
            refine lc_iload dX8_go_78 5 rfl ?_
            refine lc_iload_n dX8_go_80 rfl 3 rfl ?_
            refine lc_iadd dX8_go_81 ?_
            refine lc_bipush dX8_go_82 (by decide) ?_
            refine lc_iadd dX8_go_84 ?_
            refine lc_bipush dX8_go_85 (by decide) ?_
            refine lc_irem dX8_go_87 (by omega) ?_
            refine lc_top (congrArg (fun z => Value.int (lc_i z)) (show ((((lc_pl x d j) + (d)) + (24)) % (24) : Int) = lc_pl x d (j + 1) from rfl)) ?_
            refine lc_istore (lv' := [(0, .ref (w)), (1, .ref (b)), (2, .int (lc_i (x))), (3, .int (lc_i (d))), (4, .int (lc_i (lc_pt x))), (5, .int (lc_i (lc_pl x d (j + 1)))), (6, .int (lc_i ((x) - (x % 24)))), (7, .int (lc_i (lc_el d))), (8, .int (lc_i (((j : Nat) : Int) + 1)))]) dX8_go_88 (by decide) rfl ?_
            refine lc_aload_n dX8_go_90 rfl 0 rfl ?_
            refine lc_get dX8_go_91 lc_fX8_9 h45 rfl ?_
            refine lc_iload dX8_go_94 6 rfl ?_
            refine lc_iload dX8_go_96 5 rfl ?_
            refine lc_iadd dX8_go_98 ?_
            refine lc_callV (As := [.int (lc_i (((x) - (x % 24)) + (lc_pl x d (j + 1))))]) (stk := []) (b := 2) dX8_go_99 lc_mX8_25 lc_yX1_pointAt h47 rfl (lc_cX1_pointAt l n (((x) - (x % 24)) + (lc_pl x d (j + 1))) σ44 h47 h48 (by omega)) rfl ⟨Nat.le_of_ble_eq_true rfl, Nat.le_of_ble_eq_true rfl⟩ ⟨Nat.le_of_ble_eq_true rfl, Nat.le_of_ble_eq_true rfl⟩ rfl (Nat.le_of_ble_eq_true rfl) (fun v51 n52 σ53 q54 => ?_)
            obtain ⟨rfl, rfl, rfl⟩ := q54
            refine lc_top (congrArg (fun z => Value.int (lc_i z)) (show (if 0 ≤ (((x) - (x % 24)) + (lc_pl x d (j + 1))) ∧ (((x) - (x % 24)) + (lc_pl x d (j + 1))) < 48 then lc_pt (((x) - (x % 24)) + (lc_pl x d (j + 1))) else -1 : Int) = lc_wp x d (j + 1) from by rw [if_pos (by omega)]; rfl)) ?_
            refine lc_istore (lv' := [(0, .ref (w)), (1, .ref (b)), (2, .int (lc_i (x))), (3, .int (lc_i (d))), (4, .int (lc_i (lc_pt x))), (5, .int (lc_i (lc_pl x d (j + 1)))), (6, .int (lc_i ((x) - (x % 24)))), (7, .int (lc_i (lc_el d))), (8, .int (lc_i (((j : Nat) : Int) + 1))), (9, .int (lc_i (lc_wp x d (j + 1))))]) dX8_go_102 (by decide) rfl ?_
            refine lc_iload dX8_go_104 9 rfl ?_
            refine lc_iload dX8_go_106 4 rfl ?_
            refine lc_icmp_eq (tgt := 133) dX8_go_108 (by decide) (by omega) (fun h_108_54 => ?_) (fun h_108_54 => ?_)
            · skip
              refine lc_iinc (lv' := [(0, .ref (w)), (1, .ref (b)), (2, .int (lc_i (x))), (3, .int (lc_i (d))), (4, .int (lc_i (lc_pt x))), (5, .int (lc_i (lc_pl x d (j + 1)))), (6, .int (lc_i ((x) - (x % 24)))), (7, .int (lc_i (lc_el d))), (8, .int (lc_i (((j : Nat) : Int) + 1 + 1))), (9, .int (lc_i (lc_wp x d (j + 1))))]) dX8_go_133 8 rfl (by decide) rfl ?_
              refine lc_goto (tgt := 51) dX8_go_136 (by decide) ?_
              refine lc_pick (lv' := [(0, .ref (w)), (1, .ref (b)), (2, .int (lc_i (x))), (3, .int (lc_i (d))), (4, .int (lc_i (lc_pt x))), (5, .int (lc_i (lc_pl x d (j + 1)))), (6, .int (lc_i ((x) - (x % 24)))), (7, .int (lc_i (lc_el d))), (8, .int (lc_i (((j : Nat) : Int) + 1 + 1)))]) [0, 1, 2, 3, 4, 5, 6, 7, 8] rfl ?_
              refine lc_lveq (lv' := [(0, .ref (w)), (1, .ref (b)), (2, .int (lc_i (x))), (3, .int (lc_i (d))), (4, .int (lc_i (lc_pt x))), (5, .int (lc_i (lc_pl x d (j + 1)))), (6, .int (lc_i ((x) - (x % 24)))), (7, .int (lc_i (lc_el d))), (8, .int (lc_i (((j + 1 : Nat) : Int) + 1)))]) (by rw [show ((j + 1 : Nat) : Int) + 1 = ((j : Nat) : Int) + 1 + 1 from by omega]) ?_
              exact ih31 (j + 1) σ44 h45 (fun i _ => ((fr46 i (by omega)).trans (fr34 i (by omega)))) (by omega) (lc_Kf_b hK (by omega) (lc_oc_n1 h_108_54)) (by omega)
            · skip
              refine lc_aload_n dX8_go_111 rfl 1 rfl ?_
              refine lc_iload dX8_go_112 9 rfl ?_
              refine lc_callV (As := [.int (lc_i (lc_wp x d (j + 1)))]) (stk := []) (b := b) dX8_go_114 lc_mX8_31 lc_yX0_at h49 rfl (lc_cX0_at l n (b) (f) (o) (t) (s) (q) (m) (lc_wp x d (j + 1)) σ44 h49 h50 (by omega)) rfl ⟨Nat.le_of_ble_eq_true rfl, Nat.le_of_ble_eq_true rfl⟩ ⟨Nat.le_of_ble_eq_true rfl, Nat.le_of_ble_eq_true rfl⟩ rfl (Nat.le_of_ble_eq_true rfl) (fun v56 n57 σ58 q59 => ?_)
              obtain ⟨rfl, rfl, rfl⟩ := q59
              refine lc_top (congrArg (fun z => Value.int (lc_i z)) (show (if 0 ≤ (lc_wp x d (j + 1)) ∧ (lc_wp x d (j + 1)) < 36 then (f) (lc_wp x d (j + 1)) else 0 : Int) = f (lc_wp x d (j + 1)) from by rw [if_pos (by omega)])) ?_
              refine lc_if_eq (tgt := 133) dX8_go_117 (by decide) (by omega) (fun h_117_59 => ?_) (fun h_117_59 => ?_)
              · skip
                refine lc_iinc (lv' := [(0, .ref (w)), (1, .ref (b)), (2, .int (lc_i (x))), (3, .int (lc_i (d))), (4, .int (lc_i (lc_pt x))), (5, .int (lc_i (lc_pl x d (j + 1)))), (6, .int (lc_i ((x) - (x % 24)))), (7, .int (lc_i (lc_el d))), (8, .int (lc_i (((j : Nat) : Int) + 1 + 1))), (9, .int (lc_i (lc_wp x d (j + 1))))]) dX8_go_133 8 rfl (by decide) rfl ?_
                refine lc_goto (tgt := 51) dX8_go_136 (by decide) ?_
                refine lc_pick (lv' := [(0, .ref (w)), (1, .ref (b)), (2, .int (lc_i (x))), (3, .int (lc_i (d))), (4, .int (lc_i (lc_pt x))), (5, .int (lc_i (lc_pl x d (j + 1)))), (6, .int (lc_i ((x) - (x % 24)))), (7, .int (lc_i (lc_el d))), (8, .int (lc_i (((j : Nat) : Int) + 1 + 1)))]) [0, 1, 2, 3, 4, 5, 6, 7, 8] rfl ?_
                refine lc_lveq (lv' := [(0, .ref (w)), (1, .ref (b)), (2, .int (lc_i (x))), (3, .int (lc_i (d))), (4, .int (lc_i (lc_pt x))), (5, .int (lc_i (lc_pl x d (j + 1)))), (6, .int (lc_i ((x) - (x % 24)))), (7, .int (lc_i (lc_el d))), (8, .int (lc_i (((j + 1 : Nat) : Int) + 1)))]) (by rw [show ((j + 1 : Nat) : Int) + 1 = ((j : Nat) : Int) + 1 + 1 from by omega]) ?_
                exact ih31 (j + 1) σ44 h45 (fun i _ => ((fr46 i (by omega)).trans (fr34 i (by omega)))) (by omega) (lc_Kf_b hK (by omega) (lc_oc_n2 h_117_59)) (by omega)
              · skip
                refine lc_aload_n dX8_go_120 rfl 0 rfl ?_
                refine lc_iload dX8_go_121 9 rfl ?_
                refine lc_wI (vs' := [.ref (2), .int (lc_i (lc_wp x d (j + 1))), .int (lc_i (lc_lo x d (j + 1))), .int (lc_i (0))]) dX8_go_123 lc_fX8_15 h45 (Nat.le_of_ble_eq_true rfl) rfl rfl rfl (fun σ61 h62 fr63 => ?_)
                have h64 : σ61 (2) = some (.inr (1, [.ref (3), .ref (4)]) : lc_Cel) := (fr63 _ (by omega)).trans h47
                have h65 : σ61 (3) = some (lc_aI 48 (lc_pt)) := (fr63 _ (by omega)).trans h48
                have h66 : σ61 (b) = some (.inr (0, [.ref (b + 1), .int (lc_i (o)), .int (lc_i (t)), .int (lc_i (s)), .int (lc_i (q)), .int (lc_i (m))]) : lc_Cel) := (fr63 _ (by omega)).trans h49
                have h67 : σ61 (b + 1) = some (lc_aI 36 (f)) := (fr63 _ (by omega)).trans h50
                refine lc_aload_n dX8_go_126 rfl 0 rfl ?_
                refine lc_iload dX8_go_127 8 rfl ?_
                refine lc_wI (vs' := [.ref (2), .int (lc_i (lc_wp x d (j + 1))), .int (lc_i (lc_lo x d (j + 1))), .int (lc_i (((j : Nat) : Int) + 1))]) dX8_go_129 lc_fX8_22 h62 (Nat.le_of_ble_eq_true rfl) rfl rfl rfl (fun σ68 h69 fr70 => ?_)
                have h71 : σ68 (2) = some (.inr (1, [.ref (3), .ref (4)]) : lc_Cel) := (fr70 _ (by omega)).trans h64
                have h72 : σ68 (3) = some (lc_aI 48 (lc_pt)) := (fr70 _ (by omega)).trans h65
                have h73 : σ68 (b) = some (.inr (0, [.ref (b + 1), .int (lc_i (o)), .int (lc_i (t)), .int (lc_i (s)), .int (lc_i (q)), .int (lc_i (m))]) : lc_Cel) := (fr70 _ (by omega)).trans h66
                have h74 : σ68 (b + 1) = some (lc_aI 36 (f)) := (fr70 _ (by omega)).trans h67
                exact lc_vret dX8_go_132 rfl (Nat.le_of_ble_eq_true rfl) (Nat.le_of_ble_eq_true rfl) (hQ _ _ _ ⟨rfl, rfl, (by rw [h69, show (lc_M f x d : Int) = lc_wp x d (j + 1) from (lc_M_1 (lc_Kf_e hK (by omega) (lc_oc_y h_108_54 h_117_59)) (by omega)), show (lc_Lo f x d : Int) = lc_lo x d (j + 1) from (lc_Lo_1 (lc_Kf_e hK (by omega) (lc_oc_y h_108_54 h_117_59)) (by omega)), show (lc_Sp f x d : Int) = ((j : Nat) : Int) + 1 from (lc_Sp_1 (lc_Kf_e hK (by omega) (lc_oc_y h_108_54 h_117_59)) (by omega))]), (fun i _ => ((fr70 i (by omega)).trans ((fr63 i (by omega)).trans ((fr46 i (by omega)).trans ((fr34 i (by omega)).trans ((fr17 i (by omega)).trans ((fr10 i (by omega)).trans (fr3 i (by omega)))))))))⟩)
          refine lc_icmp_ne (tgt := 78) dX8_go_65 (by decide) (by omega) (fun h_65_74 => ?_) (fun h_65_74 => ?_)
          · skip
            exact loop42  σ32 (by rw [h33, lc_lo_s0 h_65_74]) (fun i _ => rfl) 
          · skip
            refine lc_aload_n dX8_go_68 rfl 0 rfl ?_
            refine lc_dup dX8_go_69 rfl ?_
            refine lc_get dX8_go_70 lc_fX8_19 h33 rfl ?_
            refine lc_iconst dX8_go_73 ?_
            refine lc_iadd dX8_go_74 ?_
            refine lc_wI (vs' := [.ref (2), .int (lc_i (-1)), .int (lc_i ((lc_lo x d j) + (1))), .int (lc_i (0))]) dX8_go_75 lc_fX8_19 h33 (Nat.le_of_ble_eq_true rfl) rfl rfl rfl (fun σ76 h77 fr78 => ?_)
            have h79 : σ76 (2) = some (.inr (1, [.ref (3), .ref (4)]) : lc_Cel) := (fr78 _ (by omega)).trans h36
            have h80 : σ76 (3) = some (lc_aI 48 (lc_pt)) := (fr78 _ (by omega)).trans h37
            have h81 : σ76 (b) = some (.inr (0, [.ref (b + 1), .int (lc_i (o)), .int (lc_i (t)), .int (lc_i (s)), .int (lc_i (q)), .int (lc_i (m))]) : lc_Cel) := (fr78 _ (by omega)).trans h38
            have h82 : σ76 (b + 1) = some (lc_aI 36 (f)) := (fr78 _ (by omega)).trans h39
            exact loop42  σ76 (by rw [h77, lc_lo_s1 h_65_74]) (fun i _ => (fr78 i (by omega))) 
    exact loop30 1000 (0) σ15 h16 (fun _ _ => rfl) (by omega) (rfl) (by omega)
  refine lc_if_le (tgt := 45) dX8_go_38 (by decide) (by omega) (fun h_38_82 => ?_) (fun h_38_82 => ?_)
  · skip
    refine lc_iconst dX8_go_45 ?_
    refine lc_top (congrArg (fun z => Value.int (lc_i z)) (show (0 : Int) = lc_el d from by unfold lc_el; rw [if_neg (by omega)])) ?_
    exact loop27   
  · skip
    refine lc_iconst dX8_go_41 ?_
    refine lc_top (congrArg (fun z => Value.int (lc_i z)) (show (5 : Int) = lc_el d from by unfold lc_el; rw [if_pos (by omega)])) ?_
    refine lc_goto (tgt := 46) dX8_go_42 (by decide) ?_
    exact loop27   

set_option maxRecDepth 100000 in
set_option maxHeartbeats 4000000 in
theorem lc_cX8_wentOverLoopTo (l : Launch) (n : Nat) (w : Nat) (a1 a2 a3 p : Int) (σ : lc_S) (h0_0 : σ (w) = some (.inr (8, [.ref (2), .int (lc_i (a1)), .int (lc_i (a2)), .int (lc_i (a3))]) : lc_Cel)) (h1 : -2147483648 ≤ a1 ∧ a1 < 2147483648) (h2 : -2147483648 ≤ a2 ∧ a2 < 2147483648) (hp : -2147483648 ≤ p ∧ p < 2147483648) : lc_Con l yX8_wentOverLoopTo cX8_wentOverLoopTo 2 (some .boolean) (lc_Rd 0) [.ref (w), .int (lc_i (p))] n σ (fun v n2 σ2 => v = some (.int (lc_i (if (0 < a2 ∧ a1 = p) then 1 else 0))) ∧ n = n2 ∧ σ = σ2) := by
  refine lc_con RX8 false (by decide) rfl (fun h => absurd h (by decide)) (Nat.le_of_ble_eq_true rfl) ?_
  suffices H : ∀ Q : lc_QT, (∀ v n2 σ2, (fun v n2 σ2 => v = some (.int (lc_i (if (0 < a2 ∧ a1 = p) then 1 else 0))) ∧ n = n2 ∧ σ = σ2 : lc_QT) v n2 σ2 → Q v n2 σ2) → lc_V l RX8 cX8_wentOverLoopTo 2 (some .boolean) false (lc_Rd 0) (lc_G Q 0 0) lc_E0 0 0 n 0 [(0, .ref (w)), (1, .int (lc_i (p)))] [] σ from H _ (fun _ _ _ h => h)
  intro Q hQ
  refine lc_aload_n dX8_wentOverLoopTo_0 rfl 0 rfl ?_
  refine lc_get dX8_wentOverLoopTo_1 lc_fX8_19 h0_0 rfl ?_
  refine lc_if_le (tgt := 19) dX8_wentOverLoopTo_4 (by decide) (by omega) (fun h_4_0 => ?_) (fun h_4_0 => ?_)
  · skip
    refine lc_iconst dX8_wentOverLoopTo_19 ?_
    exact lc_zret dX8_wentOverLoopTo_20 rfl (rfl) (Nat.le_of_ble_eq_true rfl) (Nat.le_of_ble_eq_true rfl) (hQ _ _ _ ⟨lc_some (by rw [if_neg (fun q => absurd q.1 (by omega))]), rfl, rfl⟩)
  · skip
    refine lc_aload_n dX8_wentOverLoopTo_7 rfl 0 rfl ?_
    refine lc_get dX8_wentOverLoopTo_8 lc_fX8_15 h0_0 rfl ?_
    refine lc_iload_n dX8_wentOverLoopTo_11 rfl 1 rfl ?_
    refine lc_icmp_ne (tgt := 19) dX8_wentOverLoopTo_12 (by decide) (by omega) (fun h_12_1 => ?_) (fun h_12_1 => ?_)
    · skip
      refine lc_iconst dX8_wentOverLoopTo_19 ?_
      exact lc_zret dX8_wentOverLoopTo_20 rfl (rfl) (Nat.le_of_ble_eq_true rfl) (Nat.le_of_ble_eq_true rfl) (hQ _ _ _ ⟨lc_some (by rw [if_neg (fun q => absurd q.2 (by omega))]), rfl, rfl⟩)
    · skip
      refine lc_iconst dX8_wentOverLoopTo_15 ?_
      refine lc_goto (tgt := 20) dX8_wentOverLoopTo_16 (by decide) ?_
      exact lc_zret dX8_wentOverLoopTo_20 rfl (rfl) (Nat.le_of_ble_eq_true rfl) (Nat.le_of_ble_eq_true rfl) (hQ _ _ _ ⟨lc_some (by rw [if_pos ⟨by omega, by omega⟩]), rfl, rfl⟩)

theorem lc_try_t {f : Int → Int} {to x d : Int} {w : Int × Int × Int × Int} (h1 : 0 < lc_Lo f x d ∧ lc_M f x d = to) (h2 : w.1 = 0 ∨ (lc_Lo f x d < w.1 ∨ (lc_Lo f x d = w.1 ∧ (lc_K f x d : Int) < w.2.1))) : lc_try f to w x d = (lc_Lo f x d, (lc_K f x d : Int), x, d) := by
  unfold lc_try
  rw [if_pos ⟨h1, h2⟩]
theorem lc_try_n1 {f : Int → Int} {to x d : Int} {w : Int × Int × Int × Int} (h1 : ¬ (0 < lc_Lo f x d ∧ lc_M f x d = to)) : lc_try f to w x d = w := by
  unfold lc_try
  rw [if_neg (fun q => h1 q.1)]
theorem lc_try_n2 {f : Int → Int} {to x d : Int} {w : Int × Int × Int × Int} (h1 : ¬ (w.1 = 0 ∨ (lc_Lo f x d < w.1 ∨ (lc_Lo f x d = w.1 ∧ (lc_K f x d : Int) < w.2.1)))) : lc_try f to w x d = w := by
  unfold lc_try
  rw [if_neg (fun q => h1 q.2)]

set_option maxRecDepth 100000 in
set_option maxHeartbeats 4000000 in
theorem lc_cX9_walkIsShorter (l : Launch) (n : Nat) (u1 u2 u3 u4 a1 a2 a3 : Int) (σ : lc_S) (h0_0 : σ (5) = some (.inr (9, [.ref (2), .ref (6), .int (lc_i (u1)), .int (lc_i (u2)), .int (lc_i (u3)), .int (lc_i (u4))]) : lc_Cel)) (h0_1 : σ (6) = some (.inr (8, [.ref (2), .int (lc_i (a1)), .int (lc_i (a2)), .int (lc_i (a3))]) : lc_Cel)) (h1 : -2147483648 ≤ u1 ∧ u1 < 2147483648) (h2 : -2147483648 ≤ u2 ∧ u2 < 2147483648) (h3 : -2147483648 ≤ a2 ∧ a2 < 2147483648) (h4 : -2147483648 ≤ a3 ∧ a3 < 2147483648) : lc_Con l yX9_walkIsShorter cX9_walkIsShorter 1 (some .boolean) (lc_Rd 0) [.ref (5)] n σ (fun v n2 σ2 => v = some (.int (lc_i (if (a2 < u1 ∨ (a2 = u1 ∧ a3 < u2)) then 1 else 0))) ∧ n = n2 ∧ σ = σ2) := by
  refine lc_con RX9 false (by decide) rfl (fun h => absurd h (by decide)) (Nat.le_of_ble_eq_true rfl) ?_
  suffices H : ∀ Q : lc_QT, (∀ v n2 σ2, (fun v n2 σ2 => v = some (.int (lc_i (if (a2 < u1 ∨ (a2 = u1 ∧ a3 < u2)) then 1 else 0))) ∧ n = n2 ∧ σ = σ2 : lc_QT) v n2 σ2 → Q v n2 σ2) → lc_V l RX9 cX9_walkIsShorter 1 (some .boolean) false (lc_Rd 0) (lc_G Q 0 0) lc_E0 0 0 n 0 [(0, .ref (5))] [] σ from H _ (fun _ _ _ h => h)
  intro Q hQ
  refine lc_aload_n dX9_walkIsShorter_0 rfl 0 rfl ?_
  refine lc_get dX9_walkIsShorter_1 lc_fX9_20 h0_0 rfl ?_
  refine lc_get dX9_walkIsShorter_4 lc_fX9_50 h0_1 rfl ?_
  refine lc_aload_n dX9_walkIsShorter_7 rfl 0 rfl ?_
  refine lc_get dX9_walkIsShorter_8 lc_fX9_24 h0_0 rfl ?_
  refine lc_icmp_lt (tgt := 42) dX9_walkIsShorter_11 (by decide) (by omega) (fun h_11_0 => ?_) (fun h_11_0 => ?_)
  · skip
    refine lc_iconst dX9_walkIsShorter_42 ?_
    refine lc_goto (tgt := 47) dX9_walkIsShorter_43 (by decide) ?_
    exact lc_zret dX9_walkIsShorter_47 rfl (rfl) (Nat.le_of_ble_eq_true rfl) (Nat.le_of_ble_eq_true rfl) (hQ _ _ _ ⟨lc_some (by rw [if_pos (by omega)]), rfl, rfl⟩)
  · skip
    refine lc_aload_n dX9_walkIsShorter_14 rfl 0 rfl ?_
    refine lc_get dX9_walkIsShorter_15 lc_fX9_20 h0_0 rfl ?_
    refine lc_get dX9_walkIsShorter_18 lc_fX9_50 h0_1 rfl ?_
    refine lc_aload_n dX9_walkIsShorter_21 rfl 0 rfl ?_
    refine lc_get dX9_walkIsShorter_22 lc_fX9_24 h0_0 rfl ?_
    refine lc_icmp_ne (tgt := 46) dX9_walkIsShorter_25 (by decide) (by omega) (fun h_25_1 => ?_) (fun h_25_1 => ?_)
    · skip
      refine lc_iconst dX9_walkIsShorter_46 ?_
      exact lc_zret dX9_walkIsShorter_47 rfl (rfl) (Nat.le_of_ble_eq_true rfl) (Nat.le_of_ble_eq_true rfl) (hQ _ _ _ ⟨lc_some (by rw [if_neg (by omega)]), rfl, rfl⟩)
    · skip
      refine lc_aload_n dX9_walkIsShorter_28 rfl 0 rfl ?_
      refine lc_get dX9_walkIsShorter_29 lc_fX9_20 h0_0 rfl ?_
      refine lc_get dX9_walkIsShorter_32 lc_fX9_51 h0_1 rfl ?_
      refine lc_aload_n dX9_walkIsShorter_35 rfl 0 rfl ?_
      refine lc_get dX9_walkIsShorter_36 lc_fX9_54 h0_0 rfl ?_
      refine lc_icmp_ge (tgt := 46) dX9_walkIsShorter_39 (by decide) (by omega) (fun h_39_2 => ?_) (fun h_39_2 => ?_)
      · skip
        refine lc_iconst dX9_walkIsShorter_46 ?_
        exact lc_zret dX9_walkIsShorter_47 rfl (rfl) (Nat.le_of_ble_eq_true rfl) (Nat.le_of_ble_eq_true rfl) (hQ _ _ _ ⟨lc_some (by rw [if_neg (by omega)]), rfl, rfl⟩)
      · skip
        refine lc_iconst dX9_walkIsShorter_42 ?_
        refine lc_goto (tgt := 47) dX9_walkIsShorter_43 (by decide) ?_
        exact lc_zret dX9_walkIsShorter_47 rfl (rfl) (Nat.le_of_ble_eq_true rfl) (Nat.le_of_ble_eq_true rfl) (hQ _ _ _ ⟨lc_some (by rw [if_pos (by omega)]), rfl, rfl⟩)

set_option maxRecDepth 100000 in
set_option maxHeartbeats 4000000 in
/-- Way.tryFrom -/
theorem lc_cX9_tryFrom (l : Launch) (n : Nat) (a1 a2 a3 : Int) (w : Int × Int × Int × Int) (b : Nat) (f : Int → Int) (o t s q m : Int) (x d to : Int) (σ : lc_S) (h0_0 : σ (5) = some (.inr (9, [.ref (2), .ref (6), .int (lc_i ((w).1)), .int (lc_i ((w).2.1)), .int (lc_i ((w).2.2.1)), .int (lc_i ((w).2.2.2))]) : lc_Cel)) (h0_1 : σ (6) = some (.inr (8, [.ref (2), .int (lc_i (a1)), .int (lc_i (a2)), .int (lc_i (a3))]) : lc_Cel)) (h0_2 : σ (2) = some (.inr (1, [.ref (3), .ref (4)]) : lc_Cel)) (h0_3 : σ (3) = some (lc_aI 48 (lc_pt))) (h0_4 : σ (b) = some (.inr (0, [.ref (b + 1), .int (lc_i (o)), .int (lc_i (t)), .int (lc_i (s)), .int (lc_i (q)), .int (lc_i (m))]) : lc_Cel)) (h0_5 : σ (b + 1) = some (lc_aI 36 (f))) (hf : ∀ j : Int, 0 ≤ j → j < 36 → 0 ≤ f j ∧ f j ≤ 2) (hx : 0 ≤ x ∧ x < 48) (hd : d = 1 ∨ d = -1) (hb : 12 ≤ b) (hto : 0 ≤ to ∧ to < 2147483648) (hw : lc_wok w) : lc_Con l yX9_tryFrom cX9_tryFrom 5 none (lc_Rd 2) [.ref (5), .ref (b), .int (lc_i (x)), .int (lc_i (d)), .int (lc_i (to))] n σ (fun v n2 σ2 => v = none ∧ n = n2 ∧ σ2 (5) = some (.inr (9, [.ref (2), .ref (6), .int (lc_i ((lc_try f to w x d).1)), .int (lc_i ((lc_try f to w x d).2.1)), .int (lc_i ((lc_try f to w x d).2.2.1)), .int (lc_i ((lc_try f to w x d).2.2.2))]) : lc_Cel) ∧ σ2 (6) = some (.inr (8, [.ref (2), .int (lc_i (lc_M f x d)), .int (lc_i (lc_Lo f x d)), .int (lc_i (lc_Sp f x d))]) : lc_Cel) ∧ ∀ i : Nat, i ≠ 5 → i ≠ 6 → σ2 i = σ i) := by
  have hM := lc_M_r f d hx
  have hLo := lc_Lo_r f x d
  have hK := lc_K_r f x d
  have hw1 := hw.1
  refine lc_con RX9 false (by decide) rfl (fun h => absurd h (by decide)) (Nat.le_of_ble_eq_true rfl) ?_
  suffices H : ∀ Q : lc_QT, (∀ v n2 σ2, (fun v n2 σ2 => v = none ∧ n = n2 ∧ σ2 (5) = some (.inr (9, [.ref (2), .ref (6), .int (lc_i ((lc_try f to w x d).1)), .int (lc_i ((lc_try f to w x d).2.1)), .int (lc_i ((lc_try f to w x d).2.2.1)), .int (lc_i ((lc_try f to w x d).2.2.2))]) : lc_Cel) ∧ σ2 (6) = some (.inr (8, [.ref (2), .int (lc_i (lc_M f x d)), .int (lc_i (lc_Lo f x d)), .int (lc_i (lc_Sp f x d))]) : lc_Cel) ∧ ∀ i : Nat, i ≠ 5 → i ≠ 6 → σ2 i = σ i : lc_QT) v n2 σ2 → Q v n2 σ2) → lc_V l RX9 cX9_tryFrom 5 none false (lc_Rd 2) (lc_G Q 0 0) lc_E0 0 0 n 0 [(0, .ref (5)), (1, .ref (b)), (2, .int (lc_i (x))), (3, .int (lc_i (d))), (4, .int (lc_i (to)))] [] σ from H _ (fun _ _ _ h => h)
  intro Q hQ
  refine lc_aload_n dX9_tryFrom_0 rfl 0 rfl ?_
  refine lc_get dX9_tryFrom_1 lc_fX9_20 h0_0 rfl ?_
  refine lc_aload_n dX9_tryFrom_4 rfl 1 rfl ?_
  refine lc_iload_n dX9_tryFrom_5 rfl 2 rfl ?_
  refine lc_iload_n dX9_tryFrom_6 rfl 3 rfl ?_
  refine lc_callV (As := [.ref (b), .int (lc_i (x)), .int (lc_i (d))]) (stk := []) (b := 6) dX9_tryFrom_7 lc_mX9_38 lc_yX8_go h0_1 rfl (lc_cX8_go l n (6) (a1) (a2) (a3) (b) (f) (o) (t) (s) (q) (m) (x) (d) σ h0_1 h0_2 h0_3 h0_4 h0_5 (hf) (hx) (hd) (Or.inl rfl) (hb)) rfl ⟨Nat.le_of_ble_eq_true rfl, Nat.le_of_ble_eq_true rfl⟩ ⟨Nat.le_of_ble_eq_true rfl, Nat.le_of_ble_eq_true rfl⟩ rfl (Nat.le_of_ble_eq_true rfl) (fun v3 n4 σ5 q6 => ?_)
  obtain ⟨rfl, rfl, h2, fr1⟩ := q6
  have h7 : σ5 (5) = some (.inr (9, [.ref (2), .ref (6), .int (lc_i ((w).1)), .int (lc_i ((w).2.1)), .int (lc_i ((w).2.2.1)), .int (lc_i ((w).2.2.2))]) : lc_Cel) := (fr1 _ (by omega)).trans h0_0
  have h8 : σ5 (2) = some (.inr (1, [.ref (3), .ref (4)]) : lc_Cel) := (fr1 _ (by omega)).trans h0_2
  have h9 : σ5 (3) = some (lc_aI 48 (lc_pt)) := (fr1 _ (by omega)).trans h0_3
  have h10 : σ5 (b) = some (.inr (0, [.ref (b + 1), .int (lc_i (o)), .int (lc_i (t)), .int (lc_i (s)), .int (lc_i (q)), .int (lc_i (m))]) : lc_Cel) := (fr1 _ (by omega)).trans h0_4
  have h11 : σ5 (b + 1) = some (lc_aI 36 (f)) := (fr1 _ (by omega)).trans h0_5
  refine lc_aload_n dX9_tryFrom_10 rfl 0 rfl ?_
  refine lc_get dX9_tryFrom_11 lc_fX9_20 h7 rfl ?_
  refine lc_iload dX9_tryFrom_14 4 rfl ?_
  refine lc_callV (As := [.int (lc_i (to))]) (stk := []) (b := 6) dX9_tryFrom_16 lc_mX9_42 lc_yX8_wentOverLoopTo h2 rfl (lc_cX8_wentOverLoopTo l n (6) (lc_M (f) (x) (d)) (lc_Lo (f) (x) (d)) (lc_Sp (f) (x) (d)) (to) σ5 h2 (by omega) (by omega) (by omega)) rfl ⟨Nat.le_of_ble_eq_true rfl, Nat.le_of_ble_eq_true rfl⟩ ⟨Nat.le_of_ble_eq_true rfl, Nat.le_of_ble_eq_true rfl⟩ rfl (Nat.le_of_ble_eq_true rfl) (fun v12 n13 σ14 q15 => ?_)
  obtain ⟨rfl, rfl, rfl⟩ := q15
  refine lc_if_eqB (tgt := 68) dX9_tryFrom_19 (by decide) (fun h_19_15 => ?_) (fun h_19_15 => ?_)
  · skip
    exact lc_vret dX9_tryFrom_68 rfl (Nat.le_of_ble_eq_true rfl) (Nat.le_of_ble_eq_true rfl) (hQ _ _ _ ⟨rfl, rfl, (by rw [h7, show ((lc_try f to w x d).1 : Int) = (w).1 from (by rw [lc_try_n1 h_19_15]), show ((lc_try f to w x d).2.1 : Int) = (w).2.1 from (by rw [lc_try_n1 h_19_15]), show ((lc_try f to w x d).2.2.1 : Int) = (w).2.2.1 from (by rw [lc_try_n1 h_19_15]), show ((lc_try f to w x d).2.2.2 : Int) = (w).2.2.2 from (by rw [lc_try_n1 h_19_15])]), (by rw [h2, show (lc_M f x d : Int) = lc_M (f) (x) (d) from (by (repeat' split) <;> omega), show (lc_Lo f x d : Int) = lc_Lo (f) (x) (d) from (by (repeat' split) <;> omega)]), (fun i _ _ => (fr1 i (by omega)))⟩)
  · skip
    have h17 : σ5 (6) = some (.inr (8, [.ref (2), .int (lc_i (lc_M f x d)), .int (lc_i (lc_Lo f x d)), .int (lc_i ((lc_K f x d : Int)))]) : lc_Cel) := (by have h9 := h2; rw [lc_Sp_K hto.1 (h_19_15).2] at h9; exact h9)
    refine lc_aload_n dX9_tryFrom_22 rfl 0 rfl ?_
    refine lc_get dX9_tryFrom_23 lc_fX9_24 h7 rfl ?_
    refine lc_if_eq (tgt := 36) dX9_tryFrom_26 (by decide) (by omega) (fun h_26_17 => ?_) (fun h_26_17 => ?_)
    · skip
      refine lc_aload_n dX9_tryFrom_36 rfl 0 rfl ?_
      refine lc_aload_n dX9_tryFrom_37 rfl 0 rfl ?_
      refine lc_get dX9_tryFrom_38 lc_fX9_20 h7 rfl ?_
      refine lc_get dX9_tryFrom_41 lc_fX9_50 h17 rfl ?_
      refine lc_wI (vs' := [.ref (2), .ref (6), .int (lc_i (lc_Lo f x d)), .int (lc_i ((w).2.1)), .int (lc_i ((w).2.2.1)), .int (lc_i ((w).2.2.2))]) dX9_tryFrom_44 lc_fX9_24 h7 (Nat.le_of_ble_eq_true rfl) rfl rfl rfl (fun σ19 h20 fr21 => ?_)
      have h22 : σ19 (2) = some (.inr (1, [.ref (3), .ref (4)]) : lc_Cel) := (fr21 _ (by omega)).trans h8
      have h23 : σ19 (3) = some (lc_aI 48 (lc_pt)) := (fr21 _ (by omega)).trans h9
      have h24 : σ19 (b) = some (.inr (0, [.ref (b + 1), .int (lc_i (o)), .int (lc_i (t)), .int (lc_i (s)), .int (lc_i (q)), .int (lc_i (m))]) : lc_Cel) := (fr21 _ (by omega)).trans h10
      have h25 : σ19 (b + 1) = some (lc_aI 36 (f)) := (fr21 _ (by omega)).trans h11
      have h26 : σ19 (6) = some (.inr (8, [.ref (2), .int (lc_i (lc_M f x d)), .int (lc_i (lc_Lo f x d)), .int (lc_i ((lc_K f x d : Int)))]) : lc_Cel) := (fr21 _ (by omega)).trans h17
      refine lc_aload_n dX9_tryFrom_47 rfl 0 rfl ?_
      refine lc_aload_n dX9_tryFrom_48 rfl 0 rfl ?_
      refine lc_get dX9_tryFrom_49 lc_fX9_20 h20 rfl ?_
      refine lc_get dX9_tryFrom_52 lc_fX9_51 h26 rfl ?_
      refine lc_wI (vs' := [.ref (2), .ref (6), .int (lc_i (lc_Lo f x d)), .int (lc_i ((lc_K f x d : Int))), .int (lc_i ((w).2.2.1)), .int (lc_i ((w).2.2.2))]) dX9_tryFrom_55 lc_fX9_54 h20 (Nat.le_of_ble_eq_true rfl) rfl rfl rfl (fun σ27 h28 fr29 => ?_)
      have h30 : σ27 (2) = some (.inr (1, [.ref (3), .ref (4)]) : lc_Cel) := (fr29 _ (by omega)).trans h22
      have h31 : σ27 (3) = some (lc_aI 48 (lc_pt)) := (fr29 _ (by omega)).trans h23
      have h32 : σ27 (b) = some (.inr (0, [.ref (b + 1), .int (lc_i (o)), .int (lc_i (t)), .int (lc_i (s)), .int (lc_i (q)), .int (lc_i (m))]) : lc_Cel) := (fr29 _ (by omega)).trans h24
      have h33 : σ27 (b + 1) = some (lc_aI 36 (f)) := (fr29 _ (by omega)).trans h25
      have h34 : σ27 (6) = some (.inr (8, [.ref (2), .int (lc_i (lc_M f x d)), .int (lc_i (lc_Lo f x d)), .int (lc_i ((lc_K f x d : Int)))]) : lc_Cel) := (fr29 _ (by omega)).trans h26
      refine lc_aload_n dX9_tryFrom_58 rfl 0 rfl ?_
      refine lc_iload_n dX9_tryFrom_59 rfl 2 rfl ?_
      refine lc_wI (vs' := [.ref (2), .ref (6), .int (lc_i (lc_Lo f x d)), .int (lc_i ((lc_K f x d : Int))), .int (lc_i (x)), .int (lc_i ((w).2.2.2))]) dX9_tryFrom_60 lc_fX9_55 h28 (Nat.le_of_ble_eq_true rfl) rfl rfl rfl (fun σ35 h36 fr37 => ?_)
      have h38 : σ35 (2) = some (.inr (1, [.ref (3), .ref (4)]) : lc_Cel) := (fr37 _ (by omega)).trans h30
      have h39 : σ35 (3) = some (lc_aI 48 (lc_pt)) := (fr37 _ (by omega)).trans h31
      have h40 : σ35 (b) = some (.inr (0, [.ref (b + 1), .int (lc_i (o)), .int (lc_i (t)), .int (lc_i (s)), .int (lc_i (q)), .int (lc_i (m))]) : lc_Cel) := (fr37 _ (by omega)).trans h32
      have h41 : σ35 (b + 1) = some (lc_aI 36 (f)) := (fr37 _ (by omega)).trans h33
      have h42 : σ35 (6) = some (.inr (8, [.ref (2), .int (lc_i (lc_M f x d)), .int (lc_i (lc_Lo f x d)), .int (lc_i ((lc_K f x d : Int)))]) : lc_Cel) := (fr37 _ (by omega)).trans h34
      refine lc_aload_n dX9_tryFrom_63 rfl 0 rfl ?_
      refine lc_iload_n dX9_tryFrom_64 rfl 3 rfl ?_
      refine lc_wI (vs' := [.ref (2), .ref (6), .int (lc_i (lc_Lo f x d)), .int (lc_i ((lc_K f x d : Int))), .int (lc_i (x)), .int (lc_i (d))]) dX9_tryFrom_65 lc_fX9_58 h36 (Nat.le_of_ble_eq_true rfl) rfl rfl rfl (fun σ43 h44 fr45 => ?_)
      have h46 : σ43 (2) = some (.inr (1, [.ref (3), .ref (4)]) : lc_Cel) := (fr45 _ (by omega)).trans h38
      have h47 : σ43 (3) = some (lc_aI 48 (lc_pt)) := (fr45 _ (by omega)).trans h39
      have h48 : σ43 (b) = some (.inr (0, [.ref (b + 1), .int (lc_i (o)), .int (lc_i (t)), .int (lc_i (s)), .int (lc_i (q)), .int (lc_i (m))]) : lc_Cel) := (fr45 _ (by omega)).trans h40
      have h49 : σ43 (b + 1) = some (lc_aI 36 (f)) := (fr45 _ (by omega)).trans h41
      have h50 : σ43 (6) = some (.inr (8, [.ref (2), .int (lc_i (lc_M f x d)), .int (lc_i (lc_Lo f x d)), .int (lc_i ((lc_K f x d : Int)))]) : lc_Cel) := (fr45 _ (by omega)).trans h42
      exact lc_vret dX9_tryFrom_68 rfl (Nat.le_of_ble_eq_true rfl) (Nat.le_of_ble_eq_true rfl) (hQ _ _ _ ⟨rfl, rfl, (by rw [h44, show ((lc_try f to w x d).1 : Int) = lc_Lo f x d from (by rw [lc_try_t h_19_15 (Or.inl h_26_17)]), show ((lc_try f to w x d).2.1 : Int) = (lc_K f x d : Int) from (by rw [lc_try_t h_19_15 (Or.inl h_26_17)]), show ((lc_try f to w x d).2.2.1 : Int) = x from (by rw [lc_try_t h_19_15 (Or.inl h_26_17)]), show ((lc_try f to w x d).2.2.2 : Int) = d from (by rw [lc_try_t h_19_15 (Or.inl h_26_17)])]), (by rw [h50, show (lc_Sp f x d : Int) = (lc_K f x d : Int) from (lc_Sp_K hto.1 (h_19_15).2)]), (fun i _ _ => ((fr45 i (by omega)).trans ((fr37 i (by omega)).trans ((fr29 i (by omega)).trans ((fr21 i (by omega)).trans (fr1 i (by omega)))))))⟩)
    · skip
      refine lc_aload_n dX9_tryFrom_29 rfl 0 rfl ?_
      have hw2 := (hw.2 (by omega)).1
      refine lc_callV (As := []) (stk := []) (b := 5) dX9_tryFrom_30 lc_mX9_46 lc_yX9_walkIsShorter h7 rfl (lc_cX9_walkIsShorter l n ((w).1) ((w).2.1) ((w).2.2.1) ((w).2.2.2) (lc_M f x d) (lc_Lo f x d) ((lc_K f x d : Int)) σ5 h7 h17 (by omega) (by omega) (by omega) (by omega)) rfl ⟨Nat.le_of_ble_eq_true rfl, Nat.le_of_ble_eq_true rfl⟩ ⟨Nat.le_of_ble_eq_true rfl, Nat.le_of_ble_eq_true rfl⟩ rfl (Nat.le_of_ble_eq_true rfl) (fun v51 n52 σ53 q54 => ?_)
      obtain ⟨rfl, rfl, rfl⟩ := q54
      refine lc_if_eqB (tgt := 68) dX9_tryFrom_33 (by decide) (fun h_33_54 => ?_) (fun h_33_54 => ?_)
      · skip
        exact lc_vret dX9_tryFrom_68 rfl (Nat.le_of_ble_eq_true rfl) (Nat.le_of_ble_eq_true rfl) (hQ _ _ _ ⟨rfl, rfl, (by rw [h7, show ((lc_try f to w x d).1 : Int) = (w).1 from (by rw [lc_try_n2 (fun q => q.elim h_26_17 h_33_54)]), show ((lc_try f to w x d).2.1 : Int) = (w).2.1 from (by rw [lc_try_n2 (fun q => q.elim h_26_17 h_33_54)]), show ((lc_try f to w x d).2.2.1 : Int) = (w).2.2.1 from (by rw [lc_try_n2 (fun q => q.elim h_26_17 h_33_54)]), show ((lc_try f to w x d).2.2.2 : Int) = (w).2.2.2 from (by rw [lc_try_n2 (fun q => q.elim h_26_17 h_33_54)])]), (by rw [h17, show (lc_Sp f x d : Int) = (lc_K f x d : Int) from (lc_Sp_K hto.1 (h_19_15).2)]), (fun i _ _ => (fr1 i (by omega)))⟩)
      · skip
        refine lc_aload_n dX9_tryFrom_36 rfl 0 rfl ?_
        refine lc_aload_n dX9_tryFrom_37 rfl 0 rfl ?_
        refine lc_get dX9_tryFrom_38 lc_fX9_20 h7 rfl ?_
        refine lc_get dX9_tryFrom_41 lc_fX9_50 h17 rfl ?_
        refine lc_wI (vs' := [.ref (2), .ref (6), .int (lc_i (lc_Lo f x d)), .int (lc_i ((w).2.1)), .int (lc_i ((w).2.2.1)), .int (lc_i ((w).2.2.2))]) dX9_tryFrom_44 lc_fX9_24 h7 (Nat.le_of_ble_eq_true rfl) rfl rfl rfl (fun σ56 h57 fr58 => ?_)
        have h59 : σ56 (2) = some (.inr (1, [.ref (3), .ref (4)]) : lc_Cel) := (fr58 _ (by omega)).trans h8
        have h60 : σ56 (3) = some (lc_aI 48 (lc_pt)) := (fr58 _ (by omega)).trans h9
        have h61 : σ56 (b) = some (.inr (0, [.ref (b + 1), .int (lc_i (o)), .int (lc_i (t)), .int (lc_i (s)), .int (lc_i (q)), .int (lc_i (m))]) : lc_Cel) := (fr58 _ (by omega)).trans h10
        have h62 : σ56 (b + 1) = some (lc_aI 36 (f)) := (fr58 _ (by omega)).trans h11
        have h63 : σ56 (6) = some (.inr (8, [.ref (2), .int (lc_i (lc_M f x d)), .int (lc_i (lc_Lo f x d)), .int (lc_i ((lc_K f x d : Int)))]) : lc_Cel) := (fr58 _ (by omega)).trans h17
        refine lc_aload_n dX9_tryFrom_47 rfl 0 rfl ?_
        refine lc_aload_n dX9_tryFrom_48 rfl 0 rfl ?_
        refine lc_get dX9_tryFrom_49 lc_fX9_20 h57 rfl ?_
        refine lc_get dX9_tryFrom_52 lc_fX9_51 h63 rfl ?_
        refine lc_wI (vs' := [.ref (2), .ref (6), .int (lc_i (lc_Lo f x d)), .int (lc_i ((lc_K f x d : Int))), .int (lc_i ((w).2.2.1)), .int (lc_i ((w).2.2.2))]) dX9_tryFrom_55 lc_fX9_54 h57 (Nat.le_of_ble_eq_true rfl) rfl rfl rfl (fun σ64 h65 fr66 => ?_)
        have h67 : σ64 (2) = some (.inr (1, [.ref (3), .ref (4)]) : lc_Cel) := (fr66 _ (by omega)).trans h59
        have h68 : σ64 (3) = some (lc_aI 48 (lc_pt)) := (fr66 _ (by omega)).trans h60
        have h69 : σ64 (b) = some (.inr (0, [.ref (b + 1), .int (lc_i (o)), .int (lc_i (t)), .int (lc_i (s)), .int (lc_i (q)), .int (lc_i (m))]) : lc_Cel) := (fr66 _ (by omega)).trans h61
        have h70 : σ64 (b + 1) = some (lc_aI 36 (f)) := (fr66 _ (by omega)).trans h62
        have h71 : σ64 (6) = some (.inr (8, [.ref (2), .int (lc_i (lc_M f x d)), .int (lc_i (lc_Lo f x d)), .int (lc_i ((lc_K f x d : Int)))]) : lc_Cel) := (fr66 _ (by omega)).trans h63
        refine lc_aload_n dX9_tryFrom_58 rfl 0 rfl ?_
        refine lc_iload_n dX9_tryFrom_59 rfl 2 rfl ?_
        refine lc_wI (vs' := [.ref (2), .ref (6), .int (lc_i (lc_Lo f x d)), .int (lc_i ((lc_K f x d : Int))), .int (lc_i (x)), .int (lc_i ((w).2.2.2))]) dX9_tryFrom_60 lc_fX9_55 h65 (Nat.le_of_ble_eq_true rfl) rfl rfl rfl (fun σ72 h73 fr74 => ?_)
        have h75 : σ72 (2) = some (.inr (1, [.ref (3), .ref (4)]) : lc_Cel) := (fr74 _ (by omega)).trans h67
        have h76 : σ72 (3) = some (lc_aI 48 (lc_pt)) := (fr74 _ (by omega)).trans h68
        have h77 : σ72 (b) = some (.inr (0, [.ref (b + 1), .int (lc_i (o)), .int (lc_i (t)), .int (lc_i (s)), .int (lc_i (q)), .int (lc_i (m))]) : lc_Cel) := (fr74 _ (by omega)).trans h69
        have h78 : σ72 (b + 1) = some (lc_aI 36 (f)) := (fr74 _ (by omega)).trans h70
        have h79 : σ72 (6) = some (.inr (8, [.ref (2), .int (lc_i (lc_M f x d)), .int (lc_i (lc_Lo f x d)), .int (lc_i ((lc_K f x d : Int)))]) : lc_Cel) := (fr74 _ (by omega)).trans h71
        refine lc_aload_n dX9_tryFrom_63 rfl 0 rfl ?_
        refine lc_iload_n dX9_tryFrom_64 rfl 3 rfl ?_
        refine lc_wI (vs' := [.ref (2), .ref (6), .int (lc_i (lc_Lo f x d)), .int (lc_i ((lc_K f x d : Int))), .int (lc_i (x)), .int (lc_i (d))]) dX9_tryFrom_65 lc_fX9_58 h73 (Nat.le_of_ble_eq_true rfl) rfl rfl rfl (fun σ80 h81 fr82 => ?_)
        have h83 : σ80 (2) = some (.inr (1, [.ref (3), .ref (4)]) : lc_Cel) := (fr82 _ (by omega)).trans h75
        have h84 : σ80 (3) = some (lc_aI 48 (lc_pt)) := (fr82 _ (by omega)).trans h76
        have h85 : σ80 (b) = some (.inr (0, [.ref (b + 1), .int (lc_i (o)), .int (lc_i (t)), .int (lc_i (s)), .int (lc_i (q)), .int (lc_i (m))]) : lc_Cel) := (fr82 _ (by omega)).trans h77
        have h86 : σ80 (b + 1) = some (lc_aI 36 (f)) := (fr82 _ (by omega)).trans h78
        have h87 : σ80 (6) = some (.inr (8, [.ref (2), .int (lc_i (lc_M f x d)), .int (lc_i (lc_Lo f x d)), .int (lc_i ((lc_K f x d : Int)))]) : lc_Cel) := (fr82 _ (by omega)).trans h79
        exact lc_vret dX9_tryFrom_68 rfl (Nat.le_of_ble_eq_true rfl) (Nat.le_of_ble_eq_true rfl) (hQ _ _ _ ⟨rfl, rfl, (by rw [h81, show ((lc_try f to w x d).1 : Int) = lc_Lo f x d from (by rw [lc_try_t h_19_15 (Or.inr h_33_54)]), show ((lc_try f to w x d).2.1 : Int) = (lc_K f x d : Int) from (by rw [lc_try_t h_19_15 (Or.inr h_33_54)]), show ((lc_try f to w x d).2.2.1 : Int) = x from (by rw [lc_try_t h_19_15 (Or.inr h_33_54)]), show ((lc_try f to w x d).2.2.2 : Int) = d from (by rw [lc_try_t h_19_15 (Or.inr h_33_54)])]), (by rw [h87, show (lc_Sp f x d : Int) = (lc_K f x d : Int) from (lc_Sp_K hto.1 (h_19_15).2)]), (fun i _ _ => ((fr82 i (by omega)).trans ((fr74 i (by omega)).trans ((fr66 i (by omega)).trans ((fr58 i (by omega)).trans (fr1 i (by omega)))))))⟩)

set_option maxRecDepth 100000 in
set_option maxHeartbeats 4000000 in
/-- Way.find: the way that matters -/
theorem lc_cX9_find (l : Launch) (n : Nat) (a1 a2 a3 : Int) (w : Int × Int × Int × Int) (b : Nat) (f : Int → Int) (o t s q m : Int) (fr to : Int) (σ : lc_S) (h0_0 : σ (5) = some (.inr (9, [.ref (2), .ref (6), .int (lc_i ((w).1)), .int (lc_i ((w).2.1)), .int (lc_i ((w).2.2.1)), .int (lc_i ((w).2.2.2))]) : lc_Cel)) (h0_1 : σ (6) = some (.inr (8, [.ref (2), .int (lc_i (a1)), .int (lc_i (a2)), .int (lc_i (a3))]) : lc_Cel)) (h0_2 : σ (2) = some (.inr (1, [.ref (3), .ref (4)]) : lc_Cel)) (h0_3 : σ (3) = some (lc_aI 48 (lc_pt))) (h0_4 : σ (4) = some (lc_aI 72 (lc_sp))) (h0_5 : σ (b) = some (.inr (0, [.ref (b + 1), .int (lc_i (o)), .int (lc_i (t)), .int (lc_i (s)), .int (lc_i (q)), .int (lc_i (m))]) : lc_Cel)) (h0_6 : σ (b + 1) = some (lc_aI 36 (f))) (hf : ∀ j : Int, 0 ≤ j → j < 36 → 0 ≤ f j ∧ f j ≤ 2) (hb : 12 ≤ b) (hfr : 0 ≤ fr ∧ fr < 36) (hto : 0 ≤ to ∧ to < 2147483648) : lc_Con l yX9_find cX9_find 6 (some .boolean) (lc_Rd 3) [.ref (5), .ref (b), .int (lc_i (fr)), .int (lc_i (to))] n σ (fun v n2 σ2 => ∃ c1 c2 c3 : Int, v = some (.int (lc_i (if (0 < (lc_find f fr to w).1) then 1 else 0))) ∧ n = n2 ∧ σ2 5 = some (.inr (9, [.ref (2), .ref (6), .int (lc_i ((lc_find f fr to w).1)), .int (lc_i ((lc_find f fr to w).2.1)), .int (lc_i ((lc_find f fr to w).2.2.1)), .int (lc_i ((lc_find f fr to w).2.2.2))]) : lc_Cel) ∧ σ2 6 = some (.inr (8, [.ref (2), .int (lc_i (c1)), .int (lc_i (c2)), .int (lc_i (c3))]) : lc_Cel) ∧ ∀ i : Nat, i ≠ 5 → i ≠ 6 → σ2 i = σ i) := by
  have hs0 := lc_sp_r (x := fr * 2) (by omega)
  have hs1 := lc_sp_r (x := fr * 2 + 1) (by omega)
  refine lc_con RX9 false (by decide) rfl (fun h => absurd h (by decide)) (Nat.le_of_ble_eq_true rfl) ?_
  suffices H : ∀ Q : lc_QT, (∀ v n2 σ2, (fun v n2 σ2 => ∃ c1 c2 c3 : Int, v = some (.int (lc_i (if (0 < (lc_find f fr to w).1) then 1 else 0))) ∧ n = n2 ∧ σ2 5 = some (.inr (9, [.ref (2), .ref (6), .int (lc_i ((lc_find f fr to w).1)), .int (lc_i ((lc_find f fr to w).2.1)), .int (lc_i ((lc_find f fr to w).2.2.1)), .int (lc_i ((lc_find f fr to w).2.2.2))]) : lc_Cel) ∧ σ2 6 = some (.inr (8, [.ref (2), .int (lc_i (c1)), .int (lc_i (c2)), .int (lc_i (c3))]) : lc_Cel) ∧ ∀ i : Nat, i ≠ 5 → i ≠ 6 → σ2 i = σ i : lc_QT) v n2 σ2 → Q v n2 σ2) → lc_V l RX9 cX9_find 6 (some .boolean) false (lc_Rd 3) (lc_G Q 0 0) lc_E0 0 0 n 0 [(0, .ref (5)), (1, .ref (b)), (2, .int (lc_i (fr))), (3, .int (lc_i (to)))] [] σ from H _ (fun _ _ _ h => h)
  intro Q hQ
  refine lc_aload_n dX9_find_0 rfl 0 rfl ?_
  refine lc_iconst dX9_find_1 ?_
  refine lc_wI (vs' := [.ref (2), .ref (6), .int (lc_i (0)), .int (lc_i ((w).2.1)), .int (lc_i ((w).2.2.1)), .int (lc_i ((w).2.2.2))]) dX9_find_2 lc_fX9_24 h0_0 (Nat.le_of_ble_eq_true rfl) rfl rfl rfl (fun σ1 h2 fr3 => ?_)
  have h4 : σ1 (6) = some (.inr (8, [.ref (2), .int (lc_i (a1)), .int (lc_i (a2)), .int (lc_i (a3))]) : lc_Cel) := (fr3 _ (by omega)).trans h0_1
  have h5 : σ1 (2) = some (.inr (1, [.ref (3), .ref (4)]) : lc_Cel) := (fr3 _ (by omega)).trans h0_2
  have h6 : σ1 (3) = some (lc_aI 48 (lc_pt)) := (fr3 _ (by omega)).trans h0_3
  have h7 : σ1 (4) = some (lc_aI 72 (lc_sp)) := (fr3 _ (by omega)).trans h0_4
  have h8 : σ1 (b) = some (.inr (0, [.ref (b + 1), .int (lc_i (o)), .int (lc_i (t)), .int (lc_i (s)), .int (lc_i (q)), .int (lc_i (m))]) : lc_Cel) := (fr3 _ (by omega)).trans h0_5
  have h9 : σ1 (b + 1) = some (lc_aI 36 (f)) := (fr3 _ (by omega)).trans h0_6
  refine lc_iconst dX9_find_5 ?_
  refine lc_istore (lv' := [(0, .ref (5)), (1, .ref (b)), (2, .int (lc_i (fr))), (3, .int (lc_i (to))), (4, .int (lc_i (0)))]) dX9_find_6 (by decide) rfl ?_
  refine lc_iload dX9_find_8 4 rfl ?_
  refine lc_iconst dX9_find_10 ?_
  refine lc_icmp_ge (tgt := 56) dX9_find_11 (by decide) (by omega) (fun h_11_9 => ?_) (fun h_11_9 => ?_)
  · exact absurd h_11_9 (by decide)
  · skip
    refine lc_aload_n dX9_find_14 rfl 0 rfl ?_
    refine lc_get dX9_find_15 lc_fX9_9 h2 rfl ?_
    refine lc_iload_n dX9_find_18 rfl 2 rfl ?_
    refine lc_iload dX9_find_19 4 rfl ?_
    refine lc_callV (As := [.int (lc_i (fr)), .int (lc_i (0))]) (stk := []) (b := 2) dX9_find_21 lc_mX9_30 lc_yX1_spotOf h5 rfl (lc_cX1_spotOf l n (fr) (0) σ1 h5 h7 (by omega) (by omega)) rfl ⟨Nat.le_of_ble_eq_true rfl, Nat.le_of_ble_eq_true rfl⟩ ⟨Nat.le_of_ble_eq_true rfl, Nat.le_of_ble_eq_true rfl⟩ rfl (Nat.le_of_ble_eq_true rfl) (fun v11 n12 σ13 q14 => ?_)
    obtain ⟨rfl, rfl, rfl⟩ := q14
    refine lc_top (congrArg (fun z => Value.int (lc_i z)) (show (lc_sp ((fr) * 2 + (0)) : Int) = lc_sp (fr * 2) from congrArg lc_sp (by omega))) ?_
    refine lc_istore (lv' := [(0, .ref (5)), (1, .ref (b)), (2, .int (lc_i (fr))), (3, .int (lc_i (to))), (4, .int (lc_i (0))), (5, .int (lc_i (lc_sp (fr * 2))))]) dX9_find_24 (by decide) rfl ?_
    refine lc_iload dX9_find_26 5 rfl ?_
    refine lc_iconst dX9_find_28 ?_
    refine lc_icmp_eq (tgt := 50) dX9_find_29 (by decide) (by omega) (fun h_29_14 => ?_) (fun h_29_14 => ?_)
    · skip
      refine lc_iinc (lv' := [(0, .ref (5)), (1, .ref (b)), (2, .int (lc_i (fr))), (3, .int (lc_i (to))), (4, .int (lc_i (0 + 1))), (5, .int (lc_i (lc_sp (fr * 2))))]) dX9_find_50 4 rfl (by decide) rfl ?_
      refine lc_goto (tgt := 8) dX9_find_53 (by decide) ?_
      refine lc_iload dX9_find_8 4 rfl ?_
      refine lc_iconst dX9_find_10 ?_
      refine lc_icmp_ge (tgt := 56) dX9_find_11 (by decide) (by omega) (fun h_11_15 => ?_) (fun h_11_15 => ?_)
      · exact absurd h_11_15 (by decide)
      · skip
        refine lc_aload_n dX9_find_14 rfl 0 rfl ?_
        refine lc_get dX9_find_15 lc_fX9_9 h2 rfl ?_
        refine lc_iload_n dX9_find_18 rfl 2 rfl ?_
        refine lc_iload dX9_find_19 4 rfl ?_
        refine lc_callV (As := [.int (lc_i (fr)), .int (lc_i (0 + 1))]) (stk := []) (b := 2) dX9_find_21 lc_mX9_30 lc_yX1_spotOf h5 rfl (lc_cX1_spotOf l n (fr) (0 + 1) σ1 h5 h7 (by omega) (by omega)) rfl ⟨Nat.le_of_ble_eq_true rfl, Nat.le_of_ble_eq_true rfl⟩ ⟨Nat.le_of_ble_eq_true rfl, Nat.le_of_ble_eq_true rfl⟩ rfl (Nat.le_of_ble_eq_true rfl) (fun v17 n18 σ19 q20 => ?_)
        obtain ⟨rfl, rfl, rfl⟩ := q20
        refine lc_top (congrArg (fun z => Value.int (lc_i z)) (show (lc_sp ((fr) * 2 + (0 + 1)) : Int) = lc_sp (fr * 2 + 1) from congrArg lc_sp (by omega))) ?_
        refine lc_istore (lv' := [(0, .ref (5)), (1, .ref (b)), (2, .int (lc_i (fr))), (3, .int (lc_i (to))), (4, .int (lc_i (0 + 1))), (5, .int (lc_i (lc_sp (fr * 2 + 1))))]) dX9_find_24 (by decide) rfl ?_
        refine lc_iload dX9_find_26 5 rfl ?_
        refine lc_iconst dX9_find_28 ?_
        refine lc_icmp_eq (tgt := 50) dX9_find_29 (by decide) (by omega) (fun h_29_20 => ?_) (fun h_29_20 => ?_)
        · skip
          refine lc_iinc (lv' := [(0, .ref (5)), (1, .ref (b)), (2, .int (lc_i (fr))), (3, .int (lc_i (to))), (4, .int (lc_i (0 + 1 + 1))), (5, .int (lc_i (lc_sp (fr * 2 + 1))))]) dX9_find_50 4 rfl (by decide) rfl ?_
          refine lc_goto (tgt := 8) dX9_find_53 (by decide) ?_
          refine lc_iload dX9_find_8 4 rfl ?_
          refine lc_iconst dX9_find_10 ?_
          refine lc_icmp_ge (tgt := 56) dX9_find_11 (by decide) (by omega) (fun h_11_21 => ?_) (fun h_11_21 => ?_)
          · skip
            have hok9 : lc_wok ((0, w.2)) := lc_w0 w.2; have hok8 := hok9.1
            refine lc_aload_n dX9_find_56 rfl 0 rfl ?_
            refine lc_get dX9_find_57 lc_fX9_24 h2 rfl ?_
            refine lc_if_le (tgt := 67) dX9_find_60 (by decide) (by omega) (fun h_60_22 => ?_) (fun h_60_22 => ?_)
            · skip
              refine lc_iconst dX9_find_67 ?_
              have E9 : lc_find f fr to w = (0, w.2) := by show lc_two f to (lc_two f to (0, w.2) (lc_sp (fr * 2))) (lc_sp (fr * 2 + 1)) = _; unfold lc_two; rw [if_pos h_29_14, if_pos h_29_20]
              exact lc_zret dX9_find_68 rfl (rfl) (Nat.le_of_ble_eq_true rfl) (Nat.le_of_ble_eq_true rfl) (hQ _ _ _ ⟨a1, a2, a3, lc_some (by rw [E9, if_neg (by omega)]), rfl, by rw [E9]; exact h2, h4, (fun i _ _ => (fr3 i (by omega)))⟩)
            · skip
              refine lc_iconst dX9_find_63 ?_
              refine lc_goto (tgt := 68) dX9_find_64 (by decide) ?_
              have E9 : lc_find f fr to w = (0, w.2) := by show lc_two f to (lc_two f to (0, w.2) (lc_sp (fr * 2))) (lc_sp (fr * 2 + 1)) = _; unfold lc_two; rw [if_pos h_29_14, if_pos h_29_20]
              exact lc_zret dX9_find_68 rfl (rfl) (Nat.le_of_ble_eq_true rfl) (Nat.le_of_ble_eq_true rfl) (hQ _ _ _ ⟨a1, a2, a3, lc_some (by rw [E9, if_pos h_60_22]), rfl, by rw [E9]; exact h2, h4, (fun i _ _ => (fr3 i (by omega)))⟩)
          · exact absurd h_11_21 (by decide)
        · skip
          refine lc_aload_n dX9_find_32 rfl 0 rfl ?_
          refine lc_aload_n dX9_find_33 rfl 1 rfl ?_
          refine lc_iload dX9_find_34 5 rfl ?_
          refine lc_iconst dX9_find_36 ?_
          refine lc_iload_n dX9_find_37 rfl 3 rfl ?_
          have hok26 : lc_wok ((0, w.2)) := lc_w0 w.2
          refine lc_callV (As := [.ref (b), .int (lc_i (lc_sp (fr * 2 + 1))), .int (lc_i (1)), .int (lc_i (to))]) (stk := []) (b := 5) dX9_find_38 lc_mX9_34 lc_yX9_tryFrom h2 rfl (lc_cX9_tryFrom l n (a1) (a2) (a3) ((0, w.2)) (b) (f) (o) (t) (s) (q) (m) (lc_sp (fr * 2 + 1)) (1) (to) σ1 h2 h4 h5 h6 h8 h9 (hf) (by omega) (by omega) (hb) (by omega) (hok26)) rfl ⟨Nat.le_of_ble_eq_true rfl, Nat.le_of_ble_eq_true rfl⟩ ⟨Nat.le_of_ble_eq_true rfl, Nat.le_of_ble_eq_true rfl⟩ rfl (Nat.le_of_ble_eq_true rfl) (fun v27 n28 σ29 q30 => ?_)
          obtain ⟨rfl, rfl, h25, h26, fr24⟩ := q30
          have h31 : σ29 (2) = some (.inr (1, [.ref (3), .ref (4)]) : lc_Cel) := (fr24 _ (by omega) (by omega)).trans h5
          have h32 : σ29 (3) = some (lc_aI 48 (lc_pt)) := (fr24 _ (by omega) (by omega)).trans h6
          have h33 : σ29 (4) = some (lc_aI 72 (lc_sp)) := (fr24 _ (by omega) (by omega)).trans h7
          have h34 : σ29 (b) = some (.inr (0, [.ref (b + 1), .int (lc_i (o)), .int (lc_i (t)), .int (lc_i (s)), .int (lc_i (q)), .int (lc_i (m))]) : lc_Cel) := (fr24 _ (by omega) (by omega)).trans h8
          have h35 : σ29 (b + 1) = some (lc_aI 36 (f)) := (fr24 _ (by omega) (by omega)).trans h9
          refine lc_aload_n dX9_find_41 rfl 0 rfl ?_
          refine lc_aload_n dX9_find_42 rfl 1 rfl ?_
          refine lc_iload dX9_find_43 5 rfl ?_
          refine lc_iconst dX9_find_45 ?_
          refine lc_iload_n dX9_find_46 rfl 3 rfl ?_
          have hok38 : lc_wok (lc_try (f) (to) ((0, w.2)) (lc_sp (fr * 2 + 1)) (1)) := lc_try_ok (lc_w0 w.2) (by omega) (Or.inl rfl)
          refine lc_callV (As := [.ref (b), .int (lc_i (lc_sp (fr * 2 + 1))), .int (lc_i ((-1))), .int (lc_i (to))]) (stk := []) (b := 5) dX9_find_47 lc_mX9_34 lc_yX9_tryFrom h25 rfl (lc_cX9_tryFrom l n (lc_M (f) (lc_sp (fr * 2 + 1)) (1)) (lc_Lo (f) (lc_sp (fr * 2 + 1)) (1)) (lc_Sp (f) (lc_sp (fr * 2 + 1)) (1)) (lc_try (f) (to) ((0, w.2)) (lc_sp (fr * 2 + 1)) (1)) (b) (f) (o) (t) (s) (q) (m) (lc_sp (fr * 2 + 1)) ((-1)) (to) σ29 h25 h26 h31 h32 h34 h35 (hf) (by omega) (by omega) (hb) (by omega) (hok38)) rfl ⟨Nat.le_of_ble_eq_true rfl, Nat.le_of_ble_eq_true rfl⟩ ⟨Nat.le_of_ble_eq_true rfl, Nat.le_of_ble_eq_true rfl⟩ rfl (Nat.le_of_ble_eq_true rfl) (fun v39 n40 σ41 q42 => ?_)
          obtain ⟨rfl, rfl, h37, h38, fr36⟩ := q42
          have h43 : σ41 (2) = some (.inr (1, [.ref (3), .ref (4)]) : lc_Cel) := (fr36 _ (by omega) (by omega)).trans h31
          have h44 : σ41 (3) = some (lc_aI 48 (lc_pt)) := (fr36 _ (by omega) (by omega)).trans h32
          have h45 : σ41 (4) = some (lc_aI 72 (lc_sp)) := (fr36 _ (by omega) (by omega)).trans h33
          have h46 : σ41 (b) = some (.inr (0, [.ref (b + 1), .int (lc_i (o)), .int (lc_i (t)), .int (lc_i (s)), .int (lc_i (q)), .int (lc_i (m))]) : lc_Cel) := (fr36 _ (by omega) (by omega)).trans h34
          have h47 : σ41 (b + 1) = some (lc_aI 36 (f)) := (fr36 _ (by omega) (by omega)).trans h35
          refine lc_iinc (lv' := [(0, .ref (5)), (1, .ref (b)), (2, .int (lc_i (fr))), (3, .int (lc_i (to))), (4, .int (lc_i (0 + 1 + 1))), (5, .int (lc_i (lc_sp (fr * 2 + 1))))]) dX9_find_50 4 rfl (by decide) rfl ?_
          refine lc_goto (tgt := 8) dX9_find_53 (by decide) ?_
          refine lc_iload dX9_find_8 4 rfl ?_
          refine lc_iconst dX9_find_10 ?_
          refine lc_icmp_ge (tgt := 56) dX9_find_11 (by decide) (by omega) (fun h_11_47 => ?_) (fun h_11_47 => ?_)
          · skip
            have hok9 : lc_wok (lc_try (f) (to) (lc_try (f) (to) ((0, w.2)) (lc_sp (fr * 2 + 1)) (1)) (lc_sp (fr * 2 + 1)) ((-1))) := lc_try_ok (lc_try_ok (lc_w0 w.2) (by omega) (Or.inl rfl)) (by omega) (Or.inr rfl); have hok8 := hok9.1
            refine lc_aload_n dX9_find_56 rfl 0 rfl ?_
            refine lc_get dX9_find_57 lc_fX9_24 h37 rfl ?_
            refine lc_if_le (tgt := 67) dX9_find_60 (by decide) (by omega) (fun h_60_48 => ?_) (fun h_60_48 => ?_)
            · skip
              refine lc_iconst dX9_find_67 ?_
              have E9 : lc_find f fr to w = lc_try (f) (to) (lc_try (f) (to) ((0, w.2)) (lc_sp (fr * 2 + 1)) (1)) (lc_sp (fr * 2 + 1)) ((-1)) := by show lc_two f to (lc_two f to (0, w.2) (lc_sp (fr * 2))) (lc_sp (fr * 2 + 1)) = _; unfold lc_two; rw [if_pos h_29_14, if_neg h_29_20]
              exact lc_zret dX9_find_68 rfl (rfl) (Nat.le_of_ble_eq_true rfl) (Nat.le_of_ble_eq_true rfl) (hQ _ _ _ ⟨lc_M (f) (lc_sp (fr * 2 + 1)) ((-1)), lc_Lo (f) (lc_sp (fr * 2 + 1)) ((-1)), lc_Sp (f) (lc_sp (fr * 2 + 1)) ((-1)), lc_some (by rw [E9, if_neg (by omega)]), rfl, by rw [E9]; exact h37, h38, (fun i _ _ => ((fr36 i (by omega) (by omega)).trans ((fr24 i (by omega) (by omega)).trans (fr3 i (by omega)))))⟩)
            · skip
              refine lc_iconst dX9_find_63 ?_
              refine lc_goto (tgt := 68) dX9_find_64 (by decide) ?_
              have E9 : lc_find f fr to w = lc_try (f) (to) (lc_try (f) (to) ((0, w.2)) (lc_sp (fr * 2 + 1)) (1)) (lc_sp (fr * 2 + 1)) ((-1)) := by show lc_two f to (lc_two f to (0, w.2) (lc_sp (fr * 2))) (lc_sp (fr * 2 + 1)) = _; unfold lc_two; rw [if_pos h_29_14, if_neg h_29_20]
              exact lc_zret dX9_find_68 rfl (rfl) (Nat.le_of_ble_eq_true rfl) (Nat.le_of_ble_eq_true rfl) (hQ _ _ _ ⟨lc_M (f) (lc_sp (fr * 2 + 1)) ((-1)), lc_Lo (f) (lc_sp (fr * 2 + 1)) ((-1)), lc_Sp (f) (lc_sp (fr * 2 + 1)) ((-1)), lc_some (by rw [E9, if_pos h_60_48]), rfl, by rw [E9]; exact h37, h38, (fun i _ _ => ((fr36 i (by omega) (by omega)).trans ((fr24 i (by omega) (by omega)).trans (fr3 i (by omega)))))⟩)
          · exact absurd h_11_47 (by decide)
    · skip
      refine lc_aload_n dX9_find_32 rfl 0 rfl ?_
      refine lc_aload_n dX9_find_33 rfl 1 rfl ?_
      refine lc_iload dX9_find_34 5 rfl ?_
      refine lc_iconst dX9_find_36 ?_
      refine lc_iload_n dX9_find_37 rfl 3 rfl ?_
      have hok52 : lc_wok ((0, w.2)) := lc_w0 w.2
      refine lc_callV (As := [.ref (b), .int (lc_i (lc_sp (fr * 2))), .int (lc_i (1)), .int (lc_i (to))]) (stk := []) (b := 5) dX9_find_38 lc_mX9_34 lc_yX9_tryFrom h2 rfl (lc_cX9_tryFrom l n (a1) (a2) (a3) ((0, w.2)) (b) (f) (o) (t) (s) (q) (m) (lc_sp (fr * 2)) (1) (to) σ1 h2 h4 h5 h6 h8 h9 (hf) (by omega) (by omega) (hb) (by omega) (hok52)) rfl ⟨Nat.le_of_ble_eq_true rfl, Nat.le_of_ble_eq_true rfl⟩ ⟨Nat.le_of_ble_eq_true rfl, Nat.le_of_ble_eq_true rfl⟩ rfl (Nat.le_of_ble_eq_true rfl) (fun v53 n54 σ55 q56 => ?_)
      obtain ⟨rfl, rfl, h51, h52, fr50⟩ := q56
      have h57 : σ55 (2) = some (.inr (1, [.ref (3), .ref (4)]) : lc_Cel) := (fr50 _ (by omega) (by omega)).trans h5
      have h58 : σ55 (3) = some (lc_aI 48 (lc_pt)) := (fr50 _ (by omega) (by omega)).trans h6
      have h59 : σ55 (4) = some (lc_aI 72 (lc_sp)) := (fr50 _ (by omega) (by omega)).trans h7
      have h60 : σ55 (b) = some (.inr (0, [.ref (b + 1), .int (lc_i (o)), .int (lc_i (t)), .int (lc_i (s)), .int (lc_i (q)), .int (lc_i (m))]) : lc_Cel) := (fr50 _ (by omega) (by omega)).trans h8
      have h61 : σ55 (b + 1) = some (lc_aI 36 (f)) := (fr50 _ (by omega) (by omega)).trans h9
      refine lc_aload_n dX9_find_41 rfl 0 rfl ?_
      refine lc_aload_n dX9_find_42 rfl 1 rfl ?_
      refine lc_iload dX9_find_43 5 rfl ?_
      refine lc_iconst dX9_find_45 ?_
      refine lc_iload_n dX9_find_46 rfl 3 rfl ?_
      have hok64 : lc_wok (lc_try (f) (to) ((0, w.2)) (lc_sp (fr * 2)) (1)) := lc_try_ok (lc_w0 w.2) (by omega) (Or.inl rfl)
      refine lc_callV (As := [.ref (b), .int (lc_i (lc_sp (fr * 2))), .int (lc_i ((-1))), .int (lc_i (to))]) (stk := []) (b := 5) dX9_find_47 lc_mX9_34 lc_yX9_tryFrom h51 rfl (lc_cX9_tryFrom l n (lc_M (f) (lc_sp (fr * 2)) (1)) (lc_Lo (f) (lc_sp (fr * 2)) (1)) (lc_Sp (f) (lc_sp (fr * 2)) (1)) (lc_try (f) (to) ((0, w.2)) (lc_sp (fr * 2)) (1)) (b) (f) (o) (t) (s) (q) (m) (lc_sp (fr * 2)) ((-1)) (to) σ55 h51 h52 h57 h58 h60 h61 (hf) (by omega) (by omega) (hb) (by omega) (hok64)) rfl ⟨Nat.le_of_ble_eq_true rfl, Nat.le_of_ble_eq_true rfl⟩ ⟨Nat.le_of_ble_eq_true rfl, Nat.le_of_ble_eq_true rfl⟩ rfl (Nat.le_of_ble_eq_true rfl) (fun v65 n66 σ67 q68 => ?_)
      obtain ⟨rfl, rfl, h63, h64, fr62⟩ := q68
      have h69 : σ67 (2) = some (.inr (1, [.ref (3), .ref (4)]) : lc_Cel) := (fr62 _ (by omega) (by omega)).trans h57
      have h70 : σ67 (3) = some (lc_aI 48 (lc_pt)) := (fr62 _ (by omega) (by omega)).trans h58
      have h71 : σ67 (4) = some (lc_aI 72 (lc_sp)) := (fr62 _ (by omega) (by omega)).trans h59
      have h72 : σ67 (b) = some (.inr (0, [.ref (b + 1), .int (lc_i (o)), .int (lc_i (t)), .int (lc_i (s)), .int (lc_i (q)), .int (lc_i (m))]) : lc_Cel) := (fr62 _ (by omega) (by omega)).trans h60
      have h73 : σ67 (b + 1) = some (lc_aI 36 (f)) := (fr62 _ (by omega) (by omega)).trans h61
      refine lc_iinc (lv' := [(0, .ref (5)), (1, .ref (b)), (2, .int (lc_i (fr))), (3, .int (lc_i (to))), (4, .int (lc_i (0 + 1))), (5, .int (lc_i (lc_sp (fr * 2))))]) dX9_find_50 4 rfl (by decide) rfl ?_
      refine lc_goto (tgt := 8) dX9_find_53 (by decide) ?_
      refine lc_iload dX9_find_8 4 rfl ?_
      refine lc_iconst dX9_find_10 ?_
      refine lc_icmp_ge (tgt := 56) dX9_find_11 (by decide) (by omega) (fun h_11_73 => ?_) (fun h_11_73 => ?_)
      · exact absurd h_11_73 (by decide)
      · skip
        refine lc_aload_n dX9_find_14 rfl 0 rfl ?_
        refine lc_get dX9_find_15 lc_fX9_9 h63 rfl ?_
        refine lc_iload_n dX9_find_18 rfl 2 rfl ?_
        refine lc_iload dX9_find_19 4 rfl ?_
        refine lc_callV (As := [.int (lc_i (fr)), .int (lc_i (0 + 1))]) (stk := []) (b := 2) dX9_find_21 lc_mX9_30 lc_yX1_spotOf h69 rfl (lc_cX1_spotOf l n (fr) (0 + 1) σ67 h69 h71 (by omega) (by omega)) rfl ⟨Nat.le_of_ble_eq_true rfl, Nat.le_of_ble_eq_true rfl⟩ ⟨Nat.le_of_ble_eq_true rfl, Nat.le_of_ble_eq_true rfl⟩ rfl (Nat.le_of_ble_eq_true rfl) (fun v75 n76 σ77 q78 => ?_)
        obtain ⟨rfl, rfl, rfl⟩ := q78
        refine lc_top (congrArg (fun z => Value.int (lc_i z)) (show (lc_sp ((fr) * 2 + (0 + 1)) : Int) = lc_sp (fr * 2 + 1) from congrArg lc_sp (by omega))) ?_
        refine lc_istore (lv' := [(0, .ref (5)), (1, .ref (b)), (2, .int (lc_i (fr))), (3, .int (lc_i (to))), (4, .int (lc_i (0 + 1))), (5, .int (lc_i (lc_sp (fr * 2 + 1))))]) dX9_find_24 (by decide) rfl ?_
        refine lc_iload dX9_find_26 5 rfl ?_
        refine lc_iconst dX9_find_28 ?_
        refine lc_icmp_eq (tgt := 50) dX9_find_29 (by decide) (by omega) (fun h_29_78 => ?_) (fun h_29_78 => ?_)
        · skip
          refine lc_iinc (lv' := [(0, .ref (5)), (1, .ref (b)), (2, .int (lc_i (fr))), (3, .int (lc_i (to))), (4, .int (lc_i (0 + 1 + 1))), (5, .int (lc_i (lc_sp (fr * 2 + 1))))]) dX9_find_50 4 rfl (by decide) rfl ?_
          refine lc_goto (tgt := 8) dX9_find_53 (by decide) ?_
          refine lc_iload dX9_find_8 4 rfl ?_
          refine lc_iconst dX9_find_10 ?_
          refine lc_icmp_ge (tgt := 56) dX9_find_11 (by decide) (by omega) (fun h_11_79 => ?_) (fun h_11_79 => ?_)
          · skip
            have hok9 : lc_wok (lc_try (f) (to) (lc_try (f) (to) ((0, w.2)) (lc_sp (fr * 2)) (1)) (lc_sp (fr * 2)) ((-1))) := lc_try_ok (lc_try_ok (lc_w0 w.2) (by omega) (Or.inl rfl)) (by omega) (Or.inr rfl); have hok8 := hok9.1
            refine lc_aload_n dX9_find_56 rfl 0 rfl ?_
            refine lc_get dX9_find_57 lc_fX9_24 h63 rfl ?_
            refine lc_if_le (tgt := 67) dX9_find_60 (by decide) (by omega) (fun h_60_80 => ?_) (fun h_60_80 => ?_)
            · skip
              refine lc_iconst dX9_find_67 ?_
              have E9 : lc_find f fr to w = lc_try (f) (to) (lc_try (f) (to) ((0, w.2)) (lc_sp (fr * 2)) (1)) (lc_sp (fr * 2)) ((-1)) := by show lc_two f to (lc_two f to (0, w.2) (lc_sp (fr * 2))) (lc_sp (fr * 2 + 1)) = _; unfold lc_two; rw [if_neg h_29_14, if_pos h_29_78]
              exact lc_zret dX9_find_68 rfl (rfl) (Nat.le_of_ble_eq_true rfl) (Nat.le_of_ble_eq_true rfl) (hQ _ _ _ ⟨lc_M (f) (lc_sp (fr * 2)) ((-1)), lc_Lo (f) (lc_sp (fr * 2)) ((-1)), lc_Sp (f) (lc_sp (fr * 2)) ((-1)), lc_some (by rw [E9, if_neg (by omega)]), rfl, by rw [E9]; exact h63, h64, (fun i _ _ => ((fr62 i (by omega) (by omega)).trans ((fr50 i (by omega) (by omega)).trans (fr3 i (by omega)))))⟩)
            · skip
              refine lc_iconst dX9_find_63 ?_
              refine lc_goto (tgt := 68) dX9_find_64 (by decide) ?_
              have E9 : lc_find f fr to w = lc_try (f) (to) (lc_try (f) (to) ((0, w.2)) (lc_sp (fr * 2)) (1)) (lc_sp (fr * 2)) ((-1)) := by show lc_two f to (lc_two f to (0, w.2) (lc_sp (fr * 2))) (lc_sp (fr * 2 + 1)) = _; unfold lc_two; rw [if_neg h_29_14, if_pos h_29_78]
              exact lc_zret dX9_find_68 rfl (rfl) (Nat.le_of_ble_eq_true rfl) (Nat.le_of_ble_eq_true rfl) (hQ _ _ _ ⟨lc_M (f) (lc_sp (fr * 2)) ((-1)), lc_Lo (f) (lc_sp (fr * 2)) ((-1)), lc_Sp (f) (lc_sp (fr * 2)) ((-1)), lc_some (by rw [E9, if_pos h_60_80]), rfl, by rw [E9]; exact h63, h64, (fun i _ _ => ((fr62 i (by omega) (by omega)).trans ((fr50 i (by omega) (by omega)).trans (fr3 i (by omega)))))⟩)
          · exact absurd h_11_79 (by decide)
        · skip
          refine lc_aload_n dX9_find_32 rfl 0 rfl ?_
          refine lc_aload_n dX9_find_33 rfl 1 rfl ?_
          refine lc_iload dX9_find_34 5 rfl ?_
          refine lc_iconst dX9_find_36 ?_
          refine lc_iload_n dX9_find_37 rfl 3 rfl ?_
          have hok84 : lc_wok (lc_try (f) (to) (lc_try (f) (to) ((0, w.2)) (lc_sp (fr * 2)) (1)) (lc_sp (fr * 2)) ((-1))) := lc_try_ok (lc_try_ok (lc_w0 w.2) (by omega) (Or.inl rfl)) (by omega) (Or.inr rfl)
          refine lc_callV (As := [.ref (b), .int (lc_i (lc_sp (fr * 2 + 1))), .int (lc_i (1)), .int (lc_i (to))]) (stk := []) (b := 5) dX9_find_38 lc_mX9_34 lc_yX9_tryFrom h63 rfl (lc_cX9_tryFrom l n (lc_M (f) (lc_sp (fr * 2)) ((-1))) (lc_Lo (f) (lc_sp (fr * 2)) ((-1))) (lc_Sp (f) (lc_sp (fr * 2)) ((-1))) (lc_try (f) (to) (lc_try (f) (to) ((0, w.2)) (lc_sp (fr * 2)) (1)) (lc_sp (fr * 2)) ((-1))) (b) (f) (o) (t) (s) (q) (m) (lc_sp (fr * 2 + 1)) (1) (to) σ67 h63 h64 h69 h70 h72 h73 (hf) (by omega) (by omega) (hb) (by omega) (hok84)) rfl ⟨Nat.le_of_ble_eq_true rfl, Nat.le_of_ble_eq_true rfl⟩ ⟨Nat.le_of_ble_eq_true rfl, Nat.le_of_ble_eq_true rfl⟩ rfl (Nat.le_of_ble_eq_true rfl) (fun v85 n86 σ87 q88 => ?_)
          obtain ⟨rfl, rfl, h83, h84, fr82⟩ := q88
          have h89 : σ87 (2) = some (.inr (1, [.ref (3), .ref (4)]) : lc_Cel) := (fr82 _ (by omega) (by omega)).trans h69
          have h90 : σ87 (3) = some (lc_aI 48 (lc_pt)) := (fr82 _ (by omega) (by omega)).trans h70
          have h91 : σ87 (4) = some (lc_aI 72 (lc_sp)) := (fr82 _ (by omega) (by omega)).trans h71
          have h92 : σ87 (b) = some (.inr (0, [.ref (b + 1), .int (lc_i (o)), .int (lc_i (t)), .int (lc_i (s)), .int (lc_i (q)), .int (lc_i (m))]) : lc_Cel) := (fr82 _ (by omega) (by omega)).trans h72
          have h93 : σ87 (b + 1) = some (lc_aI 36 (f)) := (fr82 _ (by omega) (by omega)).trans h73
          refine lc_aload_n dX9_find_41 rfl 0 rfl ?_
          refine lc_aload_n dX9_find_42 rfl 1 rfl ?_
          refine lc_iload dX9_find_43 5 rfl ?_
          refine lc_iconst dX9_find_45 ?_
          refine lc_iload_n dX9_find_46 rfl 3 rfl ?_
          have hok96 : lc_wok (lc_try (f) (to) (lc_try (f) (to) (lc_try (f) (to) ((0, w.2)) (lc_sp (fr * 2)) (1)) (lc_sp (fr * 2)) ((-1))) (lc_sp (fr * 2 + 1)) (1)) := lc_try_ok (lc_try_ok (lc_try_ok (lc_w0 w.2) (by omega) (Or.inl rfl)) (by omega) (Or.inr rfl)) (by omega) (Or.inl rfl)
          refine lc_callV (As := [.ref (b), .int (lc_i (lc_sp (fr * 2 + 1))), .int (lc_i ((-1))), .int (lc_i (to))]) (stk := []) (b := 5) dX9_find_47 lc_mX9_34 lc_yX9_tryFrom h83 rfl (lc_cX9_tryFrom l n (lc_M (f) (lc_sp (fr * 2 + 1)) (1)) (lc_Lo (f) (lc_sp (fr * 2 + 1)) (1)) (lc_Sp (f) (lc_sp (fr * 2 + 1)) (1)) (lc_try (f) (to) (lc_try (f) (to) (lc_try (f) (to) ((0, w.2)) (lc_sp (fr * 2)) (1)) (lc_sp (fr * 2)) ((-1))) (lc_sp (fr * 2 + 1)) (1)) (b) (f) (o) (t) (s) (q) (m) (lc_sp (fr * 2 + 1)) ((-1)) (to) σ87 h83 h84 h89 h90 h92 h93 (hf) (by omega) (by omega) (hb) (by omega) (hok96)) rfl ⟨Nat.le_of_ble_eq_true rfl, Nat.le_of_ble_eq_true rfl⟩ ⟨Nat.le_of_ble_eq_true rfl, Nat.le_of_ble_eq_true rfl⟩ rfl (Nat.le_of_ble_eq_true rfl) (fun v97 n98 σ99 q100 => ?_)
          obtain ⟨rfl, rfl, h95, h96, fr94⟩ := q100
          have h101 : σ99 (2) = some (.inr (1, [.ref (3), .ref (4)]) : lc_Cel) := (fr94 _ (by omega) (by omega)).trans h89
          have h102 : σ99 (3) = some (lc_aI 48 (lc_pt)) := (fr94 _ (by omega) (by omega)).trans h90
          have h103 : σ99 (4) = some (lc_aI 72 (lc_sp)) := (fr94 _ (by omega) (by omega)).trans h91
          have h104 : σ99 (b) = some (.inr (0, [.ref (b + 1), .int (lc_i (o)), .int (lc_i (t)), .int (lc_i (s)), .int (lc_i (q)), .int (lc_i (m))]) : lc_Cel) := (fr94 _ (by omega) (by omega)).trans h92
          have h105 : σ99 (b + 1) = some (lc_aI 36 (f)) := (fr94 _ (by omega) (by omega)).trans h93
          refine lc_iinc (lv' := [(0, .ref (5)), (1, .ref (b)), (2, .int (lc_i (fr))), (3, .int (lc_i (to))), (4, .int (lc_i (0 + 1 + 1))), (5, .int (lc_i (lc_sp (fr * 2 + 1))))]) dX9_find_50 4 rfl (by decide) rfl ?_
          refine lc_goto (tgt := 8) dX9_find_53 (by decide) ?_
          refine lc_iload dX9_find_8 4 rfl ?_
          refine lc_iconst dX9_find_10 ?_
          refine lc_icmp_ge (tgt := 56) dX9_find_11 (by decide) (by omega) (fun h_11_105 => ?_) (fun h_11_105 => ?_)
          · skip
            have hok9 : lc_wok (lc_try (f) (to) (lc_try (f) (to) (lc_try (f) (to) (lc_try (f) (to) ((0, w.2)) (lc_sp (fr * 2)) (1)) (lc_sp (fr * 2)) ((-1))) (lc_sp (fr * 2 + 1)) (1)) (lc_sp (fr * 2 + 1)) ((-1))) := lc_try_ok (lc_try_ok (lc_try_ok (lc_try_ok (lc_w0 w.2) (by omega) (Or.inl rfl)) (by omega) (Or.inr rfl)) (by omega) (Or.inl rfl)) (by omega) (Or.inr rfl); have hok8 := hok9.1
            refine lc_aload_n dX9_find_56 rfl 0 rfl ?_
            refine lc_get dX9_find_57 lc_fX9_24 h95 rfl ?_
            refine lc_if_le (tgt := 67) dX9_find_60 (by decide) (by omega) (fun h_60_106 => ?_) (fun h_60_106 => ?_)
            · skip
              refine lc_iconst dX9_find_67 ?_
              have E9 : lc_find f fr to w = lc_try (f) (to) (lc_try (f) (to) (lc_try (f) (to) (lc_try (f) (to) ((0, w.2)) (lc_sp (fr * 2)) (1)) (lc_sp (fr * 2)) ((-1))) (lc_sp (fr * 2 + 1)) (1)) (lc_sp (fr * 2 + 1)) ((-1)) := by show lc_two f to (lc_two f to (0, w.2) (lc_sp (fr * 2))) (lc_sp (fr * 2 + 1)) = _; unfold lc_two; rw [if_neg h_29_14, if_neg h_29_78]
              exact lc_zret dX9_find_68 rfl (rfl) (Nat.le_of_ble_eq_true rfl) (Nat.le_of_ble_eq_true rfl) (hQ _ _ _ ⟨lc_M (f) (lc_sp (fr * 2 + 1)) ((-1)), lc_Lo (f) (lc_sp (fr * 2 + 1)) ((-1)), lc_Sp (f) (lc_sp (fr * 2 + 1)) ((-1)), lc_some (by rw [E9, if_neg (by omega)]), rfl, by rw [E9]; exact h95, h96, (fun i _ _ => ((fr94 i (by omega) (by omega)).trans ((fr82 i (by omega) (by omega)).trans ((fr62 i (by omega) (by omega)).trans ((fr50 i (by omega) (by omega)).trans (fr3 i (by omega)))))))⟩)
            · skip
              refine lc_iconst dX9_find_63 ?_
              refine lc_goto (tgt := 68) dX9_find_64 (by decide) ?_
              have E9 : lc_find f fr to w = lc_try (f) (to) (lc_try (f) (to) (lc_try (f) (to) (lc_try (f) (to) ((0, w.2)) (lc_sp (fr * 2)) (1)) (lc_sp (fr * 2)) ((-1))) (lc_sp (fr * 2 + 1)) (1)) (lc_sp (fr * 2 + 1)) ((-1)) := by show lc_two f to (lc_two f to (0, w.2) (lc_sp (fr * 2))) (lc_sp (fr * 2 + 1)) = _; unfold lc_two; rw [if_neg h_29_14, if_neg h_29_78]
              exact lc_zret dX9_find_68 rfl (rfl) (Nat.le_of_ble_eq_true rfl) (Nat.le_of_ble_eq_true rfl) (hQ _ _ _ ⟨lc_M (f) (lc_sp (fr * 2 + 1)) ((-1)), lc_Lo (f) (lc_sp (fr * 2 + 1)) ((-1)), lc_Sp (f) (lc_sp (fr * 2 + 1)) ((-1)), lc_some (by rw [E9, if_pos h_60_106]), rfl, by rw [E9]; exact h95, h96, (fun i _ _ => ((fr94 i (by omega) (by omega)).trans ((fr82 i (by omega) (by omega)).trans ((fr62 i (by omega) (by omega)).trans ((fr50 i (by omega) (by omega)).trans (fr3 i (by omega)))))))⟩)
          · exact absurd h_11_105 (by decide)
