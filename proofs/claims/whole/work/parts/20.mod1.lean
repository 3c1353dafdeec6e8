/-! LoopCapturesModel: rows -/
/-- a row of the reference holds a state -/
def lc_c3a (c : Int) : Int := c / 282429536481 % 531441
def lc_c3b (c : Int) : Int := c / 531441 % 531441
def lc_c3c (c : Int) : Int := c / 150094635296999121 * 531441 + c % 531441
def lc_RM (N : Int → Int) (a : lc_St) : Prop := N 0 = a.2.1 ∧ N 1 = a.2.2.1 ∧ N 2 = a.2.2.2.2.1 ∧ N 3 = a.2.2.2.2.2.1 ∧ N 4 = a.2.2.2.1 ∧ N 5 = a.2.2.2.2.2.2.1 ∧ (∀ p : Int, 0 ≤ p → p < 36 → N (6 + p) = a.1 p) ∧ ∀ i : Int, 0 ≤ i → i < a.2.2.2.2.2.2.1 → N (42 + 3 * i) = lc_c3a (a.2.2.2.2.2.2.2 i) ∧ N (42 + 3 * i + 1) = lc_c3b (a.2.2.2.2.2.2.2 i) ∧ N (42 + 3 * i + 2) = lc_c3c (a.2.2.2.2.2.2.2 i)

set_option maxRecDepth 100000 in
set_option maxHeartbeats 600000 in
theorem lc_cX11_in (l : Launch) (n : Nat) (x lo hi : Int) (σ : lc_S)  (hR_x : -2147483648 ≤ x ∧ x < 2147483648) (hR_lo : -2147483648 ≤ lo ∧ lo < 2147483648) (hR_hi : -2147483648 ≤ hi ∧ hi < 2147483648) : lc_Con l yX11_in cX11_in 3 (some .boolean) (lc_Rd 0) [.int (lc_i (x)), .int (lc_i (lo)), .int (lc_i (hi))] n σ (fun v n2 σ2 => v = some (.int (lc_i (if (lo ≤ x ∧ x ≤ hi) then 1 else 0))) ∧ n = n2 ∧ σ = σ2) := by
  refine lc_con RX11 false (by decide) rfl (fun h => absurd h (by decide)) (Nat.le_of_ble_eq_true rfl) ?_
  suffices H : ∀ Q : lc_QT, (∀ v n2 σ2, (fun v n2 σ2 => v = some (.int (lc_i (if (lo ≤ x ∧ x ≤ hi) then 1 else 0))) ∧ n = n2 ∧ σ = σ2 : lc_QT) v n2 σ2 → Q v n2 σ2) → lc_V l RX11 cX11_in 3 (some .boolean) false (lc_Rd 0) (lc_G Q 0 0) lc_E0 0 0 n 0 [(0, .int (lc_i (x))), (1, .int (lc_i (lo))), (2, .int (lc_i (hi)))] [] σ from H _ (fun _ _ _ h => h)
  intro Q hQ
  refine lc_iload_n dX11_in_0 rfl 0 rfl ?_
  refine lc_iload_n dX11_in_1 rfl 1 rfl ?_
  refine lc_icmp_lt (tgt := 14) dX11_in_2 (by decide) (by omega) (fun h_2_0 => ?_) (fun h_2_0 => ?_)
  · skip
    refine lc_iconst dX11_in_14 ?_
    exact lc_zret dX11_in_15 rfl (rfl) (Nat.le_of_ble_eq_true rfl) (Nat.le_of_ble_eq_true rfl) (hQ _ _ _ ⟨lc_some (by rw [if_neg (by omega)]), rfl, rfl⟩)
  · skip
    refine lc_iload_n dX11_in_5 rfl 0 rfl ?_
    refine lc_iload_n dX11_in_6 rfl 2 rfl ?_
    refine lc_icmp_gt (tgt := 14) dX11_in_7 (by decide) (by omega) (fun h_7_1 => ?_) (fun h_7_1 => ?_)
    · skip
      refine lc_iconst dX11_in_14 ?_
      exact lc_zret dX11_in_15 rfl (rfl) (Nat.le_of_ble_eq_true rfl) (Nat.le_of_ble_eq_true rfl) (hQ _ _ _ ⟨lc_some (by rw [if_neg (by omega)]), rfl, rfl⟩)
    · skip
      refine lc_iconst dX11_in_10 ?_
      refine lc_goto (tgt := 15) dX11_in_11 (by decide) ?_
      exact lc_zret dX11_in_15 rfl (rfl) (Nat.le_of_ble_eq_true rfl) (Nat.le_of_ble_eq_true rfl) (hQ _ _ _ ⟨lc_some (by rw [if_pos (by omega)]), rfl, rfl⟩)

theorem lc_iteq {P Q : Prop} [Decidable P] [Decidable Q] (h : P ↔ Q) : (if P then (1 : Int) else 0) = if Q then 1 else 0 := by
  by_cases p : P
  · rw [if_pos p, if_pos (h.mp p)]
  · rw [if_neg p, if_neg (fun q => p (h.mpr q))]

set_option maxRecDepth 100000 in
set_option maxHeartbeats 600000 in
theorem lc_cX11_isPoint (l : Launch) (n : Nat) (x : Int) (σ : lc_S)  (hx : -2147483648 ≤ x ∧ x < 2147483648) : lc_Con l yX11_isPoint cX11_isPoint 1 (some .boolean) (lc_Rd 1) [.int (lc_i (x))] n σ (fun v n2 σ2 => v = some (.int (lc_i (if (0 ≤ x ∧ x < 36) then 1 else 0))) ∧ n = n2 ∧ σ = σ2) := by
  refine lc_con RX11 false (by decide) rfl (fun h => absurd h (by decide)) (Nat.le_of_ble_eq_true rfl) ?_
  suffices H : ∀ Q : lc_QT, (∀ v n2 σ2, (fun v n2 σ2 => v = some (.int (lc_i (if (0 ≤ x ∧ x < 36) then 1 else 0))) ∧ n = n2 ∧ σ = σ2 : lc_QT) v n2 σ2 → Q v n2 σ2) → lc_V l RX11 cX11_isPoint 1 (some .boolean) false (lc_Rd 1) (lc_G Q 0 0) lc_E0 0 0 n 0 [(0, .int (lc_i (x)))] [] σ from H _ (fun _ _ _ h => h)
  intro Q hQ
  refine lc_iload_n dX11_isPoint_0 rfl 0 rfl ?_
  refine lc_iconst dX11_isPoint_1 ?_
  refine lc_bipush dX11_isPoint_2 (by decide) ?_
  refine lc_callS (As := [.int (lc_i (x)), .int (lc_i (0)), .int (lc_i (35))]) (stk := []) dX11_isPoint_4 lc_mX11_41 lc_yX11_in (lc_cX11_in l n (x) (0) (35) σ (by omega) (by omega) (by omega)) rfl ⟨Nat.le_of_ble_eq_true rfl, Nat.le_of_ble_eq_true rfl⟩ ⟨Nat.le_of_ble_eq_true rfl, Nat.le_of_ble_eq_true rfl⟩ rfl (Nat.le_of_ble_eq_true rfl) (fun v1 n2 σ3 q4 => ?_)
  obtain ⟨rfl, rfl, rfl⟩ := q4
  exact lc_zret dX11_isPoint_7 rfl (lc_bite) (Nat.le_of_ble_eq_true rfl) (Nat.le_of_ble_eq_true rfl) (hQ _ _ _ ⟨congrArg (fun z => some (Value.int (lc_i z))) (lc_iteq (by omega)), rfl, rfl⟩)

def lc_cpy (F : Int → Int) (u : Int) (G : Int → Int) (w : Int) : Int → Int := fun j => if w ≤ j ∧ j < w + 222 then F (u + (j - w)) else G j

set_option maxRecDepth 100000 in
set_option maxHeartbeats 600000 in
theorem lc_cX11_copies (l : Launch) (n : Nat) (c d nc nd : Nat) (F G : Int → Int) (u w : Int) (σ : lc_S) (h0_0 : σ (c) = some (lc_aI nc (F))) (h0_1 : σ (d) = some (lc_aI nd (G))) (hcd : c ≠ d) (hu : 0 ≤ u ∧ u + 222 ≤ nc) (hw : 0 ≤ w ∧ w + 222 ≤ nd) (hn : nc < 2000 ∧ nd < 2000) : lc_Con l yX11_copies cX11_copies 5 none (lc_Rd 0) [.ref (c), .int (lc_i (u)), .ref (d), .int (lc_i (w))] n σ (fun v n2 σ2 => v = none ∧ n = n2 ∧ σ2 (d) = some (lc_aI nd (lc_cpy F u G w)) ∧ ∀ i : Nat, i ≠ d → σ2 i = σ i) := by
  refine lc_con RX11 false (by decide) rfl (fun h => absurd h (by decide)) (Nat.le_of_ble_eq_true rfl) ?_
  suffices H : ∀ Q : lc_QT, (∀ v n2 σ2, (fun v n2 σ2 => v = none ∧ n = n2 ∧ σ2 (d) = some (lc_aI nd (lc_cpy F u G w)) ∧ ∀ i : Nat, i ≠ d → σ2 i = σ i : lc_QT) v n2 σ2 → Q v n2 σ2) → lc_V l RX11 cX11_copies 5 none false (lc_Rd 0) (lc_G Q 0 0) lc_E0 0 0 n 0 [(0, .ref (c)), (1, .int (lc_i (u))), (2, .ref (d)), (3, .int (lc_i (w)))] [] σ from H _ (fun _ _ _ h => h)
  intro Q hQ
  refine lc_iconst dX11_copies_0 ?_
  refine lc_istore (lv' := [(0, .ref (c)), (1, .int (lc_i (u))), (2, .ref (d)), (3, .int (lc_i (w))), (4, .int (lc_i (0)))]) dX11_copies_1 (by decide) rfl ?_
  have loop2 : ∀ (N1 : Nat) (i : Int) (hh : Int → Int) (σ4 : lc_S), (σ4 (d) = some (lc_aI nd (hh))) → (∀ i : Nat, i ≠ d → σ4 i = σ i) → (0 ≤ i ∧ i ≤ 222) → (∀ j : Int, w ≤ j → j < w + i → hh j = F (u + (j - w))) → (∀ j : Int, (j < w ∨ w + i ≤ j) → hh j = G j) → 222 - i < (N1 : Int) → lc_V l RX11 cX11_copies 5 none false (lc_Rd 0) (lc_G Q 0 0) lc_E0 0 0 n 3 [(0, .ref (c)), (1, .int (lc_i (u))), (2, .ref (d)), (3, .int (lc_i (w))), (4, .int (lc_i (i)))] [] σ4 := by
    intro N1
    induction N1 with
    | zero =>
      intro i hh σ4 h5 fr6 hi hlo hhi hm7
      exact absurd hm7 (by omega)
    | succ N1 ih3 =>
      intro i hh σ4 h5 fr6 hi hlo hhi hm7
      have h8 : σ4 (c) = some (lc_aI nc (F)) := (fr6 _ (by omega)).trans h0_0
      refine lc_iload dX11_copies_3 4 rfl ?_
      refine lc_sipush dX11_copies_5 (by decide) ?_
      refine lc_icmp_ge (tgt := 29) dX11_copies_8 (by decide) (by omega) (fun h_8_8 => ?_) (fun h_8_8 => ?_)
      · skip
        refine lc_extI (g := lc_cpy F u G w) h5 (fun j h1 h2 => (by unfold lc_cpy; split; (exact hlo j (by omega) (by omega)); (exact hhi j (by omega)))) (fun σ10 h11 fr12 => ?_)
        have h13 : σ10 (c) = some (lc_aI nc (F)) := (fr12 _ (by omega)).trans h8
        exact lc_vret dX11_copies_29 rfl (Nat.le_of_ble_eq_true rfl) (Nat.le_of_ble_eq_true rfl) (hQ _ _ _ ⟨rfl, rfl, h11, (fun i _ => ((fr12 i (by omega)).trans (fr6 i (by omega))))⟩)
      · skip
        refine lc_aload_n dX11_copies_11 rfl 2 rfl ?_
        refine lc_iload_n dX11_copies_12 rfl 3 rfl ?_
        refine lc_iload dX11_copies_13 4 rfl ?_
        refine lc_iadd dX11_copies_15 ?_
        refine lc_aload_n dX11_copies_16 rfl 0 rfl ?_
        refine lc_iload_n dX11_copies_17 rfl 1 rfl ?_
        refine lc_iload dX11_copies_18 4 rfl ?_
        refine lc_iadd dX11_copies_20 ?_
        refine lc_iald dX11_copies_21 h8 (by omega) (by omega) ?_
        refine lc_sI dX11_copies_22 h5 (by omega) (by omega) (fun σ14 h15 fr16 => ?_)
        have h17 : σ14 (c) = some (lc_aI nc (F)) := (fr16 _ (by omega)).trans h8
        refine lc_iinc (lv' := [(0, .ref (c)), (1, .int (lc_i (u))), (2, .ref (d)), (3, .int (lc_i (w))), (4, .int (lc_i (i + 1)))]) dX11_copies_23 4 rfl (by decide) rfl ?_
        refine lc_goto (tgt := 3) dX11_copies_26 (by decide) ?_
        exact ih3 (i + 1) (lc_u (hh) ((w) + (i)) ((F) ((u) + (i)))) σ14 h15 (fun i _ => ((fr16 i (by omega)).trans (fr6 i (by omega)))) (by omega) (fun j h1 h2 => by by_cases e9 : j = w + i; (rw [e9, lc_u_s]; congr 1; omega); (rw [lc_u_n _ _ e9]; exact hlo j h1 (by omega))) (fun j h1 => by rw [lc_u_n _ _ (by omega)]; exact hhi j (by omega)) (by omega)
  exact loop2 1000 (0) (G) σ h0_1 (fun _ _ => rfl) (by omega) (fun j h1 h2 => absurd h2 (by omega)) (fun j _ => rfl) (by omega)

theorem lc_cnt_1 {f : Int → Int} {x i : Int} (hi : 0 ≤ i) (h : f i = x) : lc_cnt f x (i + 1).toNat = lc_cnt f x i.toNat + 1 := by
  rw [show (i + 1).toNat = i.toNat + 1 by omega]
  show lc_cnt f x i.toNat + lc_d (f (i.toNat : Nat)) x = _
  rw [show ((i.toNat : Nat) : Int) = i by omega]
  unfold lc_d
  rw [if_pos h]
theorem lc_cnt_0 {f : Int → Int} {x i : Int} (hi : 0 ≤ i) (h : ¬ f i = x) : lc_cnt f x (i + 1).toNat = lc_cnt f x i.toNat + 0 := by
  rw [show (i + 1).toNat = i.toNat + 1 by omega]
  show lc_cnt f x i.toNat + lc_d (f (i.toNat : Nat)) x = _
  rw [show ((i.toNat : Nat) : Int) = i by omega]
  unfold lc_d
  rw [if_neg h]

set_option maxRecDepth 100000 in
set_option maxHeartbeats 600000 in
theorem lc_cX11_pieces (l : Launch) (n : Nat) (a : Nat) (N : Int → Int) (f : Int → Int) (s q m mo ca ct : Int) (po : Int → Int) (x : Int) (σ : lc_S) (h0_0 : σ (a) = some (lc_aI 222 (N))) (hf : ∀ j : Int, 0 ≤ j → j < 36 → 0 ≤ f j ∧ f j ≤ 2) (hR : lc_RM N (f, s, q, m, mo, ca, ct, po)) (hx : -2147483648 ≤ x ∧ x < 2147483648) : lc_Con l yX11_pieces cX11_pieces 4 (some .int) (lc_Rd 0) [.ref (a), .int (lc_i (x))] n σ (fun v n2 σ2 => v = some (.int (lc_i (lc_cnt f x 36))) ∧ n = n2 ∧ σ = σ2) := by
  obtain ⟨h0R, h1R, h2R, h3R, h4R, h5R, h6R, h7R⟩ := hR
  have h0R : N 0 = s := h0R
  have h1R : N 1 = q := h1R
  have h4R : N 4 = m := h4R
  have h5R : N 5 = ct := h5R
  have h6R : ∀ p : Int, 0 ≤ p → p < 36 → N (6 + p) = f p := h6R
  refine lc_con RX11 false (by decide) rfl (fun h => absurd h (by decide)) (Nat.le_of_ble_eq_true rfl) ?_
  suffices H : ∀ Q : lc_QT, (∀ v n2 σ2, (fun v n2 σ2 => v = some (.int (lc_i (lc_cnt f x 36))) ∧ n = n2 ∧ σ = σ2 : lc_QT) v n2 σ2 → Q v n2 σ2) → lc_V l RX11 cX11_pieces 4 (some .int) false (lc_Rd 0) (lc_G Q 0 0) lc_E0 0 0 n 0 [(0, .ref (a)), (1, .int (lc_i (x)))] [] σ from H _ (fun _ _ _ h => h)
  intro Q hQ
  refine lc_iconst dX11_pieces_0 ?_
  refine lc_top (congrArg (fun z => Value.int (lc_i z)) (show (0 : Int) = lc_cnt f x (0 : Int).toNat from rfl)) ?_
  refine lc_istore_n (lv' := [(0, .ref (a)), (1, .int (lc_i (x))), (2, .int (lc_i (lc_cnt f x (0 : Int).toNat)))]) dX11_pieces_1 rfl (by decide) rfl ?_
  refine lc_iconst dX11_pieces_2 ?_
  refine lc_istore_n (lv' := [(0, .ref (a)), (1, .int (lc_i (x))), (2, .int (lc_i (lc_cnt f x (0 : Int).toNat))), (3, .int (lc_i (0)))]) dX11_pieces_3 rfl (by decide) rfl ?_
  have loop2 : ∀ (N1 : Nat) (i : Int), (0 ≤ i ∧ i ≤ 36) → 36 - i < (N1 : Int) → lc_V l RX11 cX11_pieces 4 (some .int) false (lc_Rd 0) (lc_G Q 0 0) lc_E0 0 0 n 4 [(0, .ref (a)), (1, .int (lc_i (x))), (2, .int (lc_i (lc_cnt f x (i).toNat))), (3, .int (lc_i (i)))] [] σ := by
    intro N1
    induction N1 with
    | zero =>
      intro i hi hm4
      exact absurd hm4 (by omega)
    | succ N1 ih3 =>
      intro i hi hm4
      have hfi := fun h9 : i < 36 => hf i hi.1 h9
      refine lc_iload_n dX11_pieces_4 rfl 3 rfl ?_
      refine lc_bipush dX11_pieces_5 (by decide) ?_
      refine lc_icmp_ge (tgt := 34) dX11_pieces_7 (by decide) (by omega) (fun h_7_4 => ?_) (fun h_7_4 => ?_)
      · skip
        refine lc_iload_n dX11_pieces_34 rfl 2 rfl ?_
        exact lc_iret dX11_pieces_35 rfl (Nat.le_of_ble_eq_true rfl) (Nat.le_of_ble_eq_true rfl) (hQ _ _ _ ⟨lc_some (by rw [show (i).toNat = 36 from by omega]), rfl, rfl⟩)
      · skip
        refine lc_iload_n dX11_pieces_10 rfl 2 rfl ?_
        refine lc_aload_n dX11_pieces_11 rfl 0 rfl ?_
        refine lc_bipush dX11_pieces_12 (by decide) ?_
        refine lc_iload_n dX11_pieces_14 rfl 3 rfl ?_
        refine lc_iadd dX11_pieces_15 ?_
        refine lc_iald dX11_pieces_16 h0_0 (by omega) (by decide) ?_
        refine lc_top (congrArg (fun z => Value.int (lc_i z)) (show ((N) ((6) + (i)) : Int) = f i from h6R i (by omega) (by omega))) ?_
        refine lc_iload_n dX11_pieces_17 rfl 1 rfl ?_
        refine lc_icmp_ne (tgt := 25) dX11_pieces_18 (by decide) (by omega) (fun h_18_5 => ?_) (fun h_18_5 => ?_)
        · skip
          refine lc_iconst dX11_pieces_25 ?_
          refine lc_iadd dX11_pieces_26 ?_
          refine lc_istore_n (lv' := [(0, .ref (a)), (1, .int (lc_i (x))), (2, .int (lc_i ((lc_cnt f x (i).toNat) + (0)))), (3, .int (lc_i (i)))]) dX11_pieces_27 rfl (by decide) rfl ?_
          refine lc_iinc (lv' := [(0, .ref (a)), (1, .int (lc_i (x))), (2, .int (lc_i ((lc_cnt f x (i).toNat) + (0)))), (3, .int (lc_i (i + 1)))]) dX11_pieces_28 3 rfl (by decide) rfl ?_
          refine lc_goto (tgt := 4) dX11_pieces_31 (by decide) ?_
          refine lc_lveq (lv' := [(0, .ref (a)), (1, .int (lc_i (x))), (2, .int (lc_i (lc_cnt f x (i + 1).toNat))), (3, .int (lc_i (i + 1)))]) (by rw [lc_cnt_0 (f := f) (x := x) hi.1 (h_18_5)]) ?_
          exact ih3 (i + 1) (by omega) (by omega)
        · skip
          refine lc_iconst dX11_pieces_21 ?_
          refine lc_goto (tgt := 26) dX11_pieces_22 (by decide) ?_
          refine lc_iadd dX11_pieces_26 ?_
          refine lc_istore_n (lv' := [(0, .ref (a)), (1, .int (lc_i (x))), (2, .int (lc_i ((lc_cnt f x (i).toNat) + (1)))), (3, .int (lc_i (i)))]) dX11_pieces_27 rfl (by decide) rfl ?_
          refine lc_iinc (lv' := [(0, .ref (a)), (1, .int (lc_i (x))), (2, .int (lc_i ((lc_cnt f x (i).toNat) + (1)))), (3, .int (lc_i (i + 1)))]) dX11_pieces_28 3 rfl (by decide) rfl ?_
          refine lc_goto (tgt := 4) dX11_pieces_31 (by decide) ?_
          refine lc_lveq (lv' := [(0, .ref (a)), (1, .int (lc_i (x))), (2, .int (lc_i (lc_cnt f x (i + 1).toNat))), (3, .int (lc_i (i + 1)))]) (by rw [lc_cnt_1 (f := f) (x := x) hi.1 (h_18_5)]) ?_
          exact ih3 (i + 1) (by omega) (by omega)
  exact loop2 1000 (0) (by omega) (by omega)

set_option maxRecDepth 100000 in
set_option maxHeartbeats 600000 in
theorem lc_cX11_result (l : Launch) (n : Nat) (a : Nat) (N : Int → Int) (f : Int → Int) (s q m mo ca ct : Int) (po : Int → Int) (σ : lc_S) (h0_0 : σ (a) = some (lc_aI 222 (N))) (hf : ∀ j : Int, 0 ≤ j → j < 36 → 0 ≤ f j ∧ f j ≤ 2) (hR : lc_RM N (f, s, q, m, mo, ca, ct, po)) (hq : -2147483648 ≤ q ∧ q < 2147483648) (hm : -2147483648 ≤ m ∧ m < 2147483648) : lc_Con l yX11_result cX11_result 3 (some .int) (lc_Rd 1) [.ref (a)] n σ (fun v n2 σ2 => v = some (.int (lc_i (lc_res (lc_cnt f 1 36) (lc_cnt f 2 36) q m))) ∧ n = n2 ∧ σ = σ2) := by
  obtain ⟨h0R, h1R, h2R, h3R, h4R, h5R, h6R, h7R⟩ := id hR
  have h0R : N 0 = s := h0R
  have h1R : N 1 = q := h1R
  have h4R : N 4 = m := h4R
  have h5R : N 5 = ct := h5R
  have h6R : ∀ p : Int, 0 ≤ p → p < 36 → N (6 + p) = f p := h6R
  have hcc := lc_cc f
  refine lc_con RX11 false (by decide) rfl (fun h => absurd h (by decide)) (Nat.le_of_ble_eq_true rfl) ?_
  suffices H : ∀ Q : lc_QT, (∀ v n2 σ2, (fun v n2 σ2 => v = some (.int (lc_i (lc_res (lc_cnt f 1 36) (lc_cnt f 2 36) q m))) ∧ n = n2 ∧ σ = σ2 : lc_QT) v n2 σ2 → Q v n2 σ2) → lc_V l RX11 cX11_result 3 (some .int) false (lc_Rd 1) (lc_G Q 0 0) lc_E0 0 0 n 0 [(0, .ref (a))] [] σ from H _ (fun _ _ _ h => h)
  intro Q hQ
  refine lc_aload_n dX11_result_0 rfl 0 rfl ?_
  refine lc_iconst dX11_result_1 ?_
  refine lc_callS (As := [.ref (a), .int (lc_i (1))]) (stk := []) dX11_result_2 lc_mX11_52 lc_yX11_pieces (lc_cX11_pieces l n (a) (N) (f) (s) (q) (m) (mo) (ca) (ct) (po) (1) σ h0_0 (hf) (hR) (by omega)) rfl ⟨Nat.le_of_ble_eq_true rfl, Nat.le_of_ble_eq_true rfl⟩ ⟨Nat.le_of_ble_eq_true rfl, Nat.le_of_ble_eq_true rfl⟩ rfl (Nat.le_of_ble_eq_true rfl) (fun v1 n2 σ3 q4 => ?_)
  obtain ⟨rfl, rfl, rfl⟩ := q4
  refine lc_if_le (tgt := 12) dX11_result_5 (by decide) (by omega) (fun h_5_4 => ?_) (fun h_5_4 => ?_)
  · skip
    refine lc_iconst dX11_result_12 ?_
    refine lc_istore_n (lv' := [(0, .ref (a)), (1, .int (lc_i (0)))]) dX11_result_13 rfl (by decide) rfl ?_
    refine lc_aload_n dX11_result_14 rfl 0 rfl ?_
    refine lc_iconst dX11_result_15 ?_
    refine lc_callS (As := [.ref (a), .int (lc_i (2))]) (stk := []) dX11_result_16 lc_mX11_52 lc_yX11_pieces (lc_cX11_pieces l n (a) (N) (f) (s) (q) (m) (mo) (ca) (ct) (po) (2) σ h0_0 (hf) (hR) (by omega)) rfl ⟨Nat.le_of_ble_eq_true rfl, Nat.le_of_ble_eq_true rfl⟩ ⟨Nat.le_of_ble_eq_true rfl, Nat.le_of_ble_eq_true rfl⟩ rfl (Nat.le_of_ble_eq_true rfl) (fun v6 n7 σ8 q9 => ?_)
    obtain ⟨rfl, rfl, rfl⟩ := q9
    refine lc_if_le (tgt := 26) dX11_result_19 (by decide) (by omega) (fun h_19_9 => ?_) (fun h_19_9 => ?_)
    · skip
      refine lc_iconst dX11_result_26 ?_
      refine lc_istore_n (lv' := [(0, .ref (a)), (1, .int (lc_i (0))), (2, .int (lc_i (0)))]) dX11_result_27 rfl (by decide) rfl ?_
      refine lc_iload_n dX11_result_28 rfl 1 rfl ?_
      refine lc_if_eq (tgt := 53) dX11_result_29 (by decide) (by omega) (fun h_29_10 => ?_) (fun h_29_10 => ?_)
      · skip
        refine lc_iload_n dX11_result_53 rfl 1 rfl ?_
        refine lc_if_eq (tgt := 61) dX11_result_54 (by decide) (by omega) (fun h_54_11 => ?_) (fun h_54_11 => ?_)
        · skip
          refine lc_iload_n dX11_result_61 rfl 2 rfl ?_
          refine lc_if_eq (tgt := 69) dX11_result_62 (by decide) (by omega) (fun h_62_12 => ?_) (fun h_62_12 => ?_)
          · skip
            refine lc_iconst dX11_result_69 ?_
            exact lc_iret dX11_result_70 rfl (Nat.le_of_ble_eq_true rfl) (Nat.le_of_ble_eq_true rfl) (hQ _ _ _ ⟨lc_some (by unfold lc_res; (repeat' split) <;> omega), rfl, rfl⟩)
          · skip
            refine lc_iconst dX11_result_65 ?_
            refine lc_goto (tgt := 70) dX11_result_66 (by decide) ?_
            exact lc_iret dX11_result_70 rfl (Nat.le_of_ble_eq_true rfl) (Nat.le_of_ble_eq_true rfl) (hQ _ _ _ ⟨lc_some (by unfold lc_res; (repeat' split) <;> omega), rfl, rfl⟩)
        · skip
          refine lc_iconst dX11_result_57 ?_
          refine lc_goto (tgt := 70) dX11_result_58 (by decide) ?_
          exact lc_iret dX11_result_70 rfl (Nat.le_of_ble_eq_true rfl) (Nat.le_of_ble_eq_true rfl) (hQ _ _ _ ⟨lc_some (by unfold lc_res; (repeat' split) <;> omega), rfl, rfl⟩)
      · skip
        refine lc_iload_n dX11_result_32 rfl 2 rfl ?_
        refine lc_if_eq (tgt := 53) dX11_result_33 (by decide) (by omega) (fun h_33_13 => ?_) (fun h_33_13 => ?_)
        · skip
          refine lc_iload_n dX11_result_53 rfl 1 rfl ?_
          refine lc_if_eq (tgt := 61) dX11_result_54 (by decide) (by omega) (fun h_54_14 => ?_) (fun h_54_14 => ?_)
          · skip
            refine lc_iload_n dX11_result_61 rfl 2 rfl ?_
            refine lc_if_eq (tgt := 69) dX11_result_62 (by decide) (by omega) (fun h_62_15 => ?_) (fun h_62_15 => ?_)
            · skip
              refine lc_iconst dX11_result_69 ?_
              exact lc_iret dX11_result_70 rfl (Nat.le_of_ble_eq_true rfl) (Nat.le_of_ble_eq_true rfl) (hQ _ _ _ ⟨lc_some (by unfold lc_res; (repeat' split) <;> omega), rfl, rfl⟩)
            · skip
              refine lc_iconst dX11_result_65 ?_
              refine lc_goto (tgt := 70) dX11_result_66 (by decide) ?_
              exact lc_iret dX11_result_70 rfl (Nat.le_of_ble_eq_true rfl) (Nat.le_of_ble_eq_true rfl) (hQ _ _ _ ⟨lc_some (by unfold lc_res; (repeat' split) <;> omega), rfl, rfl⟩)
          · skip
            refine lc_iconst dX11_result_57 ?_
            refine lc_goto (tgt := 70) dX11_result_58 (by decide) ?_
            exact lc_iret dX11_result_70 rfl (Nat.le_of_ble_eq_true rfl) (Nat.le_of_ble_eq_true rfl) (hQ _ _ _ ⟨lc_some (by unfold lc_res; (repeat' split) <;> omega), rfl, rfl⟩)
        · skip
          refine lc_aload_n dX11_result_36 rfl 0 rfl ?_
          refine lc_iconst dX11_result_37 ?_
          refine lc_iald dX11_result_38 h0_0 (by omega) (by decide) ?_
          refine lc_top (congrArg (fun z => Value.int (lc_i z)) (show ((N) (1) : Int) = q from h1R)) ?_
          refine lc_aload_n dX11_result_39 rfl 0 rfl ?_
          refine lc_iconst dX11_result_40 ?_
          refine lc_iald dX11_result_41 h0_0 (by omega) (by decide) ?_
          refine lc_top (congrArg (fun z => Value.int (lc_i z)) (show ((N) (4) : Int) = m from h4R)) ?_
          refine lc_icmp_lt (tgt := 49) dX11_result_42 (by decide) (by omega) (fun h_42_16 => ?_) (fun h_42_16 => ?_)
          · skip
            refine lc_iconst dX11_result_49 ?_
            refine lc_goto (tgt := 70) dX11_result_50 (by decide) ?_
            exact lc_iret dX11_result_70 rfl (Nat.le_of_ble_eq_true rfl) (Nat.le_of_ble_eq_true rfl) (hQ _ _ _ ⟨lc_some (by unfold lc_res; (repeat' split) <;> omega), rfl, rfl⟩)
          · skip
            refine lc_iconst dX11_result_45 ?_
            refine lc_goto (tgt := 70) dX11_result_46 (by decide) ?_
            exact lc_iret dX11_result_70 rfl (Nat.le_of_ble_eq_true rfl) (Nat.le_of_ble_eq_true rfl) (hQ _ _ _ ⟨lc_some (by unfold lc_res; (repeat' split) <;> omega), rfl, rfl⟩)
    · skip
      refine lc_iconst dX11_result_22 ?_
      refine lc_goto (tgt := 27) dX11_result_23 (by decide) ?_
      refine lc_istore_n (lv' := [(0, .ref (a)), (1, .int (lc_i (0))), (2, .int (lc_i (1)))]) dX11_result_27 rfl (by decide) rfl ?_
      refine lc_iload_n dX11_result_28 rfl 1 rfl ?_
      refine lc_if_eq (tgt := 53) dX11_result_29 (by decide) (by omega) (fun h_29_17 => ?_) (fun h_29_17 => ?_)
      · skip
        refine lc_iload_n dX11_result_53 rfl 1 rfl ?_
        refine lc_if_eq (tgt := 61) dX11_result_54 (by decide) (by omega) (fun h_54_18 => ?_) (fun h_54_18 => ?_)
        · skip
          refine lc_iload_n dX11_result_61 rfl 2 rfl ?_
          refine lc_if_eq (tgt := 69) dX11_result_62 (by decide) (by omega) (fun h_62_19 => ?_) (fun h_62_19 => ?_)
          · skip
            refine lc_iconst dX11_result_69 ?_
            exact lc_iret dX11_result_70 rfl (Nat.le_of_ble_eq_true rfl) (Nat.le_of_ble_eq_true rfl) (hQ _ _ _ ⟨lc_some (by unfold lc_res; (repeat' split) <;> omega), rfl, rfl⟩)
          · skip
            refine lc_iconst dX11_result_65 ?_
            refine lc_goto (tgt := 70) dX11_result_66 (by decide) ?_
            exact lc_iret dX11_result_70 rfl (Nat.le_of_ble_eq_true rfl) (Nat.le_of_ble_eq_true rfl) (hQ _ _ _ ⟨lc_some (by unfold lc_res; (repeat' split) <;> omega), rfl, rfl⟩)
        · skip
          refine lc_iconst dX11_result_57 ?_
          refine lc_goto (tgt := 70) dX11_result_58 (by decide) ?_
          exact lc_iret dX11_result_70 rfl (Nat.le_of_ble_eq_true rfl) (Nat.le_of_ble_eq_true rfl) (hQ _ _ _ ⟨lc_some (by unfold lc_res; (repeat' split) <;> omega), rfl, rfl⟩)
      · skip
        refine lc_iload_n dX11_result_32 rfl 2 rfl ?_
        refine lc_if_eq (tgt := 53) dX11_result_33 (by decide) (by omega) (fun h_33_20 => ?_) (fun h_33_20 => ?_)
        · skip
          refine lc_iload_n dX11_result_53 rfl 1 rfl ?_
          refine lc_if_eq (tgt := 61) dX11_result_54 (by decide) (by omega) (fun h_54_21 => ?_) (fun h_54_21 => ?_)
          · skip
            refine lc_iload_n dX11_result_61 rfl 2 rfl ?_
            refine lc_if_eq (tgt := 69) dX11_result_62 (by decide) (by omega) (fun h_62_22 => ?_) (fun h_62_22 => ?_)
            · skip
              refine lc_iconst dX11_result_69 ?_
              exact lc_iret dX11_result_70 rfl (Nat.le_of_ble_eq_true rfl) (Nat.le_of_ble_eq_true rfl) (hQ _ _ _ ⟨lc_some (by unfold lc_res; (repeat' split) <;> omega), rfl, rfl⟩)
            · skip
              refine lc_iconst dX11_result_65 ?_
              refine lc_goto (tgt := 70) dX11_result_66 (by decide) ?_
              exact lc_iret dX11_result_70 rfl (Nat.le_of_ble_eq_true rfl) (Nat.le_of_ble_eq_true rfl) (hQ _ _ _ ⟨lc_some (by unfold lc_res; (repeat' split) <;> omega), rfl, rfl⟩)
          · skip
            refine lc_iconst dX11_result_57 ?_
            refine lc_goto (tgt := 70) dX11_result_58 (by decide) ?_
            exact lc_iret dX11_result_70 rfl (Nat.le_of_ble_eq_true rfl) (Nat.le_of_ble_eq_true rfl) (hQ _ _ _ ⟨lc_some (by unfold lc_res; (repeat' split) <;> omega), rfl, rfl⟩)
        · skip
          refine lc_aload_n dX11_result_36 rfl 0 rfl ?_
          refine lc_iconst dX11_result_37 ?_
          refine lc_iald dX11_result_38 h0_0 (by omega) (by decide) ?_
          refine lc_top (congrArg (fun z => Value.int (lc_i z)) (show ((N) (1) : Int) = q from h1R)) ?_
          refine lc_aload_n dX11_result_39 rfl 0 rfl ?_
          refine lc_iconst dX11_result_40 ?_
          refine lc_iald dX11_result_41 h0_0 (by omega) (by decide) ?_
          refine lc_top (congrArg (fun z => Value.int (lc_i z)) (show ((N) (4) : Int) = m from h4R)) ?_
          refine lc_icmp_lt (tgt := 49) dX11_result_42 (by decide) (by omega) (fun h_42_23 => ?_) (fun h_42_23 => ?_)
          · skip
            refine lc_iconst dX11_result_49 ?_
            refine lc_goto (tgt := 70) dX11_result_50 (by decide) ?_
            exact lc_iret dX11_result_70 rfl (Nat.le_of_ble_eq_true rfl) (Nat.le_of_ble_eq_true rfl) (hQ _ _ _ ⟨lc_some (by unfold lc_res; (repeat' split) <;> omega), rfl, rfl⟩)
          · skip
            refine lc_iconst dX11_result_45 ?_
            refine lc_goto (tgt := 70) dX11_result_46 (by decide) ?_
            exact lc_iret dX11_result_70 rfl (Nat.le_of_ble_eq_true rfl) (Nat.le_of_ble_eq_true rfl) (hQ _ _ _ ⟨lc_some (by unfold lc_res; (repeat' split) <;> omega), rfl, rfl⟩)
  · skip
    refine lc_iconst dX11_result_8 ?_
    refine lc_goto (tgt := 13) dX11_result_9 (by decide) ?_
    refine lc_istore_n (lv' := [(0, .ref (a)), (1, .int (lc_i (1)))]) dX11_result_13 rfl (by decide) rfl ?_
    refine lc_aload_n dX11_result_14 rfl 0 rfl ?_
    refine lc_iconst dX11_result_15 ?_
    refine lc_callS (As := [.ref (a), .int (lc_i (2))]) (stk := []) dX11_result_16 lc_mX11_52 lc_yX11_pieces (lc_cX11_pieces l n (a) (N) (f) (s) (q) (m) (mo) (ca) (ct) (po) (2) σ h0_0 (hf) (hR) (by omega)) rfl ⟨Nat.le_of_ble_eq_true rfl, Nat.le_of_ble_eq_true rfl⟩ ⟨Nat.le_of_ble_eq_true rfl, Nat.le_of_ble_eq_true rfl⟩ rfl (Nat.le_of_ble_eq_true rfl) (fun v25 n26 σ27 q28 => ?_)
    obtain ⟨rfl, rfl, rfl⟩ := q28
    refine lc_if_le (tgt := 26) dX11_result_19 (by decide) (by omega) (fun h_19_28 => ?_) (fun h_19_28 => ?_)
    · skip
      refine lc_iconst dX11_result_26 ?_
      refine lc_istore_n (lv' := [(0, .ref (a)), (1, .int (lc_i (1))), (2, .int (lc_i (0)))]) dX11_result_27 rfl (by decide) rfl ?_
      refine lc_iload_n dX11_result_28 rfl 1 rfl ?_
      refine lc_if_eq (tgt := 53) dX11_result_29 (by decide) (by omega) (fun h_29_29 => ?_) (fun h_29_29 => ?_)
      · skip
        refine lc_iload_n dX11_result_53 rfl 1 rfl ?_
        refine lc_if_eq (tgt := 61) dX11_result_54 (by decide) (by omega) (fun h_54_30 => ?_) (fun h_54_30 => ?_)
        · skip
          refine lc_iload_n dX11_result_61 rfl 2 rfl ?_
          refine lc_if_eq (tgt := 69) dX11_result_62 (by decide) (by omega) (fun h_62_31 => ?_) (fun h_62_31 => ?_)
          · skip
            refine lc_iconst dX11_result_69 ?_
            exact lc_iret dX11_result_70 rfl (Nat.le_of_ble_eq_true rfl) (Nat.le_of_ble_eq_true rfl) (hQ _ _ _ ⟨lc_some (by unfold lc_res; (repeat' split) <;> omega), rfl, rfl⟩)
          · skip
            refine lc_iconst dX11_result_65 ?_
            refine lc_goto (tgt := 70) dX11_result_66 (by decide) ?_
            exact lc_iret dX11_result_70 rfl (Nat.le_of_ble_eq_true rfl) (Nat.le_of_ble_eq_true rfl) (hQ _ _ _ ⟨lc_some (by unfold lc_res; (repeat' split) <;> omega), rfl, rfl⟩)
        · skip
          refine lc_iconst dX11_result_57 ?_
          refine lc_goto (tgt := 70) dX11_result_58 (by decide) ?_
          exact lc_iret dX11_result_70 rfl (Nat.le_of_ble_eq_true rfl) (Nat.le_of_ble_eq_true rfl) (hQ _ _ _ ⟨lc_some (by unfold lc_res; (repeat' split) <;> omega), rfl, rfl⟩)
      · skip
        refine lc_iload_n dX11_result_32 rfl 2 rfl ?_
        refine lc_if_eq (tgt := 53) dX11_result_33 (by decide) (by omega) (fun h_33_32 => ?_) (fun h_33_32 => ?_)
        · skip
          refine lc_iload_n dX11_result_53 rfl 1 rfl ?_
          refine lc_if_eq (tgt := 61) dX11_result_54 (by decide) (by omega) (fun h_54_33 => ?_) (fun h_54_33 => ?_)
          · skip
            refine lc_iload_n dX11_result_61 rfl 2 rfl ?_
            refine lc_if_eq (tgt := 69) dX11_result_62 (by decide) (by omega) (fun h_62_34 => ?_) (fun h_62_34 => ?_)
            · skip
              refine lc_iconst dX11_result_69 ?_
              exact lc_iret dX11_result_70 rfl (Nat.le_of_ble_eq_true rfl) (Nat.le_of_ble_eq_true rfl) (hQ _ _ _ ⟨lc_some (by unfold lc_res; (repeat' split) <;> omega), rfl, rfl⟩)
            · skip
              refine lc_iconst dX11_result_65 ?_
              refine lc_goto (tgt := 70) dX11_result_66 (by decide) ?_
              exact lc_iret dX11_result_70 rfl (Nat.le_of_ble_eq_true rfl) (Nat.le_of_ble_eq_true rfl) (hQ _ _ _ ⟨lc_some (by unfold lc_res; (repeat' split) <;> omega), rfl, rfl⟩)
          · skip
            refine lc_iconst dX11_result_57 ?_
            refine lc_goto (tgt := 70) dX11_result_58 (by decide) ?_
            exact lc_iret dX11_result_70 rfl (Nat.le_of_ble_eq_true rfl) (Nat.le_of_ble_eq_true rfl) (hQ _ _ _ ⟨lc_some (by unfold lc_res; (repeat' split) <;> omega), rfl, rfl⟩)
        · skip
          refine lc_aload_n dX11_result_36 rfl 0 rfl ?_
          refine lc_iconst dX11_result_37 ?_
          refine lc_iald dX11_result_38 h0_0 (by omega) (by decide) ?_
          refine lc_top (congrArg (fun z => Value.int (lc_i z)) (show ((N) (1) : Int) = q from h1R)) ?_
          refine lc_aload_n dX11_result_39 rfl 0 rfl ?_
          refine lc_iconst dX11_result_40 ?_
          refine lc_iald dX11_result_41 h0_0 (by omega) (by decide) ?_
          refine lc_top (congrArg (fun z => Value.int (lc_i z)) (show ((N) (4) : Int) = m from h4R)) ?_
          refine lc_icmp_lt (tgt := 49) dX11_result_42 (by decide) (by omega) (fun h_42_35 => ?_) (fun h_42_35 => ?_)
          · skip
            refine lc_iconst dX11_result_49 ?_
            refine lc_goto (tgt := 70) dX11_result_50 (by decide) ?_
            exact lc_iret dX11_result_70 rfl (Nat.le_of_ble_eq_true rfl) (Nat.le_of_ble_eq_true rfl) (hQ _ _ _ ⟨lc_some (by unfold lc_res; (repeat' split) <;> omega), rfl, rfl⟩)
          · skip
            refine lc_iconst dX11_result_45 ?_
            refine lc_goto (tgt := 70) dX11_result_46 (by decide) ?_
            exact lc_iret dX11_result_70 rfl (Nat.le_of_ble_eq_true rfl) (Nat.le_of_ble_eq_true rfl) (hQ _ _ _ ⟨lc_some (by unfold lc_res; (repeat' split) <;> omega), rfl, rfl⟩)
    · skip
      refine lc_iconst dX11_result_22 ?_
      refine lc_goto (tgt := 27) dX11_result_23 (by decide) ?_
      refine lc_istore_n (lv' := [(0, .ref (a)), (1, .int (lc_i (1))), (2, .int (lc_i (1)))]) dX11_result_27 rfl (by decide) rfl ?_
      refine lc_iload_n dX11_result_28 rfl 1 rfl ?_
      refine lc_if_eq (tgt := 53) dX11_result_29 (by decide) (by omega) (fun h_29_36 => ?_) (fun h_29_36 => ?_)
      · skip
        refine lc_iload_n dX11_result_53 rfl 1 rfl ?_
        refine lc_if_eq (tgt := 61) dX11_result_54 (by decide) (by omega) (fun h_54_37 => ?_) (fun h_54_37 => ?_)
        · skip
          refine lc_iload_n dX11_result_61 rfl 2 rfl ?_
          refine lc_if_eq (tgt := 69) dX11_result_62 (by decide) (by omega) (fun h_62_38 => ?_) (fun h_62_38 => ?_)
          · skip
            refine lc_iconst dX11_result_69 ?_
            exact lc_iret dX11_result_70 rfl (Nat.le_of_ble_eq_true rfl) (Nat.le_of_ble_eq_true rfl) (hQ _ _ _ ⟨lc_some (by unfold lc_res; (repeat' split) <;> omega), rfl, rfl⟩)
          · skip
            refine lc_iconst dX11_result_65 ?_
            refine lc_goto (tgt := 70) dX11_result_66 (by decide) ?_
            exact lc_iret dX11_result_70 rfl (Nat.le_of_ble_eq_true rfl) (Nat.le_of_ble_eq_true rfl) (hQ _ _ _ ⟨lc_some (by unfold lc_res; (repeat' split) <;> omega), rfl, rfl⟩)
        · skip
          refine lc_iconst dX11_result_57 ?_
          refine lc_goto (tgt := 70) dX11_result_58 (by decide) ?_
          exact lc_iret dX11_result_70 rfl (Nat.le_of_ble_eq_true rfl) (Nat.le_of_ble_eq_true rfl) (hQ _ _ _ ⟨lc_some (by unfold lc_res; (repeat' split) <;> omega), rfl, rfl⟩)
      · skip
        refine lc_iload_n dX11_result_32 rfl 2 rfl ?_
        refine lc_if_eq (tgt := 53) dX11_result_33 (by decide) (by omega) (fun h_33_39 => ?_) (fun h_33_39 => ?_)
        · skip
          refine lc_iload_n dX11_result_53 rfl 1 rfl ?_
          refine lc_if_eq (tgt := 61) dX11_result_54 (by decide) (by omega) (fun h_54_40 => ?_) (fun h_54_40 => ?_)
          · skip
            refine lc_iload_n dX11_result_61 rfl 2 rfl ?_
            refine lc_if_eq (tgt := 69) dX11_result_62 (by decide) (by omega) (fun h_62_41 => ?_) (fun h_62_41 => ?_)
            · skip
              refine lc_iconst dX11_result_69 ?_
              exact lc_iret dX11_result_70 rfl (Nat.le_of_ble_eq_true rfl) (Nat.le_of_ble_eq_true rfl) (hQ _ _ _ ⟨lc_some (by unfold lc_res; (repeat' split) <;> omega), rfl, rfl⟩)
            · skip
              refine lc_iconst dX11_result_65 ?_
              refine lc_goto (tgt := 70) dX11_result_66 (by decide) ?_
              exact lc_iret dX11_result_70 rfl (Nat.le_of_ble_eq_true rfl) (Nat.le_of_ble_eq_true rfl) (hQ _ _ _ ⟨lc_some (by unfold lc_res; (repeat' split) <;> omega), rfl, rfl⟩)
          · skip
            refine lc_iconst dX11_result_57 ?_
            refine lc_goto (tgt := 70) dX11_result_58 (by decide) ?_
            exact lc_iret dX11_result_70 rfl (Nat.le_of_ble_eq_true rfl) (Nat.le_of_ble_eq_true rfl) (hQ _ _ _ ⟨lc_some (by unfold lc_res; (repeat' split) <;> omega), rfl, rfl⟩)
        · skip
          refine lc_aload_n dX11_result_36 rfl 0 rfl ?_
          refine lc_iconst dX11_result_37 ?_
          refine lc_iald dX11_result_38 h0_0 (by omega) (by decide) ?_
          refine lc_top (congrArg (fun z => Value.int (lc_i z)) (show ((N) (1) : Int) = q from h1R)) ?_
          refine lc_aload_n dX11_result_39 rfl 0 rfl ?_
          refine lc_iconst dX11_result_40 ?_
          refine lc_iald dX11_result_41 h0_0 (by omega) (by decide) ?_
          refine lc_top (congrArg (fun z => Value.int (lc_i z)) (show ((N) (4) : Int) = m from h4R)) ?_
          refine lc_icmp_lt (tgt := 49) dX11_result_42 (by decide) (by omega) (fun h_42_42 => ?_) (fun h_42_42 => ?_)
          · skip
            refine lc_iconst dX11_result_49 ?_
            refine lc_goto (tgt := 70) dX11_result_50 (by decide) ?_
            exact lc_iret dX11_result_70 rfl (Nat.le_of_ble_eq_true rfl) (Nat.le_of_ble_eq_true rfl) (hQ _ _ _ ⟨lc_some (by unfold lc_res; (repeat' split) <;> omega), rfl, rfl⟩)
          · skip
            refine lc_iconst dX11_result_45 ?_
            refine lc_goto (tgt := 70) dX11_result_46 (by decide) ?_
            exact lc_iret dX11_result_70 rfl (Nat.le_of_ble_eq_true rfl) (Nat.le_of_ble_eq_true rfl) (hQ _ _ _ ⟨lc_some (by unfold lc_res; (repeat' split) <;> omega), rfl, rfl⟩)

set_option maxRecDepth 100000 in
set_option maxHeartbeats 600000 in
theorem lc_cX11_worth (l : Launch) (n : Nat) (a : Nat) (N : Int → Int) (f : Int → Int) (s q m mo ca ct : Int) (po : Int → Int) (σ : lc_S) (h0_0 : σ (a) = some (lc_aI 222 (N))) (hf : ∀ j : Int, 0 ≤ j → j < 36 → 0 ≤ f j ∧ f j ≤ 2) (hs : 1 ≤ s ∧ s ≤ 2) (hR : lc_RM N (f, s, q, m, mo, ca, ct, po)) : lc_Con l yX11_worth cX11_worth 1 (some .int) (lc_Rd 1) [.ref (a)] n σ (fun v n2 σ2 => v = some (.int (lc_i (lc_wth f s))) ∧ n = n2 ∧ σ = σ2) := by
  obtain ⟨h0R, h1R, h2R, h3R, h4R, h5R, h6R, h7R⟩ := id hR
  have h0R : N 0 = s := h0R
  have h1R : N 1 = q := h1R
  have h4R : N 4 = m := h4R
  have h5R : N 5 = ct := h5R
  have h6R : ∀ p : Int, 0 ≤ p → p < 36 → N (6 + p) = f p := h6R
  refine lc_con RX11 false (by decide) rfl (fun h => absurd h (by decide)) (Nat.le_of_ble_eq_true rfl) ?_
  suffices H : ∀ Q : lc_QT, (∀ v n2 σ2, (fun v n2 σ2 => v = some (.int (lc_i (lc_wth f s))) ∧ n = n2 ∧ σ = σ2 : lc_QT) v n2 σ2 → Q v n2 σ2) → lc_V l RX11 cX11_worth 1 (some .int) false (lc_Rd 1) (lc_G Q 0 0) lc_E0 0 0 n 0 [(0, .ref (a))] [] σ from H _ (fun _ _ _ h => h)
  intro Q hQ
  refine lc_aload_n dX11_worth_0 rfl 0 rfl ?_
  refine lc_aload_n dX11_worth_1 rfl 0 rfl ?_
  refine lc_iconst dX11_worth_2 ?_
  refine lc_iald dX11_worth_3 h0_0 (by omega) (by decide) ?_
  refine lc_top (congrArg (fun z => Value.int (lc_i z)) (show ((N) (0) : Int) = s from h0R)) ?_
  refine lc_callS (As := [.ref (a), .int (lc_i (s))]) (stk := []) dX11_worth_4 lc_mX11_52 lc_yX11_pieces (lc_cX11_pieces l n (a) (N) (f) (s) (q) (m) (mo) (ca) (ct) (po) (s) σ h0_0 (hf) (hR) (by omega)) rfl ⟨Nat.le_of_ble_eq_true rfl, Nat.le_of_ble_eq_true rfl⟩ ⟨Nat.le_of_ble_eq_true rfl, Nat.le_of_ble_eq_true rfl⟩ rfl (Nat.le_of_ble_eq_true rfl) (fun v1 n2 σ3 q4 => ?_)
  obtain ⟨rfl, rfl, rfl⟩ := q4
  refine lc_aload_n dX11_worth_7 rfl 0 rfl ?_
  refine lc_iconst dX11_worth_8 ?_
  refine lc_aload_n dX11_worth_9 rfl 0 rfl ?_
  refine lc_iconst dX11_worth_10 ?_
  refine lc_iald dX11_worth_11 h0_0 (by omega) (by decide) ?_
  refine lc_top (congrArg (fun z => Value.int (lc_i z)) (show ((N) (0) : Int) = s from h0R)) ?_
  refine lc_isub dX11_worth_12 ?_
  refine lc_callS (As := [.ref (a), .int (lc_i ((3) - (s)))]) (stk := [.int (lc_i (lc_cnt (f) (s) 36))]) dX11_worth_13 lc_mX11_52 lc_yX11_pieces (lc_cX11_pieces l n (a) (N) (f) (s) (q) (m) (mo) (ca) (ct) (po) ((3) - (s)) σ h0_0 (hf) (hR) (by omega)) rfl ⟨Nat.le_of_ble_eq_true rfl, Nat.le_of_ble_eq_true rfl⟩ ⟨Nat.le_of_ble_eq_true rfl, Nat.le_of_ble_eq_true rfl⟩ rfl (Nat.le_of_ble_eq_true rfl) (fun v5 n6 σ7 q8 => ?_)
  obtain ⟨rfl, rfl, rfl⟩ := q8
  refine lc_isub dX11_worth_16 ?_
  exact lc_iret dX11_worth_17 rfl (Nat.le_of_ble_eq_true rfl) (Nat.le_of_ble_eq_true rfl) (hQ _ _ _ ⟨lc_some (by unfold lc_wth; rcases (show s = 1 ∨ s = 2 by omega) with e | e <;> subst e; (rw [if_pos rfl]; rfl); (rw [if_neg (by decide)]; rfl)), rfl, rfl⟩)

set_option maxRecDepth 100000 in
set_option maxHeartbeats 600000 in
theorem lc_cX11_isBeside (l : Launch) (n : Nat) (x y : Int) (σ : lc_S)  (hx : 0 ≤ x ∧ x < 36) (hy : 0 ≤ y ∧ y < 36) : lc_Con l yX11_isBeside cX11_isBeside 4 (some .boolean) (lc_Rd 1) [.int (lc_i (x)), .int (lc_i (y))] n σ (fun v n2 σ2 => v = some (.int (lc_i (if (x ≠ y ∧ (-1 ≤ x % 6 - y % 6 ∧ x % 6 - y % 6 ≤ 1) ∧ (-1 ≤ x / 6 - y / 6 ∧ x / 6 - y / 6 ≤ 1)) then 1 else 0))) ∧ n = n2 ∧ σ = σ2) := by
  refine lc_con RX11 false (by decide) rfl (fun h => absurd h (by decide)) (Nat.le_of_ble_eq_true rfl) ?_
  suffices H : ∀ Q : lc_QT, (∀ v n2 σ2, (fun v n2 σ2 => v = some (.int (lc_i (if (x ≠ y ∧ (-1 ≤ x % 6 - y % 6 ∧ x % 6 - y % 6 ≤ 1) ∧ (-1 ≤ x / 6 - y / 6 ∧ x / 6 - y / 6 ≤ 1)) then 1 else 0))) ∧ n = n2 ∧ σ = σ2 : lc_QT) v n2 σ2 → Q v n2 σ2) → lc_V l RX11 cX11_isBeside 4 (some .boolean) false (lc_Rd 1) (lc_G Q 0 0) lc_E0 0 0 n 0 [(0, .int (lc_i (x))), (1, .int (lc_i (y)))] [] σ from H _ (fun _ _ _ h => h)
  intro Q hQ
  refine lc_iload_n dX11_isBeside_0 rfl 0 rfl ?_
  refine lc_bipush dX11_isBeside_1 (by decide) ?_
  refine lc_irem dX11_isBeside_3 (by omega) ?_
  refine lc_iload_n dX11_isBeside_4 rfl 1 rfl ?_
  refine lc_bipush dX11_isBeside_5 (by decide) ?_
  refine lc_irem dX11_isBeside_7 (by omega) ?_
  refine lc_isub dX11_isBeside_8 ?_
  refine lc_istore_n (lv' := [(0, .int (lc_i (x))), (1, .int (lc_i (y))), (2, .int (lc_i (((x) % (6)) - ((y) % (6)))))]) dX11_isBeside_9 rfl (by decide) rfl ?_
  refine lc_iload_n dX11_isBeside_10 rfl 0 rfl ?_
  refine lc_bipush dX11_isBeside_11 (by decide) ?_
  refine lc_idiv dX11_isBeside_13 (by omega) ?_
  refine lc_iload_n dX11_isBeside_14 rfl 1 rfl ?_
  refine lc_bipush dX11_isBeside_15 (by decide) ?_
  refine lc_idiv dX11_isBeside_17 (by omega) ?_
  refine lc_isub dX11_isBeside_18 ?_
  refine lc_istore_n (lv' := [(0, .int (lc_i (x))), (1, .int (lc_i (y))), (2, .int (lc_i (((x) % (6)) - ((y) % (6))))), (3, .int (lc_i (((x) / (6)) - ((y) / (6)))))]) dX11_isBeside_19 rfl (by decide) rfl ?_
  refine lc_iload_n dX11_isBeside_20 rfl 0 rfl ?_
  refine lc_iload_n dX11_isBeside_21 rfl 1 rfl ?_
  refine lc_icmp_eq (tgt := 47) dX11_isBeside_22 (by decide) (by omega) (fun h_22_0 => ?_) (fun h_22_0 => ?_)
  · skip
    refine lc_iconst dX11_isBeside_47 ?_
    exact lc_zret dX11_isBeside_48 rfl (rfl) (Nat.le_of_ble_eq_true rfl) (Nat.le_of_ble_eq_true rfl) (hQ _ _ _ ⟨lc_some (by rw [if_neg (by omega)]), rfl, rfl⟩)
  · skip
    refine lc_iload_n dX11_isBeside_25 rfl 2 rfl ?_
    refine lc_iconst dX11_isBeside_26 ?_
    refine lc_iconst dX11_isBeside_27 ?_
    refine lc_callS (As := [.int (lc_i (((x) % (6)) - ((y) % (6)))), .int (lc_i ((-1))), .int (lc_i (1))]) (stk := []) dX11_isBeside_28 lc_mX11_41 lc_yX11_in (lc_cX11_in l n (((x) % (6)) - ((y) % (6))) ((-1)) (1) σ (by omega) (by omega) (by omega)) rfl ⟨Nat.le_of_ble_eq_true rfl, Nat.le_of_ble_eq_true rfl⟩ ⟨Nat.le_of_ble_eq_true rfl, Nat.le_of_ble_eq_true rfl⟩ rfl (Nat.le_of_ble_eq_true rfl) (fun v2 n3 σ4 q5 => ?_)
    obtain ⟨rfl, rfl, rfl⟩ := q5
    refine lc_if_eqB (tgt := 47) dX11_isBeside_31 (by decide) (fun h_31_5 => ?_) (fun h_31_5 => ?_)
    · skip
      refine lc_iconst dX11_isBeside_47 ?_
      exact lc_zret dX11_isBeside_48 rfl (rfl) (Nat.le_of_ble_eq_true rfl) (Nat.le_of_ble_eq_true rfl) (hQ _ _ _ ⟨lc_some (by rw [if_neg (by omega)]), rfl, rfl⟩)
    · skip
      refine lc_iload_n dX11_isBeside_34 rfl 3 rfl ?_
      refine lc_iconst dX11_isBeside_35 ?_
      refine lc_iconst dX11_isBeside_36 ?_
      refine lc_callS (As := [.int (lc_i (((x) / (6)) - ((y) / (6)))), .int (lc_i ((-1))), .int (lc_i (1))]) (stk := []) dX11_isBeside_37 lc_mX11_41 lc_yX11_in (lc_cX11_in l n (((x) / (6)) - ((y) / (6))) ((-1)) (1) σ (by omega) (by omega) (by omega)) rfl ⟨Nat.le_of_ble_eq_true rfl, Nat.le_of_ble_eq_true rfl⟩ ⟨Nat.le_of_ble_eq_true rfl, Nat.le_of_ble_eq_true rfl⟩ rfl (Nat.le_of_ble_eq_true rfl) (fun v7 n8 σ9 q10 => ?_)
      obtain ⟨rfl, rfl, rfl⟩ := q10
      refine lc_if_eqB (tgt := 47) dX11_isBeside_40 (by decide) (fun h_40_10 => ?_) (fun h_40_10 => ?_)
      · skip
        refine lc_iconst dX11_isBeside_47 ?_
        exact lc_zret dX11_isBeside_48 rfl (rfl) (Nat.le_of_ble_eq_true rfl) (Nat.le_of_ble_eq_true rfl) (hQ _ _ _ ⟨lc_some (by rw [if_neg (by omega)]), rfl, rfl⟩)
      · skip
        refine lc_iconst dX11_isBeside_43 ?_
        refine lc_goto (tgt := 48) dX11_isBeside_44 (by decide) ?_
        exact lc_zret dX11_isBeside_48 rfl (rfl) (Nat.le_of_ble_eq_true rfl) (Nat.le_of_ble_eq_true rfl) (hQ _ _ _ ⟨lc_some (by rw [if_pos (by omega)]), rfl, rfl⟩)

set_option maxRecDepth 100000 in
set_option maxHeartbeats 600000 in
theorem lc_cX11_pointAt (l : Launch) (n : Nat) (c p : Int) (σ : lc_S)  (hc : 0 ≤ c ∧ c ≤ 1) (hp : 0 ≤ p ∧ p < 24) : lc_Con l yX11_pointAt cX11_pointAt 5 (some .int) (lc_Rd 0) [.int (lc_i (c)), .int (lc_i (p))] n σ (fun v n2 σ2 => v = some (.int (lc_i (lc_pa c p))) ∧ n = n2 ∧ σ = σ2) := by
  refine lc_con RX11 false (by decide) rfl (fun h => absurd h (by decide)) (Nat.le_of_ble_eq_true rfl) ?_
  suffices H : ∀ Q : lc_QT, (∀ v n2 σ2, (fun v n2 σ2 => v = some (.int (lc_i (lc_pa c p))) ∧ n = n2 ∧ σ = σ2 : lc_QT) v n2 σ2 → Q v n2 σ2) → lc_V l RX11 cX11_pointAt 5 (some .int) false (lc_Rd 0) (lc_G Q 0 0) lc_E0 0 0 n 0 [(0, .int (lc_i (c))), (1, .int (lc_i (p)))] [] σ from H _ (fun _ _ _ h => h)
  intro Q hQ
  refine lc_iconst dX11_pointAt_0 ?_
  refine lc_iload_n dX11_pointAt_1 rfl 0 rfl ?_
  refine lc_iadd dX11_pointAt_2 ?_
  refine lc_istore_n (lv' := [(0, .int (lc_i (c))), (1, .int (lc_i (p))), (2, .int (lc_i ((1) + (c))))]) dX11_pointAt_3 rfl (by decide) rfl ?_
  refine lc_iconst dX11_pointAt_4 ?_
  refine lc_iload_n dX11_pointAt_5 rfl 2 rfl ?_
  refine lc_isub dX11_pointAt_6 ?_
  refine lc_istore_n (lv' := [(0, .int (lc_i (c))), (1, .int (lc_i (p))), (2, .int (lc_i ((1) + (c)))), (3, .int (lc_i ((5) - ((1) + (c)))))]) dX11_pointAt_7 rfl (by decide) rfl ?_
  refine lc_iload_n dX11_pointAt_8 rfl 1 rfl ?_
  refine lc_bipush dX11_pointAt_9 (by decide) ?_
  refine lc_irem dX11_pointAt_11 (by omega) ?_
  refine lc_istore (lv' := [(0, .int (lc_i (c))), (1, .int (lc_i (p))), (2, .int (lc_i ((1) + (c)))), (3, .int (lc_i ((5) - ((1) + (c))))), (4, .int (lc_i ((p) % (6))))]) dX11_pointAt_12 (by decide) rfl ?_
  refine lc_iload_n dX11_pointAt_14 rfl 1 rfl ?_
  refine lc_bipush dX11_pointAt_15 (by decide) ?_
  refine lc_idiv dX11_pointAt_17 (by omega) ?_
  rcases (show (p) / (6) = 0 ∨ (p) / (6) = 1 ∨ (p) / (6) = 2 ∨ ((p) / (6) < 0 ∨ 2 < (p) / (6)) by omega) with h_18_0 | h_18_0 | h_18_0 | h_18_0
  · refine lc_swC (v := 0) (tgt := 44) dX11_pointAt_18 h_18_0 (by decide) rfl (by decide) ?_
    refine lc_bipush dX11_pointAt_44 (by decide) ?_
    refine lc_iload_n dX11_pointAt_46 rfl 2 rfl ?_
    refine lc_imul dX11_pointAt_47 ?_
    refine lc_iload dX11_pointAt_48 4 rfl ?_
    refine lc_iadd dX11_pointAt_50 ?_
    exact lc_iret dX11_pointAt_51 rfl (Nat.le_of_ble_eq_true rfl) (Nat.le_of_ble_eq_true rfl) (hQ _ _ _ ⟨lc_some (by unfold lc_pa; (repeat' split) <;> omega), rfl, rfl⟩)
  · refine lc_swC (v := 1) (tgt := 52) dX11_pointAt_18 h_18_0 (by decide) rfl (by decide) ?_
    refine lc_bipush dX11_pointAt_52 (by decide) ?_
    refine lc_iload dX11_pointAt_54 4 rfl ?_
    refine lc_imul dX11_pointAt_56 ?_
    refine lc_iload_n dX11_pointAt_57 rfl 3 rfl ?_
    refine lc_iadd dX11_pointAt_58 ?_
    exact lc_iret dX11_pointAt_59 rfl (Nat.le_of_ble_eq_true rfl) (Nat.le_of_ble_eq_true rfl) (hQ _ _ _ ⟨lc_some (by unfold lc_pa; (repeat' split) <;> omega), rfl, rfl⟩)
  · refine lc_swC (v := 2) (tgt := 60) dX11_pointAt_18 h_18_0 (by decide) rfl (by decide) ?_
    refine lc_bipush dX11_pointAt_60 (by decide) ?_
    refine lc_iload_n dX11_pointAt_62 rfl 3 rfl ?_
    refine lc_imul dX11_pointAt_63 ?_
    refine lc_iconst dX11_pointAt_64 ?_
    refine lc_iadd dX11_pointAt_65 ?_
    refine lc_iload dX11_pointAt_66 4 rfl ?_
    refine lc_isub dX11_pointAt_68 ?_
    exact lc_iret dX11_pointAt_69 rfl (Nat.le_of_ble_eq_true rfl) (Nat.le_of_ble_eq_true rfl) (hQ _ _ _ ⟨lc_some (by unfold lc_pa; (repeat' split) <;> omega), rfl, rfl⟩)
  · refine lc_swD (tgt := 70) dX11_pointAt_18 (by omega) h_18_0 (by decide) ?_
    refine lc_bipush dX11_pointAt_70 (by decide) ?_
    refine lc_iconst dX11_pointAt_72 ?_
    refine lc_iload dX11_pointAt_73 4 rfl ?_
    refine lc_isub dX11_pointAt_75 ?_
    refine lc_imul dX11_pointAt_76 ?_
    refine lc_iload_n dX11_pointAt_77 rfl 2 rfl ?_
    refine lc_iadd dX11_pointAt_78 ?_
    exact lc_iret dX11_pointAt_79 rfl (Nat.le_of_ble_eq_true rfl) (Nat.le_of_ble_eq_true rfl) (hQ _ _ _ ⟨lc_some (by unfold lc_pa; (repeat' split) <;> omega), rfl, rfl⟩)

/-- the digits of n points from j on, behind s -/
def lc_pk (f : Int → Int) (s j : Int) : Nat → Int
  | 0 => s
  | n + 1 => 3 * lc_pk f s j n + f (j + n)
theorem lc_pk_s {f : Int → Int} {s j i : Int} (hi : 0 ≤ i) : lc_pk f s j (i + 1).toNat = 3 * lc_pk f s j i.toNat + f (j + i) := by
  rw [show (i + 1).toNat = i.toNat + 1 by omega]
  show 3 * lc_pk f s j i.toNat + f (j + (i.toNat : Nat)) = _
  rw [show ((i.toNat : Nat) : Int) = i by omega]
theorem lc_pk_a (f : Int → Int) (s j : Int) : ∀ n : Nat, lc_pk f s j n = s * 3 ^ n + lc_pk f 0 j n
  | 0 => by show s = s * 1 + 0; omega
  | n + 1 => by
    show 3 * lc_pk f s j n + f (j + n) = s * 3 ^ (n + 1) + (3 * lc_pk f 0 j n + f (j + n))
    rw [lc_pk_a f s j n, Int.pow_succ, ← Int.mul_assoc, Int.mul_add, Int.mul_comm (s * 3 ^ n) 3]
    omega
theorem lc_pk_r {f : Int → Int} (hf : ∀ j : Int, 0 ≤ j → j < 36 → 0 ≤ f j ∧ f j ≤ 2) {j : Int} (hj : 0 ≤ j) : ∀ n : Nat, j + n ≤ 36 → 0 ≤ lc_pk f 0 j n ∧ lc_pk f 0 j n < 3 ^ n
  | 0, _ => by show (0 : Int) ≤ 0 ∧ (0 : Int) < 1; omega
  | n + 1, h => by
    have h1 := lc_pk_r hf hj n (by omega)
    have h2 := hf (j + n) (by omega) (by omega)
    show 0 ≤ 3 * lc_pk f 0 j n + f (j + n) ∧ 3 * lc_pk f 0 j n + f (j + n) < 3 ^ (n + 1)
    rw [Int.pow_succ]
    omega
theorem lc_key_pk (f : Int → Int) (s : Int) (a : Nat) : ∀ n : Nat, lc_key f s (a + n) = lc_key f s a * 3 ^ n + lc_pk f 0 a n
  | 0 => by show lc_key f s a = lc_key f s a * 1 + 0; omega
  | n + 1 => by
    show lc_key f s (a + n) * 3 + f ((a + n : Nat) : Int) = lc_key f s a * 3 ^ (n + 1) + (3 * lc_pk f 0 a n + f ((a : Int) + n))
    rw [lc_key_pk f s a n, Int.pow_succ, ← Int.mul_assoc, Int.add_mul, show ((a + n : Nat) : Int) = (a : Int) + n by omega]
    omega
theorem lc_key_3 {f : Int → Int} {s : Int} (hf : ∀ j : Int, 0 ≤ j → j < 36 → 0 ≤ f j ∧ f j ≤ 2) (hs : 1 ≤ s ∧ s ≤ 2) : lc_c3a (lc_key f s 36) = lc_pk f 0 0 12 ∧ lc_c3b (lc_key f s 36) = lc_pk f 0 12 12 ∧ lc_c3c (lc_key f s 36) = lc_pk f s 24 12 := by
  have e1 : lc_key f s 12 = s * 3 ^ 12 + lc_pk f 0 0 12 := lc_key_pk f s 0 12
  have e2 : lc_key f s 24 = lc_key f s 12 * 3 ^ 12 + lc_pk f 0 12 12 := lc_key_pk f s 12 12
  have e3 : lc_key f s 36 = lc_key f s 24 * 3 ^ 12 + lc_pk f 0 24 12 := lc_key_pk f s 24 12
  have e4 := lc_pk_a f s 24 12
  have r1 := lc_pk_r hf (j := 0) (by omega) 12 (by omega)
  have r2 := lc_pk_r hf (j := 12) (by omega) 12 (by omega)
  have r3 := lc_pk_r hf (j := 24) (by omega) 12 (by omega)
  have e5 : (3 : Int) ^ 12 = 531441 := by decide
  rw [e5] at e1 e2 e3 e4 r1 r2 r3
  unfold lc_c3a lc_c3b lc_c3c
  rw [e4]
  generalize lc_pk f 0 0 12 = A at *
  generalize lc_pk f 0 12 12 = B at *
  generalize lc_pk f 0 24 12 = C at *
  rw [e3, e2, e1]
  omega
theorem lc_RM_note {N f : Int → Int} {s q m mo ca c : Int} {po : Int → Int} (hf : ∀ j : Int, 0 ≤ j → j < 36 → 0 ≤ f j ∧ f j ≤ 2) (hs : 1 ≤ s ∧ s ≤ 2) (hR : lc_RM N (f, s, q, m, mo, ca, c, po)) (hc : 0 ≤ c ∧ c ≤ 59) : lc_RM (lc_u (lc_u (lc_u (lc_u N (42 + 3 * c + 0) (lc_pk f 0 0 12)) (42 + 3 * c + 1) (lc_pk f 0 12 12)) (42 + 3 * c + 2) (lc_pk f s 24 12)) 5 (c + 1)) (f, s, q, m, mo, ca, c + 1, lc_u po c (lc_key f s 36)) := by
  obtain ⟨h0, h1, h2, h3, h4, h5, h6, h7⟩ := hR
  have hk := lc_key_3 hf hs
  refine ⟨?_, ?_, ?_, ?_, ?_, lc_u_s _ _ _, ?_, ?_⟩
  · rw [lc_u_n _ _ (by omega), lc_u_n _ _ (by omega), lc_u_n _ _ (by omega), lc_u_n _ _ (by omega)]; exact h0
  · rw [lc_u_n _ _ (by omega), lc_u_n _ _ (by omega), lc_u_n _ _ (by omega), lc_u_n _ _ (by omega)]; exact h1
  · rw [lc_u_n _ _ (by omega), lc_u_n _ _ (by omega), lc_u_n _ _ (by omega), lc_u_n _ _ (by omega)]; exact h2
  · rw [lc_u_n _ _ (by omega), lc_u_n _ _ (by omega), lc_u_n _ _ (by omega), lc_u_n _ _ (by omega)]; exact h3
  · rw [lc_u_n _ _ (by omega), lc_u_n _ _ (by omega), lc_u_n _ _ (by omega), lc_u_n _ _ (by omega)]; exact h4
  · intro p h8 h9
    rw [lc_u_n _ _ (by omega), lc_u_n _ _ (by omega), lc_u_n _ _ (by omega), lc_u_n _ _ (by omega)]; exact h6 p h8 h9
  · intro i h8 h9
    have h9 : i < c + 1 := h9
    by_cases e : i = c
    · subst e
      refine ⟨?_, ?_, ?_⟩
      · rw [lc_u_n _ _ (by omega), lc_u_n _ _ (by omega), lc_u_n _ _ (by omega), Int.add_zero, lc_u_s]
        show _ = lc_c3a (lc_u po i _ i); rw [lc_u_s]; exact hk.1.symm
      · rw [lc_u_n _ _ (by omega), lc_u_n _ _ (by omega), lc_u_s]
        show _ = lc_c3b (lc_u po i _ i); rw [lc_u_s]; exact hk.2.1.symm
      · rw [lc_u_n _ _ (by omega), lc_u_s]
        show _ = lc_c3c (lc_u po i _ i); rw [lc_u_s]; exact hk.2.2.symm
    · have hh := h7 i h8 (show i < c by omega)
      show _ = lc_c3a (lc_u po c _ i) ∧ _ = lc_c3b (lc_u po c _ i) ∧ _ = lc_c3c (lc_u po c _ i)
      rw [lc_u_n po _ e]
      refine ⟨?_, ?_, ?_⟩
      · rw [lc_u_n _ _ (by omega), lc_u_n _ _ (by omega), lc_u_n _ _ (by omega), lc_u_n _ _ (by omega)]; exact hh.1
      · rw [lc_u_n _ _ (by omega), lc_u_n _ _ (by omega), lc_u_n _ _ (by omega), lc_u_n _ _ (by omega)]; exact hh.2.1
      · rw [lc_u_n _ _ (by omega), lc_u_n _ _ (by omega), lc_u_n _ _ (by omega), lc_u_n _ _ (by omega)]; exact hh.2.2

set_option maxRecDepth 100000 in
set_option maxHeartbeats 600000 in
theorem lc_cX11_packed (l : Launch) (n : Nat) (a : Nat) (N : Int → Int) (f : Int → Int) (s q m mo ca ct : Int) (po : Int → Int) (x : Int) (σ : lc_S) (h0_0 : σ (a) = some (lc_aI 222 (N))) (hR : lc_RM N (f, s, q, m, mo, ca, ct, po)) (hx : 0 ≤ x ∧ x ≤ 2) : lc_Con l yX11_packed cX11_packed 4 (some .int) (lc_Rd 0) [.ref (a), .int (lc_i (x))] n σ (fun v n2 σ2 => v = some (.int (lc_i (lc_pk f (if x = 2 then s else 0) (12 * x) 12))) ∧ n = n2 ∧ σ = σ2) := by
  obtain ⟨h0R, h1R, h2R, h3R, h4R, h5R, h6R, h7R⟩ := id hR
  have h0R : N 0 = s := h0R
  have h1R : N 1 = q := h1R
  have h4R : N 4 = m := h4R
  have h5R : N 5 = ct := h5R
  have h6R : ∀ p : Int, 0 ≤ p → p < 36 → N (6 + p) = f p := h6R
  refine lc_con RX11 false (by decide) rfl (fun h => absurd h (by decide)) (Nat.le_of_ble_eq_true rfl) ?_
  suffices H : ∀ Q : lc_QT, (∀ v n2 σ2, (fun v n2 σ2 => v = some (.int (lc_i (lc_pk f (if x = 2 then s else 0) (12 * x) 12))) ∧ n = n2 ∧ σ = σ2 : lc_QT) v n2 σ2 → Q v n2 σ2) → lc_V l RX11 cX11_packed 4 (some .int) false (lc_Rd 0) (lc_G Q 0 0) lc_E0 0 0 n 0 [(0, .ref (a)), (1, .int (lc_i (x)))] [] σ from H _ (fun _ _ _ h => h)
  intro Q hQ
  refine lc_iload_n dX11_packed_0 rfl 1 rfl ?_
  refine lc_iconst dX11_packed_1 ?_
  refine lc_icmp_ne (tgt := 11) dX11_packed_2 (by decide) (by omega) (fun h_2_0 => ?_) (fun h_2_0 => ?_)
  · skip
    refine lc_iconst dX11_packed_11 ?_
    refine lc_top (congrArg (fun z => Value.int (lc_i z)) (show (0 : Int) = lc_pk f 0 (12 * x) (0 : Int).toNat from rfl)) ?_
    refine lc_istore_n (lv' := [(0, .ref (a)), (1, .int (lc_i (x))), (2, .int (lc_i (lc_pk f 0 (12 * x) (0 : Int).toNat)))]) dX11_packed_12 rfl (by decide) rfl ?_
    refine lc_iconst dX11_packed_13 ?_
    refine lc_istore_n (lv' := [(0, .ref (a)), (1, .int (lc_i (x))), (2, .int (lc_i (lc_pk f 0 (12 * x) (0 : Int).toNat))), (3, .int (lc_i (0)))]) dX11_packed_14 rfl (by decide) rfl ?_
    have loop3 : ∀ (N2 : Nat) (i : Int), (0 ≤ i ∧ i ≤ 12) → 12 - i < (N2 : Int) → lc_V l RX11 cX11_packed 4 (some .int) false (lc_Rd 0) (lc_G Q 0 0) lc_E0 0 0 n 15 [(0, .ref (a)), (1, .int (lc_i (x))), (2, .int (lc_i (lc_pk f 0 (12 * x) (i).toNat))), (3, .int (lc_i (i)))] [] σ := by
      intro N2
      induction N2 with
      | zero =>
        intro i hi hm5
        exact absurd hm5 (by omega)
      | succ N2 ih4 =>
        intro i hi hm5
        refine lc_iload_n dX11_packed_15 rfl 3 rfl ?_
        refine lc_bipush dX11_packed_16 (by decide) ?_
        refine lc_icmp_ge (tgt := 43) dX11_packed_18 (by decide) (by omega) (fun h_18_5 => ?_) (fun h_18_5 => ?_)
        · skip
          refine lc_iload_n dX11_packed_43 rfl 2 rfl ?_
          exact lc_iret dX11_packed_44 rfl (Nat.le_of_ble_eq_true rfl) (Nat.le_of_ble_eq_true rfl) (hQ _ _ _ ⟨lc_some (by rw [show (i).toNat = 12 from by omega, if_neg h_2_0]), rfl, rfl⟩)
        · skip
          refine lc_iconst dX11_packed_21 ?_
          refine lc_iload_n dX11_packed_22 rfl 2 rfl ?_
          refine lc_imul dX11_packed_23 ?_
          refine lc_aload_n dX11_packed_24 rfl 0 rfl ?_
          refine lc_bipush dX11_packed_25 (by decide) ?_
          refine lc_bipush dX11_packed_27 (by decide) ?_
          refine lc_iload_n dX11_packed_29 rfl 1 rfl ?_
          refine lc_imul dX11_packed_30 ?_
          refine lc_iadd dX11_packed_31 ?_
          refine lc_iload_n dX11_packed_32 rfl 3 rfl ?_
          refine lc_iadd dX11_packed_33 ?_
          refine lc_iald dX11_packed_34 h0_0 (by omega) (by decide) ?_
          refine lc_top (congrArg (fun z => Value.int (lc_i z)) (show ((N) (((6) + ((12) * (x))) + (i)) : Int) = f (12 * x + i) from by have h9 := h6R (12 * x + i) (by omega) (by omega); rw [← h9]; congr 1; omega)) ?_
          refine lc_iadd dX11_packed_35 ?_
          refine lc_istore_n (lv' := [(0, .ref (a)), (1, .int (lc_i (x))), (2, .int (lc_i (((3) * (lc_pk f 0 (12 * x) (i).toNat)) + (f (12 * x + i))))), (3, .int (lc_i (i)))]) dX11_packed_36 rfl (by decide) rfl ?_
          refine lc_iinc (lv' := [(0, .ref (a)), (1, .int (lc_i (x))), (2, .int (lc_i (((3) * (lc_pk f 0 (12 * x) (i).toNat)) + (f (12 * x + i))))), (3, .int (lc_i (i + 1)))]) dX11_packed_37 3 rfl (by decide) rfl ?_
          refine lc_goto (tgt := 15) dX11_packed_40 (by decide) ?_
          refine lc_lveq (lv' := [(0, .ref (a)), (1, .int (lc_i (x))), (2, .int (lc_i (lc_pk f 0 (12 * x) (i + 1).toNat))), (3, .int (lc_i (i + 1)))]) (by rw [lc_pk_s (f := f) (s := 0) (j := 12 * x) hi.1]) ?_
          exact ih4 (i + 1) (by omega) (by omega)
    exact loop3 1000 (0) (by omega) (by omega)
  · skip
    refine lc_aload_n dX11_packed_5 rfl 0 rfl ?_
    refine lc_iconst dX11_packed_6 ?_
    refine lc_iald dX11_packed_7 h0_0 (by omega) (by decide) ?_
    refine lc_top (congrArg (fun z => Value.int (lc_i z)) (show ((N) (0) : Int) = lc_pk f s (12 * x) (0 : Int).toNat from h0R)) ?_
    refine lc_goto (tgt := 12) dX11_packed_8 (by decide) ?_
    refine lc_istore_n (lv' := [(0, .ref (a)), (1, .int (lc_i (x))), (2, .int (lc_i (lc_pk f s (12 * x) (0 : Int).toNat)))]) dX11_packed_12 rfl (by decide) rfl ?_
    refine lc_iconst dX11_packed_13 ?_
    refine lc_istore_n (lv' := [(0, .ref (a)), (1, .int (lc_i (x))), (2, .int (lc_i (lc_pk f s (12 * x) (0 : Int).toNat))), (3, .int (lc_i (0)))]) dX11_packed_14 rfl (by decide) rfl ?_
    have loop8 : ∀ (N7 : Nat) (i : Int), (0 ≤ i ∧ i ≤ 12) → 12 - i < (N7 : Int) → lc_V l RX11 cX11_packed 4 (some .int) false (lc_Rd 0) (lc_G Q 0 0) lc_E0 0 0 n 15 [(0, .ref (a)), (1, .int (lc_i (x))), (2, .int (lc_i (lc_pk f s (12 * x) (i).toNat))), (3, .int (lc_i (i)))] [] σ := by
      intro N7
      induction N7 with
      | zero =>
        intro i hi hm10
        exact absurd hm10 (by omega)
      | succ N7 ih9 =>
        intro i hi hm10
        refine lc_iload_n dX11_packed_15 rfl 3 rfl ?_
        refine lc_bipush dX11_packed_16 (by decide) ?_
        refine lc_icmp_ge (tgt := 43) dX11_packed_18 (by decide) (by omega) (fun h_18_10 => ?_) (fun h_18_10 => ?_)
        · skip
          refine lc_iload_n dX11_packed_43 rfl 2 rfl ?_
          exact lc_iret dX11_packed_44 rfl (Nat.le_of_ble_eq_true rfl) (Nat.le_of_ble_eq_true rfl) (hQ _ _ _ ⟨lc_some (by rw [show (i).toNat = 12 from by omega, if_pos h_2_0]), rfl, rfl⟩)
        · skip
          refine lc_iconst dX11_packed_21 ?_
          refine lc_iload_n dX11_packed_22 rfl 2 rfl ?_
          refine lc_imul dX11_packed_23 ?_
          refine lc_aload_n dX11_packed_24 rfl 0 rfl ?_
          refine lc_bipush dX11_packed_25 (by decide) ?_
          refine lc_bipush dX11_packed_27 (by decide) ?_
          refine lc_iload_n dX11_packed_29 rfl 1 rfl ?_
          refine lc_imul dX11_packed_30 ?_
          refine lc_iadd dX11_packed_31 ?_
          refine lc_iload_n dX11_packed_32 rfl 3 rfl ?_
          refine lc_iadd dX11_packed_33 ?_
          refine lc_iald dX11_packed_34 h0_0 (by omega) (by decide) ?_
          refine lc_top (congrArg (fun z => Value.int (lc_i z)) (show ((N) (((6) + ((12) * (x))) + (i)) : Int) = f (12 * x + i) from by have h9 := h6R (12 * x + i) (by omega) (by omega); rw [← h9]; congr 1; omega)) ?_
          refine lc_iadd dX11_packed_35 ?_
          refine lc_istore_n (lv' := [(0, .ref (a)), (1, .int (lc_i (x))), (2, .int (lc_i (((3) * (lc_pk f s (12 * x) (i).toNat)) + (f (12 * x + i))))), (3, .int (lc_i (i)))]) dX11_packed_36 rfl (by decide) rfl ?_
          refine lc_iinc (lv' := [(0, .ref (a)), (1, .int (lc_i (x))), (2, .int (lc_i (((3) * (lc_pk f s (12 * x) (i).toNat)) + (f (12 * x + i))))), (3, .int (lc_i (i + 1)))]) dX11_packed_37 3 rfl (by decide) rfl ?_
          refine lc_goto (tgt := 15) dX11_packed_40 (by decide) ?_
          refine lc_lveq (lv' := [(0, .ref (a)), (1, .int (lc_i (x))), (2, .int (lc_i (lc_pk f s (12 * x) (i + 1).toNat))), (3, .int (lc_i (i + 1)))]) (by rw [lc_pk_s (f := f) (s := s) (j := 12 * x) hi.1]) ?_
          exact ih9 (i + 1) (by omega) (by omega)
    exact loop8 1000 (0) (by omega) (by omega)

theorem lc_RM_shift {N hh f : Int → Int} {s q m mo ca : Int} {po : Int → Int} (hR : lc_RM N (f, s, q, m, mo, ca, 60, po)) (hlo : ∀ j : Int, 42 ≤ j → j < 219 → hh j = N (j + 3)) (hhi : ∀ j : Int, j < 42 → hh j = N j) : lc_RM (lc_u hh 5 59) (f, s, q, m, mo, ca, 59, fun i => po (i + 1)) := by
  obtain ⟨h0, h1, h2, h3, h4, h5, h6, h7⟩ := hR
  refine ⟨?_, ?_, ?_, ?_, ?_, lc_u_s _ _ _, ?_, ?_⟩
  · rw [lc_u_n _ _ (by omega), hhi _ (by omega)]; exact h0
  · rw [lc_u_n _ _ (by omega), hhi _ (by omega)]; exact h1
  · rw [lc_u_n _ _ (by omega), hhi _ (by omega)]; exact h2
  · rw [lc_u_n _ _ (by omega), hhi _ (by omega)]; exact h3
  · rw [lc_u_n _ _ (by omega), hhi _ (by omega)]; exact h4
  · intro p h8 h9
    rw [lc_u_n _ _ (by omega), hhi _ (by omega)]; exact h6 p h8 h9
  · intro i h8 h9
    have h9 : i < 59 := h9
    obtain ⟨a1, a2, a3⟩ := h7 (i + 1) (by omega) (show i + 1 < 60 by omega)
    refine ⟨?_, ?_, ?_⟩
    · rw [lc_u_n _ _ (by omega), hlo _ (by omega) (by omega), show 42 + 3 * i + 3 = 42 + 3 * (i + 1) by omega]; exact a1
    · rw [lc_u_n _ _ (by omega), hlo _ (by omega) (by omega), show 42 + 3 * i + 1 + 3 = 42 + 3 * (i + 1) + 1 by omega]; exact a2
    · rw [lc_u_n _ _ (by omega), hlo _ (by omega) (by omega), show 42 + 3 * i + 2 + 3 = 42 + 3 * (i + 1) + 2 by omega]; exact a3

theorem lc_RM_o {N f : Int → Int} {s q m mo ca c : Int} {po : Int → Int} (hR : lc_RM N (f, s, q, m, mo, ca, c, po)) (hc : 0 ≤ c) {j v : Int} (hj : 42 + 3 * c ≤ j) : lc_RM (lc_u N j v) (f, s, q, m, mo, ca, c, po) := by
  obtain ⟨h0, h1, h2, h3, h4, h5, h6, h7⟩ := hR
  refine ⟨?_, ?_, ?_, ?_, ?_, ?_, ?_, ?_⟩
  · rw [lc_u_n _ _ (by omega)]; exact h0
  · rw [lc_u_n _ _ (by omega)]; exact h1
  · rw [lc_u_n _ _ (by omega)]; exact h2
  · rw [lc_u_n _ _ (by omega)]; exact h3
  · rw [lc_u_n _ _ (by omega)]; exact h4
  · rw [lc_u_n _ _ (by omega)]; exact h5
  · intro p h8 h9
    rw [lc_u_n _ _ (by omega)]; exact h6 p h8 h9
  · intro i h8 h9
    have h9 : i < c := h9
    obtain ⟨a1, a2, a3⟩ := h7 i h8 h9
    exact ⟨by rw [lc_u_n _ _ (by omega)]; exact a1, by rw [lc_u_n _ _ (by omega)]; exact a2, by rw [lc_u_n _ _ (by omega)]; exact a3⟩

set_option maxRecDepth 100000 in
set_option maxHeartbeats 600000 in
theorem lc_cX11_notes (l : Launch) (n : Nat) (a : Nat) (N : Int → Int) (f : Int → Int) (s q m mo ca ct : Int) (po : Int → Int) (σ : lc_S) (h0_0 : σ (a) = some (lc_aI 222 (N))) (hf : ∀ j : Int, 0 ≤ j → j < 36 → 0 ≤ f j ∧ f j ≤ 2) (hs : 1 ≤ s ∧ s ≤ 2) (hct : 0 ≤ ct ∧ ct ≤ 60) (hR : lc_RM N (f, s, q, m, mo, ca, ct, po)) : lc_Con l yX11_notes cX11_notes 2 none (lc_Rd 1) [.ref (a)] n σ (fun v n2 σ2 => ∃ N2 : Int → Int, v = none ∧ n = n2 ∧ σ2 (a) = some (lc_aI 222 (N2)) ∧ lc_RM N2 (f, s, q, m, mo, ca, lc_rc ct, lc_rp po ct (lc_key f s 36)) ∧ ∀ i : Nat, i ≠ a → σ2 i = σ i) := by
  obtain ⟨h0R, h1R, h2R, h3R, h4R, h5R, h6R, h7R⟩ := id hR
  have h0R : N 0 = s := h0R
  have h1R : N 1 = q := h1R
  have h4R : N 4 = m := h4R
  have h5R : N 5 = ct := h5R
  have h6R : ∀ p : Int, 0 ≤ p → p < 36 → N (6 + p) = f p := h6R
  refine lc_con RX11 false (by decide) rfl (fun h => absurd h (by decide)) (Nat.le_of_ble_eq_true rfl) ?_
  suffices H : ∀ Q : lc_QT, (∀ v n2 σ2, (fun v n2 σ2 => ∃ N2 : Int → Int, v = none ∧ n = n2 ∧ σ2 (a) = some (lc_aI 222 (N2)) ∧ lc_RM N2 (f, s, q, m, mo, ca, lc_rc ct, lc_rp po ct (lc_key f s 36)) ∧ ∀ i : Nat, i ≠ a → σ2 i = σ i : lc_QT) v n2 σ2 → Q v n2 σ2) → lc_V l RX11 cX11_notes 2 none false (lc_Rd 1) (lc_G Q 0 0) lc_E0 0 0 n 0 [(0, .ref (a))] [] σ from H _ (fun _ _ _ h => h)
  intro Q hQ
  refine lc_aload_n dX11_notes_0 rfl 0 rfl ?_
  refine lc_iconst dX11_notes_1 ?_
  refine lc_iald dX11_notes_2 h0_0 (by omega) (by decide) ?_
  refine lc_top (congrArg (fun z => Value.int (lc_i z)) (show ((N) (5) : Int) = ct from h5R)) ?_
  refine lc_bipush dX11_notes_3 (by decide) ?_
  refine lc_icmp_ne (tgt := 39) dX11_notes_5 (by decide) (by omega) (fun h_5_0 => ?_) (fun h_5_0 => ?_)
  · skip
    have hRk := hR
    refine lc_iconst dX11_notes_39 ?_
    refine lc_istore_n (lv' := [(0, .ref (a)), (1, .int (lc_i (0)))]) dX11_notes_40 rfl (by decide) rfl ?_
    refine lc_iload_n dX11_notes_41 rfl 1 rfl ?_
    refine lc_iconst dX11_notes_42 ?_
    refine lc_icmp_ge (tgt := 69) dX11_notes_43 (by decide) (by omega) (fun h_43_1 => ?_) (fun h_43_1 => ?_)
    · exact absurd h_43_1 (by decide)
    · skip
      refine lc_aload_n dX11_notes_46 rfl 0 rfl ?_
      refine lc_bipush dX11_notes_47 (by decide) ?_
      refine lc_iconst dX11_notes_49 ?_
      refine lc_aload_n dX11_notes_50 rfl 0 rfl ?_
      refine lc_iconst dX11_notes_51 ?_
      refine lc_iald dX11_notes_52 h0_0 (by omega) (by decide) ?_
      refine lc_top (congrArg (fun z => Value.int (lc_i z)) (show ((N) (5) : Int) = ct from hRk.2.2.2.2.2.1)) ?_
      refine lc_imul dX11_notes_53 ?_
      refine lc_iadd dX11_notes_54 ?_
      refine lc_iload_n dX11_notes_55 rfl 1 rfl ?_
      refine lc_iadd dX11_notes_56 ?_
      refine lc_top (congrArg (fun z => Value.int (lc_i z)) (show (((42) + ((3) * (ct))) + (0) : Int) = 42 + 3 * (ct) + 0 from by omega)) ?_
      refine lc_aload_n dX11_notes_57 rfl 0 rfl ?_
      refine lc_iload_n dX11_notes_58 rfl 1 rfl ?_
      refine lc_callS (As := [.ref (a), .int (lc_i (0))]) (stk := [.int (lc_i (42 + 3 * (ct) + 0)), .ref (a)]) dX11_notes_59 lc_mX11_67 lc_yX11_packed (lc_cX11_packed l n (a) (N) (f) (s) (q) (m) (mo) (ca) (ct) (po) (0) σ h0_0 (hRk) (by decide)) rfl ⟨Nat.le_of_ble_eq_true rfl, Nat.le_of_ble_eq_true rfl⟩ ⟨Nat.le_of_ble_eq_true rfl, Nat.le_of_ble_eq_true rfl⟩ rfl (Nat.le_of_ble_eq_true rfl) (fun v3 n4 σ5 q6 => ?_)
      obtain ⟨rfl, rfl, rfl⟩ := q6
      refine lc_top (congrArg (fun z => Value.int (lc_i z)) (show (lc_pk (f) (if (0 : Int) = 2 then s else 0) (12 * (0)) 12 : Int) = lc_pk f 0 0 12 from rfl)) ?_
      refine lc_sI dX11_notes_62 h0_0 (by omega) (by decide) (fun σ7 h8 fr9 => ?_)
      have hR10 := lc_RM_o (j := 42 + 3 * (ct) + 0) (v := (lc_pk f 0 0 12)) hRk (by omega) (by omega)
      refine lc_iinc (lv' := [(0, .ref (a)), (1, .int (lc_i (0 + 1)))]) dX11_notes_63 1 rfl (by decide) rfl ?_
      refine lc_goto (tgt := 41) dX11_notes_66 (by decide) ?_
      refine lc_iload_n dX11_notes_41 rfl 1 rfl ?_
      refine lc_iconst dX11_notes_42 ?_
      refine lc_icmp_ge (tgt := 69) dX11_notes_43 (by decide) (by omega) (fun h_43_10 => ?_) (fun h_43_10 => ?_)
      · exact absurd h_43_10 (by decide)
      · skip
        refine lc_aload_n dX11_notes_46 rfl 0 rfl ?_
        refine lc_bipush dX11_notes_47 (by decide) ?_
        refine lc_iconst dX11_notes_49 ?_
        refine lc_aload_n dX11_notes_50 rfl 0 rfl ?_
        refine lc_iconst dX11_notes_51 ?_
        refine lc_iald dX11_notes_52 h8 (by omega) (by decide) ?_
        refine lc_top (congrArg (fun z => Value.int (lc_i z)) (show ((lc_u (N) (42 + 3 * (ct) + 0) (lc_pk f 0 0 12)) (5) : Int) = ct from hR10.2.2.2.2.2.1)) ?_
        refine lc_imul dX11_notes_53 ?_
        refine lc_iadd dX11_notes_54 ?_
        refine lc_iload_n dX11_notes_55 rfl 1 rfl ?_
        refine lc_iadd dX11_notes_56 ?_
        refine lc_top (congrArg (fun z => Value.int (lc_i z)) (show (((42) + ((3) * (ct))) + (0 + 1) : Int) = 42 + 3 * (ct) + 1 from by omega)) ?_
        refine lc_aload_n dX11_notes_57 rfl 0 rfl ?_
        refine lc_iload_n dX11_notes_58 rfl 1 rfl ?_
        refine lc_callS (As := [.ref (a), .int (lc_i (0 + 1))]) (stk := [.int (lc_i (42 + 3 * (ct) + 1)), .ref (a)]) dX11_notes_59 lc_mX11_67 lc_yX11_packed (lc_cX11_packed l n (a) (lc_u (N) (42 + 3 * (ct) + 0) (lc_pk f 0 0 12)) (f) (s) (q) (m) (mo) (ca) (ct) (po) (0 + 1) σ7 h8 (hR10) (by decide)) rfl ⟨Nat.le_of_ble_eq_true rfl, Nat.le_of_ble_eq_true rfl⟩ ⟨Nat.le_of_ble_eq_true rfl, Nat.le_of_ble_eq_true rfl⟩ rfl (Nat.le_of_ble_eq_true rfl) (fun v12 n13 σ14 q15 => ?_)
        obtain ⟨rfl, rfl, rfl⟩ := q15
        refine lc_top (congrArg (fun z => Value.int (lc_i z)) (show (lc_pk (f) (if (0 + 1 : Int) = 2 then s else 0) (12 * (0 + 1)) 12 : Int) = lc_pk f 0 12 12 from rfl)) ?_
        refine lc_sI dX11_notes_62 h8 (by omega) (by decide) (fun σ16 h17 fr18 => ?_)
        have hR19 := lc_RM_o (j := 42 + 3 * (ct) + 1) (v := (lc_pk f 0 12 12)) hR10 (by omega) (by omega)
        refine lc_iinc (lv' := [(0, .ref (a)), (1, .int (lc_i (0 + 1 + 1)))]) dX11_notes_63 1 rfl (by decide) rfl ?_
        refine lc_goto (tgt := 41) dX11_notes_66 (by decide) ?_
        refine lc_iload_n dX11_notes_41 rfl 1 rfl ?_
        refine lc_iconst dX11_notes_42 ?_
        refine lc_icmp_ge (tgt := 69) dX11_notes_43 (by decide) (by omega) (fun h_43_19 => ?_) (fun h_43_19 => ?_)
        · exact absurd h_43_19 (by decide)
        · skip
          refine lc_aload_n dX11_notes_46 rfl 0 rfl ?_
          refine lc_bipush dX11_notes_47 (by decide) ?_
          refine lc_iconst dX11_notes_49 ?_
          refine lc_aload_n dX11_notes_50 rfl 0 rfl ?_
          refine lc_iconst dX11_notes_51 ?_
          refine lc_iald dX11_notes_52 h17 (by omega) (by decide) ?_
          refine lc_top (congrArg (fun z => Value.int (lc_i z)) (show ((lc_u (lc_u (N) (42 + 3 * (ct) + 0) (lc_pk f 0 0 12)) (42 + 3 * (ct) + 1) (lc_pk f 0 12 12)) (5) : Int) = ct from hR19.2.2.2.2.2.1)) ?_
          refine lc_imul dX11_notes_53 ?_
          refine lc_iadd dX11_notes_54 ?_
          refine lc_iload_n dX11_notes_55 rfl 1 rfl ?_
          refine lc_iadd dX11_notes_56 ?_
          refine lc_top (congrArg (fun z => Value.int (lc_i z)) (show (((42) + ((3) * (ct))) + (0 + 1 + 1) : Int) = 42 + 3 * (ct) + 2 from by omega)) ?_
          refine lc_aload_n dX11_notes_57 rfl 0 rfl ?_
          refine lc_iload_n dX11_notes_58 rfl 1 rfl ?_
          refine lc_callS (As := [.ref (a), .int (lc_i (0 + 1 + 1))]) (stk := [.int (lc_i (42 + 3 * (ct) + 2)), .ref (a)]) dX11_notes_59 lc_mX11_67 lc_yX11_packed (lc_cX11_packed l n (a) (lc_u (lc_u (N) (42 + 3 * (ct) + 0) (lc_pk f 0 0 12)) (42 + 3 * (ct) + 1) (lc_pk f 0 12 12)) (f) (s) (q) (m) (mo) (ca) (ct) (po) (0 + 1 + 1) σ16 h17 (hR19) (by decide)) rfl ⟨Nat.le_of_ble_eq_true rfl, Nat.le_of_ble_eq_true rfl⟩ ⟨Nat.le_of_ble_eq_true rfl, Nat.le_of_ble_eq_true rfl⟩ rfl (Nat.le_of_ble_eq_true rfl) (fun v21 n22 σ23 q24 => ?_)
          obtain ⟨rfl, rfl, rfl⟩ := q24
          refine lc_top (congrArg (fun z => Value.int (lc_i z)) (show (lc_pk (f) (if (0 + 1 + 1 : Int) = 2 then s else 0) (12 * (0 + 1 + 1)) 12 : Int) = lc_pk f s 24 12 from rfl)) ?_
          refine lc_sI dX11_notes_62 h17 (by omega) (by decide) (fun σ25 h26 fr27 => ?_)
          have hR28 := lc_RM_o (j := 42 + 3 * (ct) + 2) (v := (lc_pk f s 24 12)) hR19 (by omega) (by omega)
          refine lc_iinc (lv' := [(0, .ref (a)), (1, .int (lc_i (0 + 1 + 1 + 1)))]) dX11_notes_63 1 rfl (by decide) rfl ?_
          refine lc_goto (tgt := 41) dX11_notes_66 (by decide) ?_
          refine lc_iload_n dX11_notes_41 rfl 1 rfl ?_
          refine lc_iconst dX11_notes_42 ?_
          refine lc_icmp_ge (tgt := 69) dX11_notes_43 (by decide) (by omega) (fun h_43_28 => ?_) (fun h_43_28 => ?_)
          · skip
            refine lc_aload_n dX11_notes_69 rfl 0 rfl ?_
            refine lc_iconst dX11_notes_70 ?_
            refine lc_dup2 dX11_notes_71 rfl rfl ?_
            refine lc_iald dX11_notes_72 h26 (by omega) (by decide) ?_
            refine lc_top (congrArg (fun z => Value.int (lc_i z)) (show ((lc_u (lc_u (lc_u (N) (42 + 3 * (ct) + 0) (lc_pk f 0 0 12)) (42 + 3 * (ct) + 1) (lc_pk f 0 12 12)) (42 + 3 * (ct) + 2) (lc_pk f s 24 12)) (5) : Int) = ct from hR28.2.2.2.2.2.1)) ?_
            refine lc_iconst dX11_notes_73 ?_
            refine lc_iadd dX11_notes_74 ?_
            refine lc_sI dX11_notes_75 h26 (by omega) (by decide) (fun σ30 h31 fr32 => ?_)
            exact lc_vret dX11_notes_76 rfl (Nat.le_of_ble_eq_true rfl) (Nat.le_of_ble_eq_true rfl) (hQ _ _ _ ⟨_, rfl, rfl, h31, (by rw [show lc_rc ct = ct + 1 from (by unfold lc_rc; split <;> omega), lc_rp_0 (by omega)]; exact lc_RM_note hf hs hRk (by omega)), (fun i _ => ((fr32 i (by omega)).trans ((fr27 i (by omega)).trans ((fr18 i (by omega)).trans (fr9 i (by omega))))))⟩)
          · exact absurd h_43_28 (by decide)
  · skip
    refine lc_bipush dX11_notes_8 (by decide) ?_
    refine lc_istore_n (lv' := [(0, .ref (a)), (1, .int (lc_i (42)))]) dX11_notes_10 rfl (by decide) rfl ?_
    have loop34 : ∀ (N33 : Nat) (k : Int) (hh : Int → Int) (σ36 : lc_S), (σ36 (a) = some (lc_aI 222 (hh))) → (∀ i : Nat, i ≠ a → σ36 i = σ i) → (42 ≤ k ∧ k ≤ 219) → (∀ j : Int, 42 ≤ j → j < k → hh j = N (j + 3)) → (∀ j : Int, (j < 42 ∨ k ≤ j) → hh j = N j) → 219 - k < (N33 : Int) → lc_V l RX11 cX11_notes 2 none false (lc_Rd 1) (lc_G Q 0 0) lc_E0 0 0 n 11 [(0, .ref (a)), (1, .int (lc_i (k)))] [] σ36 := by
      intro N33
      induction N33 with
      | zero =>
        intro k hh σ36 h37 fr38 hk hlo hhi hm39
        exact absurd hm39 (by omega)
      | succ N33 ih35 =>
        intro k hh σ36 h37 fr38 hk hlo hhi hm39
        refine lc_iload_n dX11_notes_11 rfl 1 rfl ?_
        refine lc_sipush dX11_notes_12 (by decide) ?_
        refine lc_icmp_ge (tgt := 32) dX11_notes_15 (by decide) (by omega) (fun h_15_39 => ?_) (fun h_15_39 => ?_)
        · skip
          refine lc_aload_n dX11_notes_32 rfl 0 rfl ?_
          refine lc_iconst dX11_notes_33 ?_
          refine lc_dup2 dX11_notes_34 rfl rfl ?_
          refine lc_iald dX11_notes_35 h37 (by omega) (by decide) ?_
          refine lc_top (congrArg (fun z => Value.int (lc_i z)) (show ((hh) (5) : Int) = (60 : Int) from by rw [hhi 5 (by omega), h5R]; omega)) ?_
          refine lc_iconst dX11_notes_36 ?_
          refine lc_isub dX11_notes_37 ?_
          refine lc_top (congrArg (fun z => Value.int (lc_i z)) (show (((60 : Int)) - (1) : Int) = 59 from rfl)) ?_
          refine lc_sI dX11_notes_38 h37 (by omega) (by decide) (fun σ41 h42 fr43 => ?_)
          refine lc_extI (g := lc_u hh 5 59) h42 (fun j h1 h2 => by first | rfl | (congr 1; omega)) (fun σ44 h45 fr46 => ?_)
          have hRk := lc_RM_shift (by rw [← show ct = 60 from by omega]; exact hR) (fun j h1 h2 => hlo j h1 (by omega)) (fun j h1 => hhi j (Or.inl h1))
          refine lc_iconst dX11_notes_39 ?_
          refine lc_istore_n (lv' := [(0, .ref (a)), (1, .int (lc_i (0)))]) dX11_notes_40 rfl (by decide) rfl ?_
          refine lc_iload_n dX11_notes_41 rfl 1 rfl ?_
          refine lc_iconst dX11_notes_42 ?_
          refine lc_icmp_ge (tgt := 69) dX11_notes_43 (by decide) (by omega) (fun h_43_46 => ?_) (fun h_43_46 => ?_)
          · exact absurd h_43_46 (by decide)
          · skip
            refine lc_aload_n dX11_notes_46 rfl 0 rfl ?_
            refine lc_bipush dX11_notes_47 (by decide) ?_
            refine lc_iconst dX11_notes_49 ?_
            refine lc_aload_n dX11_notes_50 rfl 0 rfl ?_
            refine lc_iconst dX11_notes_51 ?_
            refine lc_iald dX11_notes_52 h45 (by omega) (by decide) ?_
            refine lc_top (congrArg (fun z => Value.int (lc_i z)) (show ((lc_u hh 5 59) (5) : Int) = 59 from hRk.2.2.2.2.2.1)) ?_
            refine lc_imul dX11_notes_53 ?_
            refine lc_iadd dX11_notes_54 ?_
            refine lc_iload_n dX11_notes_55 rfl 1 rfl ?_
            refine lc_iadd dX11_notes_56 ?_
            refine lc_top (congrArg (fun z => Value.int (lc_i z)) (show (((42) + ((3) * (59))) + (0) : Int) = 42 + 3 * (59) + 0 from by omega)) ?_
            refine lc_aload_n dX11_notes_57 rfl 0 rfl ?_
            refine lc_iload_n dX11_notes_58 rfl 1 rfl ?_
            refine lc_callS (As := [.ref (a), .int (lc_i (0))]) (stk := [.int (lc_i (42 + 3 * (59) + 0)), .ref (a)]) dX11_notes_59 lc_mX11_67 lc_yX11_packed (lc_cX11_packed l n (a) (lc_u hh 5 59) (f) (s) (q) (m) (mo) (ca) (59) (fun i : Int => po (i + 1)) (0) σ44 h45 (hRk) (by decide)) rfl ⟨Nat.le_of_ble_eq_true rfl, Nat.le_of_ble_eq_true rfl⟩ ⟨Nat.le_of_ble_eq_true rfl, Nat.le_of_ble_eq_true rfl⟩ rfl (Nat.le_of_ble_eq_true rfl) (fun v48 n49 σ50 q51 => ?_)
            obtain ⟨rfl, rfl, rfl⟩ := q51
            refine lc_top (congrArg (fun z => Value.int (lc_i z)) (show (lc_pk (f) (if (0 : Int) = 2 then s else 0) (12 * (0)) 12 : Int) = lc_pk f 0 0 12 from rfl)) ?_
            refine lc_sI dX11_notes_62 h45 (by omega) (by decide) (fun σ52 h53 fr54 => ?_)
            have hR55 := lc_RM_o (j := 42 + 3 * (59) + 0) (v := (lc_pk f 0 0 12)) hRk (by omega) (by omega)
            refine lc_iinc (lv' := [(0, .ref (a)), (1, .int (lc_i (0 + 1)))]) dX11_notes_63 1 rfl (by decide) rfl ?_
            refine lc_goto (tgt := 41) dX11_notes_66 (by decide) ?_
            refine lc_iload_n dX11_notes_41 rfl 1 rfl ?_
            refine lc_iconst dX11_notes_42 ?_
            refine lc_icmp_ge (tgt := 69) dX11_notes_43 (by decide) (by omega) (fun h_43_55 => ?_) (fun h_43_55 => ?_)
            · exact absurd h_43_55 (by decide)
            · skip
              refine lc_aload_n dX11_notes_46 rfl 0 rfl ?_
              refine lc_bipush dX11_notes_47 (by decide) ?_
              refine lc_iconst dX11_notes_49 ?_
              refine lc_aload_n dX11_notes_50 rfl 0 rfl ?_
              refine lc_iconst dX11_notes_51 ?_
              refine lc_iald dX11_notes_52 h53 (by omega) (by decide) ?_
              refine lc_top (congrArg (fun z => Value.int (lc_i z)) (show ((lc_u (lc_u hh 5 59) (42 + 3 * (59) + 0) (lc_pk f 0 0 12)) (5) : Int) = 59 from hR55.2.2.2.2.2.1)) ?_
              refine lc_imul dX11_notes_53 ?_
              refine lc_iadd dX11_notes_54 ?_
              refine lc_iload_n dX11_notes_55 rfl 1 rfl ?_
              refine lc_iadd dX11_notes_56 ?_
              refine lc_top (congrArg (fun z => Value.int (lc_i z)) (show (((42) + ((3) * (59))) + (0 + 1) : Int) = 42 + 3 * (59) + 1 from by omega)) ?_
              refine lc_aload_n dX11_notes_57 rfl 0 rfl ?_
              refine lc_iload_n dX11_notes_58 rfl 1 rfl ?_
              refine lc_callS (As := [.ref (a), .int (lc_i (0 + 1))]) (stk := [.int (lc_i (42 + 3 * (59) + 1)), .ref (a)]) dX11_notes_59 lc_mX11_67 lc_yX11_packed (lc_cX11_packed l n (a) (lc_u (lc_u hh 5 59) (42 + 3 * (59) + 0) (lc_pk f 0 0 12)) (f) (s) (q) (m) (mo) (ca) (59) (fun i : Int => po (i + 1)) (0 + 1) σ52 h53 (hR55) (by decide)) rfl ⟨Nat.le_of_ble_eq_true rfl, Nat.le_of_ble_eq_true rfl⟩ ⟨Nat.le_of_ble_eq_true rfl, Nat.le_of_ble_eq_true rfl⟩ rfl (Nat.le_of_ble_eq_true rfl) (fun v57 n58 σ59 q60 => ?_)
              obtain ⟨rfl, rfl, rfl⟩ := q60
              refine lc_top (congrArg (fun z => Value.int (lc_i z)) (show (lc_pk (f) (if (0 + 1 : Int) = 2 then s else 0) (12 * (0 + 1)) 12 : Int) = lc_pk f 0 12 12 from rfl)) ?_
              refine lc_sI dX11_notes_62 h53 (by omega) (by decide) (fun σ61 h62 fr63 => ?_)
              have hR64 := lc_RM_o (j := 42 + 3 * (59) + 1) (v := (lc_pk f 0 12 12)) hR55 (by omega) (by omega)
              refine lc_iinc (lv' := [(0, .ref (a)), (1, .int (lc_i (0 + 1 + 1)))]) dX11_notes_63 1 rfl (by decide) rfl ?_
              refine lc_goto (tgt := 41) dX11_notes_66 (by decide) ?_
              refine lc_iload_n dX11_notes_41 rfl 1 rfl ?_
              refine lc_iconst dX11_notes_42 ?_
              refine lc_icmp_ge (tgt := 69) dX11_notes_43 (by decide) (by omega) (fun h_43_64 => ?_) (fun h_43_64 => ?_)
              · exact absurd h_43_64 (by decide)
              · skip
                refine lc_aload_n dX11_notes_46 rfl 0 rfl ?_
                refine lc_bipush dX11_notes_47 (by decide) ?_
                refine lc_iconst dX11_notes_49 ?_
                refine lc_aload_n dX11_notes_50 rfl 0 rfl ?_
                refine lc_iconst dX11_notes_51 ?_
                refine lc_iald dX11_notes_52 h62 (by omega) (by decide) ?_
                refine lc_top (congrArg (fun z => Value.int (lc_i z)) (show ((lc_u (lc_u (lc_u hh 5 59) (42 + 3 * (59) + 0) (lc_pk f 0 0 12)) (42 + 3 * (59) + 1) (lc_pk f 0 12 12)) (5) : Int) = 59 from hR64.2.2.2.2.2.1)) ?_
                refine lc_imul dX11_notes_53 ?_
                refine lc_iadd dX11_notes_54 ?_
                refine lc_iload_n dX11_notes_55 rfl 1 rfl ?_
                refine lc_iadd dX11_notes_56 ?_
                refine lc_top (congrArg (fun z => Value.int (lc_i z)) (show (((42) + ((3) * (59))) + (0 + 1 + 1) : Int) = 42 + 3 * (59) + 2 from by omega)) ?_
                refine lc_aload_n dX11_notes_57 rfl 0 rfl ?_
                refine lc_iload_n dX11_notes_58 rfl 1 rfl ?_
                refine lc_callS (As := [.ref (a), .int (lc_i (0 + 1 + 1))]) (stk := [.int (lc_i (42 + 3 * (59) + 2)), .ref (a)]) dX11_notes_59 lc_mX11_67 lc_yX11_packed (lc_cX11_packed l n (a) (lc_u (lc_u (lc_u hh 5 59) (42 + 3 * (59) + 0) (lc_pk f 0 0 12)) (42 + 3 * (59) + 1) (lc_pk f 0 12 12)) (f) (s) (q) (m) (mo) (ca) (59) (fun i : Int => po (i + 1)) (0 + 1 + 1) σ61 h62 (hR64) (by decide)) rfl ⟨Nat.le_of_ble_eq_true rfl, Nat.le_of_ble_eq_true rfl⟩ ⟨Nat.le_of_ble_eq_true rfl, Nat.le_of_ble_eq_true rfl⟩ rfl (Nat.le_of_ble_eq_true rfl) (fun v66 n67 σ68 q69 => ?_)
                obtain ⟨rfl, rfl, rfl⟩ := q69
                refine lc_top (congrArg (fun z => Value.int (lc_i z)) (show (lc_pk (f) (if (0 + 1 + 1 : Int) = 2 then s else 0) (12 * (0 + 1 + 1)) 12 : Int) = lc_pk f s 24 12 from rfl)) ?_
                refine lc_sI dX11_notes_62 h62 (by omega) (by decide) (fun σ70 h71 fr72 => ?_)
                have hR73 := lc_RM_o (j := 42 + 3 * (59) + 2) (v := (lc_pk f s 24 12)) hR64 (by omega) (by omega)
                refine lc_iinc (lv' := [(0, .ref (a)), (1, .int (lc_i (0 + 1 + 1 + 1)))]) dX11_notes_63 1 rfl (by decide) rfl ?_
                refine lc_goto (tgt := 41) dX11_notes_66 (by decide) ?_
                refine lc_iload_n dX11_notes_41 rfl 1 rfl ?_
                refine lc_iconst dX11_notes_42 ?_
                refine lc_icmp_ge (tgt := 69) dX11_notes_43 (by decide) (by omega) (fun h_43_73 => ?_) (fun h_43_73 => ?_)
                · skip
                  refine lc_aload_n dX11_notes_69 rfl 0 rfl ?_
                  refine lc_iconst dX11_notes_70 ?_
                  refine lc_dup2 dX11_notes_71 rfl rfl ?_
                  refine lc_iald dX11_notes_72 h71 (by omega) (by decide) ?_
                  refine lc_top (congrArg (fun z => Value.int (lc_i z)) (show ((lc_u (lc_u (lc_u (lc_u hh 5 59) (42 + 3 * (59) + 0) (lc_pk f 0 0 12)) (42 + 3 * (59) + 1) (lc_pk f 0 12 12)) (42 + 3 * (59) + 2) (lc_pk f s 24 12)) (5) : Int) = 59 from hR73.2.2.2.2.2.1)) ?_
                  refine lc_iconst dX11_notes_73 ?_
                  refine lc_iadd dX11_notes_74 ?_
                  refine lc_sI dX11_notes_75 h71 (by omega) (by decide) (fun σ75 h76 fr77 => ?_)
                  exact lc_vret dX11_notes_76 rfl (Nat.le_of_ble_eq_true rfl) (Nat.le_of_ble_eq_true rfl) (hQ _ _ _ ⟨_, rfl, rfl, h76, (by rw [show lc_rc ct = 59 + 1 from (by unfold lc_rc; split <;> omega), lc_rp_1 (by omega)]; exact lc_RM_note hf hs hRk (by omega)), (fun i _ => ((fr77 i (by omega)).trans ((fr72 i (by omega)).trans ((fr63 i (by omega)).trans ((fr54 i (by omega)).trans ((fr46 i (by omega)).trans ((fr43 i (by omega)).trans (fr38 i (by omega)))))))))⟩)
                · exact absurd h_43_73 (by decide)
        · skip
          refine lc_aload_n dX11_notes_18 rfl 0 rfl ?_
          refine lc_iload_n dX11_notes_19 rfl 1 rfl ?_
          refine lc_aload_n dX11_notes_20 rfl 0 rfl ?_
          refine lc_iload_n dX11_notes_21 rfl 1 rfl ?_
          refine lc_iconst dX11_notes_22 ?_
          refine lc_iadd dX11_notes_23 ?_
          refine lc_iald dX11_notes_24 h37 (by omega) (by decide) ?_
          refine lc_top (congrArg (fun z => Value.int (lc_i z)) (show ((hh) ((k) + (3)) : Int) = N (k + 3) from hhi _ (by omega))) ?_
          refine lc_sI dX11_notes_25 h37 (by omega) (by decide) (fun σ78 h79 fr80 => ?_)
          refine lc_iinc (lv' := [(0, .ref (a)), (1, .int (lc_i (k + 1)))]) dX11_notes_26 1 rfl (by decide) rfl ?_
          refine lc_goto (tgt := 11) dX11_notes_29 (by decide) ?_
          exact ih35 (k + 1) (lc_u (hh) (k) (N (k + 3))) σ78 h79 (fun i _ => ((fr80 i (by omega)).trans (fr38 i (by omega)))) (by omega) (fun j h1 h2 => by by_cases e9 : j = k; (rw [e9, lc_u_s]); (rw [lc_u_n _ _ e9]; exact hlo j h1 (by omega))) (fun j h1 => by rw [lc_u_n _ _ (by omega)]; exact hhi j (by omega)) (by omega)
    exact loop34 1000 (42) (N) σ h0_0 (fun _ _ => rfl) (by omega) (fun j h1 h2 => absurd h2 (by omega)) (fun j _ => rfl) (by omega)

theorem lc_RM_z {N f : Int → Int} {s q m mo ca c : Int} {po : Int → Int} (hR : lc_RM N (f, s, q, m, mo, ca, c, po)) : lc_RM (lc_u (lc_u N 1 0) 5 0) (f, s, 0, m, mo, ca, 0, po) := by
  obtain ⟨h0, h1, h2, h3, h4, h5, h6, h7⟩ := hR
  refine ⟨?_, ?_, ?_, ?_, ?_, ?_, ?_, ?_⟩
  · rw [lc_u_n _ _ (by omega), lc_u_n _ _ (by omega)]; exact h0
  · rw [lc_u_n _ _ (by omega), lc_u_s]
  · rw [lc_u_n _ _ (by omega), lc_u_n _ _ (by omega)]; exact h2
  · rw [lc_u_n _ _ (by omega), lc_u_n _ _ (by omega)]; exact h3
  · rw [lc_u_n _ _ (by omega), lc_u_n _ _ (by omega)]; exact h4
  · rw [lc_u_s]
  · intro p h8 h9
    rw [lc_u_n _ _ (by omega), lc_u_n _ _ (by omega)]; exact h6 p h8 h9
  · intro i h8 h9
    exact absurd (show i < 0 from h9) (by omega)
theorem lc_RM_mv {N f : Int → Int} {s q m mo ca c x y : Int} {po : Int → Int} (hR : lc_RM N (f, s, q, m, mo, ca, c, po)) (hx : 0 ≤ x ∧ x < 36) (hy : 0 ≤ y ∧ y < 36) {w : Int} : lc_RM (lc_u (lc_u (lc_u (lc_u N (6 + y) w) (6 + x) 0) 0 (3 - s)) 2 (mo + 1)) (lc_u (lc_u f y w) x 0, 3 - s, q, m, mo + 1, ca, c, po) := by
  obtain ⟨h0, h1, h2, h3, h4, h5, h6, h7⟩ := hR
  refine ⟨?_, ?_, ?_, ?_, ?_, ?_, ?_, ?_⟩
  · rw [lc_u_n _ _ (by omega), lc_u_s]
  · rw [lc_u_n _ _ (by omega), lc_u_n _ _ (by omega), lc_u_n _ _ (by omega), lc_u_n _ _ (by omega)]; exact h1
  · rw [lc_u_s]
  · rw [lc_u_n _ _ (by omega), lc_u_n _ _ (by omega), lc_u_n _ _ (by omega), lc_u_n _ _ (by omega)]; exact h3
  · rw [lc_u_n _ _ (by omega), lc_u_n _ _ (by omega), lc_u_n _ _ (by omega), lc_u_n _ _ (by omega)]; exact h4
  · rw [lc_u_n _ _ (by omega), lc_u_n _ _ (by omega), lc_u_n _ _ (by omega), lc_u_n _ _ (by omega)]; exact h5
  · intro p h8 h9
    rw [lc_u_n _ _ (by omega), lc_u_n _ _ (by omega)]
    show _ = lc_u (lc_u f y w) x 0 p
    by_cases e1 : p = x
    · rw [e1, lc_u_s, lc_u_s]
    · rw [lc_u_n _ _ (by omega), lc_u_n _ _ e1]
      by_cases e2 : p = y
      · rw [e2, lc_u_s, lc_u_s]
      · rw [lc_u_n _ _ (by omega), lc_u_n _ _ e2]; exact h6 p h8 h9
  · intro i h8 h9
    have h9 : i < c := h9
    obtain ⟨a1, a2, a3⟩ := h7 i h8 h9
    refine ⟨?_, ?_, ?_⟩
    · rw [lc_u_n _ _ (by omega), lc_u_n _ _ (by omega), lc_u_n _ _ (by omega), lc_u_n _ _ (by omega)]; exact a1
    · rw [lc_u_n _ _ (by omega), lc_u_n _ _ (by omega), lc_u_n _ _ (by omega), lc_u_n _ _ (by omega)]; exact a2
    · rw [lc_u_n _ _ (by omega), lc_u_n _ _ (by omega), lc_u_n _ _ (by omega), lc_u_n _ _ (by omega)]; exact a3
theorem lc_RM_3 {N f : Int → Int} {s q m mo ca c v : Int} {po : Int → Int} (hR : lc_RM N (f, s, q, m, mo, ca, c, po)) : lc_RM (lc_u N 3 v) (f, s, q, m, mo, v, c, po) := by
  obtain ⟨h0, h1, h2, h3, h4, h5, h6, h7⟩ := hR
  refine ⟨?_, ?_, ?_, ?_, ?_, ?_, ?_, ?_⟩
  · rw [lc_u_n _ _ (by omega)]; exact h0
  · rw [lc_u_n _ _ (by omega)]; exact h1
  · rw [lc_u_n _ _ (by omega)]; exact h2
  · rw [lc_u_s]
  · rw [lc_u_n _ _ (by omega)]; exact h4
  · rw [lc_u_n _ _ (by omega)]; exact h5
  · intro p h8 h9
    rw [lc_u_n _ _ (by omega)]; exact h6 p h8 h9
  · intro i h8 h9
    have h9 : i < c := h9
    obtain ⟨a1, a2, a3⟩ := h7 i h8 h9
    exact ⟨by rw [lc_u_n _ _ (by omega)]; exact a1, by rw [lc_u_n _ _ (by omega)]; exact a2, by rw [lc_u_n _ _ (by omega)]; exact a3⟩
theorem lc_RM_1 {N f : Int → Int} {s q m mo ca c v : Int} {po : Int → Int} (hR : lc_RM N (f, s, q, m, mo, ca, c, po)) : lc_RM (lc_u N 1 v) (f, s, v, m, mo, ca, c, po) := by
  obtain ⟨h0, h1, h2, h3, h4, h5, h6, h7⟩ := hR
  refine ⟨?_, ?_, ?_, ?_, ?_, ?_, ?_, ?_⟩
  · rw [lc_u_n _ _ (by omega)]; exact h0
  · rw [lc_u_s]
  · rw [lc_u_n _ _ (by omega)]; exact h2
  · rw [lc_u_n _ _ (by omega)]; exact h3
  · rw [lc_u_n _ _ (by omega)]; exact h4
  · rw [lc_u_n _ _ (by omega)]; exact h5
  · intro p h8 h9
    rw [lc_u_n _ _ (by omega)]; exact h6 p h8 h9
  · intro i h8 h9
    have h9 : i < c := h9
    obtain ⟨a1, a2, a3⟩ := h7 i h8 h9
    exact ⟨by rw [lc_u_n _ _ (by omega)]; exact a1, by rw [lc_u_n _ _ (by omega)]; exact a2, by rw [lc_u_n _ _ (by omega)]; exact a3⟩
theorem lc_RM_4 {N f : Int → Int} {s q m mo ca c v : Int} {po : Int → Int} (hR : lc_RM N (f, s, q, m, mo, ca, c, po)) : lc_RM (lc_u N 4 v) (f, s, q, v, mo, ca, c, po) := by
  obtain ⟨h0, h1, h2, h3, h4, h5, h6, h7⟩ := hR
  refine ⟨?_, ?_, ?_, ?_, ?_, ?_, ?_, ?_⟩
  · rw [lc_u_n _ _ (by omega)]; exact h0
  · rw [lc_u_n _ _ (by omega)]; exact h1
  · rw [lc_u_n _ _ (by omega)]; exact h2
  · rw [lc_u_n _ _ (by omega)]; exact h3
  · rw [lc_u_s]
  · rw [lc_u_n _ _ (by omega)]; exact h5
  · intro p h8 h9
    rw [lc_u_n _ _ (by omega)]; exact h6 p h8 h9
  · intro i h8 h9
    have h9 : i < c := h9
    obtain ⟨a1, a2, a3⟩ := h7 i h8 h9
    exact ⟨by rw [lc_u_n _ _ (by omega)]; exact a1, by rw [lc_u_n _ _ (by omega)]; exact a2, by rw [lc_u_n _ _ (by omega)]; exact a3⟩

set_option maxRecDepth 100000 in
set_option maxHeartbeats 600000 in
theorem lc_cX11_forgets (l : Launch) (n : Nat) (a : Nat) (N : Int → Int) (f : Int → Int) (s q m mo ca ct : Int) (po : Int → Int) (σ : lc_S) (h0_0 : σ (a) = some (lc_aI 222 (N))) (hf : ∀ j : Int, 0 ≤ j → j < 36 → 0 ≤ f j ∧ f j ≤ 2) (hs : 1 ≤ s ∧ s ≤ 2) (hR : lc_RM N (f, s, q, m, mo, ca, ct, po)) : lc_Con l yX11_forgets cX11_forgets 1 none (lc_Rd 2) [.ref (a)] n σ (fun v n2 σ2 => ∃ N2 : Int → Int, v = none ∧ n = n2 ∧ σ2 (a) = some (lc_aI 222 (N2)) ∧ lc_RM N2 (f, s, 0, m, mo, ca, lc_rc 0, lc_rp po 0 (lc_key f s 36)) ∧ ∀ i : Nat, i ≠ a → σ2 i = σ i) := by
  refine lc_con RX11 false (by decide) rfl (fun h => absurd h (by decide)) (Nat.le_of_ble_eq_true rfl) ?_
  suffices H : ∀ Q : lc_QT, (∀ v n2 σ2, (fun v n2 σ2 => ∃ N2 : Int → Int, v = none ∧ n = n2 ∧ σ2 (a) = some (lc_aI 222 (N2)) ∧ lc_RM N2 (f, s, 0, m, mo, ca, lc_rc 0, lc_rp po 0 (lc_key f s 36)) ∧ ∀ i : Nat, i ≠ a → σ2 i = σ i : lc_QT) v n2 σ2 → Q v n2 σ2) → lc_V l RX11 cX11_forgets 1 none false (lc_Rd 2) (lc_G Q 0 0) lc_E0 0 0 n 0 [(0, .ref (a))] [] σ from H _ (fun _ _ _ h => h)
  intro Q hQ
  refine lc_aload_n dX11_forgets_0 rfl 0 rfl ?_
  refine lc_iconst dX11_forgets_1 ?_
  refine lc_iconst dX11_forgets_2 ?_
  refine lc_sI dX11_forgets_3 h0_0 (by omega) (by decide) (fun σ1 h2 fr3 => ?_)
  refine lc_aload_n dX11_forgets_4 rfl 0 rfl ?_
  refine lc_iconst dX11_forgets_5 ?_
  refine lc_iconst dX11_forgets_6 ?_
  refine lc_sI dX11_forgets_7 h2 (by omega) (by decide) (fun σ4 h5 fr6 => ?_)
  have hR7 := lc_RM_z hR
  refine lc_aload_n dX11_forgets_8 rfl 0 rfl ?_
  refine lc_callS (As := [.ref (a)]) (stk := []) dX11_forgets_9 lc_mX11_70 lc_yX11_notes (lc_cX11_notes l n (a) (lc_u (lc_u (N) (1) (0)) (5) (0)) (f) (s) (0) (m) (mo) (ca) (0) (po) σ4 h5 (hf) (hs) (by omega) (hR7)) rfl ⟨Nat.le_of_ble_eq_true rfl, Nat.le_of_ble_eq_true rfl⟩ ⟨Nat.le_of_ble_eq_true rfl, Nat.le_of_ble_eq_true rfl⟩ rfl (Nat.le_of_ble_eq_true rfl) (fun v12 n13 σ14 q15 => ?_)
  obtain ⟨N10, rfl, rfl, h9, hR11, fr8⟩ := q15
  exact lc_vret dX11_forgets_12 rfl (Nat.le_of_ble_eq_true rfl) (Nat.le_of_ble_eq_true rfl) (hQ _ _ _ ⟨_, rfl, rfl, h9, hR11, (fun i _ => ((fr8 i (by omega)).trans ((fr6 i (by omega)).trans (fr3 i (by omega)))))⟩)

theorem lc_mvN_c {f : Int → Int} {s q m mo ca ct x y : Int} {po : Int → Int} (h : ¬ f y = 0) : lc_mvN (f, s, q, m, mo, ca, ct, po) x y = (lc_mvf f s x y, 3 - s, 0, m, mo + 1, ca + 1, lc_rc 0, lc_rp po 0 (lc_key (lc_mvf f s x y) (3 - s) 36)) := by
  unfold lc_mvN lc_mvq lc_mvc lc_mvt lc_mvp
  simp only [if_neg h]
theorem lc_mvN_q {f : Int → Int} {s q m mo ca ct x y : Int} {po : Int → Int} (h : f y = 0) : lc_mvN (f, s, q, m, mo, ca, ct, po) x y = (lc_mvf f s x y, 3 - s, q + 1, m, mo + 1, ca, lc_rc ct, lc_rp po ct (lc_key (lc_mvf f s x y) (3 - s) 36)) := by
  unfold lc_mvN lc_mvq lc_mvc lc_mvt lc_mvp
  simp only [if_pos h]

set_option maxRecDepth 100000 in
set_option maxHeartbeats 600000 in
theorem lc_cX11_makes (l : Launch) (n : Nat) (a : Nat) (N : Int → Int) (f : Int → Int) (s q m mo ca ct : Int) (po : Int → Int) (x y : Int) (σ : lc_S) (h0_0 : σ (a) = some (lc_aI 222 (N))) (hf : ∀ j : Int, 0 ≤ j → j < 36 → 0 ≤ f j ∧ f j ≤ 2) (hs : 1 ≤ s ∧ s ≤ 2) (hct : 0 ≤ ct ∧ ct ≤ 60) (hR : lc_RM N (f, s, q, m, mo, ca, ct, po)) (hx : 0 ≤ x ∧ x < 36) (hy : 0 ≤ y ∧ y < 36) (hfx : f x = s) : lc_Con l yX11_makes cX11_makes 4 none (lc_Rd 3) [.ref (a), .int (lc_i (x)), .int (lc_i (y))] n σ (fun v n2 σ2 => ∃ N2 : Int → Int, v = none ∧ n = n2 ∧ σ2 (a) = some (lc_aI 222 (N2)) ∧ lc_RM N2 (lc_mvN (f, s, q, m, mo, ca, ct, po) x y) ∧ ∀ i : Nat, i ≠ a → σ2 i = σ i) := by
  obtain ⟨h0R, h1R, h2R, h3R, h4R, h5R, h6R, h7R⟩ := id hR
  have h0R : N 0 = s := h0R
  have h1R : N 1 = q := h1R
  have h4R : N 4 = m := h4R
  have h5R : N 5 = ct := h5R
  have h6R : ∀ p : Int, 0 ≤ p → p < 36 → N (6 + p) = f p := h6R
  have h2R : N 2 = mo := h2R
  have h3R : N 3 = ca := h3R
  have hfy := hf y hy.1 hy.2
  refine lc_con RX11 false (by decide) rfl (fun h => absurd h (by decide)) (Nat.le_of_ble_eq_true rfl) ?_
  suffices H : ∀ Q : lc_QT, (∀ v n2 σ2, (fun v n2 σ2 => ∃ N2 : Int → Int, v = none ∧ n = n2 ∧ σ2 (a) = some (lc_aI 222 (N2)) ∧ lc_RM N2 (lc_mvN (f, s, q, m, mo, ca, ct, po) x y) ∧ ∀ i : Nat, i ≠ a → σ2 i = σ i : lc_QT) v n2 σ2 → Q v n2 σ2) → lc_V l RX11 cX11_makes 4 none false (lc_Rd 3) (lc_G Q 0 0) lc_E0 0 0 n 0 [(0, .ref (a)), (1, .int (lc_i (x))), (2, .int (lc_i (y)))] [] σ from H _ (fun _ _ _ h => h)
  intro Q hQ
  refine lc_aload_n dX11_makes_0 rfl 0 rfl ?_
  refine lc_bipush dX11_makes_1 (by decide) ?_
  refine lc_iload_n dX11_makes_3 rfl 2 rfl ?_
  refine lc_iadd dX11_makes_4 ?_
  refine lc_iald dX11_makes_5 h0_0 (by omega) (by decide) ?_
  refine lc_top (congrArg (fun z => Value.int (lc_i z)) (show ((N) ((6) + (y)) : Int) = f y from h6R y (by omega) (by omega))) ?_
  refine lc_if_le (tgt := 13) dX11_makes_6 (by decide) (by omega) (fun h_6_0 => ?_) (fun h_6_0 => ?_)
  · skip
    refine lc_iconst dX11_makes_13 ?_
    refine lc_istore_n (lv' := [(0, .ref (a)), (1, .int (lc_i (x))), (2, .int (lc_i (y))), (3, .int (lc_i (0)))]) dX11_makes_14 rfl (by decide) rfl ?_
    refine lc_aload_n dX11_makes_15 rfl 0 rfl ?_
    refine lc_bipush dX11_makes_16 (by decide) ?_
    refine lc_iload_n dX11_makes_18 rfl 2 rfl ?_
    refine lc_iadd dX11_makes_19 ?_
    refine lc_aload_n dX11_makes_20 rfl 0 rfl ?_
    refine lc_bipush dX11_makes_21 (by decide) ?_
    refine lc_iload_n dX11_makes_23 rfl 1 rfl ?_
    refine lc_iadd dX11_makes_24 ?_
    refine lc_iald dX11_makes_25 h0_0 (by omega) (by decide) ?_
    refine lc_top (congrArg (fun z => Value.int (lc_i z)) (show ((N) ((6) + (x)) : Int) = s from (h6R x (by omega) (by omega)).trans hfx)) ?_
    refine lc_sI dX11_makes_26 h0_0 (by omega) (by decide) (fun σ2 h3 fr4 => ?_)
    refine lc_aload_n dX11_makes_27 rfl 0 rfl ?_
    refine lc_bipush dX11_makes_28 (by decide) ?_
    refine lc_iload_n dX11_makes_30 rfl 1 rfl ?_
    refine lc_iadd dX11_makes_31 ?_
    refine lc_iconst dX11_makes_32 ?_
    refine lc_sI dX11_makes_33 h3 (by omega) (by decide) (fun σ5 h6 fr7 => ?_)
    refine lc_aload_n dX11_makes_34 rfl 0 rfl ?_
    refine lc_iconst dX11_makes_35 ?_
    refine lc_iconst dX11_makes_36 ?_
    refine lc_aload_n dX11_makes_37 rfl 0 rfl ?_
    refine lc_iconst dX11_makes_38 ?_
    refine lc_iald dX11_makes_39 h6 (by omega) (by decide) ?_
    refine lc_top (congrArg (fun z => Value.int (lc_i z)) (show ((lc_u (lc_u (N) ((6) + (y)) (s)) ((6) + (x)) (0)) (0) : Int) = s from by rw [lc_u_n _ _ (by omega), lc_u_n _ _ (by omega)]; exact h0R)) ?_
    refine lc_isub dX11_makes_40 ?_
    refine lc_sI dX11_makes_41 h6 (by omega) (by decide) (fun σ8 h9 fr10 => ?_)
    refine lc_aload_n dX11_makes_42 rfl 0 rfl ?_
    refine lc_iconst dX11_makes_43 ?_
    refine lc_dup2 dX11_makes_44 rfl rfl ?_
    refine lc_iald dX11_makes_45 h9 (by omega) (by decide) ?_
    refine lc_top (congrArg (fun z => Value.int (lc_i z)) (show ((lc_u (lc_u (lc_u (N) ((6) + (y)) (s)) ((6) + (x)) (0)) (0) ((3) - (s))) (2) : Int) = mo from by rw [lc_u_n _ _ (by omega), lc_u_n _ _ (by omega), lc_u_n _ _ (by omega)]; exact h2R)) ?_
    refine lc_iconst dX11_makes_46 ?_
    refine lc_iadd dX11_makes_47 ?_
    refine lc_sI dX11_makes_48 h9 (by omega) (by decide) (fun σ11 h12 fr13 => ?_)
    have hR14 := lc_RM_mv (w := s) hR hx hy
    refine lc_iload_n dX11_makes_49 rfl 3 rfl ?_
    refine lc_if_eq (tgt := 67) dX11_makes_50 (by decide) (by omega) (fun h_50_14 => ?_) (fun h_50_14 => ?_)
    · skip
      refine lc_aload_n dX11_makes_67 rfl 0 rfl ?_
      refine lc_iconst dX11_makes_68 ?_
      refine lc_dup2 dX11_makes_69 rfl rfl ?_
      refine lc_iald dX11_makes_70 h12 (by omega) (by decide) ?_
      refine lc_top (congrArg (fun z => Value.int (lc_i z)) (show ((lc_u (lc_u (lc_u (lc_u (N) ((6) + (y)) (s)) ((6) + (x)) (0)) (0) ((3) - (s))) (2) ((mo) + (1))) (1) : Int) = q from by rw [lc_u_n _ _ (by omega), lc_u_n _ _ (by omega), lc_u_n _ _ (by omega), lc_u_n _ _ (by omega)]; exact h1R)) ?_
      refine lc_iconst dX11_makes_71 ?_
      refine lc_iadd dX11_makes_72 ?_
      refine lc_sI dX11_makes_73 h12 (by omega) (by decide) (fun σ16 h17 fr18 => ?_)
      have hR19 := lc_RM_1 (v := q + 1) hR14
      refine lc_aload_n dX11_makes_74 rfl 0 rfl ?_
      refine lc_callS (As := [.ref (a)]) (stk := []) dX11_makes_75 lc_mX11_70 lc_yX11_notes (lc_cX11_notes l n (a) (lc_u (lc_u (lc_u (lc_u (lc_u (N) ((6) + (y)) (s)) ((6) + (x)) (0)) (0) ((3) - (s))) (2) ((mo) + (1))) (1) ((q) + (1))) (lc_mvf f s x y) (3 - s) (q + 1) (m) (mo + 1) (ca) (ct) (po) σ16 h17 (lc_mvf_ok hf hs) (by omega) (hct) (hR19)) rfl ⟨Nat.le_of_ble_eq_true rfl, Nat.le_of_ble_eq_true rfl⟩ ⟨Nat.le_of_ble_eq_true rfl, Nat.le_of_ble_eq_true rfl⟩ rfl (Nat.le_of_ble_eq_true rfl) (fun v24 n25 σ26 q27 => ?_)
      obtain ⟨N22, rfl, rfl, h21, hR23, fr20⟩ := q27
      exact lc_vret dX11_makes_78 rfl (Nat.le_of_ble_eq_true rfl) (Nat.le_of_ble_eq_true rfl) (hQ _ _ _ ⟨_, rfl, rfl, h21, (by rw [lc_mvN_q (show f y = 0 from by omega)]; exact hR23), (fun i _ => ((fr20 i (by omega)).trans ((fr18 i (by omega)).trans ((fr13 i (by omega)).trans ((fr10 i (by omega)).trans ((fr7 i (by omega)).trans (fr4 i (by omega))))))))⟩)
    · exact absurd h_50_14 (by decide)
  · skip
    refine lc_iconst dX11_makes_9 ?_
    refine lc_goto (tgt := 14) dX11_makes_10 (by decide) ?_
    refine lc_istore_n (lv' := [(0, .ref (a)), (1, .int (lc_i (x))), (2, .int (lc_i (y))), (3, .int (lc_i (1)))]) dX11_makes_14 rfl (by decide) rfl ?_
    refine lc_aload_n dX11_makes_15 rfl 0 rfl ?_
    refine lc_bipush dX11_makes_16 (by decide) ?_
    refine lc_iload_n dX11_makes_18 rfl 2 rfl ?_
    refine lc_iadd dX11_makes_19 ?_
    refine lc_aload_n dX11_makes_20 rfl 0 rfl ?_
    refine lc_bipush dX11_makes_21 (by decide) ?_
    refine lc_iload_n dX11_makes_23 rfl 1 rfl ?_
    refine lc_iadd dX11_makes_24 ?_
    refine lc_iald dX11_makes_25 h0_0 (by omega) (by decide) ?_
    refine lc_top (congrArg (fun z => Value.int (lc_i z)) (show ((N) ((6) + (x)) : Int) = s from (h6R x (by omega) (by omega)).trans hfx)) ?_
    refine lc_sI dX11_makes_26 h0_0 (by omega) (by decide) (fun σ28 h29 fr30 => ?_)
    refine lc_aload_n dX11_makes_27 rfl 0 rfl ?_
    refine lc_bipush dX11_makes_28 (by decide) ?_
    refine lc_iload_n dX11_makes_30 rfl 1 rfl ?_
    refine lc_iadd dX11_makes_31 ?_
    refine lc_iconst dX11_makes_32 ?_
    refine lc_sI dX11_makes_33 h29 (by omega) (by decide) (fun σ31 h32 fr33 => ?_)
    refine lc_aload_n dX11_makes_34 rfl 0 rfl ?_
    refine lc_iconst dX11_makes_35 ?_
    refine lc_iconst dX11_makes_36 ?_
    refine lc_aload_n dX11_makes_37 rfl 0 rfl ?_
    refine lc_iconst dX11_makes_38 ?_
    refine lc_iald dX11_makes_39 h32 (by omega) (by decide) ?_
    refine lc_top (congrArg (fun z => Value.int (lc_i z)) (show ((lc_u (lc_u (N) ((6) + (y)) (s)) ((6) + (x)) (0)) (0) : Int) = s from by rw [lc_u_n _ _ (by omega), lc_u_n _ _ (by omega)]; exact h0R)) ?_
    refine lc_isub dX11_makes_40 ?_
    refine lc_sI dX11_makes_41 h32 (by omega) (by decide) (fun σ34 h35 fr36 => ?_)
    refine lc_aload_n dX11_makes_42 rfl 0 rfl ?_
    refine lc_iconst dX11_makes_43 ?_
    refine lc_dup2 dX11_makes_44 rfl rfl ?_
    refine lc_iald dX11_makes_45 h35 (by omega) (by decide) ?_
    refine lc_top (congrArg (fun z => Value.int (lc_i z)) (show ((lc_u (lc_u (lc_u (N) ((6) + (y)) (s)) ((6) + (x)) (0)) (0) ((3) - (s))) (2) : Int) = mo from by rw [lc_u_n _ _ (by omega), lc_u_n _ _ (by omega), lc_u_n _ _ (by omega)]; exact h2R)) ?_
    refine lc_iconst dX11_makes_46 ?_
    refine lc_iadd dX11_makes_47 ?_
    refine lc_sI dX11_makes_48 h35 (by omega) (by decide) (fun σ37 h38 fr39 => ?_)
    have hR40 := lc_RM_mv (w := s) hR hx hy
    refine lc_iload_n dX11_makes_49 rfl 3 rfl ?_
    refine lc_if_eq (tgt := 67) dX11_makes_50 (by decide) (by omega) (fun h_50_40 => ?_) (fun h_50_40 => ?_)
    · exact absurd h_50_40 (by decide)
    · skip
      refine lc_aload_n dX11_makes_53 rfl 0 rfl ?_
      refine lc_iconst dX11_makes_54 ?_
      refine lc_dup2 dX11_makes_55 rfl rfl ?_
      refine lc_iald dX11_makes_56 h38 (by omega) (by decide) ?_
      refine lc_top (congrArg (fun z => Value.int (lc_i z)) (show ((lc_u (lc_u (lc_u (lc_u (N) ((6) + (y)) (s)) ((6) + (x)) (0)) (0) ((3) - (s))) (2) ((mo) + (1))) (3) : Int) = ca from by rw [lc_u_n _ _ (by omega), lc_u_n _ _ (by omega), lc_u_n _ _ (by omega), lc_u_n _ _ (by omega)]; exact h3R)) ?_
      refine lc_iconst dX11_makes_57 ?_
      refine lc_iadd dX11_makes_58 ?_
      refine lc_sI dX11_makes_59 h38 (by omega) (by decide) (fun σ42 h43 fr44 => ?_)
      have hR45 := lc_RM_3 (v := ca + 1) hR40
      refine lc_aload_n dX11_makes_60 rfl 0 rfl ?_
      refine lc_callS (As := [.ref (a)]) (stk := []) dX11_makes_61 lc_mX11_74 lc_yX11_forgets (lc_cX11_forgets l n (a) (lc_u (lc_u (lc_u (lc_u (lc_u (N) ((6) + (y)) (s)) ((6) + (x)) (0)) (0) ((3) - (s))) (2) ((mo) + (1))) (3) ((ca) + (1))) (lc_mvf f s x y) (3 - s) (q) (m) (mo + 1) (ca + 1) (ct) (po) σ42 h43 (lc_mvf_ok hf hs) (by omega) (hR45)) rfl ⟨Nat.le_of_ble_eq_true rfl, Nat.le_of_ble_eq_true rfl⟩ ⟨Nat.le_of_ble_eq_true rfl, Nat.le_of_ble_eq_true rfl⟩ rfl (Nat.le_of_ble_eq_true rfl) (fun v50 n51 σ52 q53 => ?_)
      obtain ⟨N48, rfl, rfl, h47, hR49, fr46⟩ := q53
      refine lc_goto (tgt := 78) dX11_makes_64 (by decide) ?_
      exact lc_vret dX11_makes_78 rfl (Nat.le_of_ble_eq_true rfl) (Nat.le_of_ble_eq_true rfl) (hQ _ _ _ ⟨_, rfl, rfl, h47, (by rw [lc_mvN_c (show ¬ f y = 0 from by omega)]; exact hR49), (fun i _ => ((fr46 i (by omega)).trans ((fr44 i (by omega)).trans ((fr39 i (by omega)).trans ((fr36 i (by omega)).trans ((fr33 i (by omega)).trans (fr30 i (by omega))))))))⟩)

def lc_go (f : Int → Int) (x d : Int) : Int := if lc_K f x d = 24 ∨ lc_Lo f x d = 0 then -105 else lc_M f x d
def lc_Kp (f : Int → Int) (x d : Int) : Int := if lc_K f x d = 24 then 23 else (lc_K f x d : Int)

set_option maxRecDepth 100000 in
set_option maxHeartbeats 600000 in
theorem lc_cX11_goes (l : Launch) (n : Nat) (a : Nat) (N : Int → Int) (f : Int → Int) (s q m mo ca ct : Int) (po : Int → Int) (kept : Int) (bs : Bool) (z at9 sn sr w1 w2 w3 bw : Int) (x d : Int) (σ : lc_S) (h0_0 : σ (50) = some (.inr (11, [.ref (51), .ref (52), .ref (53), .ref (54), .ref (55), .int (lc_i (kept)), .ref (56), .int (lc_i (if bs = true then 1 else 0)), .ref (57), .int (lc_i (z)), .int (lc_i (at9)), .int (lc_i (sn)), .int (lc_i (sr)), .int (lc_i (w1)), .int (lc_i (w2)), .int (lc_i (w3)), .int (lc_i (bw))]) : lc_Cel)) (h0_1 : σ (a) = some (lc_aI 222 (N))) (ha : 50 < a) (hf : ∀ j : Int, 0 ≤ j → j < 36 → 0 ≤ f j ∧ f j ≤ 2) (hR : lc_RM N (f, s, q, m, mo, ca, ct, po)) (hx : 0 ≤ x ∧ x < 48) (hd : d = 1 ∨ d = -1) : lc_Con l yX11_goes cX11_goes 9 (some .int) (lc_Rd 1) [.ref (50), .ref (a), .int (lc_i (x / 24)), .int (lc_i (x % 24)), .int (lc_i (if 0 < d then 1 else 0))] n σ (fun v n2 σ2 => v = some (.int (lc_i (lc_go f x d))) ∧ n = n2 ∧ σ2 (50) = some (.inr (11, [.ref (51), .ref (52), .ref (53), .ref (54), .ref (55), .int (lc_i (kept)), .ref (56), .int (lc_i (if bs = true then 1 else 0)), .ref (57), .int (lc_i (z)), .int (lc_i (at9)), .int (lc_i (sn)), .int (lc_i (sr)), .int (lc_i (lc_Lo f x d)), .int (lc_i (lc_Kp f x d)), .int (lc_i (w3)), .int (lc_i (bw))]) : lc_Cel) ∧ ∀ i : Nat, i ≠ 50 → σ2 i = σ i) := by
  obtain ⟨h0R, h1R, h2R, h3R, h4R, h5R, h6R, h7R⟩ := id hR
  have h0R : N 0 = s := h0R
  have h1R : N 1 = q := h1R
  have h4R : N 4 = m := h4R
  have h5R : N 5 = ct := h5R
  have h6R : ∀ p : Int, 0 ≤ p → p < 36 → N (6 + p) = f p := h6R
  have hel := lc_el_r d
  have hpx := lc_pt_r hx
  refine lc_con RX11 false (by decide) rfl (fun h => absurd h (by decide)) (Nat.le_of_ble_eq_true rfl) ?_
  suffices H : ∀ Q : lc_QT, (∀ v n2 σ2, (fun v n2 σ2 => v = some (.int (lc_i (lc_go f x d))) ∧ n = n2 ∧ σ2 (50) = some (.inr (11, [.ref (51), .ref (52), .ref (53), .ref (54), .ref (55), .int (lc_i (kept)), .ref (56), .int (lc_i (if bs = true then 1 else 0)), .ref (57), .int (lc_i (z)), .int (lc_i (at9)), .int (lc_i (sn)), .int (lc_i (sr)), .int (lc_i (lc_Lo f x d)), .int (lc_i (lc_Kp f x d)), .int (lc_i (w3)), .int (lc_i (bw))]) : lc_Cel) ∧ ∀ i : Nat, i ≠ 50 → σ2 i = σ i : lc_QT) v n2 σ2 → Q v n2 σ2) → lc_V l RX11 cX11_goes 9 (some .int) false (lc_Rd 1) (lc_G Q 0 0) lc_E0 0 0 n 0 [(0, .ref (50)), (1, .ref (a)), (2, .int (lc_i (x / 24))), (3, .int (lc_i (x % 24))), (4, .int (lc_i (if 0 < d then 1 else 0)))] [] σ from H _ (fun _ _ _ h => h)
  intro Q hQ
  refine lc_iload_n dX11_goes_0 rfl 2 rfl ?_
  refine lc_iload_n dX11_goes_1 rfl 3 rfl ?_
  refine lc_callS (As := [.int (lc_i (x / 24)), .int (lc_i (x % 24))]) (stk := []) dX11_goes_2 lc_mX11_77 lc_yX11_pointAt (lc_cX11_pointAt l n (x / 24) (x % 24) σ (by omega) (by omega)) rfl ⟨Nat.le_of_ble_eq_true rfl, Nat.le_of_ble_eq_true rfl⟩ ⟨Nat.le_of_ble_eq_true rfl, Nat.le_of_ble_eq_true rfl⟩ rfl (Nat.le_of_ble_eq_true rfl) (fun v1 n2 σ3 q4 => ?_)
  obtain ⟨rfl, rfl, rfl⟩ := q4
  refine lc_top (congrArg (fun z => Value.int (lc_i z)) (show (lc_pa (x / 24) (x % 24) : Int) = lc_pt x from rfl)) ?_
  refine lc_istore (lv' := [(0, .ref (50)), (1, .ref (a)), (2, .int (lc_i (x / 24))), (3, .int (lc_i (x % 24))), (4, .int (lc_i (if 0 < d then 1 else 0))), (5, .int (lc_i (lc_pt x)))]) dX11_goes_5 (by decide) rfl ?_
  refine lc_iload_n dX11_goes_7 rfl 3 rfl ?_
  refine lc_istore (lv' := [(0, .ref (50)), (1, .ref (a)), (2, .int (lc_i (x / 24))), (3, .int (lc_i (x % 24))), (4, .int (lc_i (if 0 < d then 1 else 0))), (5, .int (lc_i (lc_pt x))), (6, .int (lc_i (x % 24)))]) dX11_goes_8 (by decide) rfl ?_
  refine lc_aload_n dX11_goes_10 rfl 0 rfl ?_
  refine lc_iconst dX11_goes_11 ?_
  refine lc_wI (vs' := [.ref (51), .ref (52), .ref (53), .ref (54), .ref (55), .int (lc_i (kept)), .ref (56), .int (lc_i (if bs = true then 1 else 0)), .ref (57), .int (lc_i (z)), .int (lc_i (at9)), .int (lc_i (sn)), .int (lc_i (sr)), .int (lc_i (0)), .int (lc_i (w2)), .int (lc_i (w3)), .int (lc_i (bw))]) dX11_goes_12 lc_fX11_81 h0_0 (Nat.le_of_ble_eq_true rfl) rfl rfl rfl (fun σ5 h6 fr7 => ?_)
  have h8 : σ5 (a) = some (lc_aI 222 (N)) := (fr7 _ (by omega)).trans h0_1
  refine lc_aload_n dX11_goes_15 rfl 0 rfl ?_
  refine lc_iconst dX11_goes_16 ?_
  refine lc_wI (vs' := [.ref (51), .ref (52), .ref (53), .ref (54), .ref (55), .int (lc_i (kept)), .ref (56), .int (lc_i (if bs = true then 1 else 0)), .ref (57), .int (lc_i (z)), .int (lc_i (at9)), .int (lc_i (sn)), .int (lc_i (sr)), .int (lc_i (0)), .int (lc_i (0)), .int (lc_i (w3)), .int (lc_i (bw))]) dX11_goes_17 lc_fX11_84 h6 (Nat.le_of_ble_eq_true rfl) rfl rfl rfl (fun σ9 h10 fr11 => ?_)
  have h12 : σ9 (a) = some (lc_aI 222 (N)) := (fr11 _ (by omega)).trans h8
  refine lc_iconst dX11_goes_20 ?_
  refine lc_istore (lv' := [(0, .ref (50)), (1, .ref (a)), (2, .int (lc_i (x / 24))), (3, .int (lc_i (x % 24))), (4, .int (lc_i (if 0 < d then 1 else 0))), (5, .int (lc_i (lc_pt x))), (6, .int (lc_i (x % 24))), (7, .int (lc_i (1)))]) dX11_goes_21 (by decide) rfl ?_
  have loop14 : ∀ (N13 : Nat) (j : Nat) (σ16 : lc_S), (σ16 (50) = some (.inr (11, [.ref (51), .ref (52), .ref (53), .ref (54), .ref (55), .int (lc_i (kept)), .ref (56), .int (lc_i (if bs = true then 1 else 0)), .ref (57), .int (lc_i (z)), .int (lc_i (at9)), .int (lc_i (sn)), .int (lc_i (sr)), .int (lc_i (lc_lo x d j)), .int (lc_i (((j : Nat) : Int))), .int (lc_i (w3)), .int (lc_i (bw))]) : lc_Cel)) → (∀ i : Nat, i ≠ 50 → σ16 i = σ9 i) → (j ≤ 23) → (lc_K f x d = lc_Kf f x d (23 - j) (j + 1)) → 23 - (j : Int) < (N13 : Int) → lc_V l RX11 cX11_goes 9 (some .int) false (lc_Rd 1) (lc_G Q 0 0) lc_E0 0 0 n 23 [(0, .ref (50)), (1, .ref (a)), (2, .int (lc_i (x / 24))), (3, .int (lc_i (x % 24))), (4, .int (lc_i (if 0 < d then 1 else 0))), (5, .int (lc_i (lc_pt x))), (6, .int (lc_i (lc_pl x d j))), (7, .int (lc_i (((j : Nat) : Int) + 1)))] [] σ16 := by
    intro N13
    induction N13 with
    | zero =>
      intro j σ16 h17 fr18 hj hK hm19
      exact absurd hm19 (by omega)
    | succ N13 ih15 =>
      intro j σ16 h17 fr18 hj hK hm19
      have h20 : σ16 (a) = some (lc_aI 222 (N)) := (fr18 _ (by omega)).trans h12
      have hpl := lc_pl_r x d j; have hpl1 := lc_pl_r x d (j + 1); have hwp := lc_wp_r d hx (j + 1); have hlo := lc_lo_r x d j; have hfv := hf (lc_wp x d (j + 1)) hwp.1 hwp.2
      have hlo1 := lc_lo_r x d (j + 1)
      have hLr := lc_Lo_r f x d
      refine lc_iload dX11_goes_23 7 rfl ?_
      refine lc_bipush dX11_goes_25 (by decide) ?_
      refine lc_icmp_ge (tgt := 144) dX11_goes_27 (by decide) (by omega) (fun h_27_20 => ?_) (fun h_27_20 => ?_)
      · skip
        refine lc_bipush dX11_goes_144 (by decide) ?_
        have eK : lc_K f x d = 24 := (lc_Kf_n hK (by omega) hj)
        have ej : j = 23 := (by omega)
        exact lc_iret dX11_goes_146 rfl (Nat.le_of_ble_eq_true rfl) (Nat.le_of_ble_eq_true rfl) (hQ _ _ _ ⟨lc_some (by unfold lc_go; rw [if_pos (Or.inl eK)]), rfl, by rw [lc_Lo_0 eK, show lc_Kp f x d = 23 from if_pos eK, ← ej]; rw [show (23 : Int) = ((j : Nat) : Int) from by omega]; exact h17, (fun i _ => ((fr18 i (by omega)).trans ((fr11 i (by omega)).trans (fr7 i (by omega)))))⟩)
      · skip
        refine lc_aload_n dX11_goes_30 rfl 0 rfl ?_
        refine lc_dup dX11_goes_31 rfl ?_
        refine lc_get dX11_goes_32 lc_fX11_81 h17 rfl ?_
        refine lc_iload dX11_goes_35 4 rfl ?_
        refine lc_if_eqB (tgt := 52) dX11_goes_37 (by decide) (fun h_37_21 => ?_) (fun h_37_21 => ?_)
        · skip
          refine lc_iload dX11_goes_52 6 rfl ?_
          refine lc_bipush dX11_goes_54 (by decide) ?_
          refine lc_irem dX11_goes_56 (by omega) ?_
          refine lc_if_ne (tgt := 64) dX11_goes_57 (by decide) (by omega) (fun h_57_22 => ?_) (fun h_57_22 => ?_)
          · skip
            refine lc_iconst dX11_goes_64 ?_
            refine lc_iadd dX11_goes_65 ?_
            refine lc_top (congrArg (fun z => Value.int (lc_i z)) (show ((lc_lo x d j) + (0) : Int) = lc_lo x d (j + 1) from by rw [lc_lo_s0 (by rw [show lc_el d = 0 from if_neg h_37_21]; omega)]; omega)) ?_
            refine lc_wI (vs' := [.ref (51), .ref (52), .ref (53), .ref (54), .ref (55), .int (lc_i (kept)), .ref (56), .int (lc_i (if bs = true then 1 else 0)), .ref (57), .int (lc_i (z)), .int (lc_i (at9)), .int (lc_i (sn)), .int (lc_i (sr)), .int (lc_i (lc_lo x d (j + 1))), .int (lc_i (((j : Nat) : Int))), .int (lc_i (w3)), .int (lc_i (bw))]) dX11_goes_66 lc_fX11_81 h17 (Nat.le_of_ble_eq_true rfl) rfl rfl rfl (fun σ24 h25 fr26 => ?_)
            have h27 : σ24 (a) = some (lc_aI 222 (N)) := (fr26 _ (by omega)).trans h20
            refine lc_iload dX11_goes_69 6 rfl ?_
            refine lc_iload dX11_goes_71 4 rfl ?_
            refine lc_if_eqB (tgt := 80) dX11_goes_73 (by decide) (fun h_73_27 => ?_) (fun h_73_27 => ?_)
            · skip
              refine lc_bipush dX11_goes_80 (by decide) ?_
              refine lc_iadd dX11_goes_82 ?_
              refine lc_bipush dX11_goes_83 (by decide) ?_
              refine lc_irem dX11_goes_85 (by omega) ?_
              refine lc_top (congrArg (fun z => Value.int (lc_i z)) (show (((lc_pl x d j) + (23)) % (24) : Int) = lc_pl x d (j + 1) from by show _ = (lc_pl x d j + d + 24) % 24; omega)) ?_
              refine lc_istore (lv' := [(0, .ref (50)), (1, .ref (a)), (2, .int (lc_i (x / 24))), (3, .int (lc_i (x % 24))), (4, .int (lc_i (if 0 < d then 1 else 0))), (5, .int (lc_i (lc_pt x))), (6, .int (lc_i (lc_pl x d (j + 1)))), (7, .int (lc_i (((j : Nat) : Int) + 1)))]) dX11_goes_86 (by decide) rfl ?_
              refine lc_aload_n dX11_goes_88 rfl 0 rfl ?_
              refine lc_dup dX11_goes_89 rfl ?_
              refine lc_get dX11_goes_90 lc_fX11_84 h25 rfl ?_
              refine lc_iconst dX11_goes_93 ?_
              refine lc_iadd dX11_goes_94 ?_
              refine lc_top (congrArg (fun z => Value.int (lc_i z)) (show ((((j : Nat) : Int)) + (1) : Int) = ((j + 1 : Nat) : Int) from by omega)) ?_
              refine lc_wI (vs' := [.ref (51), .ref (52), .ref (53), .ref (54), .ref (55), .int (lc_i (kept)), .ref (56), .int (lc_i (if bs = true then 1 else 0)), .ref (57), .int (lc_i (z)), .int (lc_i (at9)), .int (lc_i (sn)), .int (lc_i (sr)), .int (lc_i (lc_lo x d (j + 1))), .int (lc_i (((j + 1 : Nat) : Int))), .int (lc_i (w3)), .int (lc_i (bw))]) dX11_goes_95 lc_fX11_84 h25 (Nat.le_of_ble_eq_true rfl) rfl rfl rfl (fun σ29 h30 fr31 => ?_)
              have h32 : σ29 (a) = some (lc_aI 222 (N)) := (fr31 _ (by omega)).trans h27
              refine lc_iload_n dX11_goes_98 rfl 2 rfl ?_
              refine lc_iload dX11_goes_99 6 rfl ?_
              refine lc_callS (As := [.int (lc_i (x / 24)), .int (lc_i (lc_pl x d (j + 1)))]) (stk := []) dX11_goes_101 lc_mX11_77 lc_yX11_pointAt (lc_cX11_pointAt l n (x / 24) (lc_pl x d (j + 1)) σ29 (by omega) (by omega)) rfl ⟨Nat.le_of_ble_eq_true rfl, Nat.le_of_ble_eq_true rfl⟩ ⟨Nat.le_of_ble_eq_true rfl, Nat.le_of_ble_eq_true rfl⟩ rfl (Nat.le_of_ble_eq_true rfl) (fun v33 n34 σ35 q36 => ?_)
              obtain ⟨rfl, rfl, rfl⟩ := q36
              refine lc_top (congrArg (fun z => Value.int (lc_i z)) (show (lc_pa (x / 24) (lc_pl x d (j + 1)) : Int) = lc_wp x d (j + 1) from by unfold lc_wp lc_pt; rw [show (x - x % 24 + lc_pl x d (j + 1)) / 24 = x / 24 from by omega, show (x - x % 24 + lc_pl x d (j + 1)) % 24 = lc_pl x d (j + 1) from by omega])) ?_
              refine lc_istore (lv' := [(0, .ref (50)), (1, .ref (a)), (2, .int (lc_i (x / 24))), (3, .int (lc_i (x % 24))), (4, .int (lc_i (if 0 < d then 1 else 0))), (5, .int (lc_i (lc_pt x))), (6, .int (lc_i (lc_pl x d (j + 1)))), (7, .int (lc_i (((j : Nat) : Int) + 1))), (8, .int (lc_i (lc_wp x d (j + 1))))]) dX11_goes_104 (by decide) rfl ?_
              refine lc_iload dX11_goes_106 8 rfl ?_
              refine lc_iload dX11_goes_108 5 rfl ?_
              refine lc_icmp_eq (tgt := 138) dX11_goes_110 (by decide) (by omega) (fun h_110_36 => ?_) (fun h_110_36 => ?_)
              · skip
                refine lc_iinc (lv' := [(0, .ref (50)), (1, .ref (a)), (2, .int (lc_i (x / 24))), (3, .int (lc_i (x % 24))), (4, .int (lc_i (if 0 < d then 1 else 0))), (5, .int (lc_i (lc_pt x))), (6, .int (lc_i (lc_pl x d (j + 1)))), (7, .int (lc_i (((j : Nat) : Int) + 1 + 1))), (8, .int (lc_i (lc_wp x d (j + 1))))]) dX11_goes_138 7 rfl (by decide) rfl ?_
                refine lc_goto (tgt := 23) dX11_goes_141 (by decide) ?_
                refine lc_pick (lv' := [(0, .ref (50)), (1, .ref (a)), (2, .int (lc_i (x / 24))), (3, .int (lc_i (x % 24))), (4, .int (lc_i (if 0 < d then 1 else 0))), (5, .int (lc_i (lc_pt x))), (6, .int (lc_i (lc_pl x d (j + 1)))), (7, .int (lc_i (((j : Nat) : Int) + 1 + 1)))]) [0, 1, 2, 3, 4, 5, 6, 7] rfl ?_
                refine lc_lveq (lv' := [(0, .ref (50)), (1, .ref (a)), (2, .int (lc_i (x / 24))), (3, .int (lc_i (x % 24))), (4, .int (lc_i (if 0 < d then 1 else 0))), (5, .int (lc_i (lc_pt x))), (6, .int (lc_i (lc_pl x d (j + 1)))), (7, .int (lc_i (((j + 1 : Nat) : Int) + 1)))]) (by rw [show ((j + 1 : Nat) : Int) + 1 = ((j : Int) + 1) + 1 from by omega]) ?_
                exact ih15 (j + 1) σ29 h30 (fun i _ => ((fr31 i (by omega)).trans ((fr26 i (by omega)).trans (fr18 i (by omega))))) (by omega) (lc_Kf_b hK (by omega) (lc_oc_n1 h_110_36)) (by omega)
              · skip
                refine lc_aload_n dX11_goes_113 rfl 1 rfl ?_
                refine lc_bipush dX11_goes_114 (by decide) ?_
                refine lc_iload dX11_goes_116 8 rfl ?_
                refine lc_iadd dX11_goes_118 ?_
                refine lc_iald dX11_goes_119 h32 (by omega) (by decide) ?_
                refine lc_top (congrArg (fun z => Value.int (lc_i z)) (show ((N) ((6) + (lc_wp x d (j + 1))) : Int) = f (lc_wp x d (j + 1)) from h6R _ hwp.1 hwp.2)) ?_
                refine lc_if_le (tgt := 138) dX11_goes_120 (by decide) (by omega) (fun h_120_37 => ?_) (fun h_120_37 => ?_)
                · skip
                  refine lc_iinc (lv' := [(0, .ref (50)), (1, .ref (a)), (2, .int (lc_i (x / 24))), (3, .int (lc_i (x % 24))), (4, .int (lc_i (if 0 < d then 1 else 0))), (5, .int (lc_i (lc_pt x))), (6, .int (lc_i (lc_pl x d (j + 1)))), (7, .int (lc_i (((j : Nat) : Int) + 1 + 1))), (8, .int (lc_i (lc_wp x d (j + 1))))]) dX11_goes_138 7 rfl (by decide) rfl ?_
                  refine lc_goto (tgt := 23) dX11_goes_141 (by decide) ?_
                  refine lc_pick (lv' := [(0, .ref (50)), (1, .ref (a)), (2, .int (lc_i (x / 24))), (3, .int (lc_i (x % 24))), (4, .int (lc_i (if 0 < d then 1 else 0))), (5, .int (lc_i (lc_pt x))), (6, .int (lc_i (lc_pl x d (j + 1)))), (7, .int (lc_i (((j : Nat) : Int) + 1 + 1)))]) [0, 1, 2, 3, 4, 5, 6, 7] rfl ?_
                  refine lc_lveq (lv' := [(0, .ref (50)), (1, .ref (a)), (2, .int (lc_i (x / 24))), (3, .int (lc_i (x % 24))), (4, .int (lc_i (if 0 < d then 1 else 0))), (5, .int (lc_i (lc_pt x))), (6, .int (lc_i (lc_pl x d (j + 1)))), (7, .int (lc_i (((j + 1 : Nat) : Int) + 1)))]) (by rw [show ((j + 1 : Nat) : Int) + 1 = ((j : Int) + 1) + 1 from by omega]) ?_
                  exact ih15 (j + 1) σ29 h30 (fun i _ => ((fr31 i (by omega)).trans ((fr26 i (by omega)).trans (fr18 i (by omega))))) (by omega) (lc_Kf_b hK (by omega) (lc_oc_n2 (by have := h_120_37; omega))) (by omega)
                · skip
                  refine lc_aload_n dX11_goes_123 rfl 0 rfl ?_
                  refine lc_get dX11_goes_124 lc_fX11_81 h30 rfl ?_
                  refine lc_if_le (tgt := 135) dX11_goes_127 (by decide) (by omega) (fun h_127_38 => ?_) (fun h_127_38 => ?_)
                  · skip
                    refine lc_bipush dX11_goes_135 (by decide) ?_
                    have eK : lc_K f x d = j + 1 := lc_Kf_e hK (by omega) (lc_oc_y h_110_36 (by have := h_120_37; omega))
                    have eL := lc_Lo_1 eK (by omega)
                    exact lc_iret dX11_goes_137 rfl (Nat.le_of_ble_eq_true rfl) (Nat.le_of_ble_eq_true rfl) (hQ _ _ _ ⟨lc_some (by unfold lc_go; rw [if_pos (Or.inr (by omega))]), rfl, by rw [eL, show lc_Kp f x d = ((j + 1 : Nat) : Int) from (by unfold lc_Kp; rw [if_neg (by omega), eK])]; exact h30, (fun i _ => ((fr31 i (by omega)).trans ((fr26 i (by omega)).trans ((fr18 i (by omega)).trans ((fr11 i (by omega)).trans (fr7 i (by omega)))))))⟩)
                  · skip
                    refine lc_iload dX11_goes_130 8 rfl ?_
                    refine lc_goto (tgt := 137) dX11_goes_132 (by decide) ?_
                    have eK : lc_K f x d = j + 1 := lc_Kf_e hK (by omega) (lc_oc_y h_110_36 (by have := h_120_37; omega))
                    have eL := lc_Lo_1 eK (by omega)
                    exact lc_iret dX11_goes_137 rfl (Nat.le_of_ble_eq_true rfl) (Nat.le_of_ble_eq_true rfl) (hQ _ _ _ ⟨lc_some (by unfold lc_go; rw [if_neg (fun q9 => by rcases q9 with q9 | q9 <;> omega), lc_M_1 eK (by omega)]), rfl, by rw [eL, show lc_Kp f x d = ((j + 1 : Nat) : Int) from (by unfold lc_Kp; rw [if_neg (by omega), eK])]; exact h30, (fun i _ => ((fr31 i (by omega)).trans ((fr26 i (by omega)).trans ((fr18 i (by omega)).trans ((fr11 i (by omega)).trans (fr7 i (by omega)))))))⟩)
            · exact absurd h_73_27 h_37_21
          · skip
            refine lc_iconst dX11_goes_60 ?_
            refine lc_goto (tgt := 65) dX11_goes_61 (by decide) ?_
            refine lc_iadd dX11_goes_65 ?_
            refine lc_top (congrArg (fun z => Value.int (lc_i z)) (show ((lc_lo x d j) + (1) : Int) = lc_lo x d (j + 1) from (lc_lo_s1 (by rw [show lc_el d = 0 from if_neg h_37_21]; omega)).symm)) ?_
            refine lc_wI (vs' := [.ref (51), .ref (52), .ref (53), .ref (54), .ref (55), .int (lc_i (kept)), .ref (56), .int (lc_i (if bs = true then 1 else 0)), .ref (57), .int (lc_i (z)), .int (lc_i (at9)), .int (lc_i (sn)), .int (lc_i (sr)), .int (lc_i (lc_lo x d (j + 1))), .int (lc_i (((j : Nat) : Int))), .int (lc_i (w3)), .int (lc_i (bw))]) dX11_goes_66 lc_fX11_81 h17 (Nat.le_of_ble_eq_true rfl) rfl rfl rfl (fun σ40 h41 fr42 => ?_)
            have h43 : σ40 (a) = some (lc_aI 222 (N)) := (fr42 _ (by omega)).trans h20
            refine lc_iload dX11_goes_69 6 rfl ?_
            refine lc_iload dX11_goes_71 4 rfl ?_
            refine lc_if_eqB (tgt := 80) dX11_goes_73 (by decide) (fun h_73_43 => ?_) (fun h_73_43 => ?_)
            · skip
              refine lc_bipush dX11_goes_80 (by decide) ?_
              refine lc_iadd dX11_goes_82 ?_
              refine lc_bipush dX11_goes_83 (by decide) ?_
              refine lc_irem dX11_goes_85 (by omega) ?_
              refine lc_top (congrArg (fun z => Value.int (lc_i z)) (show (((lc_pl x d j) + (23)) % (24) : Int) = lc_pl x d (j + 1) from by show _ = (lc_pl x d j + d + 24) % 24; omega)) ?_
              refine lc_istore (lv' := [(0, .ref (50)), (1, .ref (a)), (2, .int (lc_i (x / 24))), (3, .int (lc_i (x % 24))), (4, .int (lc_i (if 0 < d then 1 else 0))), (5, .int (lc_i (lc_pt x))), (6, .int (lc_i (lc_pl x d (j + 1)))), (7, .int (lc_i (((j : Nat) : Int) + 1)))]) dX11_goes_86 (by decide) rfl ?_
              refine lc_aload_n dX11_goes_88 rfl 0 rfl ?_
              refine lc_dup dX11_goes_89 rfl ?_
              refine lc_get dX11_goes_90 lc_fX11_84 h41 rfl ?_
              refine lc_iconst dX11_goes_93 ?_
              refine lc_iadd dX11_goes_94 ?_
              refine lc_top (congrArg (fun z => Value.int (lc_i z)) (show ((((j : Nat) : Int)) + (1) : Int) = ((j + 1 : Nat) : Int) from by omega)) ?_
              refine lc_wI (vs' := [.ref (51), .ref (52), .ref (53), .ref (54), .ref (55), .int (lc_i (kept)), .ref (56), .int (lc_i (if bs = true then 1 else 0)), .ref (57), .int (lc_i (z)), .int (lc_i (at9)), .int (lc_i (sn)), .int (lc_i (sr)), .int (lc_i (lc_lo x d (j + 1))), .int (lc_i (((j + 1 : Nat) : Int))), .int (lc_i (w3)), .int (lc_i (bw))]) dX11_goes_95 lc_fX11_84 h41 (Nat.le_of_ble_eq_true rfl) rfl rfl rfl (fun σ45 h46 fr47 => ?_)
              have h48 : σ45 (a) = some (lc_aI 222 (N)) := (fr47 _ (by omega)).trans h43
              refine lc_iload_n dX11_goes_98 rfl 2 rfl ?_
              refine lc_iload dX11_goes_99 6 rfl ?_
              refine lc_callS (As := [.int (lc_i (x / 24)), .int (lc_i (lc_pl x d (j + 1)))]) (stk := []) dX11_goes_101 lc_mX11_77 lc_yX11_pointAt (lc_cX11_pointAt l n (x / 24) (lc_pl x d (j + 1)) σ45 (by omega) (by omega)) rfl ⟨Nat.le_of_ble_eq_true rfl, Nat.le_of_ble_eq_true rfl⟩ ⟨Nat.le_of_ble_eq_true rfl, Nat.le_of_ble_eq_true rfl⟩ rfl (Nat.le_of_ble_eq_true rfl) (fun v49 n50 σ51 q52 => ?_)
              obtain ⟨rfl, rfl, rfl⟩ := q52
              refine lc_top (congrArg (fun z => Value.int (lc_i z)) (show (lc_pa (x / 24) (lc_pl x d (j + 1)) : Int) = lc_wp x d (j + 1) from by unfold lc_wp lc_pt; rw [show (x - x % 24 + lc_pl x d (j + 1)) / 24 = x / 24 from by omega, show (x - x % 24 + lc_pl x d (j + 1)) % 24 = lc_pl x d (j + 1) from by omega])) ?_
              refine lc_istore (lv' := [(0, .ref (50)), (1, .ref (a)), (2, .int (lc_i (x / 24))), (3, .int (lc_i (x % 24))), (4, .int (lc_i (if 0 < d then 1 else 0))), (5, .int (lc_i (lc_pt x))), (6, .int (lc_i (lc_pl x d (j + 1)))), (7, .int (lc_i (((j : Nat) : Int) + 1))), (8, .int (lc_i (lc_wp x d (j + 1))))]) dX11_goes_104 (by decide) rfl ?_
              refine lc_iload dX11_goes_106 8 rfl ?_
              refine lc_iload dX11_goes_108 5 rfl ?_
              refine lc_icmp_eq (tgt := 138) dX11_goes_110 (by decide) (by omega) (fun h_110_52 => ?_) (fun h_110_52 => ?_)
              · skip
                refine lc_iinc (lv' := [(0, .ref (50)), (1, .ref (a)), (2, .int (lc_i (x / 24))), (3, .int (lc_i (x % 24))), (4, .int (lc_i (if 0 < d then 1 else 0))), (5, .int (lc_i (lc_pt x))), (6, .int (lc_i (lc_pl x d (j + 1)))), (7, .int (lc_i (((j : Nat) : Int) + 1 + 1))), (8, .int (lc_i (lc_wp x d (j + 1))))]) dX11_goes_138 7 rfl (by decide) rfl ?_
                refine lc_goto (tgt := 23) dX11_goes_141 (by decide) ?_
                refine lc_pick (lv' := [(0, .ref (50)), (1, .ref (a)), (2, .int (lc_i (x / 24))), (3, .int (lc_i (x % 24))), (4, .int (lc_i (if 0 < d then 1 else 0))), (5, .int (lc_i (lc_pt x))), (6, .int (lc_i (lc_pl x d (j + 1)))), (7, .int (lc_i (((j : Nat) : Int) + 1 + 1)))]) [0, 1, 2, 3, 4, 5, 6, 7] rfl ?_
                refine lc_lveq (lv' := [(0, .ref (50)), (1, .ref (a)), (2, .int (lc_i (x / 24))), (3, .int (lc_i (x % 24))), (4, .int (lc_i (if 0 < d then 1 else 0))), (5, .int (lc_i (lc_pt x))), (6, .int (lc_i (lc_pl x d (j + 1)))), (7, .int (lc_i (((j + 1 : Nat) : Int) + 1)))]) (by rw [show ((j + 1 : Nat) : Int) + 1 = ((j : Int) + 1) + 1 from by omega]) ?_
                exact ih15 (j + 1) σ45 h46 (fun i _ => ((fr47 i (by omega)).trans ((fr42 i (by omega)).trans (fr18 i (by omega))))) (by omega) (lc_Kf_b hK (by omega) (lc_oc_n1 h_110_52)) (by omega)
              · skip
                refine lc_aload_n dX11_goes_113 rfl 1 rfl ?_
                refine lc_bipush dX11_goes_114 (by decide) ?_
                refine lc_iload dX11_goes_116 8 rfl ?_
                refine lc_iadd dX11_goes_118 ?_
                refine lc_iald dX11_goes_119 h48 (by omega) (by decide) ?_
                refine lc_top (congrArg (fun z => Value.int (lc_i z)) (show ((N) ((6) + (lc_wp x d (j + 1))) : Int) = f (lc_wp x d (j + 1)) from h6R _ hwp.1 hwp.2)) ?_
                refine lc_if_le (tgt := 138) dX11_goes_120 (by decide) (by omega) (fun h_120_53 => ?_) (fun h_120_53 => ?_)
                · skip
                  refine lc_iinc (lv' := [(0, .ref (50)), (1, .ref (a)), (2, .int (lc_i (x / 24))), (3, .int (lc_i (x % 24))), (4, .int (lc_i (if 0 < d then 1 else 0))), (5, .int (lc_i (lc_pt x))), (6, .int (lc_i (lc_pl x d (j + 1)))), (7, .int (lc_i (((j : Nat) : Int) + 1 + 1))), (8, .int (lc_i (lc_wp x d (j + 1))))]) dX11_goes_138 7 rfl (by decide) rfl ?_
                  refine lc_goto (tgt := 23) dX11_goes_141 (by decide) ?_
                  refine lc_pick (lv' := [(0, .ref (50)), (1, .ref (a)), (2, .int (lc_i (x / 24))), (3, .int (lc_i (x % 24))), (4, .int (lc_i (if 0 < d then 1 else 0))), (5, .int (lc_i (lc_pt x))), (6, .int (lc_i (lc_pl x d (j + 1)))), (7, .int (lc_i (((j : Nat) : Int) + 1 + 1)))]) [0, 1, 2, 3, 4, 5, 6, 7] rfl ?_
                  refine lc_lveq (lv' := [(0, .ref (50)), (1, .ref (a)), (2, .int (lc_i (x / 24))), (3, .int (lc_i (x % 24))), (4, .int (lc_i (if 0 < d then 1 else 0))), (5, .int (lc_i (lc_pt x))), (6, .int (lc_i (lc_pl x d (j + 1)))), (7, .int (lc_i (((j + 1 : Nat) : Int) + 1)))]) (by rw [show ((j + 1 : Nat) : Int) + 1 = ((j : Int) + 1) + 1 from by omega]) ?_
                  exact ih15 (j + 1) σ45 h46 (fun i _ => ((fr47 i (by omega)).trans ((fr42 i (by omega)).trans (fr18 i (by omega))))) (by omega) (lc_Kf_b hK (by omega) (lc_oc_n2 (by have := h_120_53; omega))) (by omega)
                · skip
                  refine lc_aload_n dX11_goes_123 rfl 0 rfl ?_
                  refine lc_get dX11_goes_124 lc_fX11_81 h46 rfl ?_
                  refine lc_if_le (tgt := 135) dX11_goes_127 (by decide) (by omega) (fun h_127_54 => ?_) (fun h_127_54 => ?_)
                  · skip
                    refine lc_bipush dX11_goes_135 (by decide) ?_
                    have eK : lc_K f x d = j + 1 := lc_Kf_e hK (by omega) (lc_oc_y h_110_52 (by have := h_120_53; omega))
                    have eL := lc_Lo_1 eK (by omega)
                    exact lc_iret dX11_goes_137 rfl (Nat.le_of_ble_eq_true rfl) (Nat.le_of_ble_eq_true rfl) (hQ _ _ _ ⟨lc_some (by unfold lc_go; rw [if_pos (Or.inr (by omega))]), rfl, by rw [eL, show lc_Kp f x d = ((j + 1 : Nat) : Int) from (by unfold lc_Kp; rw [if_neg (by omega), eK])]; exact h46, (fun i _ => ((fr47 i (by omega)).trans ((fr42 i (by omega)).trans ((fr18 i (by omega)).trans ((fr11 i (by omega)).trans (fr7 i (by omega)))))))⟩)
                  · skip
                    refine lc_iload dX11_goes_130 8 rfl ?_
                    refine lc_goto (tgt := 137) dX11_goes_132 (by decide) ?_
                    have eK : lc_K f x d = j + 1 := lc_Kf_e hK (by omega) (lc_oc_y h_110_52 (by have := h_120_53; omega))
                    have eL := lc_Lo_1 eK (by omega)
                    exact lc_iret dX11_goes_137 rfl (Nat.le_of_ble_eq_true rfl) (Nat.le_of_ble_eq_true rfl) (hQ _ _ _ ⟨lc_some (by unfold lc_go; rw [if_neg (fun q9 => by rcases q9 with q9 | q9 <;> omega), lc_M_1 eK (by omega)]), rfl, by rw [eL, show lc_Kp f x d = ((j + 1 : Nat) : Int) from (by unfold lc_Kp; rw [if_neg (by omega), eK])]; exact h46, (fun i _ => ((fr47 i (by omega)).trans ((fr42 i (by omega)).trans ((fr18 i (by omega)).trans ((fr11 i (by omega)).trans (fr7 i (by omega)))))))⟩)
            · exact absurd h_73_43 h_37_21
        · skip
          refine lc_iload dX11_goes_40 6 rfl ?_
          refine lc_bipush dX11_goes_42 (by decide) ?_
          refine lc_irem dX11_goes_44 (by omega) ?_
          refine lc_iconst dX11_goes_45 ?_
          refine lc_icmp_ne (tgt := 64) dX11_goes_46 (by decide) (by omega) (fun h_46_55 => ?_) (fun h_46_55 => ?_)
          · skip
            refine lc_iconst dX11_goes_64 ?_
            refine lc_iadd dX11_goes_65 ?_
            refine lc_top (congrArg (fun z => Value.int (lc_i z)) (show ((lc_lo x d j) + (0) : Int) = lc_lo x d (j + 1) from by rw [lc_lo_s0 (by rw [show lc_el d = 5 from if_pos h_37_21]; omega)]; omega)) ?_
            refine lc_wI (vs' := [.ref (51), .ref (52), .ref (53), .ref (54), .ref (55), .int (lc_i (kept)), .ref (56), .int (lc_i (if bs = true then 1 else 0)), .ref (57), .int (lc_i (z)), .int (lc_i (at9)), .int (lc_i (sn)), .int (lc_i (sr)), .int (lc_i (lc_lo x d (j + 1))), .int (lc_i (((j : Nat) : Int))), .int (lc_i (w3)), .int (lc_i (bw))]) dX11_goes_66 lc_fX11_81 h17 (Nat.le_of_ble_eq_true rfl) rfl rfl rfl (fun σ57 h58 fr59 => ?_)
            have h60 : σ57 (a) = some (lc_aI 222 (N)) := (fr59 _ (by omega)).trans h20
            refine lc_iload dX11_goes_69 6 rfl ?_
            refine lc_iload dX11_goes_71 4 rfl ?_
            refine lc_if_eqB (tgt := 80) dX11_goes_73 (by decide) (fun h_73_60 => ?_) (fun h_73_60 => ?_)
            · exact absurd h_37_21 h_73_60
            · skip
              refine lc_iconst dX11_goes_76 ?_
              refine lc_goto (tgt := 82) dX11_goes_77 (by decide) ?_
              refine lc_iadd dX11_goes_82 ?_
              refine lc_bipush dX11_goes_83 (by decide) ?_
              refine lc_irem dX11_goes_85 (by omega) ?_
              refine lc_top (congrArg (fun z => Value.int (lc_i z)) (show (((lc_pl x d j) + (1)) % (24) : Int) = lc_pl x d (j + 1) from by show _ = (lc_pl x d j + d + 24) % 24; omega)) ?_
              refine lc_istore (lv' := [(0, .ref (50)), (1, .ref (a)), (2, .int (lc_i (x / 24))), (3, .int (lc_i (x % 24))), (4, .int (lc_i (if 0 < d then 1 else 0))), (5, .int (lc_i (lc_pt x))), (6, .int (lc_i (lc_pl x d (j + 1)))), (7, .int (lc_i (((j : Nat) : Int) + 1)))]) dX11_goes_86 (by decide) rfl ?_
              refine lc_aload_n dX11_goes_88 rfl 0 rfl ?_
              refine lc_dup dX11_goes_89 rfl ?_
              refine lc_get dX11_goes_90 lc_fX11_84 h58 rfl ?_
              refine lc_iconst dX11_goes_93 ?_
              refine lc_iadd dX11_goes_94 ?_
              refine lc_top (congrArg (fun z => Value.int (lc_i z)) (show ((((j : Nat) : Int)) + (1) : Int) = ((j + 1 : Nat) : Int) from by omega)) ?_
              refine lc_wI (vs' := [.ref (51), .ref (52), .ref (53), .ref (54), .ref (55), .int (lc_i (kept)), .ref (56), .int (lc_i (if bs = true then 1 else 0)), .ref (57), .int (lc_i (z)), .int (lc_i (at9)), .int (lc_i (sn)), .int (lc_i (sr)), .int (lc_i (lc_lo x d (j + 1))), .int (lc_i (((j + 1 : Nat) : Int))), .int (lc_i (w3)), .int (lc_i (bw))]) dX11_goes_95 lc_fX11_84 h58 (Nat.le_of_ble_eq_true rfl) rfl rfl rfl (fun σ62 h63 fr64 => ?_)
              have h65 : σ62 (a) = some (lc_aI 222 (N)) := (fr64 _ (by omega)).trans h60
              refine lc_iload_n dX11_goes_98 rfl 2 rfl ?_
              refine lc_iload dX11_goes_99 6 rfl ?_
              refine lc_callS (As := [.int (lc_i (x / 24)), .int (lc_i (lc_pl x d (j + 1)))]) (stk := []) dX11_goes_101 lc_mX11_77 lc_yX11_pointAt (lc_cX11_pointAt l n (x / 24) (lc_pl x d (j + 1)) σ62 (by omega) (by omega)) rfl ⟨Nat.le_of_ble_eq_true rfl, Nat.le_of_ble_eq_true rfl⟩ ⟨Nat.le_of_ble_eq_true rfl, Nat.le_of_ble_eq_true rfl⟩ rfl (Nat.le_of_ble_eq_true rfl) (fun v66 n67 σ68 q69 => ?_)
              obtain ⟨rfl, rfl, rfl⟩ := q69
              refine lc_top (congrArg (fun z => Value.int (lc_i z)) (show (lc_pa (x / 24) (lc_pl x d (j + 1)) : Int) = lc_wp x d (j + 1) from by unfold lc_wp lc_pt; rw [show (x - x % 24 + lc_pl x d (j + 1)) / 24 = x / 24 from by omega, show (x - x % 24 + lc_pl x d (j + 1)) % 24 = lc_pl x d (j + 1) from by omega])) ?_
              refine lc_istore (lv' := [(0, .ref (50)), (1, .ref (a)), (2, .int (lc_i (x / 24))), (3, .int (lc_i (x % 24))), (4, .int (lc_i (if 0 < d then 1 else 0))), (5, .int (lc_i (lc_pt x))), (6, .int (lc_i (lc_pl x d (j + 1)))), (7, .int (lc_i (((j : Nat) : Int) + 1))), (8, .int (lc_i (lc_wp x d (j + 1))))]) dX11_goes_104 (by decide) rfl ?_
              refine lc_iload dX11_goes_106 8 rfl ?_
              refine lc_iload dX11_goes_108 5 rfl ?_
              refine lc_icmp_eq (tgt := 138) dX11_goes_110 (by decide) (by omega) (fun h_110_69 => ?_) (fun h_110_69 => ?_)
              · skip
                refine lc_iinc (lv' := [(0, .ref (50)), (1, .ref (a)), (2, .int (lc_i (x / 24))), (3, .int (lc_i (x % 24))), (4, .int (lc_i (if 0 < d then 1 else 0))), (5, .int (lc_i (lc_pt x))), (6, .int (lc_i (lc_pl x d (j + 1)))), (7, .int (lc_i (((j : Nat) : Int) + 1 + 1))), (8, .int (lc_i (lc_wp x d (j + 1))))]) dX11_goes_138 7 rfl (by decide) rfl ?_
                refine lc_goto (tgt := 23) dX11_goes_141 (by decide) ?_
                refine lc_pick (lv' := [(0, .ref (50)), (1, .ref (a)), (2, .int (lc_i (x / 24))), (3, .int (lc_i (x % 24))), (4, .int (lc_i (if 0 < d then 1 else 0))), (5, .int (lc_i (lc_pt x))), (6, .int (lc_i (lc_pl x d (j + 1)))), (7, .int (lc_i (((j : Nat) : Int) + 1 + 1)))]) [0, 1, 2, 3, 4, 5, 6, 7] rfl ?_
                refine lc_lveq (lv' := [(0, .ref (50)), (1, .ref (a)), (2, .int (lc_i (x / 24))), (3, .int (lc_i (x % 24))), (4, .int (lc_i (if 0 < d then 1 else 0))), (5, .int (lc_i (lc_pt x))), (6, .int (lc_i (lc_pl x d (j + 1)))), (7, .int (lc_i (((j + 1 : Nat) : Int) + 1)))]) (by rw [show ((j + 1 : Nat) : Int) + 1 = ((j : Int) + 1) + 1 from by omega]) ?_
                exact ih15 (j + 1) σ62 h63 (fun i _ => ((fr64 i (by omega)).trans ((fr59 i (by omega)).trans (fr18 i (by omega))))) (by omega) (lc_Kf_b hK (by omega) (lc_oc_n1 h_110_69)) (by omega)
              · skip
                refine lc_aload_n dX11_goes_113 rfl 1 rfl ?_
                refine lc_bipush dX11_goes_114 (by decide) ?_
                refine lc_iload dX11_goes_116 8 rfl ?_
                refine lc_iadd dX11_goes_118 ?_
                refine lc_iald dX11_goes_119 h65 (by omega) (by decide) ?_
                refine lc_top (congrArg (fun z => Value.int (lc_i z)) (show ((N) ((6) + (lc_wp x d (j + 1))) : Int) = f (lc_wp x d (j + 1)) from h6R _ hwp.1 hwp.2)) ?_
                refine lc_if_le (tgt := 138) dX11_goes_120 (by decide) (by omega) (fun h_120_70 => ?_) (fun h_120_70 => ?_)
                · skip
                  refine lc_iinc (lv' := [(0, .ref (50)), (1, .ref (a)), (2, .int (lc_i (x / 24))), (3, .int (lc_i (x % 24))), (4, .int (lc_i (if 0 < d then 1 else 0))), (5, .int (lc_i (lc_pt x))), (6, .int (lc_i (lc_pl x d (j + 1)))), (7, .int (lc_i (((j : Nat) : Int) + 1 + 1))), (8, .int (lc_i (lc_wp x d (j + 1))))]) dX11_goes_138 7 rfl (by decide) rfl ?_
                  refine lc_goto (tgt := 23) dX11_goes_141 (by decide) ?_
                  refine lc_pick (lv' := [(0, .ref (50)), (1, .ref (a)), (2, .int (lc_i (x / 24))), (3, .int (lc_i (x % 24))), (4, .int (lc_i (if 0 < d then 1 else 0))), (5, .int (lc_i (lc_pt x))), (6, .int (lc_i (lc_pl x d (j + 1)))), (7, .int (lc_i (((j : Nat) : Int) + 1 + 1)))]) [0, 1, 2, 3, 4, 5, 6, 7] rfl ?_
                  refine lc_lveq (lv' := [(0, .ref (50)), (1, .ref (a)), (2, .int (lc_i (x / 24))), (3, .int (lc_i (x % 24))), (4, .int (lc_i (if 0 < d then 1 else 0))), (5, .int (lc_i (lc_pt x))), (6, .int (lc_i (lc_pl x d (j + 1)))), (7, .int (lc_i (((j + 1 : Nat) : Int) + 1)))]) (by rw [show ((j + 1 : Nat) : Int) + 1 = ((j : Int) + 1) + 1 from by omega]) ?_
                  exact ih15 (j + 1) σ62 h63 (fun i _ => ((fr64 i (by omega)).trans ((fr59 i (by omega)).trans (fr18 i (by omega))))) (by omega) (lc_Kf_b hK (by omega) (lc_oc_n2 (by have := h_120_70; omega))) (by omega)
                · skip
                  refine lc_aload_n dX11_goes_123 rfl 0 rfl ?_
                  refine lc_get dX11_goes_124 lc_fX11_81 h63 rfl ?_
                  refine lc_if_le (tgt := 135) dX11_goes_127 (by decide) (by omega) (fun h_127_71 => ?_) (fun h_127_71 => ?_)
                  · skip
                    refine lc_bipush dX11_goes_135 (by decide) ?_
                    have eK : lc_K f x d = j + 1 := lc_Kf_e hK (by omega) (lc_oc_y h_110_69 (by have := h_120_70; omega))
                    have eL := lc_Lo_1 eK (by omega)
                    exact lc_iret dX11_goes_137 rfl (Nat.le_of_ble_eq_true rfl) (Nat.le_of_ble_eq_true rfl) (hQ _ _ _ ⟨lc_some (by unfold lc_go; rw [if_pos (Or.inr (by omega))]), rfl, by rw [eL, show lc_Kp f x d = ((j + 1 : Nat) : Int) from (by unfold lc_Kp; rw [if_neg (by omega), eK])]; exact h63, (fun i _ => ((fr64 i (by omega)).trans ((fr59 i (by omega)).trans ((fr18 i (by omega)).trans ((fr11 i (by omega)).trans (fr7 i (by omega)))))))⟩)
                  · skip
                    refine lc_iload dX11_goes_130 8 rfl ?_
                    refine lc_goto (tgt := 137) dX11_goes_132 (by decide) ?_
                    have eK : lc_K f x d = j + 1 := lc_Kf_e hK (by omega) (lc_oc_y h_110_69 (by have := h_120_70; omega))
                    have eL := lc_Lo_1 eK (by omega)
                    exact lc_iret dX11_goes_137 rfl (Nat.le_of_ble_eq_true rfl) (Nat.le_of_ble_eq_true rfl) (hQ _ _ _ ⟨lc_some (by unfold lc_go; rw [if_neg (fun q9 => by rcases q9 with q9 | q9 <;> omega), lc_M_1 eK (by omega)]), rfl, by rw [eL, show lc_Kp f x d = ((j + 1 : Nat) : Int) from (by unfold lc_Kp; rw [if_neg (by omega), eK])]; exact h63, (fun i _ => ((fr64 i (by omega)).trans ((fr59 i (by omega)).trans ((fr18 i (by omega)).trans ((fr11 i (by omega)).trans (fr7 i (by omega)))))))⟩)
          · skip
            refine lc_goto (tgt := 60) dX11_goes_49 (by decide) ?_
            refine lc_iconst dX11_goes_60 ?_
            refine lc_goto (tgt := 65) dX11_goes_61 (by decide) ?_
            refine lc_iadd dX11_goes_65 ?_
            refine lc_top (congrArg (fun z => Value.int (lc_i z)) (show ((lc_lo x d j) + (1) : Int) = lc_lo x d (j + 1) from (lc_lo_s1 (by rw [show lc_el d = 5 from if_pos h_37_21]; omega)).symm)) ?_
            refine lc_wI (vs' := [.ref (51), .ref (52), .ref (53), .ref (54), .ref (55), .int (lc_i (kept)), .ref (56), .int (lc_i (if bs = true then 1 else 0)), .ref (57), .int (lc_i (z)), .int (lc_i (at9)), .int (lc_i (sn)), .int (lc_i (sr)), .int (lc_i (lc_lo x d (j + 1))), .int (lc_i (((j : Nat) : Int))), .int (lc_i (w3)), .int (lc_i (bw))]) dX11_goes_66 lc_fX11_81 h17 (Nat.le_of_ble_eq_true rfl) rfl rfl rfl (fun σ73 h74 fr75 => ?_)
            have h76 : σ73 (a) = some (lc_aI 222 (N)) := (fr75 _ (by omega)).trans h20
            refine lc_iload dX11_goes_69 6 rfl ?_
            refine lc_iload dX11_goes_71 4 rfl ?_
            refine lc_if_eqB (tgt := 80) dX11_goes_73 (by decide) (fun h_73_76 => ?_) (fun h_73_76 => ?_)
            · exact absurd h_37_21 h_73_76
            · skip
              refine lc_iconst dX11_goes_76 ?_
              refine lc_goto (tgt := 82) dX11_goes_77 (by decide) ?_
              refine lc_iadd dX11_goes_82 ?_
              refine lc_bipush dX11_goes_83 (by decide) ?_
              refine lc_irem dX11_goes_85 (by omega) ?_
              refine lc_top (congrArg (fun z => Value.int (lc_i z)) (show (((lc_pl x d j) + (1)) % (24) : Int) = lc_pl x d (j + 1) from by show _ = (lc_pl x d j + d + 24) % 24; omega)) ?_
              refine lc_istore (lv' := [(0, .ref (50)), (1, .ref (a)), (2, .int (lc_i (x / 24))), (3, .int (lc_i (x % 24))), (4, .int (lc_i (if 0 < d then 1 else 0))), (5, .int (lc_i (lc_pt x))), (6, .int (lc_i (lc_pl x d (j + 1)))), (7, .int (lc_i (((j : Nat) : Int) + 1)))]) dX11_goes_86 (by decide) rfl ?_
              refine lc_aload_n dX11_goes_88 rfl 0 rfl ?_
              refine lc_dup dX11_goes_89 rfl ?_
              refine lc_get dX11_goes_90 lc_fX11_84 h74 rfl ?_
              refine lc_iconst dX11_goes_93 ?_
              refine lc_iadd dX11_goes_94 ?_
              refine lc_top (congrArg (fun z => Value.int (lc_i z)) (show ((((j : Nat) : Int)) + (1) : Int) = ((j + 1 : Nat) : Int) from by omega)) ?_
              refine lc_wI (vs' := [.ref (51), .ref (52), .ref (53), .ref (54), .ref (55), .int (lc_i (kept)), .ref (56), .int (lc_i (if bs = true then 1 else 0)), .ref (57), .int (lc_i (z)), .int (lc_i (at9)), .int (lc_i (sn)), .int (lc_i (sr)), .int (lc_i (lc_lo x d (j + 1))), .int (lc_i (((j + 1 : Nat) : Int))), .int (lc_i (w3)), .int (lc_i (bw))]) dX11_goes_95 lc_fX11_84 h74 (Nat.le_of_ble_eq_true rfl) rfl rfl rfl (fun σ78 h79 fr80 => ?_)
              have h81 : σ78 (a) = some (lc_aI 222 (N)) := (fr80 _ (by omega)).trans h76
              refine lc_iload_n dX11_goes_98 rfl 2 rfl ?_
              refine lc_iload dX11_goes_99 6 rfl ?_
              refine lc_callS (As := [.int (lc_i (x / 24)), .int (lc_i (lc_pl x d (j + 1)))]) (stk := []) dX11_goes_101 lc_mX11_77 lc_yX11_pointAt (lc_cX11_pointAt l n (x / 24) (lc_pl x d (j + 1)) σ78 (by omega) (by omega)) rfl ⟨Nat.le_of_ble_eq_true rfl, Nat.le_of_ble_eq_true rfl⟩ ⟨Nat.le_of_ble_eq_true rfl, Nat.le_of_ble_eq_true rfl⟩ rfl (Nat.le_of_ble_eq_true rfl) (fun v82 n83 σ84 q85 => ?_)
              obtain ⟨rfl, rfl, rfl⟩ := q85
              refine lc_top (congrArg (fun z => Value.int (lc_i z)) (show (lc_pa (x / 24) (lc_pl x d (j + 1)) : Int) = lc_wp x d (j + 1) from by unfold lc_wp lc_pt; rw [show (x - x % 24 + lc_pl x d (j + 1)) / 24 = x / 24 from by omega, show (x - x % 24 + lc_pl x d (j + 1)) % 24 = lc_pl x d (j + 1) from by omega])) ?_
              refine lc_istore (lv' := [(0, .ref (50)), (1, .ref (a)), (2, .int (lc_i (x / 24))), (3, .int (lc_i (x % 24))), (4, .int (lc_i (if 0 < d then 1 else 0))), (5, .int (lc_i (lc_pt x))), (6, .int (lc_i (lc_pl x d (j + 1)))), (7, .int (lc_i (((j : Nat) : Int) + 1))), (8, .int (lc_i (lc_wp x d (j + 1))))]) dX11_goes_104 (by decide) rfl ?_
              refine lc_iload dX11_goes_106 8 rfl ?_
              refine lc_iload dX11_goes_108 5 rfl ?_
              refine lc_icmp_eq (tgt := 138) dX11_goes_110 (by decide) (by omega) (fun h_110_85 => ?_) (fun h_110_85 => ?_)
              · skip
                refine lc_iinc (lv' := [(0, .ref (50)), (1, .ref (a)), (2, .int (lc_i (x / 24))), (3, .int (lc_i (x % 24))), (4, .int (lc_i (if 0 < d then 1 else 0))), (5, .int (lc_i (lc_pt x))), (6, .int (lc_i (lc_pl x d (j + 1)))), (7, .int (lc_i (((j : Nat) : Int) + 1 + 1))), (8, .int (lc_i (lc_wp x d (j + 1))))]) dX11_goes_138 7 rfl (by decide) rfl ?_
                refine lc_goto (tgt := 23) dX11_goes_141 (by decide) ?_
                refine lc_pick (lv' := [(0, .ref (50)), (1, .ref (a)), (2, .int (lc_i (x / 24))), (3, .int (lc_i (x % 24))), (4, .int (lc_i (if 0 < d then 1 else 0))), (5, .int (lc_i (lc_pt x))), (6, .int (lc_i (lc_pl x d (j + 1)))), (7, .int (lc_i (((j : Nat) : Int) + 1 + 1)))]) [0, 1, 2, 3, 4, 5, 6, 7] rfl ?_
                refine lc_lveq (lv' := [(0, .ref (50)), (1, .ref (a)), (2, .int (lc_i (x / 24))), (3, .int (lc_i (x % 24))), (4, .int (lc_i (if 0 < d then 1 else 0))), (5, .int (lc_i (lc_pt x))), (6, .int (lc_i (lc_pl x d (j + 1)))), (7, .int (lc_i (((j + 1 : Nat) : Int) + 1)))]) (by rw [show ((j + 1 : Nat) : Int) + 1 = ((j : Int) + 1) + 1 from by omega]) ?_
                exact ih15 (j + 1) σ78 h79 (fun i _ => ((fr80 i (by omega)).trans ((fr75 i (by omega)).trans (fr18 i (by omega))))) (by omega) (lc_Kf_b hK (by omega) (lc_oc_n1 h_110_85)) (by omega)
              · skip
                refine lc_aload_n dX11_goes_113 rfl 1 rfl ?_
                refine lc_bipush dX11_goes_114 (by decide) ?_
                refine lc_iload dX11_goes_116 8 rfl ?_
                refine lc_iadd dX11_goes_118 ?_
                refine lc_iald dX11_goes_119 h81 (by omega) (by decide) ?_
                refine lc_top (congrArg (fun z => Value.int (lc_i z)) (show ((N) ((6) + (lc_wp x d (j + 1))) : Int) = f (lc_wp x d (j + 1)) from h6R _ hwp.1 hwp.2)) ?_
                refine lc_if_le (tgt := 138) dX11_goes_120 (by decide) (by omega) (fun h_120_86 => ?_) (fun h_120_86 => ?_)
                · skip
                  refine lc_iinc (lv' := [(0, .ref (50)), (1, .ref (a)), (2, .int (lc_i (x / 24))), (3, .int (lc_i (x % 24))), (4, .int (lc_i (if 0 < d then 1 else 0))), (5, .int (lc_i (lc_pt x))), (6, .int (lc_i (lc_pl x d (j + 1)))), (7, .int (lc_i (((j : Nat) : Int) + 1 + 1))), (8, .int (lc_i (lc_wp x d (j + 1))))]) dX11_goes_138 7 rfl (by decide) rfl ?_
                  refine lc_goto (tgt := 23) dX11_goes_141 (by decide) ?_
                  refine lc_pick (lv' := [(0, .ref (50)), (1, .ref (a)), (2, .int (lc_i (x / 24))), (3, .int (lc_i (x % 24))), (4, .int (lc_i (if 0 < d then 1 else 0))), (5, .int (lc_i (lc_pt x))), (6, .int (lc_i (lc_pl x d (j + 1)))), (7, .int (lc_i (((j : Nat) : Int) + 1 + 1)))]) [0, 1, 2, 3, 4, 5, 6, 7] rfl ?_
                  refine lc_lveq (lv' := [(0, .ref (50)), (1, .ref (a)), (2, .int (lc_i (x / 24))), (3, .int (lc_i (x % 24))), (4, .int (lc_i (if 0 < d then 1 else 0))), (5, .int (lc_i (lc_pt x))), (6, .int (lc_i (lc_pl x d (j + 1)))), (7, .int (lc_i (((j + 1 : Nat) : Int) + 1)))]) (by rw [show ((j + 1 : Nat) : Int) + 1 = ((j : Int) + 1) + 1 from by omega]) ?_
                  exact ih15 (j + 1) σ78 h79 (fun i _ => ((fr80 i (by omega)).trans ((fr75 i (by omega)).trans (fr18 i (by omega))))) (by omega) (lc_Kf_b hK (by omega) (lc_oc_n2 (by have := h_120_86; omega))) (by omega)
                · skip
                  refine lc_aload_n dX11_goes_123 rfl 0 rfl ?_
                  refine lc_get dX11_goes_124 lc_fX11_81 h79 rfl ?_
                  refine lc_if_le (tgt := 135) dX11_goes_127 (by decide) (by omega) (fun h_127_87 => ?_) (fun h_127_87 => ?_)
                  · skip
                    refine lc_bipush dX11_goes_135 (by decide) ?_
                    have eK : lc_K f x d = j + 1 := lc_Kf_e hK (by omega) (lc_oc_y h_110_85 (by have := h_120_86; omega))
                    have eL := lc_Lo_1 eK (by omega)
                    exact lc_iret dX11_goes_137 rfl (Nat.le_of_ble_eq_true rfl) (Nat.le_of_ble_eq_true rfl) (hQ _ _ _ ⟨lc_some (by unfold lc_go; rw [if_pos (Or.inr (by omega))]), rfl, by rw [eL, show lc_Kp f x d = ((j + 1 : Nat) : Int) from (by unfold lc_Kp; rw [if_neg (by omega), eK])]; exact h79, (fun i _ => ((fr80 i (by omega)).trans ((fr75 i (by omega)).trans ((fr18 i (by omega)).trans ((fr11 i (by omega)).trans (fr7 i (by omega)))))))⟩)
                  · skip
                    refine lc_iload dX11_goes_130 8 rfl ?_
                    refine lc_goto (tgt := 137) dX11_goes_132 (by decide) ?_
                    have eK : lc_K f x d = j + 1 := lc_Kf_e hK (by omega) (lc_oc_y h_110_85 (by have := h_120_86; omega))
                    have eL := lc_Lo_1 eK (by omega)
                    exact lc_iret dX11_goes_137 rfl (Nat.le_of_ble_eq_true rfl) (Nat.le_of_ble_eq_true rfl) (hQ _ _ _ ⟨lc_some (by unfold lc_go; rw [if_neg (fun q9 => by rcases q9 with q9 | q9 <;> omega), lc_M_1 eK (by omega)]), rfl, by rw [eL, show lc_Kp f x d = ((j + 1 : Nat) : Int) from (by unfold lc_Kp; rw [if_neg (by omega), eK])]; exact h79, (fun i _ => ((fr80 i (by omega)).trans ((fr75 i (by omega)).trans ((fr18 i (by omega)).trans ((fr11 i (by omega)).trans (fr7 i (by omega)))))))⟩)
  exact loop14 1000 (0) σ9 h10 (fun _ _ => rfl) (by omega) (rfl) (by omega)
