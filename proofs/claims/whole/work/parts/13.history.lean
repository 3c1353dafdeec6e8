/-! History: four states that are used again -/
def lc_h4 (r : Nat) : Int → Option Nat := fun i => some (32 + 4 * ((r + i.toNat) % 4))
def lc_hk (k : Nat) : Nat := if k = 4 then 4 else k + 1
def lc_hr (r k : Nat) : Nat := if k = 4 then r + 1 else r

set_option maxRecDepth 100000 in
set_option maxHeartbeats 4000000 in
theorem lc_cX2_size (l : Launch) (n : Nat) (k : Int) (σ : lc_S) (h0_0 : σ (30) = some (.inr (2, [.ref (31), .int (lc_i (k))]) : lc_Cel))  : lc_Con l yX2_size cX2_size 1 (some .int) (lc_Rd 0) [.ref (30)] n σ (fun v n2 σ2 => v = some (.int (lc_i (k))) ∧ n = n2 ∧ σ = σ2) := by
  refine lc_con RX2 false (by decide) rfl (fun h => absurd h (by decide)) (Nat.le_of_ble_eq_true rfl) ?_
  suffices H : ∀ Q : lc_QT, (∀ v n2 σ2, (fun v n2 σ2 => v = some (.int (lc_i (k))) ∧ n = n2 ∧ σ = σ2 : lc_QT) v n2 σ2 → Q v n2 σ2) → lc_V l RX2 cX2_size 1 (some .int) false (lc_Rd 0) (lc_G Q 0 0) lc_E0 0 0 n 0 [(0, .ref (30))] [] σ from H _ (fun _ _ _ h => h)
  intro Q hQ
  refine lc_aload_n dX2_size_0 rfl 0 rfl ?_
  refine lc_get dX2_size_1 lc_fX2_16 h0_0 rfl ?_
  exact lc_iret dX2_size_4 rfl (Nat.le_of_ble_eq_true rfl) (Nat.le_of_ble_eq_true rfl) (hQ _ _ _ ⟨rfl, rfl, rfl⟩)

set_option maxRecDepth 100000 in
set_option maxHeartbeats 4000000 in
/-- History.dropOldest -/
theorem lc_cX2_dropOldest (l : Launch) (n : Nat) (r : Nat) (k : Int) (σ : lc_S) (h0_0 : σ (30) = some (.inr (2, [.ref (31), .int (lc_i (k))]) : lc_Cel)) (h0_1 : σ (31) = some (lc_aS 4 (lc_h4 (r)))) (hst : ∀ j : Nat, j < 4 → ∃ vs : List Value, σ (32 + 4 * j) = some (.inr (7, vs) : lc_Cel)) : lc_Con l yX2_dropOldest cX2_dropOldest 3 none (lc_Rd 0) [.ref (30)] n σ (fun v n2 σ2 => v = none ∧ n = n2 ∧ σ2 (30) = some (.inr (2, [.ref (31), .int (lc_i (3))]) : lc_Cel) ∧ σ2 (31) = some (lc_aS 4 (lc_h4 (r + 1))) ∧ ∀ i : Nat, i ≠ 30 → i ≠ 31 → σ2 i = σ i) := by
  refine lc_con RX2 false (by decide) rfl (fun h => absurd h (by decide)) (Nat.le_of_ble_eq_true rfl) ?_
  suffices H : ∀ Q : lc_QT, (∀ v n2 σ2, (fun v n2 σ2 => v = none ∧ n = n2 ∧ σ2 (30) = some (.inr (2, [.ref (31), .int (lc_i (3))]) : lc_Cel) ∧ σ2 (31) = some (lc_aS 4 (lc_h4 (r + 1))) ∧ ∀ i : Nat, i ≠ 30 → i ≠ 31 → σ2 i = σ i : lc_QT) v n2 σ2 → Q v n2 σ2) → lc_V l RX2 cX2_dropOldest 3 none false (lc_Rd 0) (lc_G Q 0 0) lc_E0 0 0 n 0 [(0, .ref (30))] [] σ from H _ (fun _ _ _ h => h)
  intro Q hQ
  obtain ⟨vs0, hvs0⟩ := hst ((r + 0) % 4) (by omega)
  obtain ⟨vs1, hvs1⟩ := hst ((r + 1) % 4) (by omega)
  obtain ⟨vs2, hvs2⟩ := hst ((r + 2) % 4) (by omega)
  obtain ⟨vs3, hvs3⟩ := hst ((r + 3) % 4) (by omega)
  refine lc_aload_n dX2_dropOldest_0 rfl 0 rfl ?_
  refine lc_get dX2_dropOldest_1 lc_fX2_11 h0_0 rfl ?_
  refine lc_iconst dX2_dropOldest_4 ?_
  refine lc_aald dX2_dropOldest_5 h0_1 (by omega) (by decide) ?_
  refine lc_top (congrArg va_rf (show (lc_h4 (r)) (0) = some (32 + 4 * ((r + 0) % 4)) from rfl)) ?_
  refine lc_astore_n (lv' := [(0, .ref (30)), (1, .ref (32 + 4 * ((r + 0) % 4)))]) dX2_dropOldest_6 rfl (by decide) rfl ?_
  refine lc_iconst dX2_dropOldest_7 ?_
  refine lc_istore_n (lv' := [(0, .ref (30)), (1, .ref (32 + 4 * ((r + 0) % 4))), (2, .int (lc_i (1)))]) dX2_dropOldest_8 rfl (by decide) rfl ?_
  refine lc_iload_n dX2_dropOldest_9 rfl 2 rfl ?_
  refine lc_aload_n dX2_dropOldest_10 rfl 0 rfl ?_
  refine lc_get dX2_dropOldest_11 lc_fX2_11 h0_0 rfl ?_
  refine lc_alenV (v := 4) dX2_dropOldest_14 h0_1 (by decide) rfl ?_
  refine lc_icmp_ge (tgt := 38) dX2_dropOldest_15 (by decide) (by omega) (fun h_15_0 => ?_) (fun h_15_0 => ?_)
  · exact absurd h_15_0 (by decide)
  · skip
    refine lc_aload_n dX2_dropOldest_18 rfl 0 rfl ?_
    refine lc_get dX2_dropOldest_19 lc_fX2_11 h0_0 rfl ?_
    refine lc_iload_n dX2_dropOldest_22 rfl 2 rfl ?_
    refine lc_iconst dX2_dropOldest_23 ?_
    refine lc_isub dX2_dropOldest_24 ?_
    refine lc_aload_n dX2_dropOldest_25 rfl 0 rfl ?_
    refine lc_get dX2_dropOldest_26 lc_fX2_11 h0_0 rfl ?_
    refine lc_iload_n dX2_dropOldest_29 rfl 2 rfl ?_
    refine lc_aald dX2_dropOldest_30 h0_1 (by omega) (by decide) ?_
    refine lc_top (congrArg va_rf (show (lc_h4 (r)) (1) = some (32 + 4 * ((r + 1) % 4)) from by unfold lc_h4; exact congrArg some (by omega))) ?_
    refine lc_sS dX2_dropOldest_31 h0_1 (by omega) (by decide) hvs1 (fun σ2 h3 fr4 => ?_)
    have h5 : σ2 (30) = some (.inr (2, [.ref (31), .int (lc_i (k))]) : lc_Cel) := (fr4 _ (by omega)).trans h0_0
    have h6 : σ2 (32 + 4 * ((r + 0) % 4)) = some (.inr (7, vs0) : lc_Cel) := (fr4 _ (by omega)).trans hvs0
    have h7 : σ2 (32 + 4 * ((r + 1) % 4)) = some (.inr (7, vs1) : lc_Cel) := (fr4 _ (by omega)).trans hvs1
    have h8 : σ2 (32 + 4 * ((r + 2) % 4)) = some (.inr (7, vs2) : lc_Cel) := (fr4 _ (by omega)).trans hvs2
    have h9 : σ2 (32 + 4 * ((r + 3) % 4)) = some (.inr (7, vs3) : lc_Cel) := (fr4 _ (by omega)).trans hvs3
    refine lc_iinc (lv' := [(0, .ref (30)), (1, .ref (32 + 4 * ((r + 0) % 4))), (2, .int (lc_i (1 + 1)))]) dX2_dropOldest_32 2 rfl (by decide) rfl ?_
    refine lc_goto (tgt := 9) dX2_dropOldest_35 (by decide) ?_
    refine lc_iload_n dX2_dropOldest_9 rfl 2 rfl ?_
    refine lc_aload_n dX2_dropOldest_10 rfl 0 rfl ?_
    refine lc_get dX2_dropOldest_11 lc_fX2_11 h5 rfl ?_
    refine lc_alenV (v := 4) dX2_dropOldest_14 h3 (by decide) rfl ?_
    refine lc_icmp_ge (tgt := 38) dX2_dropOldest_15 (by decide) (by omega) (fun h_15_9 => ?_) (fun h_15_9 => ?_)
    · exact absurd h_15_9 (by decide)
    · skip
      refine lc_aload_n dX2_dropOldest_18 rfl 0 rfl ?_
      refine lc_get dX2_dropOldest_19 lc_fX2_11 h5 rfl ?_
      refine lc_iload_n dX2_dropOldest_22 rfl 2 rfl ?_
      refine lc_iconst dX2_dropOldest_23 ?_
      refine lc_isub dX2_dropOldest_24 ?_
      refine lc_aload_n dX2_dropOldest_25 rfl 0 rfl ?_
      refine lc_get dX2_dropOldest_26 lc_fX2_11 h5 rfl ?_
      refine lc_iload_n dX2_dropOldest_29 rfl 2 rfl ?_
      refine lc_aald dX2_dropOldest_30 h3 (by omega) (by decide) ?_
      refine lc_top (congrArg va_rf (show (lc_u (lc_h4 (r)) ((1) - (1)) (some (32 + 4 * ((r + 1) % 4)))) (1 + 1) = some (32 + 4 * ((r + 2) % 4)) from by rw [lc_u_n _ _ (by omega), lc_h4]; exact congrArg some (by omega))) ?_
      refine lc_sS dX2_dropOldest_31 h3 (by omega) (by decide) h8 (fun σ11 h12 fr13 => ?_)
      have h14 : σ11 (30) = some (.inr (2, [.ref (31), .int (lc_i (k))]) : lc_Cel) := (fr13 _ (by omega)).trans h5
      have h15 : σ11 (32 + 4 * ((r + 0) % 4)) = some (.inr (7, vs0) : lc_Cel) := (fr13 _ (by omega)).trans h6
      have h16 : σ11 (32 + 4 * ((r + 1) % 4)) = some (.inr (7, vs1) : lc_Cel) := (fr13 _ (by omega)).trans h7
      have h17 : σ11 (32 + 4 * ((r + 2) % 4)) = some (.inr (7, vs2) : lc_Cel) := (fr13 _ (by omega)).trans h8
      have h18 : σ11 (32 + 4 * ((r + 3) % 4)) = some (.inr (7, vs3) : lc_Cel) := (fr13 _ (by omega)).trans h9
      refine lc_iinc (lv' := [(0, .ref (30)), (1, .ref (32 + 4 * ((r + 0) % 4))), (2, .int (lc_i (1 + 1 + 1)))]) dX2_dropOldest_32 2 rfl (by decide) rfl ?_
      refine lc_goto (tgt := 9) dX2_dropOldest_35 (by decide) ?_
      refine lc_iload_n dX2_dropOldest_9 rfl 2 rfl ?_
      refine lc_aload_n dX2_dropOldest_10 rfl 0 rfl ?_
      refine lc_get dX2_dropOldest_11 lc_fX2_11 h14 rfl ?_
      refine lc_alenV (v := 4) dX2_dropOldest_14 h12 (by decide) rfl ?_
      refine lc_icmp_ge (tgt := 38) dX2_dropOldest_15 (by decide) (by omega) (fun h_15_18 => ?_) (fun h_15_18 => ?_)
      · exact absurd h_15_18 (by decide)
      · skip
        refine lc_aload_n dX2_dropOldest_18 rfl 0 rfl ?_
        refine lc_get dX2_dropOldest_19 lc_fX2_11 h14 rfl ?_
        refine lc_iload_n dX2_dropOldest_22 rfl 2 rfl ?_
        refine lc_iconst dX2_dropOldest_23 ?_
        refine lc_isub dX2_dropOldest_24 ?_
        refine lc_aload_n dX2_dropOldest_25 rfl 0 rfl ?_
        refine lc_get dX2_dropOldest_26 lc_fX2_11 h14 rfl ?_
        refine lc_iload_n dX2_dropOldest_29 rfl 2 rfl ?_
        refine lc_aald dX2_dropOldest_30 h12 (by omega) (by decide) ?_
        refine lc_top (congrArg va_rf (show (lc_u (lc_u (lc_h4 (r)) ((1) - (1)) (some (32 + 4 * ((r + 1) % 4)))) ((1 + 1) - (1)) (some (32 + 4 * ((r + 2) % 4)))) (1 + 1 + 1) = some (32 + 4 * ((r + 3) % 4)) from by rw [lc_u_n _ _ (by omega), lc_u_n _ _ (by omega), lc_h4]; exact congrArg some (by omega))) ?_
        refine lc_sS dX2_dropOldest_31 h12 (by omega) (by decide) h18 (fun σ20 h21 fr22 => ?_)
        have h23 : σ20 (30) = some (.inr (2, [.ref (31), .int (lc_i (k))]) : lc_Cel) := (fr22 _ (by omega)).trans h14
        have h24 : σ20 (32 + 4 * ((r + 0) % 4)) = some (.inr (7, vs0) : lc_Cel) := (fr22 _ (by omega)).trans h15
        have h25 : σ20 (32 + 4 * ((r + 1) % 4)) = some (.inr (7, vs1) : lc_Cel) := (fr22 _ (by omega)).trans h16
        have h26 : σ20 (32 + 4 * ((r + 2) % 4)) = some (.inr (7, vs2) : lc_Cel) := (fr22 _ (by omega)).trans h17
        have h27 : σ20 (32 + 4 * ((r + 3) % 4)) = some (.inr (7, vs3) : lc_Cel) := (fr22 _ (by omega)).trans h18
        refine lc_iinc (lv' := [(0, .ref (30)), (1, .ref (32 + 4 * ((r + 0) % 4))), (2, .int (lc_i (1 + 1 + 1 + 1)))]) dX2_dropOldest_32 2 rfl (by decide) rfl ?_
        refine lc_goto (tgt := 9) dX2_dropOldest_35 (by decide) ?_
        refine lc_iload_n dX2_dropOldest_9 rfl 2 rfl ?_
        refine lc_aload_n dX2_dropOldest_10 rfl 0 rfl ?_
        refine lc_get dX2_dropOldest_11 lc_fX2_11 h23 rfl ?_
        refine lc_alenV (v := 4) dX2_dropOldest_14 h21 (by decide) rfl ?_
        refine lc_icmp_ge (tgt := 38) dX2_dropOldest_15 (by decide) (by omega) (fun h_15_27 => ?_) (fun h_15_27 => ?_)
        · skip
          refine lc_aload_n dX2_dropOldest_38 rfl 0 rfl ?_
          refine lc_get dX2_dropOldest_39 lc_fX2_11 h23 rfl ?_
          refine lc_aload_n dX2_dropOldest_42 rfl 0 rfl ?_
          refine lc_get dX2_dropOldest_43 lc_fX2_11 h23 rfl ?_
          refine lc_alenV (v := 4) dX2_dropOldest_46 h21 (by decide) rfl ?_
          refine lc_iconst dX2_dropOldest_47 ?_
          refine lc_isub dX2_dropOldest_48 ?_
          refine lc_aload_n dX2_dropOldest_49 rfl 1 rfl ?_
          refine lc_sS dX2_dropOldest_50 h21 (by omega) (by decide) h24 (fun σ29 h30 fr31 => ?_)
          have h32 : σ29 (30) = some (.inr (2, [.ref (31), .int (lc_i (k))]) : lc_Cel) := (fr31 _ (by omega)).trans h23
          have h33 : σ29 (32 + 4 * ((r + 0) % 4)) = some (.inr (7, vs0) : lc_Cel) := (fr31 _ (by omega)).trans h24
          have h34 : σ29 (32 + 4 * ((r + 1) % 4)) = some (.inr (7, vs1) : lc_Cel) := (fr31 _ (by omega)).trans h25
          have h35 : σ29 (32 + 4 * ((r + 2) % 4)) = some (.inr (7, vs2) : lc_Cel) := (fr31 _ (by omega)).trans h26
          have h36 : σ29 (32 + 4 * ((r + 3) % 4)) = some (.inr (7, vs3) : lc_Cel) := (fr31 _ (by omega)).trans h27
          refine lc_extS (g := lc_h4 (r + 1)) h30 (fun j h1 h2 => by rcases (show j = 0 ∨ j = 1 ∨ j = 2 ∨ j = 3 by omega) with e9 | e9 | e9 | e9 <;> subst e9 <;> simp [lc_u, lc_h4] <;> omega) (fun σ37 h38 fr39 => ?_)
          have h40 : σ37 (30) = some (.inr (2, [.ref (31), .int (lc_i (k))]) : lc_Cel) := (fr39 _ (by omega)).trans h32
          have h41 : σ37 (32 + 4 * ((r + 0) % 4)) = some (.inr (7, vs0) : lc_Cel) := (fr39 _ (by omega)).trans h33
          have h42 : σ37 (32 + 4 * ((r + 1) % 4)) = some (.inr (7, vs1) : lc_Cel) := (fr39 _ (by omega)).trans h34
          have h43 : σ37 (32 + 4 * ((r + 2) % 4)) = some (.inr (7, vs2) : lc_Cel) := (fr39 _ (by omega)).trans h35
          have h44 : σ37 (32 + 4 * ((r + 3) % 4)) = some (.inr (7, vs3) : lc_Cel) := (fr39 _ (by omega)).trans h36
          refine lc_aload_n dX2_dropOldest_51 rfl 0 rfl ?_
          refine lc_aload_n dX2_dropOldest_52 rfl 0 rfl ?_
          refine lc_get dX2_dropOldest_53 lc_fX2_11 h40 rfl ?_
          refine lc_alenV (v := 4) dX2_dropOldest_56 h38 (by decide) rfl ?_
          refine lc_iconst dX2_dropOldest_57 ?_
          refine lc_isub dX2_dropOldest_58 ?_
          refine lc_wI (vs' := [.ref (31), .int (lc_i ((4) - (1)))]) dX2_dropOldest_59 lc_fX2_16 h40 (Nat.le_of_ble_eq_true rfl) rfl rfl rfl (fun σ45 h46 fr47 => ?_)
          have h48 : σ45 (32 + 4 * ((r + 0) % 4)) = some (.inr (7, vs0) : lc_Cel) := (fr47 _ (by omega)).trans h41
          have h49 : σ45 (32 + 4 * ((r + 1) % 4)) = some (.inr (7, vs1) : lc_Cel) := (fr47 _ (by omega)).trans h42
          have h50 : σ45 (32 + 4 * ((r + 2) % 4)) = some (.inr (7, vs2) : lc_Cel) := (fr47 _ (by omega)).trans h43
          have h51 : σ45 (32 + 4 * ((r + 3) % 4)) = some (.inr (7, vs3) : lc_Cel) := (fr47 _ (by omega)).trans h44
          have h52 : σ45 (31) = some (lc_aS 4 (lc_h4 (r + 1))) := (fr47 _ (by omega)).trans h38
          exact lc_vret dX2_dropOldest_62 rfl (Nat.le_of_ble_eq_true rfl) (Nat.le_of_ble_eq_true rfl) (hQ _ _ _ ⟨rfl, rfl, h46, h52, (fun i _ _ => ((fr47 i (by omega)).trans ((fr39 i (by omega)).trans ((fr31 i (by omega)).trans ((fr22 i (by omega)).trans ((fr13 i (by omega)).trans (fr4 i (by omega))))))))⟩)
        · exact absurd h_15_27 (by decide)

set_option maxRecDepth 100000 in
set_option maxHeartbeats 4000000 in
/-- History.push -/
theorem lc_cX2_push (l : Launch) (n : Nat) (r k : Nat) (S : Nat) (f : Int → Int) (s q m mo ca ct : Int) (po : Int → Int) (t : Nat) (f3 : Int → Int) (s3 q3 m3 mo3 ca3 ct3 : Int) (po3 : Int → Int) (σ : lc_S) (h0_0 : σ (30) = some (.inr (2, [.ref (31), .int (lc_i ((k : Int)))]) : lc_Cel)) (h0_1 : σ (31) = some (lc_aS 4 (lc_h4 (r)))) (h0_2 : σ (S) = some (.inr (7, [.ref (S + 1), .int (lc_i (mo)), .int (lc_i (ca)), .ref (S + 3), .int (lc_i (ct))]) : lc_Cel)) (h0_3 : σ (S + 1) = some (.inr (0, [.ref (S + 2), .int (lc_i (lc_cnt (f) 1 36)), .int (lc_i (lc_cnt (f) 2 36)), .int (lc_i (s)), .int (lc_i (q)), .int (lc_i (m))]) : lc_Cel)) (h0_4 : σ (S + 2) = some (lc_aI 36 (f))) (h0_5 : σ (S + 3) = some (lc_aJ 60 (fun i : Int => lc_j ((po) i)))) (h0_6 : σ (t) = some (.inr (7, [.ref (t + 1), .int (lc_i (mo3)), .int (lc_i (ca3)), .ref (t + 3), .int (lc_i (ct3))]) : lc_Cel)) (h0_7 : σ (t + 1) = some (.inr (0, [.ref (t + 2), .int (lc_i (lc_cnt (f3) 1 36)), .int (lc_i (lc_cnt (f3) 2 36)), .int (lc_i (s3)), .int (lc_i (q3)), .int (lc_i (m3))]) : lc_Cel)) (h0_8 : σ (t + 2) = some (lc_aI 36 (f3))) (h0_9 : σ (t + 3) = some (lc_aJ 60 (fun i : Int => lc_j ((po3) i)))) (hk : k ≤ 4) (ht : t = 32 + 4 * ((r + k) % 4)) (hS : 17 < S ∧ S + 3 < 30) (hst : ∀ j : Nat, j < 4 → ∃ vs : List Value, σ (32 + 4 * j) = some (.inr (7, vs) : lc_Cel)) : lc_Con l yX2_push cX2_push 3 none (lc_Rd 2) [.ref (30), .ref (S)] n σ (fun v n2 σ2 => v = none ∧ n = n2 ∧ σ2 (30) = some (.inr (2, [.ref (31), .int (lc_i (((lc_hk k : Nat) : Int)))]) : lc_Cel) ∧ σ2 (31) = some (lc_aS 4 (lc_h4 (lc_hr r k))) ∧ σ2 (t) = some (.inr (7, [.ref (t + 1), .int (lc_i (mo)), .int (lc_i (ca)), .ref (t + 3), .int (lc_i (ct))]) : lc_Cel) ∧ σ2 (t + 1) = some (.inr (0, [.ref (t + 2), .int (lc_i (lc_cnt (f) 1 36)), .int (lc_i (lc_cnt (f) 2 36)), .int (lc_i (s)), .int (lc_i (q)), .int (lc_i (m))]) : lc_Cel) ∧ σ2 (t + 2) = some (lc_aI 36 (f)) ∧ σ2 (t + 3) = some (lc_aJ 60 (fun i : Int => lc_j ((po) i))) ∧ ∀ i : Nat, i ≠ 30 → i ≠ 31 → i ≠ t → i ≠ t + 1 → i ≠ t + 2 → i ≠ t + 3 → σ2 i = σ i) := by
  refine lc_con RX2 false (by decide) rfl (fun h => absurd h (by decide)) (Nat.le_of_ble_eq_true rfl) ?_
  suffices H : ∀ Q : lc_QT, (∀ v n2 σ2, (fun v n2 σ2 => v = none ∧ n = n2 ∧ σ2 (30) = some (.inr (2, [.ref (31), .int (lc_i (((lc_hk k : Nat) : Int)))]) : lc_Cel) ∧ σ2 (31) = some (lc_aS 4 (lc_h4 (lc_hr r k))) ∧ σ2 (t) = some (.inr (7, [.ref (t + 1), .int (lc_i (mo)), .int (lc_i (ca)), .ref (t + 3), .int (lc_i (ct))]) : lc_Cel) ∧ σ2 (t + 1) = some (.inr (0, [.ref (t + 2), .int (lc_i (lc_cnt (f) 1 36)), .int (lc_i (lc_cnt (f) 2 36)), .int (lc_i (s)), .int (lc_i (q)), .int (lc_i (m))]) : lc_Cel) ∧ σ2 (t + 2) = some (lc_aI 36 (f)) ∧ σ2 (t + 3) = some (lc_aJ 60 (fun i : Int => lc_j ((po) i))) ∧ ∀ i : Nat, i ≠ 30 → i ≠ 31 → i ≠ t → i ≠ t + 1 → i ≠ t + 2 → i ≠ t + 3 → σ2 i = σ i : lc_QT) v n2 σ2 → Q v n2 σ2) → lc_V l RX2 cX2_push 3 none false (lc_Rd 2) (lc_G Q 0 0) lc_E0 0 0 n 0 [(0, .ref (30)), (1, .ref (S))] [] σ from H _ (fun _ _ _ h => h)
  intro Q hQ
  refine lc_aload_n dX2_push_0 rfl 0 rfl ?_
  refine lc_get dX2_push_1 lc_fX2_16 h0_0 rfl ?_
  refine lc_aload_n dX2_push_4 rfl 0 rfl ?_
  refine lc_get dX2_push_5 lc_fX2_11 h0_0 rfl ?_
  refine lc_alenV (v := 4) dX2_push_8 h0_1 (by decide) rfl ?_
  refine lc_icmp_lt (tgt := 16) dX2_push_9 (by decide) (by omega) (fun h_9_0 => ?_) (fun h_9_0 => ?_)
  · skip
    refine lc_aload_n dX2_push_16 rfl 0 rfl ?_
    refine lc_get dX2_push_17 lc_fX2_16 h0_0 rfl ?_
    refine lc_if_lt (tgt := 35) dX2_push_20 (by decide) (by omega) (fun h_20_1 => ?_) (fun h_20_1 => ?_)
    · omega
    · skip
      refine lc_aload_n dX2_push_23 rfl 0 rfl ?_
      refine lc_get dX2_push_24 lc_fX2_16 h0_0 rfl ?_
      refine lc_aload_n dX2_push_27 rfl 0 rfl ?_
      refine lc_get dX2_push_28 lc_fX2_11 h0_0 rfl ?_
      refine lc_alenV (v := 4) dX2_push_31 h0_1 (by decide) rfl ?_
      refine lc_icmp_lt (tgt := 36) dX2_push_32 (by decide) (by omega) (fun h_32_2 => ?_) (fun h_32_2 => ?_)
      · skip
        refine lc_aload_n dX2_push_36 rfl 0 rfl ?_
        refine lc_get dX2_push_37 lc_fX2_11 h0_0 rfl ?_
        refine lc_aload_n dX2_push_40 rfl 0 rfl ?_
        refine lc_get dX2_push_41 lc_fX2_16 h0_0 rfl ?_
        refine lc_aald dX2_push_44 h0_1 (by omega) (by decide) ?_
        refine lc_top (congrArg va_rf (show lc_h4 (r) ((k : Int)) = some t from by unfold lc_h4; exact congrArg some (by omega))) ?_
        refine lc_astore_n (lv' := [(0, .ref (30)), (1, .ref (S)), (2, .ref (t))]) dX2_push_45 rfl (by decide) rfl ?_
        refine lc_aload_n dX2_push_46 rfl 2 rfl ?_
        refine lc_ifnull dX2_push_47 ?_
        refine lc_aload_n dX2_push_50 rfl 2 rfl ?_
        refine lc_aload_n dX2_push_51 rfl 1 rfl ?_
        refine lc_callV (As := [.ref (S)]) (stk := []) (b := t) dX2_push_52 lc_mX2_23 lc_yX7_copyFrom h0_6 rfl (lc_cX7_copyFrom l n (t) (f3) (s3) (q3) (m3) (mo3) (ca3) (ct3) (po3) (S) (f) (s) (q) (m) (mo) (ca) (ct) (po) σ h0_6 h0_7 h0_8 h0_9 h0_2 h0_3 h0_4 h0_5 (by omega)) rfl ⟨Nat.le_of_ble_eq_true rfl, Nat.le_of_ble_eq_true rfl⟩ ⟨Nat.le_of_ble_eq_true rfl, Nat.le_of_ble_eq_true rfl⟩ rfl (Nat.le_of_ble_eq_true rfl) (fun v9 n10 σ11 q12 => ?_)
        obtain ⟨rfl, rfl, h5, h6, h7, h8, fr4⟩ := q12
        have h13 : σ11 (30) = some (.inr (2, [.ref (31), .int (lc_i ((k : Int)))]) : lc_Cel) := (fr4 _ (by omega) (by omega) (by omega) (by omega)).trans h0_0
        have h14 : σ11 (31) = some (lc_aS 4 (lc_h4 (r))) := (fr4 _ (by omega) (by omega) (by omega) (by omega)).trans h0_1
        have h15 : σ11 (S) = some (.inr (7, [.ref (S + 1), .int (lc_i (mo)), .int (lc_i (ca)), .ref (S + 3), .int (lc_i (ct))]) : lc_Cel) := (fr4 _ (by omega) (by omega) (by omega) (by omega)).trans h0_2
        have h16 : σ11 (S + 1) = some (.inr (0, [.ref (S + 2), .int (lc_i (lc_cnt (f) 1 36)), .int (lc_i (lc_cnt (f) 2 36)), .int (lc_i (s)), .int (lc_i (q)), .int (lc_i (m))]) : lc_Cel) := (fr4 _ (by omega) (by omega) (by omega) (by omega)).trans h0_3
        have h17 : σ11 (S + 2) = some (lc_aI 36 (f)) := (fr4 _ (by omega) (by omega) (by omega) (by omega)).trans h0_4
        have h18 : σ11 (S + 3) = some (lc_aJ 60 (fun i : Int => lc_j ((po) i))) := (fr4 _ (by omega) (by omega) (by omega) (by omega)).trans h0_5
        refine lc_aload_n dX2_push_55 rfl 0 rfl ?_
        refine lc_dup dX2_push_56 rfl ?_
        refine lc_get dX2_push_57 lc_fX2_16 h13 rfl ?_
        refine lc_iconst dX2_push_60 ?_
        refine lc_iadd dX2_push_61 ?_
        refine lc_wI (vs' := [.ref (31), .int (lc_i (((k : Int)) + (1)))]) dX2_push_62 lc_fX2_16 h13 (Nat.le_of_ble_eq_true rfl) rfl rfl rfl (fun σ19 h20 fr21 => ?_)
        have h22 : σ19 (31) = some (lc_aS 4 (lc_h4 (r))) := (fr21 _ (by omega)).trans h14
        have h23 : σ19 (S) = some (.inr (7, [.ref (S + 1), .int (lc_i (mo)), .int (lc_i (ca)), .ref (S + 3), .int (lc_i (ct))]) : lc_Cel) := (fr21 _ (by omega)).trans h15
        have h24 : σ19 (S + 1) = some (.inr (0, [.ref (S + 2), .int (lc_i (lc_cnt (f) 1 36)), .int (lc_i (lc_cnt (f) 2 36)), .int (lc_i (s)), .int (lc_i (q)), .int (lc_i (m))]) : lc_Cel) := (fr21 _ (by omega)).trans h16
        have h25 : σ19 (S + 2) = some (lc_aI 36 (f)) := (fr21 _ (by omega)).trans h17
        have h26 : σ19 (S + 3) = some (lc_aJ 60 (fun i : Int => lc_j ((po) i))) := (fr21 _ (by omega)).trans h18
        have h27 : σ19 (t) = some (.inr (7, [.ref (t + 1), .int (lc_i (mo)), .int (lc_i (ca)), .ref (t + 3), .int (lc_i (ct))]) : lc_Cel) := (fr21 _ (by omega)).trans h5
        have h28 : σ19 (t + 1) = some (.inr (0, [.ref (t + 2), .int (lc_i (lc_cnt (f) 1 36)), .int (lc_i (lc_cnt (f) 2 36)), .int (lc_i (s)), .int (lc_i (q)), .int (lc_i (m))]) : lc_Cel) := (fr21 _ (by omega)).trans h6
        have h29 : σ19 (t + 2) = some (lc_aI 36 (f)) := (fr21 _ (by omega)).trans h7
        have h30 : σ19 (t + 3) = some (lc_aJ 60 (fun i : Int => lc_j ((po) i))) := (fr21 _ (by omega)).trans h8
        exact lc_vret dX2_push_65 rfl (Nat.le_of_ble_eq_true rfl) (Nat.le_of_ble_eq_true rfl) (hQ _ _ _ ⟨rfl, rfl, (by rw [show ((lc_hk k : Nat) : Int) = ((k : Int)) + (1) from by unfold lc_hk; split <;> omega]; exact h20), (by rw [show lc_hr r k = r from by unfold lc_hr; split <;> omega]; exact h22), h27, h28, h29, h30, (fun i _ _ _ _ _ _ => ((fr21 i (by omega)).trans (fr4 i (by omega) (by omega) (by omega) (by omega))))⟩)
      · omega
  · skip
    refine lc_aload_n dX2_push_12 rfl 0 rfl ?_
    refine lc_callV (As := []) (stk := []) (b := 30) dX2_push_13 lc_mX2_20 lc_yX2_dropOldest h0_0 rfl (lc_cX2_dropOldest l n (r) ((k : Int)) σ h0_0 h0_1 hst) rfl ⟨Nat.le_of_ble_eq_true rfl, Nat.le_of_ble_eq_true rfl⟩ ⟨Nat.le_of_ble_eq_true rfl, Nat.le_of_ble_eq_true rfl⟩ rfl (Nat.le_of_ble_eq_true rfl) (fun v34 n35 σ36 q37 => ?_)
    obtain ⟨rfl, rfl, h32, h33, fr31⟩ := q37
    have h38 : σ36 (S) = some (.inr (7, [.ref (S + 1), .int (lc_i (mo)), .int (lc_i (ca)), .ref (S + 3), .int (lc_i (ct))]) : lc_Cel) := (fr31 _ (by omega) (by omega)).trans h0_2
    have h39 : σ36 (S + 1) = some (.inr (0, [.ref (S + 2), .int (lc_i (lc_cnt (f) 1 36)), .int (lc_i (lc_cnt (f) 2 36)), .int (lc_i (s)), .int (lc_i (q)), .int (lc_i (m))]) : lc_Cel) := (fr31 _ (by omega) (by omega)).trans h0_3
    have h40 : σ36 (S + 2) = some (lc_aI 36 (f)) := (fr31 _ (by omega) (by omega)).trans h0_4
    have h41 : σ36 (S + 3) = some (lc_aJ 60 (fun i : Int => lc_j ((po) i))) := (fr31 _ (by omega) (by omega)).trans h0_5
    have h42 : σ36 (t) = some (.inr (7, [.ref (t + 1), .int (lc_i (mo3)), .int (lc_i (ca3)), .ref (t + 3), .int (lc_i (ct3))]) : lc_Cel) := (fr31 _ (by omega) (by omega)).trans h0_6
    have h43 : σ36 (t + 1) = some (.inr (0, [.ref (t + 2), .int (lc_i (lc_cnt (f3) 1 36)), .int (lc_i (lc_cnt (f3) 2 36)), .int (lc_i (s3)), .int (lc_i (q3)), .int (lc_i (m3))]) : lc_Cel) := (fr31 _ (by omega) (by omega)).trans h0_7
    have h44 : σ36 (t + 2) = some (lc_aI 36 (f3)) := (fr31 _ (by omega) (by omega)).trans h0_8
    have h45 : σ36 (t + 3) = some (lc_aJ 60 (fun i : Int => lc_j ((po3) i))) := (fr31 _ (by omega) (by omega)).trans h0_9
    refine lc_aload_n dX2_push_16 rfl 0 rfl ?_
    refine lc_get dX2_push_17 lc_fX2_16 h32 rfl ?_
    refine lc_if_lt (tgt := 35) dX2_push_20 (by decide) (by omega) (fun h_20_45 => ?_) (fun h_20_45 => ?_)
    · omega
    · skip
      refine lc_aload_n dX2_push_23 rfl 0 rfl ?_
      refine lc_get dX2_push_24 lc_fX2_16 h32 rfl ?_
      refine lc_aload_n dX2_push_27 rfl 0 rfl ?_
      refine lc_get dX2_push_28 lc_fX2_11 h32 rfl ?_
      refine lc_alenV (v := 4) dX2_push_31 h33 (by decide) rfl ?_
      refine lc_icmp_lt (tgt := 36) dX2_push_32 (by decide) (by omega) (fun h_32_46 => ?_) (fun h_32_46 => ?_)
      · skip
        refine lc_aload_n dX2_push_36 rfl 0 rfl ?_
        refine lc_get dX2_push_37 lc_fX2_11 h32 rfl ?_
        refine lc_aload_n dX2_push_40 rfl 0 rfl ?_
        refine lc_get dX2_push_41 lc_fX2_16 h32 rfl ?_
        refine lc_aald dX2_push_44 h33 (by omega) (by decide) ?_
        refine lc_top (congrArg va_rf (show lc_h4 (r + 1) (3) = some t from by unfold lc_h4; exact congrArg some (by omega))) ?_
        refine lc_astore_n (lv' := [(0, .ref (30)), (1, .ref (S)), (2, .ref (t))]) dX2_push_45 rfl (by decide) rfl ?_
        refine lc_aload_n dX2_push_46 rfl 2 rfl ?_
        refine lc_ifnull dX2_push_47 ?_
        refine lc_aload_n dX2_push_50 rfl 2 rfl ?_
        refine lc_aload_n dX2_push_51 rfl 1 rfl ?_
        refine lc_callV (As := [.ref (S)]) (stk := []) (b := t) dX2_push_52 lc_mX2_23 lc_yX7_copyFrom h42 rfl (lc_cX7_copyFrom l n (t) (f3) (s3) (q3) (m3) (mo3) (ca3) (ct3) (po3) (S) (f) (s) (q) (m) (mo) (ca) (ct) (po) σ36 h42 h43 h44 h45 h38 h39 h40 h41 (by omega)) rfl ⟨Nat.le_of_ble_eq_true rfl, Nat.le_of_ble_eq_true rfl⟩ ⟨Nat.le_of_ble_eq_true rfl, Nat.le_of_ble_eq_true rfl⟩ rfl (Nat.le_of_ble_eq_true rfl) (fun v53 n54 σ55 q56 => ?_)
        obtain ⟨rfl, rfl, h49, h50, h51, h52, fr48⟩ := q56
        have h57 : σ55 (S) = some (.inr (7, [.ref (S + 1), .int (lc_i (mo)), .int (lc_i (ca)), .ref (S + 3), .int (lc_i (ct))]) : lc_Cel) := (fr48 _ (by omega) (by omega) (by omega) (by omega)).trans h38
        have h58 : σ55 (S + 1) = some (.inr (0, [.ref (S + 2), .int (lc_i (lc_cnt (f) 1 36)), .int (lc_i (lc_cnt (f) 2 36)), .int (lc_i (s)), .int (lc_i (q)), .int (lc_i (m))]) : lc_Cel) := (fr48 _ (by omega) (by omega) (by omega) (by omega)).trans h39
        have h59 : σ55 (S + 2) = some (lc_aI 36 (f)) := (fr48 _ (by omega) (by omega) (by omega) (by omega)).trans h40
        have h60 : σ55 (S + 3) = some (lc_aJ 60 (fun i : Int => lc_j ((po) i))) := (fr48 _ (by omega) (by omega) (by omega) (by omega)).trans h41
        have h61 : σ55 (30) = some (.inr (2, [.ref (31), .int (lc_i (3))]) : lc_Cel) := (fr48 _ (by omega) (by omega) (by omega) (by omega)).trans h32
        have h62 : σ55 (31) = some (lc_aS 4 (lc_h4 (r + 1))) := (fr48 _ (by omega) (by omega) (by omega) (by omega)).trans h33
        refine lc_aload_n dX2_push_55 rfl 0 rfl ?_
        refine lc_dup dX2_push_56 rfl ?_
        refine lc_get dX2_push_57 lc_fX2_16 h61 rfl ?_
        refine lc_iconst dX2_push_60 ?_
        refine lc_iadd dX2_push_61 ?_
        refine lc_wI (vs' := [.ref (31), .int (lc_i ((3) + (1)))]) dX2_push_62 lc_fX2_16 h61 (Nat.le_of_ble_eq_true rfl) rfl rfl rfl (fun σ63 h64 fr65 => ?_)
        have h66 : σ63 (S) = some (.inr (7, [.ref (S + 1), .int (lc_i (mo)), .int (lc_i (ca)), .ref (S + 3), .int (lc_i (ct))]) : lc_Cel) := (fr65 _ (by omega)).trans h57
        have h67 : σ63 (S + 1) = some (.inr (0, [.ref (S + 2), .int (lc_i (lc_cnt (f) 1 36)), .int (lc_i (lc_cnt (f) 2 36)), .int (lc_i (s)), .int (lc_i (q)), .int (lc_i (m))]) : lc_Cel) := (fr65 _ (by omega)).trans h58
        have h68 : σ63 (S + 2) = some (lc_aI 36 (f)) := (fr65 _ (by omega)).trans h59
        have h69 : σ63 (S + 3) = some (lc_aJ 60 (fun i : Int => lc_j ((po) i))) := (fr65 _ (by omega)).trans h60
        have h70 : σ63 (31) = some (lc_aS 4 (lc_h4 (r + 1))) := (fr65 _ (by omega)).trans h62
        have h71 : σ63 (t) = some (.inr (7, [.ref (t + 1), .int (lc_i (mo)), .int (lc_i (ca)), .ref (t + 3), .int (lc_i (ct))]) : lc_Cel) := (fr65 _ (by omega)).trans h49
        have h72 : σ63 (t + 1) = some (.inr (0, [.ref (t + 2), .int (lc_i (lc_cnt (f) 1 36)), .int (lc_i (lc_cnt (f) 2 36)), .int (lc_i (s)), .int (lc_i (q)), .int (lc_i (m))]) : lc_Cel) := (fr65 _ (by omega)).trans h50
        have h73 : σ63 (t + 2) = some (lc_aI 36 (f)) := (fr65 _ (by omega)).trans h51
        have h74 : σ63 (t + 3) = some (lc_aJ 60 (fun i : Int => lc_j ((po) i))) := (fr65 _ (by omega)).trans h52
        exact lc_vret dX2_push_65 rfl (Nat.le_of_ble_eq_true rfl) (Nat.le_of_ble_eq_true rfl) (hQ _ _ _ ⟨rfl, rfl, (by rw [show ((lc_hk k : Nat) : Int) = (3) + (1) from by unfold lc_hk; split <;> omega]; exact h64), (by rw [show lc_hr r k = r + 1 from by unfold lc_hr; split <;> omega]; exact h70), h71, h72, h73, h74, (fun i _ _ _ _ _ _ => ((fr65 i (by omega)).trans ((fr48 i (by omega) (by omega) (by omega) (by omega)).trans (fr31 i (by omega) (by omega)))))⟩)
      · omega

set_option maxRecDepth 100000 in
set_option maxHeartbeats 4000000 in
/-- History.takeLatest -/
theorem lc_cX2_takeLatest (l : Launch) (n : Nat) (r k : Nat) (S : Nat) (f : Int → Int) (s q m mo ca ct : Int) (po : Int → Int) (t : Nat) (f3 : Int → Int) (s3 q3 m3 mo3 ca3 ct3 : Int) (po3 : Int → Int) (σ : lc_S) (h0_0 : σ (30) = some (.inr (2, [.ref (31), .int (lc_i ((k : Int)))]) : lc_Cel)) (h0_1 : σ (31) = some (lc_aS 4 (lc_h4 (r)))) (h0_2 : σ (S) = some (.inr (7, [.ref (S + 1), .int (lc_i (mo)), .int (lc_i (ca)), .ref (S + 3), .int (lc_i (ct))]) : lc_Cel)) (h0_3 : σ (S + 1) = some (.inr (0, [.ref (S + 2), .int (lc_i (lc_cnt (f) 1 36)), .int (lc_i (lc_cnt (f) 2 36)), .int (lc_i (s)), .int (lc_i (q)), .int (lc_i (m))]) : lc_Cel)) (h0_4 : σ (S + 2) = some (lc_aI 36 (f))) (h0_5 : σ (S + 3) = some (lc_aJ 60 (fun i : Int => lc_j ((po) i)))) (h0_6 : σ (t) = some (.inr (7, [.ref (t + 1), .int (lc_i (mo3)), .int (lc_i (ca3)), .ref (t + 3), .int (lc_i (ct3))]) : lc_Cel)) (h0_7 : σ (t + 1) = some (.inr (0, [.ref (t + 2), .int (lc_i (lc_cnt (f3) 1 36)), .int (lc_i (lc_cnt (f3) 2 36)), .int (lc_i (s3)), .int (lc_i (q3)), .int (lc_i (m3))]) : lc_Cel)) (h0_8 : σ (t + 2) = some (lc_aI 36 (f3))) (h0_9 : σ (t + 3) = some (lc_aJ 60 (fun i : Int => lc_j ((po3) i)))) (hk : 1 ≤ k ∧ k ≤ 4) (ht : t = 32 + 4 * ((r + (k - 1)) % 4)) (hS : 17 < S ∧ S + 3 < 30) : lc_Con l yX2_takeLatest cX2_takeLatest 3 none (lc_Rd 2) [.ref (30), .ref (S)] n σ (fun v n2 σ2 => v = none ∧ n = n2 ∧ σ2 (30) = some (.inr (2, [.ref (31), .int (lc_i (((k - 1 : Nat) : Int)))]) : lc_Cel) ∧ σ2 (S) = some (.inr (7, [.ref (S + 1), .int (lc_i (mo3)), .int (lc_i (ca3)), .ref (S + 3), .int (lc_i (ct3))]) : lc_Cel) ∧ σ2 (S + 1) = some (.inr (0, [.ref (S + 2), .int (lc_i (lc_cnt (f3) 1 36)), .int (lc_i (lc_cnt (f3) 2 36)), .int (lc_i (s3)), .int (lc_i (q3)), .int (lc_i (m3))]) : lc_Cel) ∧ σ2 (S + 2) = some (lc_aI 36 (f3)) ∧ σ2 (S + 3) = some (lc_aJ 60 (fun i : Int => lc_j ((po3) i))) ∧ ∀ i : Nat, i ≠ 30 → i ≠ S → i ≠ S + 1 → i ≠ S + 2 → i ≠ S + 3 → σ2 i = σ i) := by
  refine lc_con RX2 false (by decide) rfl (fun h => absurd h (by decide)) (Nat.le_of_ble_eq_true rfl) ?_
  suffices H : ∀ Q : lc_QT, (∀ v n2 σ2, (fun v n2 σ2 => v = none ∧ n = n2 ∧ σ2 (30) = some (.inr (2, [.ref (31), .int (lc_i (((k - 1 : Nat) : Int)))]) : lc_Cel) ∧ σ2 (S) = some (.inr (7, [.ref (S + 1), .int (lc_i (mo3)), .int (lc_i (ca3)), .ref (S + 3), .int (lc_i (ct3))]) : lc_Cel) ∧ σ2 (S + 1) = some (.inr (0, [.ref (S + 2), .int (lc_i (lc_cnt (f3) 1 36)), .int (lc_i (lc_cnt (f3) 2 36)), .int (lc_i (s3)), .int (lc_i (q3)), .int (lc_i (m3))]) : lc_Cel) ∧ σ2 (S + 2) = some (lc_aI 36 (f3)) ∧ σ2 (S + 3) = some (lc_aJ 60 (fun i : Int => lc_j ((po3) i))) ∧ ∀ i : Nat, i ≠ 30 → i ≠ S → i ≠ S + 1 → i ≠ S + 2 → i ≠ S + 3 → σ2 i = σ i : lc_QT) v n2 σ2 → Q v n2 σ2) → lc_V l RX2 cX2_takeLatest 3 none false (lc_Rd 2) (lc_G Q 0 0) lc_E0 0 0 n 0 [(0, .ref (30)), (1, .ref (S))] [] σ from H _ (fun _ _ _ h => h)
  intro Q hQ
  refine lc_aload_n dX2_takeLatest_0 rfl 0 rfl ?_
  refine lc_get dX2_takeLatest_1 lc_fX2_16 h0_0 rfl ?_
  refine lc_iconst dX2_takeLatest_4 ?_
  refine lc_icmp_lt (tgt := 20) dX2_takeLatest_5 (by decide) (by omega) (fun h_5_0 => ?_) (fun h_5_0 => ?_)
  · omega
  · skip
    refine lc_aload_n dX2_takeLatest_8 rfl 0 rfl ?_
    refine lc_get dX2_takeLatest_9 lc_fX2_16 h0_0 rfl ?_
    refine lc_aload_n dX2_takeLatest_12 rfl 0 rfl ?_
    refine lc_get dX2_takeLatest_13 lc_fX2_11 h0_0 rfl ?_
    refine lc_alenV (v := 4) dX2_takeLatest_16 h0_1 (by decide) rfl ?_
    refine lc_icmp_le (tgt := 21) dX2_takeLatest_17 (by decide) (by omega) (fun h_17_1 => ?_) (fun h_17_1 => ?_)
    · skip
      refine lc_aload_n dX2_takeLatest_21 rfl 0 rfl ?_
      refine lc_get dX2_takeLatest_22 lc_fX2_11 h0_0 rfl ?_
      refine lc_aload_n dX2_takeLatest_25 rfl 0 rfl ?_
      refine lc_get dX2_takeLatest_26 lc_fX2_16 h0_0 rfl ?_
      refine lc_iconst dX2_takeLatest_29 ?_
      refine lc_isub dX2_takeLatest_30 ?_
      refine lc_aald dX2_takeLatest_31 h0_1 (by omega) (by decide) ?_
      refine lc_top (congrArg va_rf (show lc_h4 (r) (((k : Int)) - (1)) = some t from by unfold lc_h4; exact congrArg some (by omega))) ?_
      refine lc_astore_n (lv' := [(0, .ref (30)), (1, .ref (S)), (2, .ref (t))]) dX2_takeLatest_32 rfl (by decide) rfl ?_
      refine lc_aload_n dX2_takeLatest_33 rfl 2 rfl ?_
      refine lc_ifnull dX2_takeLatest_34 ?_
      refine lc_aload_n dX2_takeLatest_37 rfl 1 rfl ?_
      refine lc_aload_n dX2_takeLatest_38 rfl 2 rfl ?_
      refine lc_callV (As := [.ref (t)]) (stk := []) (b := S) dX2_takeLatest_39 lc_mX2_23 lc_yX7_copyFrom h0_2 rfl (lc_cX7_copyFrom l n (S) (f) (s) (q) (m) (mo) (ca) (ct) (po) (t) (f3) (s3) (q3) (m3) (mo3) (ca3) (ct3) (po3) σ h0_2 h0_3 h0_4 h0_5 h0_6 h0_7 h0_8 h0_9 (by omega)) rfl ⟨Nat.le_of_ble_eq_true rfl, Nat.le_of_ble_eq_true rfl⟩ ⟨Nat.le_of_ble_eq_true rfl, Nat.le_of_ble_eq_true rfl⟩ rfl (Nat.le_of_ble_eq_true rfl) (fun v8 n9 σ10 q11 => ?_)
      obtain ⟨rfl, rfl, h4, h5, h6, h7, fr3⟩ := q11
      have h12 : σ10 (30) = some (.inr (2, [.ref (31), .int (lc_i ((k : Int)))]) : lc_Cel) := (fr3 _ (by omega) (by omega) (by omega) (by omega)).trans h0_0
      have h13 : σ10 (31) = some (lc_aS 4 (lc_h4 (r))) := (fr3 _ (by omega) (by omega) (by omega) (by omega)).trans h0_1
      have h14 : σ10 (t) = some (.inr (7, [.ref (t + 1), .int (lc_i (mo3)), .int (lc_i (ca3)), .ref (t + 3), .int (lc_i (ct3))]) : lc_Cel) := (fr3 _ (by omega) (by omega) (by omega) (by omega)).trans h0_6
      have h15 : σ10 (t + 1) = some (.inr (0, [.ref (t + 2), .int (lc_i (lc_cnt (f3) 1 36)), .int (lc_i (lc_cnt (f3) 2 36)), .int (lc_i (s3)), .int (lc_i (q3)), .int (lc_i (m3))]) : lc_Cel) := (fr3 _ (by omega) (by omega) (by omega) (by omega)).trans h0_7
      have h16 : σ10 (t + 2) = some (lc_aI 36 (f3)) := (fr3 _ (by omega) (by omega) (by omega) (by omega)).trans h0_8
      have h17 : σ10 (t + 3) = some (lc_aJ 60 (fun i : Int => lc_j ((po3) i))) := (fr3 _ (by omega) (by omega) (by omega) (by omega)).trans h0_9
      refine lc_aload_n dX2_takeLatest_42 rfl 0 rfl ?_
      refine lc_dup dX2_takeLatest_43 rfl ?_
      refine lc_get dX2_takeLatest_44 lc_fX2_16 h12 rfl ?_
      refine lc_iconst dX2_takeLatest_47 ?_
      refine lc_isub dX2_takeLatest_48 ?_
      refine lc_top (congrArg (fun z => Value.int (lc_i z)) (show (((k : Int)) - (1) : Int) = (k : Int) - 1 from rfl)) ?_
      refine lc_wI (vs' := [.ref (31), .int (lc_i ((k : Int) - 1))]) dX2_takeLatest_49 lc_fX2_16 h12 (Nat.le_of_ble_eq_true rfl) rfl rfl rfl (fun σ18 h19 fr20 => ?_)
      have h21 : σ18 (31) = some (lc_aS 4 (lc_h4 (r))) := (fr20 _ (by omega)).trans h13
      have h22 : σ18 (t) = some (.inr (7, [.ref (t + 1), .int (lc_i (mo3)), .int (lc_i (ca3)), .ref (t + 3), .int (lc_i (ct3))]) : lc_Cel) := (fr20 _ (by omega)).trans h14
      have h23 : σ18 (t + 1) = some (.inr (0, [.ref (t + 2), .int (lc_i (lc_cnt (f3) 1 36)), .int (lc_i (lc_cnt (f3) 2 36)), .int (lc_i (s3)), .int (lc_i (q3)), .int (lc_i (m3))]) : lc_Cel) := (fr20 _ (by omega)).trans h15
      have h24 : σ18 (t + 2) = some (lc_aI 36 (f3)) := (fr20 _ (by omega)).trans h16
      have h25 : σ18 (t + 3) = some (lc_aJ 60 (fun i : Int => lc_j ((po3) i))) := (fr20 _ (by omega)).trans h17
      have h26 : σ18 (S) = some (.inr (7, [.ref (S + 1), .int (lc_i (mo3)), .int (lc_i (ca3)), .ref (S + 3), .int (lc_i (ct3))]) : lc_Cel) := (fr20 _ (by omega)).trans h4
      have h27 : σ18 (S + 1) = some (.inr (0, [.ref (S + 2), .int (lc_i (lc_cnt (f3) 1 36)), .int (lc_i (lc_cnt (f3) 2 36)), .int (lc_i (s3)), .int (lc_i (q3)), .int (lc_i (m3))]) : lc_Cel) := (fr20 _ (by omega)).trans h5
      have h28 : σ18 (S + 2) = some (lc_aI 36 (f3)) := (fr20 _ (by omega)).trans h6
      have h29 : σ18 (S + 3) = some (lc_aJ 60 (fun i : Int => lc_j ((po3) i))) := (fr20 _ (by omega)).trans h7
      exact lc_vret dX2_takeLatest_52 rfl (Nat.le_of_ble_eq_true rfl) (Nat.le_of_ble_eq_true rfl) (hQ _ _ _ ⟨rfl, rfl, (by rw [show ((k - 1 : Nat) : Int) = (k : Int) - 1 from by omega]; exact h19), h26, h27, h28, h29, (fun i _ _ _ _ _ => ((fr20 i (by omega)).trans (fr3 i (by omega) (by omega) (by omega) (by omega))))⟩)
    · omega
