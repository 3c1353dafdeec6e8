/-! the reference's history, beginning and text -/
theorem lc_cnt_all {f : Int → Int} : ∀ N : Nat, (∀ j : Int, 0 ≤ j → j < N → 0 ≤ f j ∧ f j ≤ 2) → lc_cnt f 0 N + lc_cnt f 1 N + lc_cnt f 2 N = N
  | 0, _ => rfl
  | N + 1, h => by
    have h1 := lc_cnt_all N (fun j h2 h3 => h j h2 (by omega))
    have h2 := h N (by omega) (by omega)
    show (lc_cnt f 0 N + lc_d (f N) 0) + (lc_cnt f 1 N + lc_d (f N) 1) + (lc_cnt f 2 N + lc_d (f N) 2) = ((N + 1 : Nat) : Int)
    have h3 : lc_d (f N) 0 + lc_d (f N) 1 + lc_d (f N) 2 = 1 := by
      unfold lc_d
      (repeat' split) <;> omega
    omega
def lc_sh (g : Int → Int) : Int → Int := fun j => if 0 ≤ j ∧ j < 666 then g (j + 222) else g j
theorem lc_past_4 {N g : Int → Int} {A : lc_St} {H : Nat → lc_St} {k : Nat} (e : k = 4) (hR : lc_RM N A) (hA : A.2.2.2.2.2.2.1 ≤ 60) (hP : ∀ j : Nat, j < k → lc_RM (fun i => g (222 * (j : Int) + i)) (H j)) (hH : ∀ j : Nat, j < k → (H j).2.2.2.2.2.2.1 ≤ 60) : ∀ j : Nat, j < lc_hk k → lc_RM (fun i => lc_cpy N 0 (lc_sh g) (222 * 3) (222 * (j : Int) + i)) (lc_pu H k A j) := by
  subst e
  intro j hj
  have hj : j < 4 := hj
  unfold lc_pu
  rw [if_pos rfl]
  by_cases e : j = 3
  · rw [if_pos e]
    subst e
    refine lc_RM_e hR hA (fun i h1 h2 => ?_)
    unfold lc_cpy
    rw [if_pos (by omega)]
    congr 1
    omega
  · rw [if_neg e]
    refine lc_RM_e (hP (j + 1) (by omega)) (hH (j + 1) (by omega)) (fun i h1 h2 => ?_)
    unfold lc_cpy lc_sh
    rw [if_neg (by omega), if_pos (by omega)]
    show g _ = g _
    congr 1
    omega
theorem lc_past_k {N g : Int → Int} {A : lc_St} {H : Nat → lc_St} {k : Nat} (e : ¬ k = 4) (hR : lc_RM N A) (hA : A.2.2.2.2.2.2.1 ≤ 60) (hP : ∀ j : Nat, j < k → lc_RM (fun i => g (222 * (j : Int) + i)) (H j)) (hH : ∀ j : Nat, j < k → (H j).2.2.2.2.2.2.1 ≤ 60) : ∀ j : Nat, j < lc_hk k → lc_RM (fun i => lc_cpy N 0 g (222 * (k : Int)) (222 * (j : Int) + i)) (lc_pu H k A j) := by
  intro j hj
  unfold lc_hk at hj
  rw [if_neg e] at hj
  unfold lc_pu
  rw [if_neg e]
  by_cases e : j = k
  · rw [if_pos e]
    subst e
    refine lc_RM_e hR hA (fun i h1 h2 => ?_)
    unfold lc_cpy
    rw [if_pos (by omega)]
    congr 1
    omega
  · rw [if_neg e]
    refine lc_RM_e (hP j (by omega)) (hH j (by omega)) (fun i h1 h2 => ?_)
    unfold lc_cpy
    rw [if_neg (by omega)]
theorem lc_hk_4 {k : Nat} (e : k = 4) : ((lc_hk k : Nat) : Int) = 3 + 1 := by
  rw [show lc_hk k = 4 from if_pos e]; rfl
theorem lc_hk_k {k : Nat} (e : ¬ k = 4) : ((lc_hk k : Nat) : Int) = (k : Int) + 1 := by
  rw [show lc_hk k = k + 1 from if_neg e]; rfl
theorem lc_RM_b {N hh f : Int → Int} {s q m mo ca ct : Int} {po : Int → Int} (hR : lc_RM N (f, s, q, m, mo, ca, ct, po)) (hlo : ∀ j : Int, 0 ≤ j → j < 36 → hh (6 + j) = lc_f0 j) (hhi : ∀ j : Int, (j < 6 ∨ 42 ≤ j) → hh j = N j) : lc_RM (lc_u (lc_u (lc_u hh 0 1) 2 0) 3 0) (lc_f0, 1, q, m, 0, 0, ct, po) := by
  obtain ⟨h0, h1, h2, h3, h4, h5, h6, h7⟩ := hR
  refine ⟨?_, ?_, ?_, lc_u_s _ _ _, ?_, ?_, ?_, ?_⟩
  · rw [lc_u_n _ _ (by omega), lc_u_n _ _ (by omega), lc_u_s]
  · rw [lc_u_n _ _ (by omega), lc_u_n _ _ (by omega), lc_u_n _ _ (by omega), hhi 1 (by omega)]; exact h1
  · rw [lc_u_n _ _ (by omega), lc_u_s]
  · rw [lc_u_n _ _ (by omega), lc_u_n _ _ (by omega), lc_u_n _ _ (by omega), hhi 4 (by omega)]; exact h4
  · rw [lc_u_n _ _ (by omega), lc_u_n _ _ (by omega), lc_u_n _ _ (by omega), hhi 5 (by omega)]; exact h5
  · intro p h8 h9
    rw [lc_u_n _ _ (by omega), lc_u_n _ _ (by omega), lc_u_n _ _ (by omega)]; exact hlo p h8 h9
  · intro i h8 h9
    obtain ⟨a1, a2, a3⟩ := h7 i h8 h9
    refine ⟨?_, ?_, ?_⟩
    · rw [lc_u_n _ _ (by omega), lc_u_n _ _ (by omega), lc_u_n _ _ (by omega), hhi _ (by omega)]; exact a1
    · rw [lc_u_n _ _ (by omega), lc_u_n _ _ (by omega), lc_u_n _ _ (by omega), hhi _ (by omega)]; exact a2
    · rw [lc_u_n _ _ (by omega), lc_u_n _ _ (by omega), lc_u_n _ _ (by omega), hhi _ (by omega)]; exact a3

set_option maxRecDepth 100000 in
set_option maxHeartbeats 600000 in
theorem lc_cX11_allPieces (l : Launch) (n : Nat) (N : Int → Int) (f : Int → Int) (s q m mo ca ct : Int) (po : Int → Int) (kept : Int) (bs : Bool) (z at9 sn sr w1 w2 w3 bw : Int) (σ : lc_S) (h0_0 : σ (50) = some (.inr (11, [.ref (51), .ref (52), .ref (53), .ref (54), .ref (55), .int (lc_i (kept)), .ref (56), .int (lc_i (if bs = true then 1 else 0)), .ref (57), .int (lc_i (z)), .int (lc_i (at9)), .int (lc_i (sn)), .int (lc_i (sr)), .int (lc_i (w1)), .int (lc_i (w2)), .int (lc_i (w3)), .int (lc_i (bw))]) : lc_Cel)) (h0_1 : σ (51) = some (lc_aI 222 (N))) (hf : ∀ j : Int, 0 ≤ j → j < 36 → 0 ≤ f j ∧ f j ≤ 2) (hR : lc_RM N (f, s, q, m, mo, ca, ct, po)) : lc_Con l yX11_allPieces cX11_allPieces 1 (some .int) (lc_Rd 1) [.ref (50)] n σ (fun v n2 σ2 => v = some (.int (lc_i (lc_cnt f 1 36 + lc_cnt f 2 36))) ∧ n = n2 ∧ σ = σ2) := by
  refine lc_con RX11 false (by decide) rfl (fun h => absurd h (by decide)) (Nat.le_of_ble_eq_true rfl) ?_
  suffices H : ∀ Q : lc_QT, (∀ v n2 σ2, (fun v n2 σ2 => v = some (.int (lc_i (lc_cnt f 1 36 + lc_cnt f 2 36))) ∧ n = n2 ∧ σ = σ2 : lc_QT) v n2 σ2 → Q v n2 σ2) → lc_V l RX11 cX11_allPieces 1 (some .int) false (lc_Rd 1) (lc_G Q 0 0) lc_E0 0 0 n 0 [(0, .ref (50))] [] σ from H _ (fun _ _ _ h => h)
  intro Q hQ
  refine lc_bipush dX11_allPieces_0 (by decide) ?_
  refine lc_aload_n dX11_allPieces_2 rfl 0 rfl ?_
  refine lc_get dX11_allPieces_3 lc_fX11_7 h0_0 rfl ?_
  refine lc_iconst dX11_allPieces_6 ?_
  refine lc_callS (As := [.ref (51), .int (lc_i (0))]) (stk := [.int (lc_i (36))]) dX11_allPieces_7 lc_mX11_52 lc_yX11_pieces (lc_cX11_pieces l n (51) (N) (f) (s) (q) (m) (mo) (ca) (ct) (po) (0) σ h0_1 (hf) (hR) (by omega)) rfl ⟨Nat.le_of_ble_eq_true rfl, Nat.le_of_ble_eq_true rfl⟩ ⟨Nat.le_of_ble_eq_true rfl, Nat.le_of_ble_eq_true rfl⟩ rfl (Nat.le_of_ble_eq_true rfl) (fun v1 n2 σ3 q4 => ?_)
  obtain ⟨rfl, rfl, rfl⟩ := q4
  refine lc_isub dX11_allPieces_10 ?_
  exact lc_iret dX11_allPieces_11 rfl (Nat.le_of_ble_eq_true rfl) (Nat.le_of_ble_eq_true rfl) (hQ _ _ _ ⟨lc_some (by have h9 := lc_cnt_all (f := f) 36 (fun j h1 h2 => hf j h1 (by omega)); omega), rfl, rfl⟩)

set_option maxRecDepth 100000 in
set_option maxHeartbeats 600000 in
theorem lc_cX11_records (l : Launch) (n : Nat) (N : Int → Int) (f : Int → Int) (s q m mo ca ct : Int) (po : Int → Int) (k : Nat) (bs : Bool) (z at9 sn sr w1 w2 w3 bw : Int) (N5 : Int → Int) (H : Nat → lc_St) (σ : lc_S) (h0_0 : σ (50) = some (.inr (11, [.ref (51), .ref (52), .ref (53), .ref (54), .ref (55), .int (lc_i ((k : Int))), .ref (56), .int (lc_i (if bs = true then 1 else 0)), .ref (57), .int (lc_i (z)), .int (lc_i (at9)), .int (lc_i (sn)), .int (lc_i (sr)), .int (lc_i (w1)), .int (lc_i (w2)), .int (lc_i (w3)), .int (lc_i (bw))]) : lc_Cel)) (h0_1 : σ (51) = some (lc_aI 222 (N))) (h0_2 : σ (55) = some (lc_aI 888 (N5))) (hk : k ≤ 4) (hct : 0 ≤ ct ∧ ct ≤ 60) (hR : lc_RM N (f, s, q, m, mo, ca, ct, po)) (hP : ∀ j : Nat, j < k → lc_RM (fun i => N5 (222 * (j : Int) + i)) (H j)) (hH : ∀ j : Nat, j < k → (H j).2.2.2.2.2.2.1 ≤ 60) : lc_Con l yX11_records cX11_records 2 none (lc_Rd 1) [.ref (50)] n σ (fun v n2 σ2 => ∃ g5 : Int → Int, v = none ∧ n = n2 ∧ σ2 (50) = some (.inr (11, [.ref (51), .ref (52), .ref (53), .ref (54), .ref (55), .int (lc_i (((lc_hk k : Nat) : Int))), .ref (56), .int (lc_i (if bs = true then 1 else 0)), .ref (57), .int (lc_i (z)), .int (lc_i (at9)), .int (lc_i (sn)), .int (lc_i (sr)), .int (lc_i (w1)), .int (lc_i (w2)), .int (lc_i (w3)), .int (lc_i (bw))]) : lc_Cel) ∧ σ2 (55) = some (lc_aI 888 (g5)) ∧ (∀ j : Nat, j < lc_hk k → lc_RM (fun i => g5 (222 * (j : Int) + i)) (lc_pu H k (f, s, q, m, mo, ca, ct, po) j)) ∧ ∀ i : Nat, i ≠ 50 → i ≠ 55 → σ2 i = σ i) := by
  refine lc_con RX11 false (by decide) rfl (fun h => absurd h (by decide)) (Nat.le_of_ble_eq_true rfl) ?_
  suffices H : ∀ Q : lc_QT, (∀ v n2 σ2, (fun v n2 σ2 => ∃ g5 : Int → Int, v = none ∧ n = n2 ∧ σ2 (50) = some (.inr (11, [.ref (51), .ref (52), .ref (53), .ref (54), .ref (55), .int (lc_i (((lc_hk k : Nat) : Int))), .ref (56), .int (lc_i (if bs = true then 1 else 0)), .ref (57), .int (lc_i (z)), .int (lc_i (at9)), .int (lc_i (sn)), .int (lc_i (sr)), .int (lc_i (w1)), .int (lc_i (w2)), .int (lc_i (w3)), .int (lc_i (bw))]) : lc_Cel) ∧ σ2 (55) = some (lc_aI 888 (g5)) ∧ (∀ j : Nat, j < lc_hk k → lc_RM (fun i => g5 (222 * (j : Int) + i)) (lc_pu H k (f, s, q, m, mo, ca, ct, po) j)) ∧ ∀ i : Nat, i ≠ 50 → i ≠ 55 → σ2 i = σ i : lc_QT) v n2 σ2 → Q v n2 σ2) → lc_V l RX11 cX11_records 2 none false (lc_Rd 1) (lc_G Q 0 0) lc_E0 0 0 n 0 [(0, .ref (50))] [] σ from H _ (fun _ _ _ h => h)
  intro Q hQ
  refine lc_aload_n dX11_records_0 rfl 0 rfl ?_
  refine lc_get dX11_records_1 lc_fX11_45 h0_0 rfl ?_
  refine lc_iconst dX11_records_4 ?_
  refine lc_icmp_ne (tgt := 49) dX11_records_5 (by decide) (by omega) (fun h_5_0 => ?_) (fun h_5_0 => ?_)
  · skip
    refine lc_aload_n dX11_records_49 rfl 0 rfl ?_
    refine lc_get dX11_records_50 lc_fX11_7 h0_0 rfl ?_
    refine lc_iconst dX11_records_53 ?_
    refine lc_aload_n dX11_records_54 rfl 0 rfl ?_
    refine lc_get dX11_records_55 lc_fX11_22 h0_0 rfl ?_
    refine lc_sipush dX11_records_58 (by decide) ?_
    refine lc_aload_n dX11_records_61 rfl 0 rfl ?_
    refine lc_get dX11_records_62 lc_fX11_45 h0_0 rfl ?_
    refine lc_imul dX11_records_65 ?_
    refine lc_callS (As := [.ref (51), .int (lc_i (0)), .ref (55), .int (lc_i ((222) * ((k : Int))))]) (stk := []) dX11_records_66 lc_mX11_48 lc_yX11_copies (lc_cX11_copies l n (51) (55) (222) (888) (N) (N5) (0) ((222) * ((k : Int))) σ h0_1 h0_2 (by omega) (by omega) (by omega) (by omega)) rfl ⟨Nat.le_of_ble_eq_true rfl, Nat.le_of_ble_eq_true rfl⟩ ⟨Nat.le_of_ble_eq_true rfl, Nat.le_of_ble_eq_true rfl⟩ rfl (Nat.le_of_ble_eq_true rfl) (fun v4 n5 σ6 q7 => ?_)
    obtain ⟨rfl, rfl, h3, fr2⟩ := q7
    have h8 : σ6 (50) = some (.inr (11, [.ref (51), .ref (52), .ref (53), .ref (54), .ref (55), .int (lc_i ((k : Int))), .ref (56), .int (lc_i (if bs = true then 1 else 0)), .ref (57), .int (lc_i (z)), .int (lc_i (at9)), .int (lc_i (sn)), .int (lc_i (sr)), .int (lc_i (w1)), .int (lc_i (w2)), .int (lc_i (w3)), .int (lc_i (bw))]) : lc_Cel) := (fr2 _ (by omega)).trans h0_0
    have h9 : σ6 (51) = some (lc_aI 222 (N)) := (fr2 _ (by omega)).trans h0_1
    refine lc_aload_n dX11_records_69 rfl 0 rfl ?_
    refine lc_dup dX11_records_70 rfl ?_
    refine lc_get dX11_records_71 lc_fX11_45 h8 rfl ?_
    refine lc_iconst dX11_records_74 ?_
    refine lc_iadd dX11_records_75 ?_
    refine lc_wI (vs' := [.ref (51), .ref (52), .ref (53), .ref (54), .ref (55), .int (lc_i (((k : Int)) + (1))), .ref (56), .int (lc_i (if bs = true then 1 else 0)), .ref (57), .int (lc_i (z)), .int (lc_i (at9)), .int (lc_i (sn)), .int (lc_i (sr)), .int (lc_i (w1)), .int (lc_i (w2)), .int (lc_i (w3)), .int (lc_i (bw))]) dX11_records_76 lc_fX11_45 h8 (Nat.le_of_ble_eq_true rfl) rfl rfl rfl (fun σ10 h11 fr12 => ?_)
    have h13 : σ10 (51) = some (lc_aI 222 (N)) := (fr12 _ (by omega)).trans h9
    have h14 : σ10 (55) = some (lc_aI 888 (lc_cpy (N) (0) (N5) ((222) * ((k : Int))))) := (fr12 _ (by omega)).trans h3
    have ek : ¬ k = 4 := by omega
    have hP2 := lc_past_k ek hR (show ct ≤ 60 from by omega) hP hH
    exact lc_vret dX11_records_79 rfl (Nat.le_of_ble_eq_true rfl) (Nat.le_of_ble_eq_true rfl) (hQ _ _ _ ⟨_, rfl, rfl, by rw [lc_hk_k ek]; exact h11, h14, hP2, (fun i _ _ => ((fr12 i (by omega)).trans (fr2 i (by omega))))⟩)
  · skip
    refine lc_iconst dX11_records_8 ?_
    refine lc_istore_n (lv' := [(0, .ref (50)), (1, .int (lc_i (0)))]) dX11_records_9 rfl (by decide) rfl ?_
    have loop16 : ∀ (N15 : Nat) (i : Int) (hh : Int → Int) (σ18 : lc_S), (σ18 (55) = some (lc_aI 888 (hh))) → (∀ i : Nat, i ≠ 55 → σ18 i = σ i) → (0 ≤ i ∧ i ≤ 666) → (∀ j : Int, 0 ≤ j → j < i → hh j = N5 (j + 222)) → (∀ j : Int, (j < 0 ∨ i ≤ j) → hh j = N5 j) → 666 - i < (N15 : Int) → lc_V l RX11 cX11_records 2 none false (lc_Rd 1) (lc_G Q 0 0) lc_E0 0 0 n 10 [(0, .ref (50)), (1, .int (lc_i (i)))] [] σ18 := by
      intro N15
      induction N15 with
      | zero =>
        intro i hh σ18 h19 fr20 hi hlo hhi hm21
        exact absurd hm21 (by omega)
      | succ N15 ih17 =>
        intro i hh σ18 h19 fr20 hi hlo hhi hm21
        have h22 : σ18 (50) = some (.inr (11, [.ref (51), .ref (52), .ref (53), .ref (54), .ref (55), .int (lc_i ((k : Int))), .ref (56), .int (lc_i (if bs = true then 1 else 0)), .ref (57), .int (lc_i (z)), .int (lc_i (at9)), .int (lc_i (sn)), .int (lc_i (sr)), .int (lc_i (w1)), .int (lc_i (w2)), .int (lc_i (w3)), .int (lc_i (bw))]) : lc_Cel) := (fr20 _ (by omega)).trans h0_0
        have h23 : σ18 (51) = some (lc_aI 222 (N)) := (fr20 _ (by omega)).trans h0_1
        refine lc_iload_n dX11_records_10 rfl 1 rfl ?_
        refine lc_sipush dX11_records_11 (by decide) ?_
        refine lc_icmp_ge (tgt := 39) dX11_records_14 (by decide) (by omega) (fun h_14_23 => ?_) (fun h_14_23 => ?_)
        · skip
          refine lc_extI (g := lc_sh N5) h19 (fun j h1 h2 => by unfold lc_sh; split; (exact hlo j (by omega) (by omega)); (exact hhi j (by omega))) (fun σ25 h26 fr27 => ?_)
          have h28 : σ25 (50) = some (.inr (11, [.ref (51), .ref (52), .ref (53), .ref (54), .ref (55), .int (lc_i ((k : Int))), .ref (56), .int (lc_i (if bs = true then 1 else 0)), .ref (57), .int (lc_i (z)), .int (lc_i (at9)), .int (lc_i (sn)), .int (lc_i (sr)), .int (lc_i (w1)), .int (lc_i (w2)), .int (lc_i (w3)), .int (lc_i (bw))]) : lc_Cel) := (fr27 _ (by omega)).trans h22
          have h29 : σ25 (51) = some (lc_aI 222 (N)) := (fr27 _ (by omega)).trans h23
          refine lc_aload_n dX11_records_39 rfl 0 rfl ?_
          refine lc_dup dX11_records_40 rfl ?_
          refine lc_get dX11_records_41 lc_fX11_45 h28 rfl ?_
          refine lc_iconst dX11_records_44 ?_
          refine lc_isub dX11_records_45 ?_
          refine lc_top (congrArg (fun z => Value.int (lc_i z)) (show (((k : Int)) - (1) : Int) = 3 from by omega)) ?_
          refine lc_wI (vs' := [.ref (51), .ref (52), .ref (53), .ref (54), .ref (55), .int (lc_i (3)), .ref (56), .int (lc_i (if bs = true then 1 else 0)), .ref (57), .int (lc_i (z)), .int (lc_i (at9)), .int (lc_i (sn)), .int (lc_i (sr)), .int (lc_i (w1)), .int (lc_i (w2)), .int (lc_i (w3)), .int (lc_i (bw))]) dX11_records_46 lc_fX11_45 h28 (Nat.le_of_ble_eq_true rfl) rfl rfl rfl (fun σ30 h31 fr32 => ?_)
          have h33 : σ30 (51) = some (lc_aI 222 (N)) := (fr32 _ (by omega)).trans h29
          have h34 : σ30 (55) = some (lc_aI 888 (lc_sh N5)) := (fr32 _ (by omega)).trans h26
          refine lc_aload_n dX11_records_49 rfl 0 rfl ?_
          refine lc_get dX11_records_50 lc_fX11_7 h31 rfl ?_
          refine lc_iconst dX11_records_53 ?_
          refine lc_aload_n dX11_records_54 rfl 0 rfl ?_
          refine lc_get dX11_records_55 lc_fX11_22 h31 rfl ?_
          refine lc_sipush dX11_records_58 (by decide) ?_
          refine lc_aload_n dX11_records_61 rfl 0 rfl ?_
          refine lc_get dX11_records_62 lc_fX11_45 h31 rfl ?_
          refine lc_imul dX11_records_65 ?_
          refine lc_callS (As := [.ref (51), .int (lc_i (0)), .ref (55), .int (lc_i ((222) * (3)))]) (stk := []) dX11_records_66 lc_mX11_48 lc_yX11_copies (lc_cX11_copies l n (51) (55) (222) (888) (N) (lc_sh N5) (0) ((222) * (3)) σ30 h33 h34 (by omega) (by omega) (by omega) (by omega)) rfl ⟨Nat.le_of_ble_eq_true rfl, Nat.le_of_ble_eq_true rfl⟩ ⟨Nat.le_of_ble_eq_true rfl, Nat.le_of_ble_eq_true rfl⟩ rfl (Nat.le_of_ble_eq_true rfl) (fun v37 n38 σ39 q40 => ?_)
          obtain ⟨rfl, rfl, h36, fr35⟩ := q40
          have h41 : σ39 (51) = some (lc_aI 222 (N)) := (fr35 _ (by omega)).trans h33
          have h42 : σ39 (50) = some (.inr (11, [.ref (51), .ref (52), .ref (53), .ref (54), .ref (55), .int (lc_i (3)), .ref (56), .int (lc_i (if bs = true then 1 else 0)), .ref (57), .int (lc_i (z)), .int (lc_i (at9)), .int (lc_i (sn)), .int (lc_i (sr)), .int (lc_i (w1)), .int (lc_i (w2)), .int (lc_i (w3)), .int (lc_i (bw))]) : lc_Cel) := (fr35 _ (by omega)).trans h31
          refine lc_aload_n dX11_records_69 rfl 0 rfl ?_
          refine lc_dup dX11_records_70 rfl ?_
          refine lc_get dX11_records_71 lc_fX11_45 h42 rfl ?_
          refine lc_iconst dX11_records_74 ?_
          refine lc_iadd dX11_records_75 ?_
          refine lc_wI (vs' := [.ref (51), .ref (52), .ref (53), .ref (54), .ref (55), .int (lc_i ((3) + (1))), .ref (56), .int (lc_i (if bs = true then 1 else 0)), .ref (57), .int (lc_i (z)), .int (lc_i (at9)), .int (lc_i (sn)), .int (lc_i (sr)), .int (lc_i (w1)), .int (lc_i (w2)), .int (lc_i (w3)), .int (lc_i (bw))]) dX11_records_76 lc_fX11_45 h42 (Nat.le_of_ble_eq_true rfl) rfl rfl rfl (fun σ43 h44 fr45 => ?_)
          have h46 : σ43 (51) = some (lc_aI 222 (N)) := (fr45 _ (by omega)).trans h41
          have h47 : σ43 (55) = some (lc_aI 888 (lc_cpy (N) (0) (lc_sh N5) ((222) * (3)))) := (fr45 _ (by omega)).trans h36
          have ek : k = 4 := by omega
          have hP2 := lc_past_4 ek hR (show ct ≤ 60 from by omega) hP hH
          exact lc_vret dX11_records_79 rfl (Nat.le_of_ble_eq_true rfl) (Nat.le_of_ble_eq_true rfl) (hQ _ _ _ ⟨_, rfl, rfl, by rw [lc_hk_4 ek]; exact h44, h47, hP2, (fun i _ _ => ((fr45 i (by omega)).trans ((fr35 i (by omega)).trans ((fr32 i (by omega)).trans ((fr27 i (by omega)).trans (fr20 i (by omega)))))))⟩)
        · skip
          refine lc_aload_n dX11_records_17 rfl 0 rfl ?_
          refine lc_get dX11_records_18 lc_fX11_22 h22 rfl ?_
          refine lc_iload_n dX11_records_21 rfl 1 rfl ?_
          refine lc_aload_n dX11_records_22 rfl 0 rfl ?_
          refine lc_get dX11_records_23 lc_fX11_22 h22 rfl ?_
          refine lc_iload_n dX11_records_26 rfl 1 rfl ?_
          refine lc_sipush dX11_records_27 (by decide) ?_
          refine lc_iadd dX11_records_30 ?_
          refine lc_iald dX11_records_31 h19 (by omega) (by decide) ?_
          refine lc_top (congrArg (fun z => Value.int (lc_i z)) (show ((hh) ((i) + (222)) : Int) = N5 (i + 222) from hhi _ (Or.inr (by omega)))) ?_
          refine lc_sI dX11_records_32 h19 (by omega) (by decide) (fun σ48 h49 fr50 => ?_)
          have h51 : σ48 (50) = some (.inr (11, [.ref (51), .ref (52), .ref (53), .ref (54), .ref (55), .int (lc_i ((k : Int))), .ref (56), .int (lc_i (if bs = true then 1 else 0)), .ref (57), .int (lc_i (z)), .int (lc_i (at9)), .int (lc_i (sn)), .int (lc_i (sr)), .int (lc_i (w1)), .int (lc_i (w2)), .int (lc_i (w3)), .int (lc_i (bw))]) : lc_Cel) := (fr50 _ (by omega)).trans h22
          have h52 : σ48 (51) = some (lc_aI 222 (N)) := (fr50 _ (by omega)).trans h23
          refine lc_iinc (lv' := [(0, .ref (50)), (1, .int (lc_i (i + 1)))]) dX11_records_33 1 rfl (by decide) rfl ?_
          refine lc_goto (tgt := 10) dX11_records_36 (by decide) ?_
          exact ih17 (i + 1) (lc_u (hh) (i) (N5 (i + 222))) σ48 h49 (fun i _ => ((fr50 i (by omega)).trans (fr20 i (by omega)))) (by omega) (fun j h1 h2 => by by_cases e9 : j = i; (rw [e9, lc_u_s]); (rw [lc_u_n _ _ e9]; exact hlo j h1 (by omega))) (fun j h1 => by rw [lc_u_n _ _ (by omega)]; exact hhi j (by omega)) (by omega)
    exact loop16 1000 (0) (N5) σ h0_2 (fun _ _ => rfl) (by omega) (fun j h1 h2 => absurd h2 (by omega)) (fun j _ => rfl) (by omega)

set_option maxRecDepth 100000 in
set_option maxHeartbeats 600000 in
theorem lc_cX11_begins (l : Launch) (n : Nat) (N : Int → Int) (f : Int → Int) (s q m mo ca ct : Int) (po : Int → Int) (kept : Int) (bs : Bool) (z at9 sn sr w1 w2 w3 bw : Int) (σ : lc_S) (h0_0 : σ (50) = some (.inr (11, [.ref (51), .ref (52), .ref (53), .ref (54), .ref (55), .int (lc_i (kept)), .ref (56), .int (lc_i (if bs = true then 1 else 0)), .ref (57), .int (lc_i (z)), .int (lc_i (at9)), .int (lc_i (sn)), .int (lc_i (sr)), .int (lc_i (w1)), .int (lc_i (w2)), .int (lc_i (w3)), .int (lc_i (bw))]) : lc_Cel)) (h0_1 : σ (51) = some (lc_aI 222 (N))) (hR : lc_RM N (f, s, q, m, mo, ca, ct, po)) : lc_Con l yX11_begins cX11_begins 2 none (lc_Rd 3) [.ref (50)] n σ (fun v n2 σ2 => ∃ g1 : Int → Int, v = none ∧ n = n2 ∧ σ2 (51) = some (lc_aI 222 (g1)) ∧ lc_RM g1 (lc_f0, 1, 0, m, 0, 0, lc_rc 0, lc_rp po 0 (lc_key (lc_f0) (1) 36)) ∧ ∀ i : Nat, i ≠ 51 → σ2 i = σ i) := by
  refine lc_con RX11 false (by decide) rfl (fun h => absurd h (by decide)) (Nat.le_of_ble_eq_true rfl) ?_
  suffices H : ∀ Q : lc_QT, (∀ v n2 σ2, (fun v n2 σ2 => ∃ g1 : Int → Int, v = none ∧ n = n2 ∧ σ2 (51) = some (lc_aI 222 (g1)) ∧ lc_RM g1 (lc_f0, 1, 0, m, 0, 0, lc_rc 0, lc_rp po 0 (lc_key (lc_f0) (1) 36)) ∧ ∀ i : Nat, i ≠ 51 → σ2 i = σ i : lc_QT) v n2 σ2 → Q v n2 σ2) → lc_V l RX11 cX11_begins 2 none false (lc_Rd 3) (lc_G Q 0 0) lc_E0 0 0 n 0 [(0, .ref (50))] [] σ from H _ (fun _ _ _ h => h)
  intro Q hQ
  refine lc_iconst dX11_begins_0 ?_
  refine lc_istore_n (lv' := [(0, .ref (50)), (1, .int (lc_i (0)))]) dX11_begins_1 rfl (by decide) rfl ?_
  have loop2 : ∀ (N1 : Nat) (i : Int) (hh : Int → Int) (σ4 : lc_S), (σ4 (51) = some (lc_aI 222 (hh))) → (∀ i : Nat, i ≠ 51 → σ4 i = σ i) → (0 ≤ i ∧ i ≤ 36) → (∀ j : Int, 0 ≤ j → j < i → hh (6 + j) = lc_f0 j) → (∀ j : Int, (j < 6 ∨ 6 + i ≤ j) → hh j = N j) → 36 - i < (N1 : Int) → lc_V l RX11 cX11_begins 2 none false (lc_Rd 3) (lc_G Q 0 0) lc_E0 0 0 n 2 [(0, .ref (50)), (1, .int (lc_i (i)))] [] σ4 := by
    intro N1
    induction N1 with
    | zero =>
      intro i hh σ4 h5 fr6 hi hlo hhi hm7
      exact absurd hm7 (by omega)
    | succ N1 ih3 =>
      intro i hh σ4 h5 fr6 hi hlo hhi hm7
      have h8 : σ4 (50) = some (.inr (11, [.ref (51), .ref (52), .ref (53), .ref (54), .ref (55), .int (lc_i (kept)), .ref (56), .int (lc_i (if bs = true then 1 else 0)), .ref (57), .int (lc_i (z)), .int (lc_i (at9)), .int (lc_i (sn)), .int (lc_i (sr)), .int (lc_i (w1)), .int (lc_i (w2)), .int (lc_i (w3)), .int (lc_i (bw))]) : lc_Cel) := (fr6 _ (by omega)).trans h0_0
      refine lc_iload_n dX11_begins_2 rfl 1 rfl ?_
      refine lc_bipush dX11_begins_3 (by decide) ?_
      refine lc_icmp_ge (tgt := 44) dX11_begins_5 (by decide) (by omega) (fun h_5_8 => ?_) (fun h_5_8 => ?_)
      · skip
        refine lc_aload_n dX11_begins_44 rfl 0 rfl ?_
        refine lc_get dX11_begins_45 lc_fX11_7 h8 rfl ?_
        refine lc_iconst dX11_begins_48 ?_
        refine lc_iconst dX11_begins_49 ?_
        refine lc_sI dX11_begins_50 h5 (by omega) (by decide) (fun σ10 h11 fr12 => ?_)
        have h13 : σ10 (50) = some (.inr (11, [.ref (51), .ref (52), .ref (53), .ref (54), .ref (55), .int (lc_i (kept)), .ref (56), .int (lc_i (if bs = true then 1 else 0)), .ref (57), .int (lc_i (z)), .int (lc_i (at9)), .int (lc_i (sn)), .int (lc_i (sr)), .int (lc_i (w1)), .int (lc_i (w2)), .int (lc_i (w3)), .int (lc_i (bw))]) : lc_Cel) := (fr12 _ (by omega)).trans h8
        refine lc_aload_n dX11_begins_51 rfl 0 rfl ?_
        refine lc_get dX11_begins_52 lc_fX11_7 h13 rfl ?_
        refine lc_iconst dX11_begins_55 ?_
        refine lc_iconst dX11_begins_56 ?_
        refine lc_sI dX11_begins_57 h11 (by omega) (by decide) (fun σ14 h15 fr16 => ?_)
        have h17 : σ14 (50) = some (.inr (11, [.ref (51), .ref (52), .ref (53), .ref (54), .ref (55), .int (lc_i (kept)), .ref (56), .int (lc_i (if bs = true then 1 else 0)), .ref (57), .int (lc_i (z)), .int (lc_i (at9)), .int (lc_i (sn)), .int (lc_i (sr)), .int (lc_i (w1)), .int (lc_i (w2)), .int (lc_i (w3)), .int (lc_i (bw))]) : lc_Cel) := (fr16 _ (by omega)).trans h13
        refine lc_aload_n dX11_begins_58 rfl 0 rfl ?_
        refine lc_get dX11_begins_59 lc_fX11_7 h17 rfl ?_
        refine lc_iconst dX11_begins_62 ?_
        refine lc_iconst dX11_begins_63 ?_
        refine lc_sI dX11_begins_64 h15 (by omega) (by decide) (fun σ18 h19 fr20 => ?_)
        have h21 : σ18 (50) = some (.inr (11, [.ref (51), .ref (52), .ref (53), .ref (54), .ref (55), .int (lc_i (kept)), .ref (56), .int (lc_i (if bs = true then 1 else 0)), .ref (57), .int (lc_i (z)), .int (lc_i (at9)), .int (lc_i (sn)), .int (lc_i (sr)), .int (lc_i (w1)), .int (lc_i (w2)), .int (lc_i (w3)), .int (lc_i (bw))]) : lc_Cel) := (fr20 _ (by omega)).trans h17
        have hR22 := lc_RM_b hR (fun j h1 h2 => hlo j h1 (by omega)) (fun j h1 => hhi j (by omega))
        refine lc_aload_n dX11_begins_65 rfl 0 rfl ?_
        refine lc_get dX11_begins_66 lc_fX11_7 h21 rfl ?_
        refine lc_callS (As := [.ref (51)]) (stk := []) dX11_begins_69 lc_mX11_74 lc_yX11_forgets (lc_cX11_forgets l n (51) (lc_u (lc_u (lc_u (hh) (0) (1)) (2) (0)) (3) (0)) (lc_f0) (1) (q) (m) (0) (0) (ct) (po) σ18 h19 (lc_f0_ok) (by omega) (hR22)) rfl ⟨Nat.le_of_ble_eq_true rfl, Nat.le_of_ble_eq_true rfl⟩ ⟨Nat.le_of_ble_eq_true rfl, Nat.le_of_ble_eq_true rfl⟩ rfl (Nat.le_of_ble_eq_true rfl) (fun v27 n28 σ29 q30 => ?_)
        obtain ⟨N25, rfl, rfl, h24, hR26, fr23⟩ := q30
        have h31 : σ29 (50) = some (.inr (11, [.ref (51), .ref (52), .ref (53), .ref (54), .ref (55), .int (lc_i (kept)), .ref (56), .int (lc_i (if bs = true then 1 else 0)), .ref (57), .int (lc_i (z)), .int (lc_i (at9)), .int (lc_i (sn)), .int (lc_i (sr)), .int (lc_i (w1)), .int (lc_i (w2)), .int (lc_i (w3)), .int (lc_i (bw))]) : lc_Cel) := (fr23 _ (by omega)).trans h21
        exact lc_vret dX11_begins_72 rfl (Nat.le_of_ble_eq_true rfl) (Nat.le_of_ble_eq_true rfl) (hQ _ _ _ ⟨_, rfl, rfl, h24, hR26, (fun i _ => ((fr23 i (by omega)).trans ((fr20 i (by omega)).trans ((fr16 i (by omega)).trans ((fr12 i (by omega)).trans (fr6 i (by omega)))))))⟩)
      · skip
        refine lc_aload_n dX11_begins_8 rfl 0 rfl ?_
        refine lc_get dX11_begins_9 lc_fX11_7 h8 rfl ?_
        refine lc_bipush dX11_begins_12 (by decide) ?_
        refine lc_iload_n dX11_begins_14 rfl 1 rfl ?_
        refine lc_iadd dX11_begins_15 ?_
        refine lc_iload_n dX11_begins_16 rfl 1 rfl ?_
        refine lc_bipush dX11_begins_17 (by decide) ?_
        refine lc_icmp_ge (tgt := 26) dX11_begins_19 (by decide) (by omega) (fun h_19_31 => ?_) (fun h_19_31 => ?_)
        · skip
          refine lc_iload_n dX11_begins_26 rfl 1 rfl ?_
          refine lc_bipush dX11_begins_27 (by decide) ?_
          refine lc_icmp_ge (tgt := 36) dX11_begins_29 (by decide) (by omega) (fun h_29_32 => ?_) (fun h_29_32 => ?_)
          · skip
            refine lc_iconst dX11_begins_36 ?_
            refine lc_sI dX11_begins_37 h5 (by omega) (by decide) (fun σ34 h35 fr36 => ?_)
            have h37 : σ34 (50) = some (.inr (11, [.ref (51), .ref (52), .ref (53), .ref (54), .ref (55), .int (lc_i (kept)), .ref (56), .int (lc_i (if bs = true then 1 else 0)), .ref (57), .int (lc_i (z)), .int (lc_i (at9)), .int (lc_i (sn)), .int (lc_i (sr)), .int (lc_i (w1)), .int (lc_i (w2)), .int (lc_i (w3)), .int (lc_i (bw))]) : lc_Cel) := (fr36 _ (by omega)).trans h8
            refine lc_iinc (lv' := [(0, .ref (50)), (1, .int (lc_i (i + 1)))]) dX11_begins_38 1 rfl (by decide) rfl ?_
            refine lc_goto (tgt := 2) dX11_begins_41 (by decide) ?_
            exact ih3 (i + 1) (lc_u (hh) ((6) + (i)) (2)) σ34 h35 (fun i _ => ((fr36 i (by omega)).trans (fr6 i (by omega)))) (by omega) (fun j h1 h2 => by by_cases e9 : j = i; (rw [e9, lc_u_s]; unfold lc_f0; (repeat' split) <;> omega); (rw [lc_u_n _ _ (by omega)]; exact hlo j h1 (by omega))) (fun j h1 => by rw [lc_u_n _ _ (by omega)]; exact hhi j (by omega)) (by omega)
          · skip
            refine lc_iconst dX11_begins_32 ?_
            refine lc_goto (tgt := 37) dX11_begins_33 (by decide) ?_
            refine lc_sI dX11_begins_37 h5 (by omega) (by decide) (fun σ38 h39 fr40 => ?_)
            have h41 : σ38 (50) = some (.inr (11, [.ref (51), .ref (52), .ref (53), .ref (54), .ref (55), .int (lc_i (kept)), .ref (56), .int (lc_i (if bs = true then 1 else 0)), .ref (57), .int (lc_i (z)), .int (lc_i (at9)), .int (lc_i (sn)), .int (lc_i (sr)), .int (lc_i (w1)), .int (lc_i (w2)), .int (lc_i (w3)), .int (lc_i (bw))]) : lc_Cel) := (fr40 _ (by omega)).trans h8
            refine lc_iinc (lv' := [(0, .ref (50)), (1, .int (lc_i (i + 1)))]) dX11_begins_38 1 rfl (by decide) rfl ?_
            refine lc_goto (tgt := 2) dX11_begins_41 (by decide) ?_
            exact ih3 (i + 1) (lc_u (hh) ((6) + (i)) (0)) σ38 h39 (fun i _ => ((fr40 i (by omega)).trans (fr6 i (by omega)))) (by omega) (fun j h1 h2 => by by_cases e9 : j = i; (rw [e9, lc_u_s]; unfold lc_f0; (repeat' split) <;> omega); (rw [lc_u_n _ _ (by omega)]; exact hlo j h1 (by omega))) (fun j h1 => by rw [lc_u_n _ _ (by omega)]; exact hhi j (by omega)) (by omega)
        · skip
          refine lc_iconst dX11_begins_22 ?_
          refine lc_goto (tgt := 37) dX11_begins_23 (by decide) ?_
          refine lc_sI dX11_begins_37 h5 (by omega) (by decide) (fun σ42 h43 fr44 => ?_)
          have h45 : σ42 (50) = some (.inr (11, [.ref (51), .ref (52), .ref (53), .ref (54), .ref (55), .int (lc_i (kept)), .ref (56), .int (lc_i (if bs = true then 1 else 0)), .ref (57), .int (lc_i (z)), .int (lc_i (at9)), .int (lc_i (sn)), .int (lc_i (sr)), .int (lc_i (w1)), .int (lc_i (w2)), .int (lc_i (w3)), .int (lc_i (bw))]) : lc_Cel) := (fr44 _ (by omega)).trans h8
          refine lc_iinc (lv' := [(0, .ref (50)), (1, .int (lc_i (i + 1)))]) dX11_begins_38 1 rfl (by decide) rfl ?_
          refine lc_goto (tgt := 2) dX11_begins_41 (by decide) ?_
          exact ih3 (i + 1) (lc_u (hh) ((6) + (i)) (1)) σ42 h43 (fun i _ => ((fr44 i (by omega)).trans (fr6 i (by omega)))) (by omega) (fun j h1 h2 => by by_cases e9 : j = i; (rw [e9, lc_u_s]; unfold lc_f0; (repeat' split) <;> omega); (rw [lc_u_n _ _ (by omega)]; exact hlo j h1 (by omega))) (fun j h1 => by rw [lc_u_n _ _ (by omega)]; exact hhi j (by omega)) (by omega)
  exact loop2 1000 (0) (N) σ h0_1 (fun _ _ => rfl) (by omega) (fun j h1 h2 => absurd h2 (by omega)) (fun j _ => rfl) (by omega)

theorem lc_iff2 {P Q R : Prop} (h1 : P ↔ Q) (h2 : R ↔ Q) : R ↔ P := h2.trans h1.symm

set_option maxRecDepth 100000 in
set_option maxHeartbeats 600000 in
theorem lc_cX11_isAllowed (l : Launch) (n : Nat) (p c : Int) (σ : lc_S)  (hp : 0 ≤ p ∧ p < 6) (hc : 0 ≤ c ∧ c < 65536) : lc_Con l yX11_isAllowed cX11_isAllowed 2 (some .boolean) (lc_Rd 1) [.int (lc_i (p)), .int (lc_i (c))] n σ (fun v n2 σ2 => v = some (.int (lc_i (if (lc_alw c p = true) then 1 else 0))) ∧ n = n2 ∧ σ = σ2) := by
  refine lc_con RX11 false (by decide) rfl (fun h => absurd h (by decide)) (Nat.le_of_ble_eq_true rfl) ?_
  suffices H : ∀ Q : lc_QT, (∀ v n2 σ2, (fun v n2 σ2 => v = some (.int (lc_i (if (lc_alw c p = true) then 1 else 0))) ∧ n = n2 ∧ σ = σ2 : lc_QT) v n2 σ2 → Q v n2 σ2) → lc_V l RX11 cX11_isAllowed 2 (some .boolean) false (lc_Rd 1) (lc_G Q 0 0) lc_E0 0 0 n 0 [(0, .int (lc_i (p))), (1, .int (lc_i (c)))] [] σ from H _ (fun _ _ _ h => h)
  intro Q hQ
  refine lc_iload_n dX11_isAllowed_0 rfl 0 rfl ?_
  rcases (show p = 0 ∨ p = 1 ∨ p = 2 ∨ p = 3 ∨ p = 4 ∨ (p < 0 ∨ 4 < p) by omega) with h_1_0 | h_1_0 | h_1_0 | h_1_0 | h_1_0 | h_1_0
  · refine lc_swC (v := 0) (tgt := 36) dX11_isAllowed_1 h_1_0 (by decide) rfl (by decide) ?_
    refine lc_iload_n dX11_isAllowed_36 rfl 1 rfl ?_
    refine lc_bipush dX11_isAllowed_37 (by decide) ?_
    refine lc_bipush dX11_isAllowed_39 (by decide) ?_
    refine lc_callS (As := [.int (lc_i (c)), .int (lc_i (97)), .int (lc_i (102))]) (stk := []) dX11_isAllowed_41 lc_mX11_41 lc_yX11_in (lc_cX11_in l n (c) (97) (102) σ (by omega) (by omega) (by omega)) rfl ⟨Nat.le_of_ble_eq_true rfl, Nat.le_of_ble_eq_true rfl⟩ ⟨Nat.le_of_ble_eq_true rfl, Nat.le_of_ble_eq_true rfl⟩ rfl (Nat.le_of_ble_eq_true rfl) (fun v2 n3 σ4 q5 => ?_)
    obtain ⟨rfl, rfl, rfl⟩ := q5
    exact lc_zret dX11_isAllowed_44 rfl (lc_bite) (Nat.le_of_ble_eq_true rfl) (Nat.le_of_ble_eq_true rfl) (hQ _ _ _ ⟨congrArg (fun z => some (Value.int (lc_i z))) (lc_iteq (lc_iff2 lc_alw_iff (by omega))), rfl, rfl⟩)
  · refine lc_swC (v := 1) (tgt := 45) dX11_isAllowed_1 h_1_0 (by decide) rfl (by decide) ?_
    refine lc_iload_n dX11_isAllowed_45 rfl 1 rfl ?_
    refine lc_bipush dX11_isAllowed_46 (by decide) ?_
    refine lc_bipush dX11_isAllowed_48 (by decide) ?_
    refine lc_callS (As := [.int (lc_i (c)), .int (lc_i (49)), .int (lc_i (54))]) (stk := []) dX11_isAllowed_50 lc_mX11_41 lc_yX11_in (lc_cX11_in l n (c) (49) (54) σ (by omega) (by omega) (by omega)) rfl ⟨Nat.le_of_ble_eq_true rfl, Nat.le_of_ble_eq_true rfl⟩ ⟨Nat.le_of_ble_eq_true rfl, Nat.le_of_ble_eq_true rfl⟩ rfl (Nat.le_of_ble_eq_true rfl) (fun v6 n7 σ8 q9 => ?_)
    obtain ⟨rfl, rfl, rfl⟩ := q9
    exact lc_zret dX11_isAllowed_53 rfl (lc_bite) (Nat.le_of_ble_eq_true rfl) (Nat.le_of_ble_eq_true rfl) (hQ _ _ _ ⟨congrArg (fun z => some (Value.int (lc_i z))) (lc_iteq (lc_iff2 lc_alw_iff (by omega))), rfl, rfl⟩)
  · refine lc_swC (v := 2) (tgt := 54) dX11_isAllowed_1 h_1_0 (by decide) rfl (by decide) ?_
    refine lc_iload_n dX11_isAllowed_54 rfl 1 rfl ?_
    refine lc_bipush dX11_isAllowed_55 (by decide) ?_
    refine lc_icmp_eq (tgt := 66) dX11_isAllowed_57 (by decide) (by omega) (fun h_57_9 => ?_) (fun h_57_9 => ?_)
    · skip
      refine lc_iconst dX11_isAllowed_66 ?_
      refine lc_goto (tgt := 71) dX11_isAllowed_67 (by decide) ?_
      exact lc_zret dX11_isAllowed_71 rfl (rfl) (Nat.le_of_ble_eq_true rfl) (Nat.le_of_ble_eq_true rfl) (hQ _ _ _ ⟨lc_some (by rw [if_pos (lc_alw_iff.mpr (by omega))]), rfl, rfl⟩)
    · skip
      refine lc_iload_n dX11_isAllowed_60 rfl 1 rfl ?_
      refine lc_bipush dX11_isAllowed_61 (by decide) ?_
      refine lc_icmp_ne (tgt := 70) dX11_isAllowed_63 (by decide) (by omega) (fun h_63_10 => ?_) (fun h_63_10 => ?_)
      · skip
        refine lc_iconst dX11_isAllowed_70 ?_
        exact lc_zret dX11_isAllowed_71 rfl (rfl) (Nat.le_of_ble_eq_true rfl) (Nat.le_of_ble_eq_true rfl) (hQ _ _ _ ⟨lc_some (by rw [if_neg (fun q9 => by have q8 := lc_alw_iff.mp q9; omega)]), rfl, rfl⟩)
      · skip
        refine lc_iconst dX11_isAllowed_66 ?_
        refine lc_goto (tgt := 71) dX11_isAllowed_67 (by decide) ?_
        exact lc_zret dX11_isAllowed_71 rfl (rfl) (Nat.le_of_ble_eq_true rfl) (Nat.le_of_ble_eq_true rfl) (hQ _ _ _ ⟨lc_some (by rw [if_pos (lc_alw_iff.mpr (by omega))]), rfl, rfl⟩)
  · refine lc_swC (v := 3) (tgt := 36) dX11_isAllowed_1 h_1_0 (by decide) rfl (by decide) ?_
    refine lc_iload_n dX11_isAllowed_36 rfl 1 rfl ?_
    refine lc_bipush dX11_isAllowed_37 (by decide) ?_
    refine lc_bipush dX11_isAllowed_39 (by decide) ?_
    refine lc_callS (As := [.int (lc_i (c)), .int (lc_i (97)), .int (lc_i (102))]) (stk := []) dX11_isAllowed_41 lc_mX11_41 lc_yX11_in (lc_cX11_in l n (c) (97) (102) σ (by omega) (by omega) (by omega)) rfl ⟨Nat.le_of_ble_eq_true rfl, Nat.le_of_ble_eq_true rfl⟩ ⟨Nat.le_of_ble_eq_true rfl, Nat.le_of_ble_eq_true rfl⟩ rfl (Nat.le_of_ble_eq_true rfl) (fun v12 n13 σ14 q15 => ?_)
    obtain ⟨rfl, rfl, rfl⟩ := q15
    exact lc_zret dX11_isAllowed_44 rfl (lc_bite) (Nat.le_of_ble_eq_true rfl) (Nat.le_of_ble_eq_true rfl) (hQ _ _ _ ⟨congrArg (fun z => some (Value.int (lc_i z))) (lc_iteq (lc_iff2 lc_alw_iff (by omega))), rfl, rfl⟩)
  · refine lc_swC (v := 4) (tgt := 45) dX11_isAllowed_1 h_1_0 (by decide) rfl (by decide) ?_
    refine lc_iload_n dX11_isAllowed_45 rfl 1 rfl ?_
    refine lc_bipush dX11_isAllowed_46 (by decide) ?_
    refine lc_bipush dX11_isAllowed_48 (by decide) ?_
    refine lc_callS (As := [.int (lc_i (c)), .int (lc_i (49)), .int (lc_i (54))]) (stk := []) dX11_isAllowed_50 lc_mX11_41 lc_yX11_in (lc_cX11_in l n (c) (49) (54) σ (by omega) (by omega) (by omega)) rfl ⟨Nat.le_of_ble_eq_true rfl, Nat.le_of_ble_eq_true rfl⟩ ⟨Nat.le_of_ble_eq_true rfl, Nat.le_of_ble_eq_true rfl⟩ rfl (Nat.le_of_ble_eq_true rfl) (fun v16 n17 σ18 q19 => ?_)
    obtain ⟨rfl, rfl, rfl⟩ := q19
    exact lc_zret dX11_isAllowed_53 rfl (lc_bite) (Nat.le_of_ble_eq_true rfl) (Nat.le_of_ble_eq_true rfl) (hQ _ _ _ ⟨congrArg (fun z => some (Value.int (lc_i z))) (lc_iteq (lc_iff2 lc_alw_iff (by omega))), rfl, rfl⟩)
  · refine lc_swD (tgt := 72) dX11_isAllowed_1 (by omega) h_1_0 (by decide) ?_
    refine lc_iload_n dX11_isAllowed_72 rfl 1 rfl ?_
    refine lc_bipush dX11_isAllowed_73 (by decide) ?_
    refine lc_icmp_ne (tgt := 82) dX11_isAllowed_75 (by decide) (by omega) (fun h_75_19 => ?_) (fun h_75_19 => ?_)
    · skip
      refine lc_iconst dX11_isAllowed_82 ?_
      exact lc_zret dX11_isAllowed_83 rfl (rfl) (Nat.le_of_ble_eq_true rfl) (Nat.le_of_ble_eq_true rfl) (hQ _ _ _ ⟨lc_some (by rw [if_neg (fun q9 => by have q8 := lc_alw_iff.mp q9; omega)]), rfl, rfl⟩)
    · skip
      refine lc_iconst dX11_isAllowed_78 ?_
      refine lc_goto (tgt := 83) dX11_isAllowed_79 (by decide) ?_
      exact lc_zret dX11_isAllowed_83 rfl (rfl) (Nat.le_of_ble_eq_true rfl) (Nat.le_of_ble_eq_true rfl) (hQ _ _ _ ⟨lc_some (by rw [if_pos (lc_alw_iff.mpr (by omega))]), rfl, rfl⟩)

set_option maxRecDepth 100000 in
set_option maxHeartbeats 600000 in
theorem lc_cX11_isText (l : Launch) (n : Nat) (tx N7 : Int → Int) (kept : Int) (bs : Bool) (z at9 sn sr w1 w2 w3 bw : Int) (σ : lc_S) (h0_0 : σ (50) = some (.inr (11, [.ref (51), .ref (52), .ref (53), .ref (54), .ref (55), .int (lc_i (kept)), .ref (56), .int (lc_i (if bs = true then 1 else 0)), .ref (57), .int (lc_i (z)), .int (lc_i (at9)), .int (lc_i (sn)), .int (lc_i (sr)), .int (lc_i (w1)), .int (lc_i (w2)), .int (lc_i (w3)), .int (lc_i (bw))]) : lc_Cel)) (h0_1 : σ (57) = some (lc_aI 80 (N7))) (hz : 0 ≤ z ∧ z ≤ 80) (htx : ∀ i : Int, 0 ≤ i → i < z → 0 ≤ tx i ∧ tx i < 65536) (hT : ∀ i : Int, 0 ≤ i → i < z → N7 i = tx i) : lc_Con l yX11_isText cX11_isText 1 (some .boolean) (lc_Rd 2) [.ref (50)] n σ (fun v n2 σ2 => v = some (.int (lc_i (if (lc_fault tx z < 0) then 1 else 0))) ∧ n = n2 ∧ σ2 (50) = some (.inr (11, [.ref (51), .ref (52), .ref (53), .ref (54), .ref (55), .int (lc_i (kept)), .ref (56), .int (lc_i (if bs = true then 1 else 0)), .ref (57), .int (lc_i (z)), .int (lc_i (((lc_ff tx z.toNat 0 : Nat) : Int))), .int (lc_i (sn)), .int (lc_i (sr)), .int (lc_i (w1)), .int (lc_i (w2)), .int (lc_i (w3)), .int (lc_i (bw))]) : lc_Cel) ∧ ∀ i : Nat, i ≠ 50 → σ2 i = σ i) := by
  refine lc_con RX11 false (by decide) rfl (fun h => absurd h (by decide)) (Nat.le_of_ble_eq_true rfl) ?_
  suffices H : ∀ Q : lc_QT, (∀ v n2 σ2, (fun v n2 σ2 => v = some (.int (lc_i (if (lc_fault tx z < 0) then 1 else 0))) ∧ n = n2 ∧ σ2 (50) = some (.inr (11, [.ref (51), .ref (52), .ref (53), .ref (54), .ref (55), .int (lc_i (kept)), .ref (56), .int (lc_i (if bs = true then 1 else 0)), .ref (57), .int (lc_i (z)), .int (lc_i (((lc_ff tx z.toNat 0 : Nat) : Int))), .int (lc_i (sn)), .int (lc_i (sr)), .int (lc_i (w1)), .int (lc_i (w2)), .int (lc_i (w3)), .int (lc_i (bw))]) : lc_Cel) ∧ ∀ i : Nat, i ≠ 50 → σ2 i = σ i : lc_QT) v n2 σ2 → Q v n2 σ2) → lc_V l RX11 cX11_isText 1 (some .boolean) false (lc_Rd 2) (lc_G Q 0 0) lc_E0 0 0 n 0 [(0, .ref (50))] [] σ from H _ (fun _ _ _ h => h)
  intro Q hQ
  refine lc_aload_n dX11_isText_0 rfl 0 rfl ?_
  refine lc_iconst dX11_isText_1 ?_
  refine lc_wI (vs' := [.ref (51), .ref (52), .ref (53), .ref (54), .ref (55), .int (lc_i (kept)), .ref (56), .int (lc_i (if bs = true then 1 else 0)), .ref (57), .int (lc_i (z)), .int (lc_i (0)), .int (lc_i (sn)), .int (lc_i (sr)), .int (lc_i (w1)), .int (lc_i (w2)), .int (lc_i (w3)), .int (lc_i (bw))]) dX11_isText_2 lc_fX11_141 h0_0 (Nat.le_of_ble_eq_true rfl) rfl rfl rfl (fun σ1 h2 fr3 => ?_)
  have h4 : σ1 (57) = some (lc_aI 80 (N7)) := (fr3 _ (by omega)).trans h0_1
  have loop6 : ∀ (N5 : Nat) (j : Nat) (σ8 : lc_S), (σ8 (50) = some (.inr (11, [.ref (51), .ref (52), .ref (53), .ref (54), .ref (55), .int (lc_i (kept)), .ref (56), .int (lc_i (if bs = true then 1 else 0)), .ref (57), .int (lc_i (z)), .int (lc_i ((j : Int))), .int (lc_i (sn)), .int (lc_i (sr)), .int (lc_i (w1)), .int (lc_i (w2)), .int (lc_i (w3)), .int (lc_i (bw))]) : lc_Cel)) → (∀ i : Nat, i ≠ 50 → σ8 i = σ1 i) → ((j : Int) ≤ z) → (lc_ff tx z.toNat 0 = lc_ff tx (z.toNat - j) j) → z - (j : Int) < (N5 : Int) → lc_V l RX11 cX11_isText 1 (some .boolean) false (lc_Rd 2) (lc_G Q 0 0) lc_E0 0 0 n 5 [(0, .ref (50))] [] σ8 := by
    intro N5
    induction N5 with
    | zero =>
      intro j σ8 h9 fr10 hj hK hm11
      exact absurd hm11 (by omega)
    | succ N5 ih7 =>
      intro j σ8 h9 fr10 hj hK hm11
      have h12 : σ8 (57) = some (lc_aI 80 (N7)) := (fr10 _ (by omega)).trans h4
      have hxk := fun q9 : (j : Int) < z => htx j (by omega) q9
      refine lc_aload_n dX11_isText_5 rfl 0 rfl ?_
      refine lc_get dX11_isText_6 lc_fX11_141 h9 rfl ?_
      refine lc_aload_n dX11_isText_9 rfl 0 rfl ?_
      refine lc_get dX11_isText_10 lc_fX11_138 h9 rfl ?_
      refine lc_icmp_ge (tgt := 51) dX11_isText_13 (by decide) (by omega) (fun h_13_12 => ?_) (fun h_13_12 => ?_)
      · skip
        refine lc_aload_n dX11_isText_51 rfl 0 rfl ?_
        refine lc_get dX11_isText_52 lc_fX11_141 h9 rfl ?_
        refine lc_aload_n dX11_isText_55 rfl 0 rfl ?_
        refine lc_get dX11_isText_56 lc_fX11_138 h9 rfl ?_
        refine lc_icmp_ne (tgt := 77) dX11_isText_59 (by decide) (by omega) (fun h_59_13 => ?_) (fun h_59_13 => ?_)
        · skip
          refine lc_iconst dX11_isText_77 ?_
          have eK : lc_ff tx z.toNat 0 = j := (by rw [hK, show z.toNat - j = 0 from by omega]; rfl)
          have eF : lc_fault tx z = if (j : Int) < z then (j : Int) else if z % 6 = 5 then -1 else z := by unfold lc_fault; rw [eK]
          exact lc_zret dX11_isText_78 rfl (rfl) (Nat.le_of_ble_eq_true rfl) (Nat.le_of_ble_eq_true rfl) (hQ _ _ _ ⟨lc_some (by rw [if_neg (show ¬ lc_fault tx z < 0 from by rw [eF]; (repeat' split) <;> omega)]), rfl, by rw [eK]; exact h9, (fun i _ => ((fr10 i (by omega)).trans (fr3 i (by omega))))⟩)
        · skip
          refine lc_aload_n dX11_isText_62 rfl 0 rfl ?_
          refine lc_get dX11_isText_63 lc_fX11_141 h9 rfl ?_
          refine lc_bipush dX11_isText_66 (by decide) ?_
          refine lc_irem dX11_isText_68 (by omega) ?_
          refine lc_iconst dX11_isText_69 ?_
          refine lc_icmp_ne (tgt := 77) dX11_isText_70 (by decide) (by omega) (fun h_70_14 => ?_) (fun h_70_14 => ?_)
          · skip
            refine lc_iconst dX11_isText_77 ?_
            have eK : lc_ff tx z.toNat 0 = j := (by rw [hK, show z.toNat - j = 0 from by omega]; rfl)
            have eF : lc_fault tx z = if (j : Int) < z then (j : Int) else if z % 6 = 5 then -1 else z := by unfold lc_fault; rw [eK]
            exact lc_zret dX11_isText_78 rfl (rfl) (Nat.le_of_ble_eq_true rfl) (Nat.le_of_ble_eq_true rfl) (hQ _ _ _ ⟨lc_some (by rw [if_neg (show ¬ lc_fault tx z < 0 from by rw [eF]; (repeat' split) <;> omega)]), rfl, by rw [eK]; exact h9, (fun i _ => ((fr10 i (by omega)).trans (fr3 i (by omega))))⟩)
          · skip
            refine lc_iconst dX11_isText_73 ?_
            refine lc_goto (tgt := 78) dX11_isText_74 (by decide) ?_
            have eK : lc_ff tx z.toNat 0 = j := (by rw [hK, show z.toNat - j = 0 from by omega]; rfl)
            have eF : lc_fault tx z = if (j : Int) < z then (j : Int) else if z % 6 = 5 then -1 else z := by unfold lc_fault; rw [eK]
            exact lc_zret dX11_isText_78 rfl (rfl) (Nat.le_of_ble_eq_true rfl) (Nat.le_of_ble_eq_true rfl) (hQ _ _ _ ⟨lc_some (by rw [if_pos (show lc_fault tx z < 0 from by rw [eF, if_neg (by omega), if_pos (by omega)]; decide)]), rfl, by rw [eK]; exact h9, (fun i _ => ((fr10 i (by omega)).trans (fr3 i (by omega))))⟩)
      · skip
        refine lc_aload_n dX11_isText_16 rfl 0 rfl ?_
        refine lc_get dX11_isText_17 lc_fX11_141 h9 rfl ?_
        refine lc_bipush dX11_isText_20 (by decide) ?_
        refine lc_irem dX11_isText_22 (by omega) ?_
        refine lc_aload_n dX11_isText_23 rfl 0 rfl ?_
        refine lc_get dX11_isText_24 lc_fX11_28 h9 rfl ?_
        refine lc_aload_n dX11_isText_27 rfl 0 rfl ?_
        refine lc_get dX11_isText_28 lc_fX11_141 h9 rfl ?_
        refine lc_iald dX11_isText_31 h12 (by omega) (by decide) ?_
        refine lc_top (congrArg (fun z => Value.int (lc_i z)) (show ((N7) ((j : Int)) : Int) = tx j from hT _ (by omega) (by omega))) ?_
        refine lc_callS (As := [.int (lc_i (((j : Int)) % (6))), .int (lc_i (tx j))]) (stk := []) dX11_isText_32 lc_mX11_144 lc_yX11_isAllowed (lc_cX11_isAllowed l n (((j : Int)) % (6)) (tx j) σ8 (by omega) (by omega)) rfl ⟨Nat.le_of_ble_eq_true rfl, Nat.le_of_ble_eq_true rfl⟩ ⟨Nat.le_of_ble_eq_true rfl, Nat.le_of_ble_eq_true rfl⟩ rfl (Nat.le_of_ble_eq_true rfl) (fun v16 n17 σ18 q19 => ?_)
        obtain ⟨rfl, rfl, rfl⟩ := q19
        refine lc_if_eqB (tgt := 51) dX11_isText_35 (by decide) (fun h_35_19 => ?_) (fun h_35_19 => ?_)
        · skip
          refine lc_aload_n dX11_isText_51 rfl 0 rfl ?_
          refine lc_get dX11_isText_52 lc_fX11_141 h9 rfl ?_
          refine lc_aload_n dX11_isText_55 rfl 0 rfl ?_
          refine lc_get dX11_isText_56 lc_fX11_138 h9 rfl ?_
          refine lc_icmp_ne (tgt := 77) dX11_isText_59 (by decide) (by omega) (fun h_59_20 => ?_) (fun h_59_20 => ?_)
          · skip
            refine lc_iconst dX11_isText_77 ?_
            have eK : lc_ff tx z.toNat 0 = j := (by rw [hK, show z.toNat - j = (z.toNat - (j + 1)) + 1 from by omega, lc_ff_f h_35_19])
            have eF : lc_fault tx z = if (j : Int) < z then (j : Int) else if z % 6 = 5 then -1 else z := by unfold lc_fault; rw [eK]
            exact lc_zret dX11_isText_78 rfl (rfl) (Nat.le_of_ble_eq_true rfl) (Nat.le_of_ble_eq_true rfl) (hQ _ _ _ ⟨lc_some (by rw [if_neg (show ¬ lc_fault tx z < 0 from by rw [eF]; (repeat' split) <;> omega)]), rfl, by rw [eK]; exact h9, (fun i _ => ((fr10 i (by omega)).trans (fr3 i (by omega))))⟩)
          · skip
            refine lc_aload_n dX11_isText_62 rfl 0 rfl ?_
            refine lc_get dX11_isText_63 lc_fX11_141 h9 rfl ?_
            refine lc_bipush dX11_isText_66 (by decide) ?_
            refine lc_irem dX11_isText_68 (by omega) ?_
            refine lc_iconst dX11_isText_69 ?_
            refine lc_icmp_ne (tgt := 77) dX11_isText_70 (by decide) (by omega) (fun h_70_21 => ?_) (fun h_70_21 => ?_)
            · skip
              refine lc_iconst dX11_isText_77 ?_
              have eK : lc_ff tx z.toNat 0 = j := (by rw [hK, show z.toNat - j = (z.toNat - (j + 1)) + 1 from by omega, lc_ff_f h_35_19])
              have eF : lc_fault tx z = if (j : Int) < z then (j : Int) else if z % 6 = 5 then -1 else z := by unfold lc_fault; rw [eK]
              exact lc_zret dX11_isText_78 rfl (rfl) (Nat.le_of_ble_eq_true rfl) (Nat.le_of_ble_eq_true rfl) (hQ _ _ _ ⟨lc_some (by rw [if_neg (show ¬ lc_fault tx z < 0 from by rw [eF]; (repeat' split) <;> omega)]), rfl, by rw [eK]; exact h9, (fun i _ => ((fr10 i (by omega)).trans (fr3 i (by omega))))⟩)
            · skip
              refine lc_iconst dX11_isText_73 ?_
              refine lc_goto (tgt := 78) dX11_isText_74 (by decide) ?_
              have eK : lc_ff tx z.toNat 0 = j := (by rw [hK, show z.toNat - j = (z.toNat - (j + 1)) + 1 from by omega, lc_ff_f h_35_19])
              have eF : lc_fault tx z = if (j : Int) < z then (j : Int) else if z % 6 = 5 then -1 else z := by unfold lc_fault; rw [eK]
              exact lc_zret dX11_isText_78 rfl (rfl) (Nat.le_of_ble_eq_true rfl) (Nat.le_of_ble_eq_true rfl) (hQ _ _ _ ⟨lc_some (by rw [if_pos (show lc_fault tx z < 0 from by rw [eF, if_neg (by omega), if_pos (by omega)]; decide)]), rfl, by rw [eK]; exact h9, (fun i _ => ((fr10 i (by omega)).trans (fr3 i (by omega))))⟩)
        · skip
          refine lc_aload_n dX11_isText_38 rfl 0 rfl ?_
          refine lc_dup dX11_isText_39 rfl ?_
          refine lc_get dX11_isText_40 lc_fX11_141 h9 rfl ?_
          refine lc_iconst dX11_isText_43 ?_
          refine lc_iadd dX11_isText_44 ?_
          refine lc_wI (vs' := [.ref (51), .ref (52), .ref (53), .ref (54), .ref (55), .int (lc_i (kept)), .ref (56), .int (lc_i (if bs = true then 1 else 0)), .ref (57), .int (lc_i (z)), .int (lc_i (((j : Int)) + (1))), .int (lc_i (sn)), .int (lc_i (sr)), .int (lc_i (w1)), .int (lc_i (w2)), .int (lc_i (w3)), .int (lc_i (bw))]) dX11_isText_45 lc_fX11_141 h9 (Nat.le_of_ble_eq_true rfl) rfl rfl rfl (fun σ23 h24 fr25 => ?_)
          have h26 : σ23 (57) = some (lc_aI 80 (N7)) := (fr25 _ (by omega)).trans h12
          refine lc_goto (tgt := 5) dX11_isText_48 (by decide) ?_
          exact ih7 (j + 1) σ23 (by rw [show ((j + 1 : Nat) : Int) = (j : Int) + 1 from by omega]; exact h24) (fun i _ => ((fr25 i (by omega)).trans (fr10 i (by omega)))) (by omega) (by rw [hK, show z.toNat - j = (z.toNat - (j + 1)) + 1 from by omega, lc_ff_t h_35_19]) (by omega)
  exact loop6 1000 (0) σ1 h2 (fun _ _ => rfl) (by omega) (rfl) (by omega)

set_option maxRecDepth 100000 in
set_option maxHeartbeats 600000 in
theorem lc_cX11_toldPoint (l : Launch) (n : Nat) (tx N7 : Int → Int) (kept : Int) (bs : Bool) (z at9 sn sr w1 w2 w3 bw : Int) (x : Int) (σ : lc_S) (h0_0 : σ (50) = some (.inr (11, [.ref (51), .ref (52), .ref (53), .ref (54), .ref (55), .int (lc_i (kept)), .ref (56), .int (lc_i (if bs = true then 1 else 0)), .ref (57), .int (lc_i (z)), .int (lc_i (at9)), .int (lc_i (sn)), .int (lc_i (sr)), .int (lc_i (w1)), .int (lc_i (w2)), .int (lc_i (w3)), .int (lc_i (bw))]) : lc_Cel)) (h0_1 : σ (57) = some (lc_aI 80 (N7))) (hz : 0 ≤ z ∧ z ≤ 80) (htx : ∀ i : Int, 0 ≤ i → i < z → 0 ≤ tx i ∧ tx i < 65536) (hT : ∀ i : Int, 0 ≤ i → i < z → N7 i = tx i) (hx : 0 ≤ x ∧ x + 1 < z) : lc_Con l yX11_toldPoint cX11_toldPoint 2 (some .int) (lc_Rd 0) [.ref (50), .int (lc_i (x))] n σ (fun v n2 σ2 => v = some (.int (lc_i (lc_tp tx x))) ∧ n = n2 ∧ σ = σ2) := by
  refine lc_con RX11 false (by decide) rfl (fun h => absurd h (by decide)) (Nat.le_of_ble_eq_true rfl) ?_
  suffices H : ∀ Q : lc_QT, (∀ v n2 σ2, (fun v n2 σ2 => v = some (.int (lc_i (lc_tp tx x))) ∧ n = n2 ∧ σ = σ2 : lc_QT) v n2 σ2 → Q v n2 σ2) → lc_V l RX11 cX11_toldPoint 2 (some .int) false (lc_Rd 0) (lc_G Q 0 0) lc_E0 0 0 n 0 [(0, .ref (50)), (1, .int (lc_i (x)))] [] σ from H _ (fun _ _ _ h => h)
  intro Q hQ
  refine lc_bipush dX11_toldPoint_0 (by decide) ?_
  refine lc_aload_n dX11_toldPoint_2 rfl 0 rfl ?_
  refine lc_get dX11_toldPoint_3 lc_fX11_28 h0_0 rfl ?_
  refine lc_iload_n dX11_toldPoint_6 rfl 1 rfl ?_
  refine lc_iconst dX11_toldPoint_7 ?_
  refine lc_iadd dX11_toldPoint_8 ?_
  refine lc_iald dX11_toldPoint_9 h0_1 (by omega) (by decide) ?_
  refine lc_top (congrArg (fun z => Value.int (lc_i z)) (show ((N7) ((x) + (1)) : Int) = tx (x + 1) from hT _ (by omega) (by omega))) ?_
  refine lc_bipush dX11_toldPoint_10 (by decide) ?_
  refine lc_isub dX11_toldPoint_12 ?_
  refine lc_imul dX11_toldPoint_13 ?_
  refine lc_aload_n dX11_toldPoint_14 rfl 0 rfl ?_
  refine lc_get dX11_toldPoint_15 lc_fX11_28 h0_0 rfl ?_
  refine lc_iload_n dX11_toldPoint_18 rfl 1 rfl ?_
  refine lc_iald dX11_toldPoint_19 h0_1 (by omega) (by decide) ?_
  refine lc_top (congrArg (fun z => Value.int (lc_i z)) (show ((N7) (x) : Int) = tx x from hT _ (by omega) (by omega))) ?_
  refine lc_iadd dX11_toldPoint_20 ?_
  refine lc_bipush dX11_toldPoint_21 (by decide) ?_
  refine lc_isub dX11_toldPoint_23 ?_
  exact lc_iret dX11_toldPoint_24 rfl (Nat.le_of_ble_eq_true rfl) (Nat.le_of_ble_eq_true rfl) (hQ _ _ _ ⟨lc_some (by unfold lc_tp; omega), rfl, rfl⟩)
