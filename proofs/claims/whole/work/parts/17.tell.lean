/-! LoopCaptures: history, and what is told -/

theorem lc_mv_len {f : Int → Int} {s q m : Int} : 0 ≤ ((lc_mv f s q m).length : Int) := Int.natCast_nonneg _

theorem lc_hk0 {k : Nat} (h : ¬ k = 0) (hk : k ≤ 4) : 1 ≤ k ∧ k ≤ 4 := by omega

def lc_undo : lc_Ab → lc_Ab × Int
  | (N, P, H, k, tx, z, bs, bt, sn, sr) => if k = 0 then ((N, P, H, k, tx, z, bs, bt, sn, sr), -105) else ((H (k - 1), P, H, k - 1, tx, z, bs, bt, sn, sr), ((k - 1 : Nat) : Int))

set_option maxRecDepth 100000 in
set_option maxHeartbeats 600000 in
theorem lc_cX10_undo (l : Launch) (n : Nat) (f : Int → Int) (s q m mo ca ct : Int) (po : Int → Int) (P : lc_St) (H : Nat → lc_St) (k : Nat) (tx : Int → Int) (z : Int) (bs bt : Bool) (sn sr : Int) (σ : lc_S)  (hI : lc_CI σ ((f, s, q, m, mo, ca, ct, po), P, H, k, tx, z, bs, bt, sn, sr)) (hw : lc_wf ((f, s, q, m, mo, ca, ct, po), P, H, k, tx, z, bs, bt, sn, sr)) : lc_Con l yX10_undo cX10_undo 1 (some .int) (lc_Rd 3) [.ref (1)] n σ (fun v n2 σ2 => v = some (.int (lc_i ((lc_undo ((f, s, q, m, mo, ca, ct, po), P, H, k, tx, z, bs, bt, sn, sr)).2))) ∧ n = n2 ∧ lc_CI σ2 ((lc_undo ((f, s, q, m, mo, ca, ct, po), P, H, k, tx, z, bs, bt, sn, sr)).1) ∧ ∀ i : Nat, 50 ≤ i ∨ i = 0 → σ2 i = σ i) := by
  obtain ⟨⟨hf9, hs9, hq9, hm9, hct9, hpo9, hkey9⟩, hwP, hwH, hk4, hz, htx⟩ := hw
  have hf : ∀ j : Int, 0 ≤ j → j < 36 → 0 ≤ f j ∧ f j ≤ 2 := hf9
  have hs : 1 ≤ s ∧ s ≤ 2 := hs9
  have hq : 0 ≤ q ∧ q ≤ 60 := hq9
  have hm : 4 ≤ m ∧ m ≤ 60 := hm9
  have hct : 1 ≤ ct ∧ ct ≤ 60 := hct9
  have hpo : ∀ i : Int, 0 ≤ i → i < ct → 0 ≤ po i ∧ po i < 450283905890997363 := hpo9
  have hkey : po (ct - 1) = lc_key f s 36 := hkey9
  have hpo4 : ∀ i : Int, 0 ≤ i → i < ct → 0 ≤ po i ∧ po i < 4611686018427387904 := fun i h1 h2 => ⟨(hpo i h1 h2).1, by have := (hpo i h1 h2).2; omega⟩
  obtain ⟨r, SN, BF, w, e1, e2, e3, u1, u2, ug, hc1, hc2, hc3, hc4, hc5, hc6, hc7, hc9, hc10, hLk, hN, hB, hS, hSN, hc30, hc31, hSl, hc48, hc49⟩ := hI
  have hb : 12 ≤ 19 := (by decide)
  obtain ⟨a1, a2, a3, ch, bf, d1, d2, d3, y1, y2, g1, x1, x2, g2, hk_8, hk_11, hk_12, hk_13, hk_14, hk_15, hk_16, hk_17⟩ := hLk
  obtain ⟨bF, bS, bQ, bM, bMO, bCA, bCT, bPO⟩ := BF
  obtain ⟨nF, nS, nQ, nM, nMO, nCA, nCT, nPO⟩ := SN
  obtain ⟨hN0, hN1, hN2, hN3⟩ := hN
  obtain ⟨hB0, hB1, hB2, hB3⟩ := hB
  obtain ⟨hS0, hS1, hS2, hS3⟩ := hS
  have hz_1 : σ (1) = some (.inr (10, [.ref (2), .ref (5), .ref (7), .ref (9), .ref (11), .ref (18), .ref (22), .ref (26), .ref (30), .ref (48), .int (lc_i (if bs = true then 1 else 0)), .int (lc_i (if bt = true then 1 else 0)), .int (lc_i (sn)), .int (lc_i (sr))]) : lc_Cel) := hc1
  have hz_2 : σ (2) = some (.inr (1, [.ref (3), .ref (4)]) : lc_Cel) := hc2
  have hz_3 : σ (3) = some (lc_aI 48 (lc_pt)) := hc3
  have hz_4 : σ (4) = some (lc_aI 72 (lc_sp)) := hc4
  have hz_5 : σ (5) = some (.inr (9, [.ref (2), .ref (6), .int (lc_i ((w).1)), .int (lc_i ((w).2.1)), .int (lc_i ((w).2.2.1)), .int (lc_i ((w).2.2.2))]) : lc_Cel) := hc5
  have hz_6 : σ (6) = some (.inr (8, [.ref (2), .int (lc_i (e1)), .int (lc_i (e2)), .int (lc_i (e3))]) : lc_Cel) := hc6
  have hz_7 : σ (7) = some (.inr (6, [.ref (2), .ref (8), .ref (5)]) : lc_Cel) := hc7
  have hz_9 : σ (9) = some (.inr (4, [.ref (10), .int (lc_i (u1)), .int (lc_i (u2))]) : lc_Cel) := hc9
  have hz_10 : σ (10) = some (lc_aI 364 (ug)) := hc10
  have hz_8 : σ (8) = some (.inr (8, [.ref (2), .int (lc_i (a1)), .int (lc_i (a2)), .int (lc_i (a3))]) : lc_Cel) := hk_8
  have hz_11 : σ (11) = some (.inr (3, [.ref (7), .ref (12), .ref (14), .ref (16), .int (lc_i (ch))]) : lc_Cel) := hk_11
  have hz_12 : σ (12) = some (.inr (0, [.ref (13), .int (lc_i (lc_cnt (bf) 1 36)), .int (lc_i (lc_cnt (bf) 2 36)), .int (lc_i (d1)), .int (lc_i (d2)), .int (lc_i (d3))]) : lc_Cel) := hk_12
  have hz_13 : σ (13) = some (lc_aI 36 (bf)) := hk_13
  have hz_14 : σ (14) = some (.inr (4, [.ref (15), .int (lc_i (y1)), .int (lc_i (y2))]) : lc_Cel) := hk_14
  have hz_15 : σ (15) = some (lc_aI 364 (g1)) := hk_15
  have hz_16 : σ (16) = some (.inr (4, [.ref (17), .int (lc_i (x1)), .int (lc_i (x2))]) : lc_Cel) := hk_16
  have hz_17 : σ (17) = some (lc_aI 364 (g2)) := hk_17
  have hz_30 : σ (30) = some (.inr (2, [.ref (31), .int (lc_i ((k : Int)))]) : lc_Cel) := hc30
  have hz_31 : σ (31) = some (lc_aS 4 (lc_h4 (r))) := hc31
  have hz_48 : σ (48) = some (.inr (5, [.ref (49), .int (lc_i (z))]) : lc_Cel) := hc48
  have hz_49 : σ (49) = some (lc_aC 80 (tx)) := hc49
  have hz_18 : σ (18) = some (.inr (7, [.ref (19), .int (lc_i (mo)), .int (lc_i (ca)), .ref (21), .int (lc_i (ct))]) : lc_Cel) := hN0
  have hz_19 : σ (19) = some (.inr (0, [.ref (20), .int (lc_i (lc_cnt (f) 1 36)), .int (lc_i (lc_cnt (f) 2 36)), .int (lc_i (s)), .int (lc_i (q)), .int (lc_i (m))]) : lc_Cel) := hN1
  have hz_20 : σ (20) = some (lc_aI 36 (f)) := hN2
  have hz_21 : σ (21) = some (lc_aJ 60 (fun i : Int => lc_j ((po) i))) := hN3
  have hz_22 : σ (22) = some (.inr (7, [.ref (23), .int (lc_i (bMO)), .int (lc_i (bCA)), .ref (25), .int (lc_i (bCT))]) : lc_Cel) := hB0
  have hz_23 : σ (23) = some (.inr (0, [.ref (24), .int (lc_i (lc_cnt (bF) 1 36)), .int (lc_i (lc_cnt (bF) 2 36)), .int (lc_i (bS)), .int (lc_i (bQ)), .int (lc_i (bM))]) : lc_Cel) := hB1
  have hz_24 : σ (24) = some (lc_aI 36 (bF)) := hB2
  have hz_25 : σ (25) = some (lc_aJ 60 (fun i : Int => lc_j ((bPO) i))) := hB3
  have hz_26 : σ (26) = some (.inr (7, [.ref (27), .int (lc_i (nMO)), .int (lc_i (nCA)), .ref (29), .int (lc_i (nCT))]) : lc_Cel) := hS0
  have hz_27 : σ (27) = some (.inr (0, [.ref (28), .int (lc_i (lc_cnt (nF) 1 36)), .int (lc_i (lc_cnt (nF) 2 36)), .int (lc_i (nS)), .int (lc_i (nQ)), .int (lc_i (nM))]) : lc_Cel) := hS1
  have hz_28 : σ (28) = some (lc_aI 36 (nF)) := hS2
  have hz_29 : σ (29) = some (lc_aJ 60 (fun i : Int => lc_j ((nPO) i))) := hS3
  refine lc_con RX10 false (by decide) rfl (fun h => absurd h (by decide)) (Nat.le_of_ble_eq_true rfl) ?_
  suffices H : ∀ Q : lc_QT, (∀ v n2 σ2, (fun v n2 σ2 => v = some (.int (lc_i ((lc_undo ((f, s, q, m, mo, ca, ct, po), P, H, k, tx, z, bs, bt, sn, sr)).2))) ∧ n = n2 ∧ lc_CI σ2 ((lc_undo ((f, s, q, m, mo, ca, ct, po), P, H, k, tx, z, bs, bt, sn, sr)).1) ∧ ∀ i : Nat, 50 ≤ i ∨ i = 0 → σ2 i = σ i : lc_QT) v n2 σ2 → Q v n2 σ2) → lc_V l RX10 cX10_undo 1 (some .int) false (lc_Rd 3) (lc_G Q 0 0) lc_E0 0 0 n 0 [(0, .ref (1))] [] σ from H _ (fun _ _ _ h => h)
  intro Q hQ
  refine lc_aload_n dX10_undo_0 rfl 0 rfl ?_
  refine lc_get dX10_undo_1 lc_fX10_66 hz_1 rfl ?_
  refine lc_callV (As := []) (stk := []) (b := 30) dX10_undo_4 lc_mX10_178 lc_yX2_size hz_30 rfl (lc_cX2_size l n ((k : Int)) σ hz_30) rfl ⟨Nat.le_of_ble_eq_true rfl, Nat.le_of_ble_eq_true rfl⟩ ⟨Nat.le_of_ble_eq_true rfl, Nat.le_of_ble_eq_true rfl⟩ rfl (Nat.le_of_ble_eq_true rfl) (fun v1 n2 σ3 q4 => ?_)
  obtain ⟨rfl, rfl, rfl⟩ := q4
  refine lc_if_ne (tgt := 13) dX10_undo_7 (by decide) (by omega) (fun h_7_4 => ?_) (fun h_7_4 => ?_)
  · skip
    have hk1 : 1 ≤ k ∧ k ≤ 4 := by omega
    obtain ⟨t, ht⟩ : ∃ t : Nat, t = 32 + 4 * ((r + (k - 1)) % 4) := ⟨_, rfl⟩
    have hT := lc_Sl_la hSl hk1 ht
    obtain ⟨HT, hHT⟩ : ∃ x, x = H (k - 1) := ⟨_, rfl⟩
    rw [← hHT] at hT
    obtain ⟨f3, s3, q3, m3, mo3, ca3, ct3, po3⟩ := HT
    obtain ⟨hT0, hT1, hT2, hT3⟩ := hT
    have hz_t : σ (t) = some (.inr (7, [.ref (t + 1), .int (lc_i (mo3)), .int (lc_i (ca3)), .ref (t + 3), .int (lc_i (ct3))]) : lc_Cel) := hT0
    have hz_t_1 : σ (t + 1) = some (.inr (0, [.ref (t + 2), .int (lc_i (lc_cnt (f3) 1 36)), .int (lc_i (lc_cnt (f3) 2 36)), .int (lc_i (s3)), .int (lc_i (q3)), .int (lc_i (m3))]) : lc_Cel) := hT1
    have hz_t_2 : σ (t + 2) = some (lc_aI 36 (f3)) := hT2
    have hz_t_3 : σ (t + 3) = some (lc_aJ 60 (fun i : Int => lc_j ((po3) i))) := hT3
    refine lc_aload_n dX10_undo_13 rfl 0 rfl ?_
    refine lc_get dX10_undo_14 lc_fX10_66 hz_1 rfl ?_
    refine lc_aload_n dX10_undo_17 rfl 0 rfl ?_
    refine lc_get dX10_undo_18 lc_fX10_53 hz_1 rfl ?_
    refine lc_callV (As := [.ref (18)]) (stk := []) (b := 30) dX10_undo_21 lc_mX10_181 lc_yX2_takeLatest hz_30 rfl (lc_cX2_takeLatest l n (r) (k) (18) (f) (s) (q) (m) (mo) (ca) (ct) (po) (t) (f3) (s3) (q3) (m3) (mo3) (ca3) (ct3) (po3) σ hz_30 hz_31 hz_18 hz_19 hz_20 hz_21 hz_t hz_t_1 hz_t_2 hz_t_3 (hk1) (ht) (by omega)) rfl ⟨Nat.le_of_ble_eq_true rfl, Nat.le_of_ble_eq_true rfl⟩ ⟨Nat.le_of_ble_eq_true rfl, Nat.le_of_ble_eq_true rfl⟩ rfl (Nat.le_of_ble_eq_true rfl) (fun v12 n13 σ14 q15 => ?_)
    obtain ⟨rfl, rfl, h7, h8, h9, h10, h11, fr6⟩ := q15
    have h16 : σ14 (1) = some (.inr (10, [.ref (2), .ref (5), .ref (7), .ref (9), .ref (11), .ref (18), .ref (22), .ref (26), .ref (30), .ref (48), .int (lc_i (if bs = true then 1 else 0)), .int (lc_i (if bt = true then 1 else 0)), .int (lc_i (sn)), .int (lc_i (sr))]) : lc_Cel) := (fr6 _ (by omega) (by omega) (by omega) (by omega) (by omega)).trans hz_1
    have h17 : σ14 (2) = some (.inr (1, [.ref (3), .ref (4)]) : lc_Cel) := (fr6 _ (by omega) (by omega) (by omega) (by omega) (by omega)).trans hz_2
    have h18 : σ14 (3) = some (lc_aI 48 (lc_pt)) := (fr6 _ (by omega) (by omega) (by omega) (by omega) (by omega)).trans hz_3
    have h19 : σ14 (4) = some (lc_aI 72 (lc_sp)) := (fr6 _ (by omega) (by omega) (by omega) (by omega) (by omega)).trans hz_4
    have h20 : σ14 (5) = some (.inr (9, [.ref (2), .ref (6), .int (lc_i ((w).1)), .int (lc_i ((w).2.1)), .int (lc_i ((w).2.2.1)), .int (lc_i ((w).2.2.2))]) : lc_Cel) := (fr6 _ (by omega) (by omega) (by omega) (by omega) (by omega)).trans hz_5
    have h21 : σ14 (6) = some (.inr (8, [.ref (2), .int (lc_i (e1)), .int (lc_i (e2)), .int (lc_i (e3))]) : lc_Cel) := (fr6 _ (by omega) (by omega) (by omega) (by omega) (by omega)).trans hz_6
    have h22 : σ14 (7) = some (.inr (6, [.ref (2), .ref (8), .ref (5)]) : lc_Cel) := (fr6 _ (by omega) (by omega) (by omega) (by omega) (by omega)).trans hz_7
    have h23 : σ14 (9) = some (.inr (4, [.ref (10), .int (lc_i (u1)), .int (lc_i (u2))]) : lc_Cel) := (fr6 _ (by omega) (by omega) (by omega) (by omega) (by omega)).trans hz_9
    have h24 : σ14 (10) = some (lc_aI 364 (ug)) := (fr6 _ (by omega) (by omega) (by omega) (by omega) (by omega)).trans hz_10
    have h25 : σ14 (8) = some (.inr (8, [.ref (2), .int (lc_i (a1)), .int (lc_i (a2)), .int (lc_i (a3))]) : lc_Cel) := (fr6 _ (by omega) (by omega) (by omega) (by omega) (by omega)).trans hz_8
    have h26 : σ14 (11) = some (.inr (3, [.ref (7), .ref (12), .ref (14), .ref (16), .int (lc_i (ch))]) : lc_Cel) := (fr6 _ (by omega) (by omega) (by omega) (by omega) (by omega)).trans hz_11
    have h27 : σ14 (12) = some (.inr (0, [.ref (13), .int (lc_i (lc_cnt (bf) 1 36)), .int (lc_i (lc_cnt (bf) 2 36)), .int (lc_i (d1)), .int (lc_i (d2)), .int (lc_i (d3))]) : lc_Cel) := (fr6 _ (by omega) (by omega) (by omega) (by omega) (by omega)).trans hz_12
    have h28 : σ14 (13) = some (lc_aI 36 (bf)) := (fr6 _ (by omega) (by omega) (by omega) (by omega) (by omega)).trans hz_13
    have h29 : σ14 (14) = some (.inr (4, [.ref (15), .int (lc_i (y1)), .int (lc_i (y2))]) : lc_Cel) := (fr6 _ (by omega) (by omega) (by omega) (by omega) (by omega)).trans hz_14
    have h30 : σ14 (15) = some (lc_aI 364 (g1)) := (fr6 _ (by omega) (by omega) (by omega) (by omega) (by omega)).trans hz_15
    have h31 : σ14 (16) = some (.inr (4, [.ref (17), .int (lc_i (x1)), .int (lc_i (x2))]) : lc_Cel) := (fr6 _ (by omega) (by omega) (by omega) (by omega) (by omega)).trans hz_16
    have h32 : σ14 (17) = some (lc_aI 364 (g2)) := (fr6 _ (by omega) (by omega) (by omega) (by omega) (by omega)).trans hz_17
    have h33 : σ14 (31) = some (lc_aS 4 (lc_h4 (r))) := (fr6 _ (by omega) (by omega) (by omega) (by omega) (by omega)).trans hz_31
    have h34 : σ14 (48) = some (.inr (5, [.ref (49), .int (lc_i (z))]) : lc_Cel) := (fr6 _ (by omega) (by omega) (by omega) (by omega) (by omega)).trans hz_48
    have h35 : σ14 (49) = some (lc_aC 80 (tx)) := (fr6 _ (by omega) (by omega) (by omega) (by omega) (by omega)).trans hz_49
    have h36 : σ14 (22) = some (.inr (7, [.ref (23), .int (lc_i (bMO)), .int (lc_i (bCA)), .ref (25), .int (lc_i (bCT))]) : lc_Cel) := (fr6 _ (by omega) (by omega) (by omega) (by omega) (by omega)).trans hz_22
    have h37 : σ14 (23) = some (.inr (0, [.ref (24), .int (lc_i (lc_cnt (bF) 1 36)), .int (lc_i (lc_cnt (bF) 2 36)), .int (lc_i (bS)), .int (lc_i (bQ)), .int (lc_i (bM))]) : lc_Cel) := (fr6 _ (by omega) (by omega) (by omega) (by omega) (by omega)).trans hz_23
    have h38 : σ14 (24) = some (lc_aI 36 (bF)) := (fr6 _ (by omega) (by omega) (by omega) (by omega) (by omega)).trans hz_24
    have h39 : σ14 (25) = some (lc_aJ 60 (fun i : Int => lc_j ((bPO) i))) := (fr6 _ (by omega) (by omega) (by omega) (by omega) (by omega)).trans hz_25
    have h40 : σ14 (26) = some (.inr (7, [.ref (27), .int (lc_i (nMO)), .int (lc_i (nCA)), .ref (29), .int (lc_i (nCT))]) : lc_Cel) := (fr6 _ (by omega) (by omega) (by omega) (by omega) (by omega)).trans hz_26
    have h41 : σ14 (27) = some (.inr (0, [.ref (28), .int (lc_i (lc_cnt (nF) 1 36)), .int (lc_i (lc_cnt (nF) 2 36)), .int (lc_i (nS)), .int (lc_i (nQ)), .int (lc_i (nM))]) : lc_Cel) := (fr6 _ (by omega) (by omega) (by omega) (by omega) (by omega)).trans hz_27
    have h42 : σ14 (28) = some (lc_aI 36 (nF)) := (fr6 _ (by omega) (by omega) (by omega) (by omega) (by omega)).trans hz_28
    have h43 : σ14 (29) = some (lc_aJ 60 (fun i : Int => lc_j ((nPO) i))) := (fr6 _ (by omega) (by omega) (by omega) (by omega) (by omega)).trans hz_29
    have h44 : σ14 (t) = some (.inr (7, [.ref (t + 1), .int (lc_i (mo3)), .int (lc_i (ca3)), .ref (t + 3), .int (lc_i (ct3))]) : lc_Cel) := (fr6 _ (by omega) (by omega) (by omega) (by omega) (by omega)).trans hz_t
    have h45 : σ14 (t + 1) = some (.inr (0, [.ref (t + 2), .int (lc_i (lc_cnt (f3) 1 36)), .int (lc_i (lc_cnt (f3) 2 36)), .int (lc_i (s3)), .int (lc_i (q3)), .int (lc_i (m3))]) : lc_Cel) := (fr6 _ (by omega) (by omega) (by omega) (by omega) (by omega)).trans hz_t_1
    have h46 : σ14 (t + 2) = some (lc_aI 36 (f3)) := (fr6 _ (by omega) (by omega) (by omega) (by omega) (by omega)).trans hz_t_2
    have h47 : σ14 (t + 3) = some (lc_aJ 60 (fun i : Int => lc_j ((po3) i))) := (fr6 _ (by omega) (by omega) (by omega) (by omega) (by omega)).trans hz_t_3
    refine lc_aload_n dX10_undo_24 rfl 0 rfl ?_
    refine lc_get dX10_undo_25 lc_fX10_66 h16 rfl ?_
    refine lc_callV (As := []) (stk := []) (b := 30) dX10_undo_28 lc_mX10_178 lc_yX2_size h7 rfl (lc_cX2_size l n (((k - 1 : Nat) : Int)) σ14 h7) rfl ⟨Nat.le_of_ble_eq_true rfl, Nat.le_of_ble_eq_true rfl⟩ ⟨Nat.le_of_ble_eq_true rfl, Nat.le_of_ble_eq_true rfl⟩ rfl (Nat.le_of_ble_eq_true rfl) (fun v48 n49 σ50 q51 => ?_)
    obtain ⟨rfl, rfl, rfl⟩ := q51
    exact lc_iret dX10_undo_31 rfl (Nat.le_of_ble_eq_true rfl) (Nat.le_of_ble_eq_true rfl) (hQ _ _ _ (by rw [lc_undo, if_neg (show ¬ (k = 0) from by omega), ← hHT]; exact ⟨rfl, rfl, lc_CI_mk (BF := (bF, bS, bQ, bM, bMO, bCA, bCT, bPO)) (SN := (nF, nS, nQ, nM, nMO, nCA, nCT, nPO)) h16 h17 h18 h19 h20 h21 h22 h23 h24 (lc_Lk_mk h25 h26 h27 h28 h29 h30 h31 h32) ⟨h8, h9, h10, h11⟩ ⟨h36, h37, h38, h39⟩ ⟨h40, h41, h42, h43⟩ (hSN) h7 h33 (lc_Sl_le (lc_Sl_fr hSl (fun i _ _ => (fr6 i (by omega) (by omega) (by omega) (by omega) (by omega)))) (by omega)) h34 h35, fun i _ => (fr6 i (by omega) (by omega) (by omega) (by omega) (by omega))⟩))
  · skip
    refine lc_bipush dX10_undo_10 (by decide) ?_
    exact lc_iret dX10_undo_12 rfl (Nat.le_of_ble_eq_true rfl) (Nat.le_of_ble_eq_true rfl) (hQ _ _ _ (by rw [lc_undo, if_pos (show k = 0 from by omega)]; exact ⟨rfl, rfl, lc_CI_mk (BF := (bF, bS, bQ, bM, bMO, bCA, bCT, bPO)) (SN := (nF, nS, nQ, nM, nMO, nCA, nCT, nPO)) hz_1 hz_2 hz_3 hz_4 hz_5 hz_6 hz_7 hz_9 hz_10 (lc_Lk_mk hz_8 hz_11 hz_12 hz_13 hz_14 hz_15 hz_16 hz_17) ⟨hz_18, hz_19, hz_20, hz_21⟩ ⟨hz_22, hz_23, hz_24, hz_25⟩ ⟨hz_26, hz_27, hz_28, hz_29⟩ (hSN) hz_30 hz_31 (lc_Sl_fr hSl (fun i _ _ => rfl)) hz_48 hz_49, fun i _ => rfl⟩))

def lc_keep : lc_Ab → lc_Ab × Int
  | (N, P, H, k, tx, z, bs, bt, sn, sr) => ((N, N, H, k, tx, z, true, bt, sn, sr), lc_cnt N.1 1 36 + lc_cnt N.1 2 36)

set_option maxRecDepth 100000 in
set_option maxHeartbeats 600000 in
theorem lc_cX10_keep (l : Launch) (n : Nat) (f : Int → Int) (s q m mo ca ct : Int) (po : Int → Int) (P : lc_St) (H : Nat → lc_St) (k : Nat) (tx : Int → Int) (z : Int) (bs bt : Bool) (sn sr : Int) (σ : lc_S)  (hI : lc_CI σ ((f, s, q, m, mo, ca, ct, po), P, H, k, tx, z, bs, bt, sn, sr)) (hw : lc_wf ((f, s, q, m, mo, ca, ct, po), P, H, k, tx, z, bs, bt, sn, sr)) : lc_Con l yX10_keep cX10_keep 1 (some .int) (lc_Rd 2) [.ref (1)] n σ (fun v n2 σ2 => v = some (.int (lc_i ((lc_keep ((f, s, q, m, mo, ca, ct, po), P, H, k, tx, z, bs, bt, sn, sr)).2))) ∧ n = n2 ∧ lc_CI σ2 ((lc_keep ((f, s, q, m, mo, ca, ct, po), P, H, k, tx, z, bs, bt, sn, sr)).1) ∧ ∀ i : Nat, 50 ≤ i ∨ i = 0 → σ2 i = σ i) := by
  obtain ⟨⟨hf9, hs9, hq9, hm9, hct9, hpo9, hkey9⟩, hwP, hwH, hk4, hz, htx⟩ := hw
  have hf : ∀ j : Int, 0 ≤ j → j < 36 → 0 ≤ f j ∧ f j ≤ 2 := hf9
  have hs : 1 ≤ s ∧ s ≤ 2 := hs9
  have hq : 0 ≤ q ∧ q ≤ 60 := hq9
  have hm : 4 ≤ m ∧ m ≤ 60 := hm9
  have hct : 1 ≤ ct ∧ ct ≤ 60 := hct9
  have hpo : ∀ i : Int, 0 ≤ i → i < ct → 0 ≤ po i ∧ po i < 450283905890997363 := hpo9
  have hkey : po (ct - 1) = lc_key f s 36 := hkey9
  have hpo4 : ∀ i : Int, 0 ≤ i → i < ct → 0 ≤ po i ∧ po i < 4611686018427387904 := fun i h1 h2 => ⟨(hpo i h1 h2).1, by have := (hpo i h1 h2).2; omega⟩
  obtain ⟨r, SN, BF, w, e1, e2, e3, u1, u2, ug, hc1, hc2, hc3, hc4, hc5, hc6, hc7, hc9, hc10, hLk, hN, hB, hS, hSN, hc30, hc31, hSl, hc48, hc49⟩ := hI
  have hb : 12 ≤ 19 := (by decide)
  obtain ⟨a1, a2, a3, ch, bf, d1, d2, d3, y1, y2, g1, x1, x2, g2, hk_8, hk_11, hk_12, hk_13, hk_14, hk_15, hk_16, hk_17⟩ := hLk
  obtain ⟨bF, bS, bQ, bM, bMO, bCA, bCT, bPO⟩ := BF
  obtain ⟨nF, nS, nQ, nM, nMO, nCA, nCT, nPO⟩ := SN
  obtain ⟨hN0, hN1, hN2, hN3⟩ := hN
  obtain ⟨hB0, hB1, hB2, hB3⟩ := hB
  obtain ⟨hS0, hS1, hS2, hS3⟩ := hS
  have hz_1 : σ (1) = some (.inr (10, [.ref (2), .ref (5), .ref (7), .ref (9), .ref (11), .ref (18), .ref (22), .ref (26), .ref (30), .ref (48), .int (lc_i (if bs = true then 1 else 0)), .int (lc_i (if bt = true then 1 else 0)), .int (lc_i (sn)), .int (lc_i (sr))]) : lc_Cel) := hc1
  have hz_2 : σ (2) = some (.inr (1, [.ref (3), .ref (4)]) : lc_Cel) := hc2
  have hz_3 : σ (3) = some (lc_aI 48 (lc_pt)) := hc3
  have hz_4 : σ (4) = some (lc_aI 72 (lc_sp)) := hc4
  have hz_5 : σ (5) = some (.inr (9, [.ref (2), .ref (6), .int (lc_i ((w).1)), .int (lc_i ((w).2.1)), .int (lc_i ((w).2.2.1)), .int (lc_i ((w).2.2.2))]) : lc_Cel) := hc5
  have hz_6 : σ (6) = some (.inr (8, [.ref (2), .int (lc_i (e1)), .int (lc_i (e2)), .int (lc_i (e3))]) : lc_Cel) := hc6
  have hz_7 : σ (7) = some (.inr (6, [.ref (2), .ref (8), .ref (5)]) : lc_Cel) := hc7
  have hz_9 : σ (9) = some (.inr (4, [.ref (10), .int (lc_i (u1)), .int (lc_i (u2))]) : lc_Cel) := hc9
  have hz_10 : σ (10) = some (lc_aI 364 (ug)) := hc10
  have hz_8 : σ (8) = some (.inr (8, [.ref (2), .int (lc_i (a1)), .int (lc_i (a2)), .int (lc_i (a3))]) : lc_Cel) := hk_8
  have hz_11 : σ (11) = some (.inr (3, [.ref (7), .ref (12), .ref (14), .ref (16), .int (lc_i (ch))]) : lc_Cel) := hk_11
  have hz_12 : σ (12) = some (.inr (0, [.ref (13), .int (lc_i (lc_cnt (bf) 1 36)), .int (lc_i (lc_cnt (bf) 2 36)), .int (lc_i (d1)), .int (lc_i (d2)), .int (lc_i (d3))]) : lc_Cel) := hk_12
  have hz_13 : σ (13) = some (lc_aI 36 (bf)) := hk_13
  have hz_14 : σ (14) = some (.inr (4, [.ref (15), .int (lc_i (y1)), .int (lc_i (y2))]) : lc_Cel) := hk_14
  have hz_15 : σ (15) = some (lc_aI 364 (g1)) := hk_15
  have hz_16 : σ (16) = some (.inr (4, [.ref (17), .int (lc_i (x1)), .int (lc_i (x2))]) : lc_Cel) := hk_16
  have hz_17 : σ (17) = some (lc_aI 364 (g2)) := hk_17
  have hz_30 : σ (30) = some (.inr (2, [.ref (31), .int (lc_i ((k : Int)))]) : lc_Cel) := hc30
  have hz_31 : σ (31) = some (lc_aS 4 (lc_h4 (r))) := hc31
  have hz_48 : σ (48) = some (.inr (5, [.ref (49), .int (lc_i (z))]) : lc_Cel) := hc48
  have hz_49 : σ (49) = some (lc_aC 80 (tx)) := hc49
  have hz_18 : σ (18) = some (.inr (7, [.ref (19), .int (lc_i (mo)), .int (lc_i (ca)), .ref (21), .int (lc_i (ct))]) : lc_Cel) := hN0
  have hz_19 : σ (19) = some (.inr (0, [.ref (20), .int (lc_i (lc_cnt (f) 1 36)), .int (lc_i (lc_cnt (f) 2 36)), .int (lc_i (s)), .int (lc_i (q)), .int (lc_i (m))]) : lc_Cel) := hN1
  have hz_20 : σ (20) = some (lc_aI 36 (f)) := hN2
  have hz_21 : σ (21) = some (lc_aJ 60 (fun i : Int => lc_j ((po) i))) := hN3
  have hz_22 : σ (22) = some (.inr (7, [.ref (23), .int (lc_i (bMO)), .int (lc_i (bCA)), .ref (25), .int (lc_i (bCT))]) : lc_Cel) := hB0
  have hz_23 : σ (23) = some (.inr (0, [.ref (24), .int (lc_i (lc_cnt (bF) 1 36)), .int (lc_i (lc_cnt (bF) 2 36)), .int (lc_i (bS)), .int (lc_i (bQ)), .int (lc_i (bM))]) : lc_Cel) := hB1
  have hz_24 : σ (24) = some (lc_aI 36 (bF)) := hB2
  have hz_25 : σ (25) = some (lc_aJ 60 (fun i : Int => lc_j ((bPO) i))) := hB3
  have hz_26 : σ (26) = some (.inr (7, [.ref (27), .int (lc_i (nMO)), .int (lc_i (nCA)), .ref (29), .int (lc_i (nCT))]) : lc_Cel) := hS0
  have hz_27 : σ (27) = some (.inr (0, [.ref (28), .int (lc_i (lc_cnt (nF) 1 36)), .int (lc_i (lc_cnt (nF) 2 36)), .int (lc_i (nS)), .int (lc_i (nQ)), .int (lc_i (nM))]) : lc_Cel) := hS1
  have hz_28 : σ (28) = some (lc_aI 36 (nF)) := hS2
  have hz_29 : σ (29) = some (lc_aJ 60 (fun i : Int => lc_j ((nPO) i))) := hS3
  refine lc_con RX10 false (by decide) rfl (fun h => absurd h (by decide)) (Nat.le_of_ble_eq_true rfl) ?_
  suffices H : ∀ Q : lc_QT, (∀ v n2 σ2, (fun v n2 σ2 => v = some (.int (lc_i ((lc_keep ((f, s, q, m, mo, ca, ct, po), P, H, k, tx, z, bs, bt, sn, sr)).2))) ∧ n = n2 ∧ lc_CI σ2 ((lc_keep ((f, s, q, m, mo, ca, ct, po), P, H, k, tx, z, bs, bt, sn, sr)).1) ∧ ∀ i : Nat, 50 ≤ i ∨ i = 0 → σ2 i = σ i : lc_QT) v n2 σ2 → Q v n2 σ2) → lc_V l RX10 cX10_keep 1 (some .int) false (lc_Rd 2) (lc_G Q 0 0) lc_E0 0 0 n 0 [(0, .ref (1))] [] σ from H _ (fun _ _ _ h => h)
  intro Q hQ
  refine lc_aload_n dX10_keep_0 rfl 0 rfl ?_
  refine lc_get dX10_keep_1 lc_fX10_60 hz_1 rfl ?_
  refine lc_aload_n dX10_keep_4 rfl 0 rfl ?_
  refine lc_get dX10_keep_5 lc_fX10_53 hz_1 rfl ?_
  refine lc_callV (As := [.ref (18)]) (stk := []) (b := 26) dX10_keep_8 lc_mX10_149 lc_yX7_copyFrom hz_26 rfl (lc_cX7_copyFrom l n (26) (nF) (nS) (nQ) (nM) (nMO) (nCA) (nCT) (nPO) (18) (f) (s) (q) (m) (mo) (ca) (ct) (po) σ hz_26 hz_27 hz_28 hz_29 hz_18 hz_19 hz_20 hz_21 (by omega)) rfl ⟨Nat.le_of_ble_eq_true rfl, Nat.le_of_ble_eq_true rfl⟩ ⟨Nat.le_of_ble_eq_true rfl, Nat.le_of_ble_eq_true rfl⟩ rfl (Nat.le_of_ble_eq_true rfl) (fun v6 n7 σ8 q9 => ?_)
  obtain ⟨rfl, rfl, h2, h3, h4, h5, fr1⟩ := q9
  have h10 : σ8 (1) = some (.inr (10, [.ref (2), .ref (5), .ref (7), .ref (9), .ref (11), .ref (18), .ref (22), .ref (26), .ref (30), .ref (48), .int (lc_i (if bs = true then 1 else 0)), .int (lc_i (if bt = true then 1 else 0)), .int (lc_i (sn)), .int (lc_i (sr))]) : lc_Cel) := (fr1 _ (by omega) (by omega) (by omega) (by omega)).trans hz_1
  have h11 : σ8 (2) = some (.inr (1, [.ref (3), .ref (4)]) : lc_Cel) := (fr1 _ (by omega) (by omega) (by omega) (by omega)).trans hz_2
  have h12 : σ8 (3) = some (lc_aI 48 (lc_pt)) := (fr1 _ (by omega) (by omega) (by omega) (by omega)).trans hz_3
  have h13 : σ8 (4) = some (lc_aI 72 (lc_sp)) := (fr1 _ (by omega) (by omega) (by omega) (by omega)).trans hz_4
  have h14 : σ8 (5) = some (.inr (9, [.ref (2), .ref (6), .int (lc_i ((w).1)), .int (lc_i ((w).2.1)), .int (lc_i ((w).2.2.1)), .int (lc_i ((w).2.2.2))]) : lc_Cel) := (fr1 _ (by omega) (by omega) (by omega) (by omega)).trans hz_5
  have h15 : σ8 (6) = some (.inr (8, [.ref (2), .int (lc_i (e1)), .int (lc_i (e2)), .int (lc_i (e3))]) : lc_Cel) := (fr1 _ (by omega) (by omega) (by omega) (by omega)).trans hz_6
  have h16 : σ8 (7) = some (.inr (6, [.ref (2), .ref (8), .ref (5)]) : lc_Cel) := (fr1 _ (by omega) (by omega) (by omega) (by omega)).trans hz_7
  have h17 : σ8 (9) = some (.inr (4, [.ref (10), .int (lc_i (u1)), .int (lc_i (u2))]) : lc_Cel) := (fr1 _ (by omega) (by omega) (by omega) (by omega)).trans hz_9
  have h18 : σ8 (10) = some (lc_aI 364 (ug)) := (fr1 _ (by omega) (by omega) (by omega) (by omega)).trans hz_10
  have h19 : σ8 (8) = some (.inr (8, [.ref (2), .int (lc_i (a1)), .int (lc_i (a2)), .int (lc_i (a3))]) : lc_Cel) := (fr1 _ (by omega) (by omega) (by omega) (by omega)).trans hz_8
  have h20 : σ8 (11) = some (.inr (3, [.ref (7), .ref (12), .ref (14), .ref (16), .int (lc_i (ch))]) : lc_Cel) := (fr1 _ (by omega) (by omega) (by omega) (by omega)).trans hz_11
  have h21 : σ8 (12) = some (.inr (0, [.ref (13), .int (lc_i (lc_cnt (bf) 1 36)), .int (lc_i (lc_cnt (bf) 2 36)), .int (lc_i (d1)), .int (lc_i (d2)), .int (lc_i (d3))]) : lc_Cel) := (fr1 _ (by omega) (by omega) (by omega) (by omega)).trans hz_12
  have h22 : σ8 (13) = some (lc_aI 36 (bf)) := (fr1 _ (by omega) (by omega) (by omega) (by omega)).trans hz_13
  have h23 : σ8 (14) = some (.inr (4, [.ref (15), .int (lc_i (y1)), .int (lc_i (y2))]) : lc_Cel) := (fr1 _ (by omega) (by omega) (by omega) (by omega)).trans hz_14
  have h24 : σ8 (15) = some (lc_aI 364 (g1)) := (fr1 _ (by omega) (by omega) (by omega) (by omega)).trans hz_15
  have h25 : σ8 (16) = some (.inr (4, [.ref (17), .int (lc_i (x1)), .int (lc_i (x2))]) : lc_Cel) := (fr1 _ (by omega) (by omega) (by omega) (by omega)).trans hz_16
  have h26 : σ8 (17) = some (lc_aI 364 (g2)) := (fr1 _ (by omega) (by omega) (by omega) (by omega)).trans hz_17
  have h27 : σ8 (30) = some (.inr (2, [.ref (31), .int (lc_i ((k : Int)))]) : lc_Cel) := (fr1 _ (by omega) (by omega) (by omega) (by omega)).trans hz_30
  have h28 : σ8 (31) = some (lc_aS 4 (lc_h4 (r))) := (fr1 _ (by omega) (by omega) (by omega) (by omega)).trans hz_31
  have h29 : σ8 (48) = some (.inr (5, [.ref (49), .int (lc_i (z))]) : lc_Cel) := (fr1 _ (by omega) (by omega) (by omega) (by omega)).trans hz_48
  have h30 : σ8 (49) = some (lc_aC 80 (tx)) := (fr1 _ (by omega) (by omega) (by omega) (by omega)).trans hz_49
  have h31 : σ8 (18) = some (.inr (7, [.ref (19), .int (lc_i (mo)), .int (lc_i (ca)), .ref (21), .int (lc_i (ct))]) : lc_Cel) := (fr1 _ (by omega) (by omega) (by omega) (by omega)).trans hz_18
  have h32 : σ8 (19) = some (.inr (0, [.ref (20), .int (lc_i (lc_cnt (f) 1 36)), .int (lc_i (lc_cnt (f) 2 36)), .int (lc_i (s)), .int (lc_i (q)), .int (lc_i (m))]) : lc_Cel) := (fr1 _ (by omega) (by omega) (by omega) (by omega)).trans hz_19
  have h33 : σ8 (20) = some (lc_aI 36 (f)) := (fr1 _ (by omega) (by omega) (by omega) (by omega)).trans hz_20
  have h34 : σ8 (21) = some (lc_aJ 60 (fun i : Int => lc_j ((po) i))) := (fr1 _ (by omega) (by omega) (by omega) (by omega)).trans hz_21
  have h35 : σ8 (22) = some (.inr (7, [.ref (23), .int (lc_i (bMO)), .int (lc_i (bCA)), .ref (25), .int (lc_i (bCT))]) : lc_Cel) := (fr1 _ (by omega) (by omega) (by omega) (by omega)).trans hz_22
  have h36 : σ8 (23) = some (.inr (0, [.ref (24), .int (lc_i (lc_cnt (bF) 1 36)), .int (lc_i (lc_cnt (bF) 2 36)), .int (lc_i (bS)), .int (lc_i (bQ)), .int (lc_i (bM))]) : lc_Cel) := (fr1 _ (by omega) (by omega) (by omega) (by omega)).trans hz_23
  have h37 : σ8 (24) = some (lc_aI 36 (bF)) := (fr1 _ (by omega) (by omega) (by omega) (by omega)).trans hz_24
  have h38 : σ8 (25) = some (lc_aJ 60 (fun i : Int => lc_j ((bPO) i))) := (fr1 _ (by omega) (by omega) (by omega) (by omega)).trans hz_25
  refine lc_aload_n dX10_keep_11 rfl 0 rfl ?_
  refine lc_iconst dX10_keep_12 ?_
  refine lc_wI (vs' := [.ref (2), .ref (5), .ref (7), .ref (9), .ref (11), .ref (18), .ref (22), .ref (26), .ref (30), .ref (48), .int (lc_i (1)), .int (lc_i (if bt = true then 1 else 0)), .int (lc_i (sn)), .int (lc_i (sr))]) dX10_keep_13 lc_fX10_184 h10 (Nat.le_of_ble_eq_true rfl) rfl rfl rfl (fun σ39 h40 fr41 => ?_)
  have h42 : σ39 (2) = some (.inr (1, [.ref (3), .ref (4)]) : lc_Cel) := (fr41 _ (by omega)).trans h11
  have h43 : σ39 (3) = some (lc_aI 48 (lc_pt)) := (fr41 _ (by omega)).trans h12
  have h44 : σ39 (4) = some (lc_aI 72 (lc_sp)) := (fr41 _ (by omega)).trans h13
  have h45 : σ39 (5) = some (.inr (9, [.ref (2), .ref (6), .int (lc_i ((w).1)), .int (lc_i ((w).2.1)), .int (lc_i ((w).2.2.1)), .int (lc_i ((w).2.2.2))]) : lc_Cel) := (fr41 _ (by omega)).trans h14
  have h46 : σ39 (6) = some (.inr (8, [.ref (2), .int (lc_i (e1)), .int (lc_i (e2)), .int (lc_i (e3))]) : lc_Cel) := (fr41 _ (by omega)).trans h15
  have h47 : σ39 (7) = some (.inr (6, [.ref (2), .ref (8), .ref (5)]) : lc_Cel) := (fr41 _ (by omega)).trans h16
  have h48 : σ39 (9) = some (.inr (4, [.ref (10), .int (lc_i (u1)), .int (lc_i (u2))]) : lc_Cel) := (fr41 _ (by omega)).trans h17
  have h49 : σ39 (10) = some (lc_aI 364 (ug)) := (fr41 _ (by omega)).trans h18
  have h50 : σ39 (8) = some (.inr (8, [.ref (2), .int (lc_i (a1)), .int (lc_i (a2)), .int (lc_i (a3))]) : lc_Cel) := (fr41 _ (by omega)).trans h19
  have h51 : σ39 (11) = some (.inr (3, [.ref (7), .ref (12), .ref (14), .ref (16), .int (lc_i (ch))]) : lc_Cel) := (fr41 _ (by omega)).trans h20
  have h52 : σ39 (12) = some (.inr (0, [.ref (13), .int (lc_i (lc_cnt (bf) 1 36)), .int (lc_i (lc_cnt (bf) 2 36)), .int (lc_i (d1)), .int (lc_i (d2)), .int (lc_i (d3))]) : lc_Cel) := (fr41 _ (by omega)).trans h21
  have h53 : σ39 (13) = some (lc_aI 36 (bf)) := (fr41 _ (by omega)).trans h22
  have h54 : σ39 (14) = some (.inr (4, [.ref (15), .int (lc_i (y1)), .int (lc_i (y2))]) : lc_Cel) := (fr41 _ (by omega)).trans h23
  have h55 : σ39 (15) = some (lc_aI 364 (g1)) := (fr41 _ (by omega)).trans h24
  have h56 : σ39 (16) = some (.inr (4, [.ref (17), .int (lc_i (x1)), .int (lc_i (x2))]) : lc_Cel) := (fr41 _ (by omega)).trans h25
  have h57 : σ39 (17) = some (lc_aI 364 (g2)) := (fr41 _ (by omega)).trans h26
  have h58 : σ39 (30) = some (.inr (2, [.ref (31), .int (lc_i ((k : Int)))]) : lc_Cel) := (fr41 _ (by omega)).trans h27
  have h59 : σ39 (31) = some (lc_aS 4 (lc_h4 (r))) := (fr41 _ (by omega)).trans h28
  have h60 : σ39 (48) = some (.inr (5, [.ref (49), .int (lc_i (z))]) : lc_Cel) := (fr41 _ (by omega)).trans h29
  have h61 : σ39 (49) = some (lc_aC 80 (tx)) := (fr41 _ (by omega)).trans h30
  have h62 : σ39 (18) = some (.inr (7, [.ref (19), .int (lc_i (mo)), .int (lc_i (ca)), .ref (21), .int (lc_i (ct))]) : lc_Cel) := (fr41 _ (by omega)).trans h31
  have h63 : σ39 (19) = some (.inr (0, [.ref (20), .int (lc_i (lc_cnt (f) 1 36)), .int (lc_i (lc_cnt (f) 2 36)), .int (lc_i (s)), .int (lc_i (q)), .int (lc_i (m))]) : lc_Cel) := (fr41 _ (by omega)).trans h32
  have h64 : σ39 (20) = some (lc_aI 36 (f)) := (fr41 _ (by omega)).trans h33
  have h65 : σ39 (21) = some (lc_aJ 60 (fun i : Int => lc_j ((po) i))) := (fr41 _ (by omega)).trans h34
  have h66 : σ39 (22) = some (.inr (7, [.ref (23), .int (lc_i (bMO)), .int (lc_i (bCA)), .ref (25), .int (lc_i (bCT))]) : lc_Cel) := (fr41 _ (by omega)).trans h35
  have h67 : σ39 (23) = some (.inr (0, [.ref (24), .int (lc_i (lc_cnt (bF) 1 36)), .int (lc_i (lc_cnt (bF) 2 36)), .int (lc_i (bS)), .int (lc_i (bQ)), .int (lc_i (bM))]) : lc_Cel) := (fr41 _ (by omega)).trans h36
  have h68 : σ39 (24) = some (lc_aI 36 (bF)) := (fr41 _ (by omega)).trans h37
  have h69 : σ39 (25) = some (lc_aJ 60 (fun i : Int => lc_j ((bPO) i))) := (fr41 _ (by omega)).trans h38
  have h70 : σ39 (26) = some (.inr (7, [.ref (27), .int (lc_i (mo)), .int (lc_i (ca)), .ref (29), .int (lc_i (ct))]) : lc_Cel) := (fr41 _ (by omega)).trans h2
  have h71 : σ39 (27) = some (.inr (0, [.ref (28), .int (lc_i (lc_cnt (f) 1 36)), .int (lc_i (lc_cnt (f) 2 36)), .int (lc_i (s)), .int (lc_i (q)), .int (lc_i (m))]) : lc_Cel) := (fr41 _ (by omega)).trans h3
  have h72 : σ39 (28) = some (lc_aI 36 (f)) := (fr41 _ (by omega)).trans h4
  have h73 : σ39 (29) = some (lc_aJ 60 (fun i : Int => lc_j ((po) i))) := (fr41 _ (by omega)).trans h5
  refine lc_aload_n dX10_keep_16 rfl 0 rfl ?_
  refine lc_get dX10_keep_17 lc_fX10_53 h40 rfl ?_
  refine lc_get dX10_keep_20 lc_fX10_81 h62 rfl ?_
  refine lc_callV (As := []) (stk := []) (b := 19) dX10_keep_23 lc_mX10_123 lc_yX0_allPieces h63 rfl (lc_cX0_allPieces l n (19) (f) (lc_cnt (f) 1 36) (lc_cnt (f) 2 36) (s) (q) (m) σ39 h63) rfl ⟨Nat.le_of_ble_eq_true rfl, Nat.le_of_ble_eq_true rfl⟩ ⟨Nat.le_of_ble_eq_true rfl, Nat.le_of_ble_eq_true rfl⟩ rfl (Nat.le_of_ble_eq_true rfl) (fun v74 n75 σ76 q77 => ?_)
  obtain ⟨rfl, rfl, rfl⟩ := q77
  exact lc_iret dX10_keep_26 rfl (Nat.le_of_ble_eq_true rfl) (Nat.le_of_ble_eq_true rfl) (hQ _ _ _ (by rw [lc_keep]; exact ⟨rfl, rfl, lc_CI_mk (BF := (bF, bS, bQ, bM, bMO, bCA, bCT, bPO)) (SN := (f, s, q, m, mo, ca, ct, po)) h40 h42 h43 h44 h45 h46 h47 h48 h49 (lc_Lk_mk h50 h51 h52 h53 h54 h55 h56 h57) ⟨h62, h63, h64, h65⟩ ⟨h66, h67, h68, h69⟩ ⟨h70, h71, h72, h73⟩ (fun _ => rfl) h58 h59 (lc_Sl_fr hSl (fun i _ _ => ((fr41 i (by omega)).trans (fr1 i (by omega) (by omega) (by omega) (by omega))))) h60 h61, fun i _ => ((fr41 i (by omega)).trans (fr1 i (by omega) (by omega) (by omega) (by omega)))⟩))

def lc_rest : lc_Ab → lc_Ab × Int
  | (N, P, H, k, tx, z, bs, bt, sn, sr) => if ¬ bs = true then ((N, P, H, k, tx, z, bs, bt, sn, sr), -105) else ((P, P, lc_pu H k N, lc_hk k, tx, z, bs, bt, sn, sr), lc_cnt P.1 1 36 + lc_cnt P.1 2 36)

set_option maxRecDepth 100000 in
set_option maxHeartbeats 600000 in
theorem lc_cX10_restore (l : Launch) (n : Nat) (f : Int → Int) (s q m mo ca ct : Int) (po : Int → Int) (P : lc_St) (H : Nat → lc_St) (k : Nat) (tx : Int → Int) (z : Int) (bs bt : Bool) (sn sr : Int) (σ : lc_S)  (hI : lc_CI σ ((f, s, q, m, mo, ca, ct, po), P, H, k, tx, z, bs, bt, sn, sr)) (hw : lc_wf ((f, s, q, m, mo, ca, ct, po), P, H, k, tx, z, bs, bt, sn, sr)) : lc_Con l yX10_restore cX10_restore 1 (some .int) (lc_Rd 3) [.ref (1)] n σ (fun v n2 σ2 => v = some (.int (lc_i ((lc_rest ((f, s, q, m, mo, ca, ct, po), P, H, k, tx, z, bs, bt, sn, sr)).2))) ∧ n = n2 ∧ lc_CI σ2 ((lc_rest ((f, s, q, m, mo, ca, ct, po), P, H, k, tx, z, bs, bt, sn, sr)).1) ∧ ∀ i : Nat, 50 ≤ i ∨ i = 0 → σ2 i = σ i) := by
  obtain ⟨⟨hf9, hs9, hq9, hm9, hct9, hpo9, hkey9⟩, hwP, hwH, hk4, hz, htx⟩ := hw
  have hf : ∀ j : Int, 0 ≤ j → j < 36 → 0 ≤ f j ∧ f j ≤ 2 := hf9
  have hs : 1 ≤ s ∧ s ≤ 2 := hs9
  have hq : 0 ≤ q ∧ q ≤ 60 := hq9
  have hm : 4 ≤ m ∧ m ≤ 60 := hm9
  have hct : 1 ≤ ct ∧ ct ≤ 60 := hct9
  have hpo : ∀ i : Int, 0 ≤ i → i < ct → 0 ≤ po i ∧ po i < 450283905890997363 := hpo9
  have hkey : po (ct - 1) = lc_key f s 36 := hkey9
  have hpo4 : ∀ i : Int, 0 ≤ i → i < ct → 0 ≤ po i ∧ po i < 4611686018427387904 := fun i h1 h2 => ⟨(hpo i h1 h2).1, by have := (hpo i h1 h2).2; omega⟩
  obtain ⟨r, SN, BF, w, e1, e2, e3, u1, u2, ug, hc1, hc2, hc3, hc4, hc5, hc6, hc7, hc9, hc10, hLk, hN, hB, hS, hSN, hc30, hc31, hSl, hc48, hc49⟩ := hI
  have hb : 12 ≤ 19 := (by decide)
  obtain ⟨a1, a2, a3, ch, bf, d1, d2, d3, y1, y2, g1, x1, x2, g2, hk_8, hk_11, hk_12, hk_13, hk_14, hk_15, hk_16, hk_17⟩ := hLk
  obtain ⟨bF, bS, bQ, bM, bMO, bCA, bCT, bPO⟩ := BF
  obtain ⟨nF, nS, nQ, nM, nMO, nCA, nCT, nPO⟩ := SN
  obtain ⟨hN0, hN1, hN2, hN3⟩ := hN
  obtain ⟨hB0, hB1, hB2, hB3⟩ := hB
  obtain ⟨hS0, hS1, hS2, hS3⟩ := hS
  have hz_1 : σ (1) = some (.inr (10, [.ref (2), .ref (5), .ref (7), .ref (9), .ref (11), .ref (18), .ref (22), .ref (26), .ref (30), .ref (48), .int (lc_i (if bs = true then 1 else 0)), .int (lc_i (if bt = true then 1 else 0)), .int (lc_i (sn)), .int (lc_i (sr))]) : lc_Cel) := hc1
  have hz_2 : σ (2) = some (.inr (1, [.ref (3), .ref (4)]) : lc_Cel) := hc2
  have hz_3 : σ (3) = some (lc_aI 48 (lc_pt)) := hc3
  have hz_4 : σ (4) = some (lc_aI 72 (lc_sp)) := hc4
  have hz_5 : σ (5) = some (.inr (9, [.ref (2), .ref (6), .int (lc_i ((w).1)), .int (lc_i ((w).2.1)), .int (lc_i ((w).2.2.1)), .int (lc_i ((w).2.2.2))]) : lc_Cel) := hc5
  have hz_6 : σ (6) = some (.inr (8, [.ref (2), .int (lc_i (e1)), .int (lc_i (e2)), .int (lc_i (e3))]) : lc_Cel) := hc6
  have hz_7 : σ (7) = some (.inr (6, [.ref (2), .ref (8), .ref (5)]) : lc_Cel) := hc7
  have hz_9 : σ (9) = some (.inr (4, [.ref (10), .int (lc_i (u1)), .int (lc_i (u2))]) : lc_Cel) := hc9
  have hz_10 : σ (10) = some (lc_aI 364 (ug)) := hc10
  have hz_8 : σ (8) = some (.inr (8, [.ref (2), .int (lc_i (a1)), .int (lc_i (a2)), .int (lc_i (a3))]) : lc_Cel) := hk_8
  have hz_11 : σ (11) = some (.inr (3, [.ref (7), .ref (12), .ref (14), .ref (16), .int (lc_i (ch))]) : lc_Cel) := hk_11
  have hz_12 : σ (12) = some (.inr (0, [.ref (13), .int (lc_i (lc_cnt (bf) 1 36)), .int (lc_i (lc_cnt (bf) 2 36)), .int (lc_i (d1)), .int (lc_i (d2)), .int (lc_i (d3))]) : lc_Cel) := hk_12
  have hz_13 : σ (13) = some (lc_aI 36 (bf)) := hk_13
  have hz_14 : σ (14) = some (.inr (4, [.ref (15), .int (lc_i (y1)), .int (lc_i (y2))]) : lc_Cel) := hk_14
  have hz_15 : σ (15) = some (lc_aI 364 (g1)) := hk_15
  have hz_16 : σ (16) = some (.inr (4, [.ref (17), .int (lc_i (x1)), .int (lc_i (x2))]) : lc_Cel) := hk_16
  have hz_17 : σ (17) = some (lc_aI 364 (g2)) := hk_17
  have hz_30 : σ (30) = some (.inr (2, [.ref (31), .int (lc_i ((k : Int)))]) : lc_Cel) := hc30
  have hz_31 : σ (31) = some (lc_aS 4 (lc_h4 (r))) := hc31
  have hz_48 : σ (48) = some (.inr (5, [.ref (49), .int (lc_i (z))]) : lc_Cel) := hc48
  have hz_49 : σ (49) = some (lc_aC 80 (tx)) := hc49
  have hz_18 : σ (18) = some (.inr (7, [.ref (19), .int (lc_i (mo)), .int (lc_i (ca)), .ref (21), .int (lc_i (ct))]) : lc_Cel) := hN0
  have hz_19 : σ (19) = some (.inr (0, [.ref (20), .int (lc_i (lc_cnt (f) 1 36)), .int (lc_i (lc_cnt (f) 2 36)), .int (lc_i (s)), .int (lc_i (q)), .int (lc_i (m))]) : lc_Cel) := hN1
  have hz_20 : σ (20) = some (lc_aI 36 (f)) := hN2
  have hz_21 : σ (21) = some (lc_aJ 60 (fun i : Int => lc_j ((po) i))) := hN3
  have hz_22 : σ (22) = some (.inr (7, [.ref (23), .int (lc_i (bMO)), .int (lc_i (bCA)), .ref (25), .int (lc_i (bCT))]) : lc_Cel) := hB0
  have hz_23 : σ (23) = some (.inr (0, [.ref (24), .int (lc_i (lc_cnt (bF) 1 36)), .int (lc_i (lc_cnt (bF) 2 36)), .int (lc_i (bS)), .int (lc_i (bQ)), .int (lc_i (bM))]) : lc_Cel) := hB1
  have hz_24 : σ (24) = some (lc_aI 36 (bF)) := hB2
  have hz_25 : σ (25) = some (lc_aJ 60 (fun i : Int => lc_j ((bPO) i))) := hB3
  have hz_26 : σ (26) = some (.inr (7, [.ref (27), .int (lc_i (nMO)), .int (lc_i (nCA)), .ref (29), .int (lc_i (nCT))]) : lc_Cel) := hS0
  have hz_27 : σ (27) = some (.inr (0, [.ref (28), .int (lc_i (lc_cnt (nF) 1 36)), .int (lc_i (lc_cnt (nF) 2 36)), .int (lc_i (nS)), .int (lc_i (nQ)), .int (lc_i (nM))]) : lc_Cel) := hS1
  have hz_28 : σ (28) = some (lc_aI 36 (nF)) := hS2
  have hz_29 : σ (29) = some (lc_aJ 60 (fun i : Int => lc_j ((nPO) i))) := hS3
  obtain ⟨t, ht⟩ : ∃ t : Nat, t = 32 + 4 * ((r + k) % 4) := ⟨_, rfl⟩
  obtain ⟨⟨f3, s3, q3, m3, mo3, ca3, ct3, po3⟩, hT0, hT1, hT2, hT3⟩ := lc_Sl_at hSl ht
  have hz_t : σ (t) = some (.inr (7, [.ref (t + 1), .int (lc_i (mo3)), .int (lc_i (ca3)), .ref (t + 3), .int (lc_i (ct3))]) : lc_Cel) := hT0
  have hz_t_1 : σ (t + 1) = some (.inr (0, [.ref (t + 2), .int (lc_i (lc_cnt (f3) 1 36)), .int (lc_i (lc_cnt (f3) 2 36)), .int (lc_i (s3)), .int (lc_i (q3)), .int (lc_i (m3))]) : lc_Cel) := hT1
  have hz_t_2 : σ (t + 2) = some (lc_aI 36 (f3)) := hT2
  have hz_t_3 : σ (t + 3) = some (lc_aJ 60 (fun i : Int => lc_j ((po3) i))) := hT3
  refine lc_con RX10 false (by decide) rfl (fun h => absurd h (by decide)) (Nat.le_of_ble_eq_true rfl) ?_
  suffices H : ∀ Q : lc_QT, (∀ v n2 σ2, (fun v n2 σ2 => v = some (.int (lc_i ((lc_rest ((f, s, q, m, mo, ca, ct, po), P, H, k, tx, z, bs, bt, sn, sr)).2))) ∧ n = n2 ∧ lc_CI σ2 ((lc_rest ((f, s, q, m, mo, ca, ct, po), P, H, k, tx, z, bs, bt, sn, sr)).1) ∧ ∀ i : Nat, 50 ≤ i ∨ i = 0 → σ2 i = σ i : lc_QT) v n2 σ2 → Q v n2 σ2) → lc_V l RX10 cX10_restore 1 (some .int) false (lc_Rd 3) (lc_G Q 0 0) lc_E0 0 0 n 0 [(0, .ref (1))] [] σ from H _ (fun _ _ _ h => h)
  intro Q hQ
  refine lc_aload_n dX10_restore_0 rfl 0 rfl ?_
  refine lc_get dX10_restore_1 lc_fX10_184 hz_1 rfl ?_
  refine lc_if_neB (tgt := 10) dX10_restore_4 (by decide) (fun h_4_0 => ?_) (fun h_4_0 => ?_)
  · skip
    have hSN1 := hSN h_4_0
    subst hSN1
    refine lc_aload_n dX10_restore_10 rfl 0 rfl ?_
    refine lc_get dX10_restore_11 lc_fX10_66 hz_1 rfl ?_
    refine lc_aload_n dX10_restore_14 rfl 0 rfl ?_
    refine lc_get dX10_restore_15 lc_fX10_53 hz_1 rfl ?_
    refine lc_callV (As := [.ref (18)]) (stk := []) (b := 30) dX10_restore_18 lc_mX10_89 lc_yX2_push hz_30 rfl (lc_cX2_push l n (r) (k) (18) (f) (s) (q) (m) (mo) (ca) (ct) (po) (t) (f3) (s3) (q3) (m3) (mo3) (ca3) (ct3) (po3) σ hz_30 hz_31 hz_18 hz_19 hz_20 hz_21 hz_t hz_t_1 hz_t_2 hz_t_3 (hk4) (ht) (by omega) (lc_Sl_st (lc_Sl_fr hSl (fun i _ _ => rfl)))) rfl ⟨Nat.le_of_ble_eq_true rfl, Nat.le_of_ble_eq_true rfl⟩ ⟨Nat.le_of_ble_eq_true rfl, Nat.le_of_ble_eq_true rfl⟩ rfl (Nat.le_of_ble_eq_true rfl) (fun v9 n10 σ11 q12 => ?_)
    obtain ⟨rfl, rfl, h3, h4, h5, h6, h7, h8, fr2⟩ := q12
    have h13 : σ11 (1) = some (.inr (10, [.ref (2), .ref (5), .ref (7), .ref (9), .ref (11), .ref (18), .ref (22), .ref (26), .ref (30), .ref (48), .int (lc_i (if bs = true then 1 else 0)), .int (lc_i (if bt = true then 1 else 0)), .int (lc_i (sn)), .int (lc_i (sr))]) : lc_Cel) := (fr2 _ (by omega) (by omega) (by omega) (by omega) (by omega) (by omega)).trans hz_1
    have h14 : σ11 (2) = some (.inr (1, [.ref (3), .ref (4)]) : lc_Cel) := (fr2 _ (by omega) (by omega) (by omega) (by omega) (by omega) (by omega)).trans hz_2
    have h15 : σ11 (3) = some (lc_aI 48 (lc_pt)) := (fr2 _ (by omega) (by omega) (by omega) (by omega) (by omega) (by omega)).trans hz_3
    have h16 : σ11 (4) = some (lc_aI 72 (lc_sp)) := (fr2 _ (by omega) (by omega) (by omega) (by omega) (by omega) (by omega)).trans hz_4
    have h17 : σ11 (5) = some (.inr (9, [.ref (2), .ref (6), .int (lc_i ((w).1)), .int (lc_i ((w).2.1)), .int (lc_i ((w).2.2.1)), .int (lc_i ((w).2.2.2))]) : lc_Cel) := (fr2 _ (by omega) (by omega) (by omega) (by omega) (by omega) (by omega)).trans hz_5
    have h18 : σ11 (6) = some (.inr (8, [.ref (2), .int (lc_i (e1)), .int (lc_i (e2)), .int (lc_i (e3))]) : lc_Cel) := (fr2 _ (by omega) (by omega) (by omega) (by omega) (by omega) (by omega)).trans hz_6
    have h19 : σ11 (7) = some (.inr (6, [.ref (2), .ref (8), .ref (5)]) : lc_Cel) := (fr2 _ (by omega) (by omega) (by omega) (by omega) (by omega) (by omega)).trans hz_7
    have h20 : σ11 (9) = some (.inr (4, [.ref (10), .int (lc_i (u1)), .int (lc_i (u2))]) : lc_Cel) := (fr2 _ (by omega) (by omega) (by omega) (by omega) (by omega) (by omega)).trans hz_9
    have h21 : σ11 (10) = some (lc_aI 364 (ug)) := (fr2 _ (by omega) (by omega) (by omega) (by omega) (by omega) (by omega)).trans hz_10
    have h22 : σ11 (8) = some (.inr (8, [.ref (2), .int (lc_i (a1)), .int (lc_i (a2)), .int (lc_i (a3))]) : lc_Cel) := (fr2 _ (by omega) (by omega) (by omega) (by omega) (by omega) (by omega)).trans hz_8
    have h23 : σ11 (11) = some (.inr (3, [.ref (7), .ref (12), .ref (14), .ref (16), .int (lc_i (ch))]) : lc_Cel) := (fr2 _ (by omega) (by omega) (by omega) (by omega) (by omega) (by omega)).trans hz_11
    have h24 : σ11 (12) = some (.inr (0, [.ref (13), .int (lc_i (lc_cnt (bf) 1 36)), .int (lc_i (lc_cnt (bf) 2 36)), .int (lc_i (d1)), .int (lc_i (d2)), .int (lc_i (d3))]) : lc_Cel) := (fr2 _ (by omega) (by omega) (by omega) (by omega) (by omega) (by omega)).trans hz_12
    have h25 : σ11 (13) = some (lc_aI 36 (bf)) := (fr2 _ (by omega) (by omega) (by omega) (by omega) (by omega) (by omega)).trans hz_13
    have h26 : σ11 (14) = some (.inr (4, [.ref (15), .int (lc_i (y1)), .int (lc_i (y2))]) : lc_Cel) := (fr2 _ (by omega) (by omega) (by omega) (by omega) (by omega) (by omega)).trans hz_14
    have h27 : σ11 (15) = some (lc_aI 364 (g1)) := (fr2 _ (by omega) (by omega) (by omega) (by omega) (by omega) (by omega)).trans hz_15
    have h28 : σ11 (16) = some (.inr (4, [.ref (17), .int (lc_i (x1)), .int (lc_i (x2))]) : lc_Cel) := (fr2 _ (by omega) (by omega) (by omega) (by omega) (by omega) (by omega)).trans hz_16
    have h29 : σ11 (17) = some (lc_aI 364 (g2)) := (fr2 _ (by omega) (by omega) (by omega) (by omega) (by omega) (by omega)).trans hz_17
    have h30 : σ11 (48) = some (.inr (5, [.ref (49), .int (lc_i (z))]) : lc_Cel) := (fr2 _ (by omega) (by omega) (by omega) (by omega) (by omega) (by omega)).trans hz_48
    have h31 : σ11 (49) = some (lc_aC 80 (tx)) := (fr2 _ (by omega) (by omega) (by omega) (by omega) (by omega) (by omega)).trans hz_49
    have h32 : σ11 (18) = some (.inr (7, [.ref (19), .int (lc_i (mo)), .int (lc_i (ca)), .ref (21), .int (lc_i (ct))]) : lc_Cel) := (fr2 _ (by omega) (by omega) (by omega) (by omega) (by omega) (by omega)).trans hz_18
    have h33 : σ11 (19) = some (.inr (0, [.ref (20), .int (lc_i (lc_cnt (f) 1 36)), .int (lc_i (lc_cnt (f) 2 36)), .int (lc_i (s)), .int (lc_i (q)), .int (lc_i (m))]) : lc_Cel) := (fr2 _ (by omega) (by omega) (by omega) (by omega) (by omega) (by omega)).trans hz_19
    have h34 : σ11 (20) = some (lc_aI 36 (f)) := (fr2 _ (by omega) (by omega) (by omega) (by omega) (by omega) (by omega)).trans hz_20
    have h35 : σ11 (21) = some (lc_aJ 60 (fun i : Int => lc_j ((po) i))) := (fr2 _ (by omega) (by omega) (by omega) (by omega) (by omega) (by omega)).trans hz_21
    have h36 : σ11 (22) = some (.inr (7, [.ref (23), .int (lc_i (bMO)), .int (lc_i (bCA)), .ref (25), .int (lc_i (bCT))]) : lc_Cel) := (fr2 _ (by omega) (by omega) (by omega) (by omega) (by omega) (by omega)).trans hz_22
    have h37 : σ11 (23) = some (.inr (0, [.ref (24), .int (lc_i (lc_cnt (bF) 1 36)), .int (lc_i (lc_cnt (bF) 2 36)), .int (lc_i (bS)), .int (lc_i (bQ)), .int (lc_i (bM))]) : lc_Cel) := (fr2 _ (by omega) (by omega) (by omega) (by omega) (by omega) (by omega)).trans hz_23
    have h38 : σ11 (24) = some (lc_aI 36 (bF)) := (fr2 _ (by omega) (by omega) (by omega) (by omega) (by omega) (by omega)).trans hz_24
    have h39 : σ11 (25) = some (lc_aJ 60 (fun i : Int => lc_j ((bPO) i))) := (fr2 _ (by omega) (by omega) (by omega) (by omega) (by omega) (by omega)).trans hz_25
    have h40 : σ11 (26) = some (.inr (7, [.ref (27), .int (lc_i (nMO)), .int (lc_i (nCA)), .ref (29), .int (lc_i (nCT))]) : lc_Cel) := (fr2 _ (by omega) (by omega) (by omega) (by omega) (by omega) (by omega)).trans hz_26
    have h41 : σ11 (27) = some (.inr (0, [.ref (28), .int (lc_i (lc_cnt (nF) 1 36)), .int (lc_i (lc_cnt (nF) 2 36)), .int (lc_i (nS)), .int (lc_i (nQ)), .int (lc_i (nM))]) : lc_Cel) := (fr2 _ (by omega) (by omega) (by omega) (by omega) (by omega) (by omega)).trans hz_27
    have h42 : σ11 (28) = some (lc_aI 36 (nF)) := (fr2 _ (by omega) (by omega) (by omega) (by omega) (by omega) (by omega)).trans hz_28
    have h43 : σ11 (29) = some (lc_aJ 60 (fun i : Int => lc_j ((nPO) i))) := (fr2 _ (by omega) (by omega) (by omega) (by omega) (by omega) (by omega)).trans hz_29
    refine lc_aload_n dX10_restore_21 rfl 0 rfl ?_
    refine lc_get dX10_restore_22 lc_fX10_53 h13 rfl ?_
    refine lc_aload_n dX10_restore_25 rfl 0 rfl ?_
    refine lc_get dX10_restore_26 lc_fX10_60 h13 rfl ?_
    refine lc_callV (As := [.ref (26)]) (stk := []) (b := 18) dX10_restore_29 lc_mX10_149 lc_yX7_copyFrom h32 rfl (lc_cX7_copyFrom l n (18) (f) (s) (q) (m) (mo) (ca) (ct) (po) (26) (nF) (nS) (nQ) (nM) (nMO) (nCA) (nCT) (nPO) σ11 h32 h33 h34 h35 h40 h41 h42 h43 (by omega)) rfl ⟨Nat.le_of_ble_eq_true rfl, Nat.le_of_ble_eq_true rfl⟩ ⟨Nat.le_of_ble_eq_true rfl, Nat.le_of_ble_eq_true rfl⟩ rfl (Nat.le_of_ble_eq_true rfl) (fun v49 n50 σ51 q52 => ?_)
    obtain ⟨rfl, rfl, h45, h46, h47, h48, fr44⟩ := q52
    have h53 : σ51 (1) = some (.inr (10, [.ref (2), .ref (5), .ref (7), .ref (9), .ref (11), .ref (18), .ref (22), .ref (26), .ref (30), .ref (48), .int (lc_i (if bs = true then 1 else 0)), .int (lc_i (if bt = true then 1 else 0)), .int (lc_i (sn)), .int (lc_i (sr))]) : lc_Cel) := (fr44 _ (by omega) (by omega) (by omega) (by omega)).trans h13
    have h54 : σ51 (2) = some (.inr (1, [.ref (3), .ref (4)]) : lc_Cel) := (fr44 _ (by omega) (by omega) (by omega) (by omega)).trans h14
    have h55 : σ51 (3) = some (lc_aI 48 (lc_pt)) := (fr44 _ (by omega) (by omega) (by omega) (by omega)).trans h15
    have h56 : σ51 (4) = some (lc_aI 72 (lc_sp)) := (fr44 _ (by omega) (by omega) (by omega) (by omega)).trans h16
    have h57 : σ51 (5) = some (.inr (9, [.ref (2), .ref (6), .int (lc_i ((w).1)), .int (lc_i ((w).2.1)), .int (lc_i ((w).2.2.1)), .int (lc_i ((w).2.2.2))]) : lc_Cel) := (fr44 _ (by omega) (by omega) (by omega) (by omega)).trans h17
    have h58 : σ51 (6) = some (.inr (8, [.ref (2), .int (lc_i (e1)), .int (lc_i (e2)), .int (lc_i (e3))]) : lc_Cel) := (fr44 _ (by omega) (by omega) (by omega) (by omega)).trans h18
    have h59 : σ51 (7) = some (.inr (6, [.ref (2), .ref (8), .ref (5)]) : lc_Cel) := (fr44 _ (by omega) (by omega) (by omega) (by omega)).trans h19
    have h60 : σ51 (9) = some (.inr (4, [.ref (10), .int (lc_i (u1)), .int (lc_i (u2))]) : lc_Cel) := (fr44 _ (by omega) (by omega) (by omega) (by omega)).trans h20
    have h61 : σ51 (10) = some (lc_aI 364 (ug)) := (fr44 _ (by omega) (by omega) (by omega) (by omega)).trans h21
    have h62 : σ51 (8) = some (.inr (8, [.ref (2), .int (lc_i (a1)), .int (lc_i (a2)), .int (lc_i (a3))]) : lc_Cel) := (fr44 _ (by omega) (by omega) (by omega) (by omega)).trans h22
    have h63 : σ51 (11) = some (.inr (3, [.ref (7), .ref (12), .ref (14), .ref (16), .int (lc_i (ch))]) : lc_Cel) := (fr44 _ (by omega) (by omega) (by omega) (by omega)).trans h23
    have h64 : σ51 (12) = some (.inr (0, [.ref (13), .int (lc_i (lc_cnt (bf) 1 36)), .int (lc_i (lc_cnt (bf) 2 36)), .int (lc_i (d1)), .int (lc_i (d2)), .int (lc_i (d3))]) : lc_Cel) := (fr44 _ (by omega) (by omega) (by omega) (by omega)).trans h24
    have h65 : σ51 (13) = some (lc_aI 36 (bf)) := (fr44 _ (by omega) (by omega) (by omega) (by omega)).trans h25
    have h66 : σ51 (14) = some (.inr (4, [.ref (15), .int (lc_i (y1)), .int (lc_i (y2))]) : lc_Cel) := (fr44 _ (by omega) (by omega) (by omega) (by omega)).trans h26
    have h67 : σ51 (15) = some (lc_aI 364 (g1)) := (fr44 _ (by omega) (by omega) (by omega) (by omega)).trans h27
    have h68 : σ51 (16) = some (.inr (4, [.ref (17), .int (lc_i (x1)), .int (lc_i (x2))]) : lc_Cel) := (fr44 _ (by omega) (by omega) (by omega) (by omega)).trans h28
    have h69 : σ51 (17) = some (lc_aI 364 (g2)) := (fr44 _ (by omega) (by omega) (by omega) (by omega)).trans h29
    have h70 : σ51 (48) = some (.inr (5, [.ref (49), .int (lc_i (z))]) : lc_Cel) := (fr44 _ (by omega) (by omega) (by omega) (by omega)).trans h30
    have h71 : σ51 (49) = some (lc_aC 80 (tx)) := (fr44 _ (by omega) (by omega) (by omega) (by omega)).trans h31
    have h72 : σ51 (22) = some (.inr (7, [.ref (23), .int (lc_i (bMO)), .int (lc_i (bCA)), .ref (25), .int (lc_i (bCT))]) : lc_Cel) := (fr44 _ (by omega) (by omega) (by omega) (by omega)).trans h36
    have h73 : σ51 (23) = some (.inr (0, [.ref (24), .int (lc_i (lc_cnt (bF) 1 36)), .int (lc_i (lc_cnt (bF) 2 36)), .int (lc_i (bS)), .int (lc_i (bQ)), .int (lc_i (bM))]) : lc_Cel) := (fr44 _ (by omega) (by omega) (by omega) (by omega)).trans h37
    have h74 : σ51 (24) = some (lc_aI 36 (bF)) := (fr44 _ (by omega) (by omega) (by omega) (by omega)).trans h38
    have h75 : σ51 (25) = some (lc_aJ 60 (fun i : Int => lc_j ((bPO) i))) := (fr44 _ (by omega) (by omega) (by omega) (by omega)).trans h39
    have h76 : σ51 (26) = some (.inr (7, [.ref (27), .int (lc_i (nMO)), .int (lc_i (nCA)), .ref (29), .int (lc_i (nCT))]) : lc_Cel) := (fr44 _ (by omega) (by omega) (by omega) (by omega)).trans h40
    have h77 : σ51 (27) = some (.inr (0, [.ref (28), .int (lc_i (lc_cnt (nF) 1 36)), .int (lc_i (lc_cnt (nF) 2 36)), .int (lc_i (nS)), .int (lc_i (nQ)), .int (lc_i (nM))]) : lc_Cel) := (fr44 _ (by omega) (by omega) (by omega) (by omega)).trans h41
    have h78 : σ51 (28) = some (lc_aI 36 (nF)) := (fr44 _ (by omega) (by omega) (by omega) (by omega)).trans h42
    have h79 : σ51 (29) = some (lc_aJ 60 (fun i : Int => lc_j ((nPO) i))) := (fr44 _ (by omega) (by omega) (by omega) (by omega)).trans h43
    have h80 : σ51 (30) = some (.inr (2, [.ref (31), .int (lc_i (((lc_hk (k) : Nat) : Int)))]) : lc_Cel) := (fr44 _ (by omega) (by omega) (by omega) (by omega)).trans h3
    have h81 : σ51 (31) = some (lc_aS 4 (lc_h4 (lc_hr (r) (k)))) := (fr44 _ (by omega) (by omega) (by omega) (by omega)).trans h4
    have h82 : σ51 (t) = some (.inr (7, [.ref (t + 1), .int (lc_i (mo)), .int (lc_i (ca)), .ref (t + 3), .int (lc_i (ct))]) : lc_Cel) := (fr44 _ (by omega) (by omega) (by omega) (by omega)).trans h5
    have h83 : σ51 (t + 1) = some (.inr (0, [.ref (t + 2), .int (lc_i (lc_cnt (f) 1 36)), .int (lc_i (lc_cnt (f) 2 36)), .int (lc_i (s)), .int (lc_i (q)), .int (lc_i (m))]) : lc_Cel) := (fr44 _ (by omega) (by omega) (by omega) (by omega)).trans h6
    have h84 : σ51 (t + 2) = some (lc_aI 36 (f)) := (fr44 _ (by omega) (by omega) (by omega) (by omega)).trans h7
    have h85 : σ51 (t + 3) = some (lc_aJ 60 (fun i : Int => lc_j ((po) i))) := (fr44 _ (by omega) (by omega) (by omega) (by omega)).trans h8
    refine lc_aload_n dX10_restore_32 rfl 0 rfl ?_
    refine lc_get dX10_restore_33 lc_fX10_53 h53 rfl ?_
    refine lc_get dX10_restore_36 lc_fX10_81 h45 rfl ?_
    refine lc_callV (As := []) (stk := []) (b := 19) dX10_restore_39 lc_mX10_123 lc_yX0_allPieces h46 rfl (lc_cX0_allPieces l n (19) (nF) (lc_cnt (nF) 1 36) (lc_cnt (nF) 2 36) (nS) (nQ) (nM) σ51 h46) rfl ⟨Nat.le_of_ble_eq_true rfl, Nat.le_of_ble_eq_true rfl⟩ ⟨Nat.le_of_ble_eq_true rfl, Nat.le_of_ble_eq_true rfl⟩ rfl (Nat.le_of_ble_eq_true rfl) (fun v86 n87 σ88 q89 => ?_)
    obtain ⟨rfl, rfl, rfl⟩ := q89
    exact lc_iret dX10_restore_42 rfl (Nat.le_of_ble_eq_true rfl) (Nat.le_of_ble_eq_true rfl) (hQ _ _ _ (by rw [lc_rest, if_neg (show ¬ ¬ bs = true from fun q9 => q9 h_4_0)]; exact ⟨rfl, rfl, lc_CI_mk (BF := (bF, bS, bQ, bM, bMO, bCA, bCT, bPO)) (SN := (nF, nS, nQ, nM, nMO, nCA, nCT, nPO)) h53 h54 h55 h56 h57 h58 h59 h60 h61 (lc_Lk_mk h62 h63 h64 h65 h66 h67 h68 h69) ⟨h45, h46, h47, h48⟩ ⟨h72, h73, h74, h75⟩ ⟨h76, h77, h78, h79⟩ (fun _ => rfl) h80 h81 (lc_Sl_push (N := (f, s, q, m, mo, ca, ct, po)) hSl hk4 ht (fun i _ _ _ _ _ _ => ((fr44 i (by omega) (by omega) (by omega) (by omega)).trans (fr2 i (by omega) (by omega) (by omega) (by omega) (by omega) (by omega)))) ⟨h82, h83, h84, h85⟩) h70 h71, fun i _ => ((fr44 i (by omega) (by omega) (by omega) (by omega)).trans (fr2 i (by omega) (by omega) (by omega) (by omega) (by omega) (by omega)))⟩))
  · skip
    refine lc_bipush dX10_restore_7 (by decide) ?_
    exact lc_iret dX10_restore_9 rfl (Nat.le_of_ble_eq_true rfl) (Nat.le_of_ble_eq_true rfl) (hQ _ _ _ (by rw [lc_rest, if_pos (show ¬ bs = true from h_4_0)]; exact ⟨rfl, rfl, lc_CI_mk (BF := (bF, bS, bQ, bM, bMO, bCA, bCT, bPO)) (SN := (nF, nS, nQ, nM, nMO, nCA, nCT, nPO)) hz_1 hz_2 hz_3 hz_4 hz_5 hz_6 hz_7 hz_9 hz_10 (lc_Lk_mk hz_8 hz_11 hz_12 hz_13 hz_14 hz_15 hz_16 hz_17) ⟨hz_18, hz_19, hz_20, hz_21⟩ ⟨hz_22, hz_23, hz_24, hz_25⟩ ⟨hz_26, hz_27, hz_28, hz_29⟩ (hSN) hz_30 hz_31 (lc_Sl_fr hSl (fun i _ _ => rfl)) hz_48 hz_49, fun i _ => rfl⟩))

def lc_pnt : lc_Ab → Int → Int → lc_Ab × Int
  | (N, P, H, k, tx, z, bs, bt, sn, sr), x, w => ((N, P, H, k, tx, z, bs, bt, sn, sr), if ¬ (0 ≤ x ∧ x < 36) then -101 else if w = 0 then N.1 x else if w = 1 then lc_num (fun j : Int => lc_cap N.1 j x) 36 else if w = 2 then (if N.1 x = 0 then 0 else lc_num (fun j : Int => lc_cov N.1 x j) 36) else if w = 3 then lc_num (fun j : Int => lc_cap N.1 x j) 36 else if w = 4 then (if N.1 x = 0 then 0 else lc_num (fun j : Int => lc_step N.1 x j) 36) else -102)

set_option maxRecDepth 100000 in
set_option maxHeartbeats 600000 in
theorem lc_cX10_point (l : Launch) (n : Nat) (f : Int → Int) (s q m mo ca ct : Int) (po : Int → Int) (P : lc_St) (H : Nat → lc_St) (k : Nat) (tx : Int → Int) (z : Int) (bs bt : Bool) (sn sr : Int) (x wv : Int) (σ : lc_S)  (hI : lc_CI σ ((f, s, q, m, mo, ca, ct, po), P, H, k, tx, z, bs, bt, sn, sr)) (hw : lc_wf ((f, s, q, m, mo, ca, ct, po), P, H, k, tx, z, bs, bt, sn, sr)) (hR_x : -2147483648 ≤ x ∧ x < 2147483648) (hR_wv : -2147483648 ≤ wv ∧ wv < 2147483648) : lc_Con l yX10_point cX10_point 3 (some .int) (lc_Rd 6) [.ref (1), .int (lc_i (x)), .int (lc_i (wv))] n σ (fun v n2 σ2 => v = some (.int (lc_i ((lc_pnt ((f, s, q, m, mo, ca, ct, po), P, H, k, tx, z, bs, bt, sn, sr) x wv).2))) ∧ n = n2 ∧ lc_CI σ2 ((lc_pnt ((f, s, q, m, mo, ca, ct, po), P, H, k, tx, z, bs, bt, sn, sr) x wv).1) ∧ ∀ i : Nat, 50 ≤ i ∨ i = 0 → σ2 i = σ i) := by
  obtain ⟨⟨hf9, hs9, hq9, hm9, hct9, hpo9, hkey9⟩, hwP, hwH, hk4, hz, htx⟩ := hw
  have hf : ∀ j : Int, 0 ≤ j → j < 36 → 0 ≤ f j ∧ f j ≤ 2 := hf9
  have hs : 1 ≤ s ∧ s ≤ 2 := hs9
  have hq : 0 ≤ q ∧ q ≤ 60 := hq9
  have hm : 4 ≤ m ∧ m ≤ 60 := hm9
  have hct : 1 ≤ ct ∧ ct ≤ 60 := hct9
  have hpo : ∀ i : Int, 0 ≤ i → i < ct → 0 ≤ po i ∧ po i < 450283905890997363 := hpo9
  have hkey : po (ct - 1) = lc_key f s 36 := hkey9
  have hpo4 : ∀ i : Int, 0 ≤ i → i < ct → 0 ≤ po i ∧ po i < 4611686018427387904 := fun i h1 h2 => ⟨(hpo i h1 h2).1, by have := (hpo i h1 h2).2; omega⟩
  obtain ⟨r, SN, BF, w, e1, e2, e3, u1, u2, ug, hc1, hc2, hc3, hc4, hc5, hc6, hc7, hc9, hc10, hLk, hN, hB, hS, hSN, hc30, hc31, hSl, hc48, hc49⟩ := hI
  have hb : 12 ≤ 19 := (by decide)
  obtain ⟨a1, a2, a3, ch, bf, d1, d2, d3, y1, y2, g1, x1, x2, g2, hk_8, hk_11, hk_12, hk_13, hk_14, hk_15, hk_16, hk_17⟩ := hLk
  obtain ⟨bF, bS, bQ, bM, bMO, bCA, bCT, bPO⟩ := BF
  obtain ⟨nF, nS, nQ, nM, nMO, nCA, nCT, nPO⟩ := SN
  obtain ⟨hN0, hN1, hN2, hN3⟩ := hN
  obtain ⟨hB0, hB1, hB2, hB3⟩ := hB
  obtain ⟨hS0, hS1, hS2, hS3⟩ := hS
  have hz_1 : σ (1) = some (.inr (10, [.ref (2), .ref (5), .ref (7), .ref (9), .ref (11), .ref (18), .ref (22), .ref (26), .ref (30), .ref (48), .int (lc_i (if bs = true then 1 else 0)), .int (lc_i (if bt = true then 1 else 0)), .int (lc_i (sn)), .int (lc_i (sr))]) : lc_Cel) := hc1
  have hz_2 : σ (2) = some (.inr (1, [.ref (3), .ref (4)]) : lc_Cel) := hc2
  have hz_3 : σ (3) = some (lc_aI 48 (lc_pt)) := hc3
  have hz_4 : σ (4) = some (lc_aI 72 (lc_sp)) := hc4
  have hz_5 : σ (5) = some (.inr (9, [.ref (2), .ref (6), .int (lc_i ((w).1)), .int (lc_i ((w).2.1)), .int (lc_i ((w).2.2.1)), .int (lc_i ((w).2.2.2))]) : lc_Cel) := hc5
  have hz_6 : σ (6) = some (.inr (8, [.ref (2), .int (lc_i (e1)), .int (lc_i (e2)), .int (lc_i (e3))]) : lc_Cel) := hc6
  have hz_7 : σ (7) = some (.inr (6, [.ref (2), .ref (8), .ref (5)]) : lc_Cel) := hc7
  have hz_9 : σ (9) = some (.inr (4, [.ref (10), .int (lc_i (u1)), .int (lc_i (u2))]) : lc_Cel) := hc9
  have hz_10 : σ (10) = some (lc_aI 364 (ug)) := hc10
  have hz_8 : σ (8) = some (.inr (8, [.ref (2), .int (lc_i (a1)), .int (lc_i (a2)), .int (lc_i (a3))]) : lc_Cel) := hk_8
  have hz_11 : σ (11) = some (.inr (3, [.ref (7), .ref (12), .ref (14), .ref (16), .int (lc_i (ch))]) : lc_Cel) := hk_11
  have hz_12 : σ (12) = some (.inr (0, [.ref (13), .int (lc_i (lc_cnt (bf) 1 36)), .int (lc_i (lc_cnt (bf) 2 36)), .int (lc_i (d1)), .int (lc_i (d2)), .int (lc_i (d3))]) : lc_Cel) := hk_12
  have hz_13 : σ (13) = some (lc_aI 36 (bf)) := hk_13
  have hz_14 : σ (14) = some (.inr (4, [.ref (15), .int (lc_i (y1)), .int (lc_i (y2))]) : lc_Cel) := hk_14
  have hz_15 : σ (15) = some (lc_aI 364 (g1)) := hk_15
  have hz_16 : σ (16) = some (.inr (4, [.ref (17), .int (lc_i (x1)), .int (lc_i (x2))]) : lc_Cel) := hk_16
  have hz_17 : σ (17) = some (lc_aI 364 (g2)) := hk_17
  have hz_30 : σ (30) = some (.inr (2, [.ref (31), .int (lc_i ((k : Int)))]) : lc_Cel) := hc30
  have hz_31 : σ (31) = some (lc_aS 4 (lc_h4 (r))) := hc31
  have hz_48 : σ (48) = some (.inr (5, [.ref (49), .int (lc_i (z))]) : lc_Cel) := hc48
  have hz_49 : σ (49) = some (lc_aC 80 (tx)) := hc49
  have hz_18 : σ (18) = some (.inr (7, [.ref (19), .int (lc_i (mo)), .int (lc_i (ca)), .ref (21), .int (lc_i (ct))]) : lc_Cel) := hN0
  have hz_19 : σ (19) = some (.inr (0, [.ref (20), .int (lc_i (lc_cnt (f) 1 36)), .int (lc_i (lc_cnt (f) 2 36)), .int (lc_i (s)), .int (lc_i (q)), .int (lc_i (m))]) : lc_Cel) := hN1
  have hz_20 : σ (20) = some (lc_aI 36 (f)) := hN2
  have hz_21 : σ (21) = some (lc_aJ 60 (fun i : Int => lc_j ((po) i))) := hN3
  have hz_22 : σ (22) = some (.inr (7, [.ref (23), .int (lc_i (bMO)), .int (lc_i (bCA)), .ref (25), .int (lc_i (bCT))]) : lc_Cel) := hB0
  have hz_23 : σ (23) = some (.inr (0, [.ref (24), .int (lc_i (lc_cnt (bF) 1 36)), .int (lc_i (lc_cnt (bF) 2 36)), .int (lc_i (bS)), .int (lc_i (bQ)), .int (lc_i (bM))]) : lc_Cel) := hB1
  have hz_24 : σ (24) = some (lc_aI 36 (bF)) := hB2
  have hz_25 : σ (25) = some (lc_aJ 60 (fun i : Int => lc_j ((bPO) i))) := hB3
  have hz_26 : σ (26) = some (.inr (7, [.ref (27), .int (lc_i (nMO)), .int (lc_i (nCA)), .ref (29), .int (lc_i (nCT))]) : lc_Cel) := hS0
  have hz_27 : σ (27) = some (.inr (0, [.ref (28), .int (lc_i (lc_cnt (nF) 1 36)), .int (lc_i (lc_cnt (nF) 2 36)), .int (lc_i (nS)), .int (lc_i (nQ)), .int (lc_i (nM))]) : lc_Cel) := hS1
  have hz_28 : σ (28) = some (lc_aI 36 (nF)) := hS2
  have hz_29 : σ (29) = some (lc_aJ 60 (fun i : Int => lc_j ((nPO) i))) := hS3
  refine lc_con RX10 false (by decide) rfl (fun h => absurd h (by decide)) (Nat.le_of_ble_eq_true rfl) ?_
  suffices H : ∀ Q : lc_QT, (∀ v n2 σ2, (fun v n2 σ2 => v = some (.int (lc_i ((lc_pnt ((f, s, q, m, mo, ca, ct, po), P, H, k, tx, z, bs, bt, sn, sr) x wv).2))) ∧ n = n2 ∧ lc_CI σ2 ((lc_pnt ((f, s, q, m, mo, ca, ct, po), P, H, k, tx, z, bs, bt, sn, sr) x wv).1) ∧ ∀ i : Nat, 50 ≤ i ∨ i = 0 → σ2 i = σ i : lc_QT) v n2 σ2 → Q v n2 σ2) → lc_V l RX10 cX10_point 3 (some .int) false (lc_Rd 6) (lc_G Q 0 0) lc_E0 0 0 n 0 [(0, .ref (1)), (1, .int (lc_i (x))), (2, .int (lc_i (wv)))] [] σ from H _ (fun _ _ _ h => h)
  intro Q hQ
  refine lc_iload_n dX10_point_0 rfl 1 rfl ?_
  refine lc_callS (As := [.int (lc_i (x))]) (stk := []) dX10_point_1 lc_mX10_77 lc_yX10_isPoint (lc_cX10_isPoint l n (x) σ (by omega)) rfl ⟨Nat.le_of_ble_eq_true rfl, Nat.le_of_ble_eq_true rfl⟩ ⟨Nat.le_of_ble_eq_true rfl, Nat.le_of_ble_eq_true rfl⟩ rfl (Nat.le_of_ble_eq_true rfl) (fun v1 n2 σ3 q4 => ?_)
  obtain ⟨rfl, rfl, rfl⟩ := q4
  refine lc_if_neB (tgt := 10) dX10_point_4 (by decide) (fun h_4_4 => ?_) (fun h_4_4 => ?_)
  · skip
    refine lc_iload_n dX10_point_10 rfl 2 rfl ?_
    rcases (show wv = 0 ∨ wv = 1 ∨ wv = 2 ∨ wv = 3 ∨ wv = 4 ∨ (wv < 0 ∨ 4 < wv) by omega) with h_11_5 | h_11_5 | h_11_5 | h_11_5 | h_11_5 | h_11_5
    · refine lc_swC (v := 0) (tgt := 44) dX10_point_11 h_11_5 (by decide) rfl (by decide) ?_
      refine lc_aload_n dX10_point_44 rfl 0 rfl ?_
      refine lc_get dX10_point_45 lc_fX10_53 hz_1 rfl ?_
      refine lc_get dX10_point_48 lc_fX10_81 hz_18 rfl ?_
      refine lc_iload_n dX10_point_51 rfl 1 rfl ?_
      refine lc_callV (As := [.int (lc_i (x))]) (stk := []) (b := 19) dX10_point_52 lc_mX10_114 lc_yX0_at hz_19 rfl (lc_cX0_at l n (19) (f) (lc_cnt (f) 1 36) (lc_cnt (f) 2 36) (s) (q) (m) (x) σ hz_19 hz_20 (by omega)) rfl ⟨Nat.le_of_ble_eq_true rfl, Nat.le_of_ble_eq_true rfl⟩ ⟨Nat.le_of_ble_eq_true rfl, Nat.le_of_ble_eq_true rfl⟩ rfl (Nat.le_of_ble_eq_true rfl) (fun v7 n8 σ9 q10 => ?_)
      obtain ⟨rfl, rfl, rfl⟩ := q10
      refine lc_top (congrArg (fun z => Value.int (lc_i z)) (show (if 0 ≤ (x) ∧ (x) < 36 then (f) (x) else 0 : Int) = f x from by rw [if_pos (by omega)])) ?_
      exact lc_iret dX10_point_55 rfl (Nat.le_of_ble_eq_true rfl) (Nat.le_of_ble_eq_true rfl) (hQ _ _ _ (by rw [lc_pnt, if_neg (show ¬ (¬ (0 ≤ x ∧ x < 36)) from by omega), if_pos (show wv = 0 from by omega)]; exact ⟨rfl, rfl, lc_CI_mk (BF := (bF, bS, bQ, bM, bMO, bCA, bCT, bPO)) (SN := (nF, nS, nQ, nM, nMO, nCA, nCT, nPO)) hz_1 hz_2 hz_3 hz_4 hz_5 hz_6 hz_7 hz_9 hz_10 (lc_Lk_mk hz_8 hz_11 hz_12 hz_13 hz_14 hz_15 hz_16 hz_17) ⟨hz_18, hz_19, hz_20, hz_21⟩ ⟨hz_22, hz_23, hz_24, hz_25⟩ ⟨hz_26, hz_27, hz_28, hz_29⟩ (hSN) hz_30 hz_31 (lc_Sl_fr hSl (fun i _ _ => rfl)) hz_48 hz_49, fun i _ => rfl⟩))
    · refine lc_swC (v := 1) (tgt := 56) dX10_point_11 h_11_5 (by decide) rfl (by decide) ?_
      refine lc_aload_n dX10_point_56 rfl 0 rfl ?_
      refine lc_get dX10_point_57 lc_fX10_30 hz_1 rfl ?_
      refine lc_aload_n dX10_point_60 rfl 0 rfl ?_
      refine lc_get dX10_point_61 lc_fX10_53 hz_1 rfl ?_
      refine lc_get dX10_point_64 lc_fX10_81 hz_18 rfl ?_
      refine lc_iload_n dX10_point_67 rfl 1 rfl ?_
      refine lc_callV (As := [.ref (19), .int (lc_i (x))]) (stk := []) (b := 7) dX10_point_68 lc_mX10_187 lc_yX6_threatsTo hz_7 rfl (lc_cX6_threatsTo l n (e1) (e2) (e3) (w) (19) (f) (lc_cnt (f) 1 36) (lc_cnt (f) 2 36) (s) (q) (m) (x) σ hz_7 hz_5 hz_6 hz_2 hz_3 hz_4 hz_19 hz_20 (hf) (hb) (by omega)) rfl ⟨Nat.le_of_ble_eq_true rfl, Nat.le_of_ble_eq_true rfl⟩ ⟨Nat.le_of_ble_eq_true rfl, Nat.le_of_ble_eq_true rfl⟩ rfl (Nat.le_of_ble_eq_true rfl) (fun v18 n19 σ20 q21 => ?_)
      obtain ⟨wk14, c15, c16, c17, rfl, rfl, h12, h13, fr11⟩ := q21
      have h22 : σ20 (1) = some (.inr (10, [.ref (2), .ref (5), .ref (7), .ref (9), .ref (11), .ref (18), .ref (22), .ref (26), .ref (30), .ref (48), .int (lc_i (if bs = true then 1 else 0)), .int (lc_i (if bt = true then 1 else 0)), .int (lc_i (sn)), .int (lc_i (sr))]) : lc_Cel) := (fr11 _ (by omega) (by omega)).trans hz_1
      have h23 : σ20 (2) = some (.inr (1, [.ref (3), .ref (4)]) : lc_Cel) := (fr11 _ (by omega) (by omega)).trans hz_2
      have h24 : σ20 (3) = some (lc_aI 48 (lc_pt)) := (fr11 _ (by omega) (by omega)).trans hz_3
      have h25 : σ20 (4) = some (lc_aI 72 (lc_sp)) := (fr11 _ (by omega) (by omega)).trans hz_4
      have h26 : σ20 (7) = some (.inr (6, [.ref (2), .ref (8), .ref (5)]) : lc_Cel) := (fr11 _ (by omega) (by omega)).trans hz_7
      have h27 : σ20 (9) = some (.inr (4, [.ref (10), .int (lc_i (u1)), .int (lc_i (u2))]) : lc_Cel) := (fr11 _ (by omega) (by omega)).trans hz_9
      have h28 : σ20 (10) = some (lc_aI 364 (ug)) := (fr11 _ (by omega) (by omega)).trans hz_10
      have h29 : σ20 (8) = some (.inr (8, [.ref (2), .int (lc_i (a1)), .int (lc_i (a2)), .int (lc_i (a3))]) : lc_Cel) := (fr11 _ (by omega) (by omega)).trans hz_8
      have h30 : σ20 (11) = some (.inr (3, [.ref (7), .ref (12), .ref (14), .ref (16), .int (lc_i (ch))]) : lc_Cel) := (fr11 _ (by omega) (by omega)).trans hz_11
      have h31 : σ20 (12) = some (.inr (0, [.ref (13), .int (lc_i (lc_cnt (bf) 1 36)), .int (lc_i (lc_cnt (bf) 2 36)), .int (lc_i (d1)), .int (lc_i (d2)), .int (lc_i (d3))]) : lc_Cel) := (fr11 _ (by omega) (by omega)).trans hz_12
      have h32 : σ20 (13) = some (lc_aI 36 (bf)) := (fr11 _ (by omega) (by omega)).trans hz_13
      have h33 : σ20 (14) = some (.inr (4, [.ref (15), .int (lc_i (y1)), .int (lc_i (y2))]) : lc_Cel) := (fr11 _ (by omega) (by omega)).trans hz_14
      have h34 : σ20 (15) = some (lc_aI 364 (g1)) := (fr11 _ (by omega) (by omega)).trans hz_15
      have h35 : σ20 (16) = some (.inr (4, [.ref (17), .int (lc_i (x1)), .int (lc_i (x2))]) : lc_Cel) := (fr11 _ (by omega) (by omega)).trans hz_16
      have h36 : σ20 (17) = some (lc_aI 364 (g2)) := (fr11 _ (by omega) (by omega)).trans hz_17
      have h37 : σ20 (30) = some (.inr (2, [.ref (31), .int (lc_i ((k : Int)))]) : lc_Cel) := (fr11 _ (by omega) (by omega)).trans hz_30
      have h38 : σ20 (31) = some (lc_aS 4 (lc_h4 (r))) := (fr11 _ (by omega) (by omega)).trans hz_31
      have h39 : σ20 (48) = some (.inr (5, [.ref (49), .int (lc_i (z))]) : lc_Cel) := (fr11 _ (by omega) (by omega)).trans hz_48
      have h40 : σ20 (49) = some (lc_aC 80 (tx)) := (fr11 _ (by omega) (by omega)).trans hz_49
      have h41 : σ20 (18) = some (.inr (7, [.ref (19), .int (lc_i (mo)), .int (lc_i (ca)), .ref (21), .int (lc_i (ct))]) : lc_Cel) := (fr11 _ (by omega) (by omega)).trans hz_18
      have h42 : σ20 (19) = some (.inr (0, [.ref (20), .int (lc_i (lc_cnt (f) 1 36)), .int (lc_i (lc_cnt (f) 2 36)), .int (lc_i (s)), .int (lc_i (q)), .int (lc_i (m))]) : lc_Cel) := (fr11 _ (by omega) (by omega)).trans hz_19
      have h43 : σ20 (20) = some (lc_aI 36 (f)) := (fr11 _ (by omega) (by omega)).trans hz_20
      have h44 : σ20 (21) = some (lc_aJ 60 (fun i : Int => lc_j ((po) i))) := (fr11 _ (by omega) (by omega)).trans hz_21
      have h45 : σ20 (22) = some (.inr (7, [.ref (23), .int (lc_i (bMO)), .int (lc_i (bCA)), .ref (25), .int (lc_i (bCT))]) : lc_Cel) := (fr11 _ (by omega) (by omega)).trans hz_22
      have h46 : σ20 (23) = some (.inr (0, [.ref (24), .int (lc_i (lc_cnt (bF) 1 36)), .int (lc_i (lc_cnt (bF) 2 36)), .int (lc_i (bS)), .int (lc_i (bQ)), .int (lc_i (bM))]) : lc_Cel) := (fr11 _ (by omega) (by omega)).trans hz_23
      have h47 : σ20 (24) = some (lc_aI 36 (bF)) := (fr11 _ (by omega) (by omega)).trans hz_24
      have h48 : σ20 (25) = some (lc_aJ 60 (fun i : Int => lc_j ((bPO) i))) := (fr11 _ (by omega) (by omega)).trans hz_25
      have h49 : σ20 (26) = some (.inr (7, [.ref (27), .int (lc_i (nMO)), .int (lc_i (nCA)), .ref (29), .int (lc_i (nCT))]) : lc_Cel) := (fr11 _ (by omega) (by omega)).trans hz_26
      have h50 : σ20 (27) = some (.inr (0, [.ref (28), .int (lc_i (lc_cnt (nF) 1 36)), .int (lc_i (lc_cnt (nF) 2 36)), .int (lc_i (nS)), .int (lc_i (nQ)), .int (lc_i (nM))]) : lc_Cel) := (fr11 _ (by omega) (by omega)).trans hz_27
      have h51 : σ20 (28) = some (lc_aI 36 (nF)) := (fr11 _ (by omega) (by omega)).trans hz_28
      have h52 : σ20 (29) = some (lc_aJ 60 (fun i : Int => lc_j ((nPO) i))) := (fr11 _ (by omega) (by omega)).trans hz_29
      exact lc_iret dX10_point_71 rfl (Nat.le_of_ble_eq_true rfl) (Nat.le_of_ble_eq_true rfl) (hQ _ _ _ (by rw [lc_pnt, if_neg (show ¬ (¬ (0 ≤ x ∧ x < 36)) from by omega), if_neg (show ¬ wv = 0 from by omega), if_pos (show wv = 1 from by omega)]; exact ⟨rfl, rfl, lc_CI_mk (BF := (bF, bS, bQ, bM, bMO, bCA, bCT, bPO)) (SN := (nF, nS, nQ, nM, nMO, nCA, nCT, nPO)) h22 h23 h24 h25 h12 h13 h26 h27 h28 (lc_Lk_mk h29 h30 h31 h32 h33 h34 h35 h36) ⟨h41, h42, h43, h44⟩ ⟨h45, h46, h47, h48⟩ ⟨h49, h50, h51, h52⟩ (hSN) h37 h38 (lc_Sl_fr hSl (fun i _ _ => (fr11 i (by omega) (by omega)))) h39 h40, fun i _ => (fr11 i (by omega) (by omega))⟩))
    · refine lc_swC (v := 2) (tgt := 72) dX10_point_11 h_11_5 (by decide) rfl (by decide) ?_
      refine lc_aload_n dX10_point_72 rfl 0 rfl ?_
      refine lc_get dX10_point_73 lc_fX10_30 hz_1 rfl ?_
      refine lc_aload_n dX10_point_76 rfl 0 rfl ?_
      refine lc_get dX10_point_77 lc_fX10_53 hz_1 rfl ?_
      refine lc_get dX10_point_80 lc_fX10_81 hz_18 rfl ?_
      refine lc_iload_n dX10_point_83 rfl 1 rfl ?_
      refine lc_callV (As := [.ref (19), .int (lc_i (x))]) (stk := []) (b := 7) dX10_point_84 lc_mX10_190 lc_yX6_coversOf hz_7 rfl (lc_cX6_coversOf l n (e1) (e2) (e3) (w) (19) (f) (lc_cnt (f) 1 36) (lc_cnt (f) 2 36) (s) (q) (m) (x) σ hz_7 hz_5 hz_6 hz_2 hz_3 hz_4 hz_19 hz_20 (hf) (hb) (by omega)) rfl ⟨Nat.le_of_ble_eq_true rfl, Nat.le_of_ble_eq_true rfl⟩ ⟨Nat.le_of_ble_eq_true rfl, Nat.le_of_ble_eq_true rfl⟩ rfl (Nat.le_of_ble_eq_true rfl) (fun v60 n61 σ62 q63 => ?_)
      obtain ⟨wk56, c57, c58, c59, rfl, rfl, h54, h55, fr53⟩ := q63
      have h64 : σ62 (1) = some (.inr (10, [.ref (2), .ref (5), .ref (7), .ref (9), .ref (11), .ref (18), .ref (22), .ref (26), .ref (30), .ref (48), .int (lc_i (if bs = true then 1 else 0)), .int (lc_i (if bt = true then 1 else 0)), .int (lc_i (sn)), .int (lc_i (sr))]) : lc_Cel) := (fr53 _ (by omega) (by omega)).trans hz_1
      have h65 : σ62 (2) = some (.inr (1, [.ref (3), .ref (4)]) : lc_Cel) := (fr53 _ (by omega) (by omega)).trans hz_2
      have h66 : σ62 (3) = some (lc_aI 48 (lc_pt)) := (fr53 _ (by omega) (by omega)).trans hz_3
      have h67 : σ62 (4) = some (lc_aI 72 (lc_sp)) := (fr53 _ (by omega) (by omega)).trans hz_4
      have h68 : σ62 (7) = some (.inr (6, [.ref (2), .ref (8), .ref (5)]) : lc_Cel) := (fr53 _ (by omega) (by omega)).trans hz_7
      have h69 : σ62 (9) = some (.inr (4, [.ref (10), .int (lc_i (u1)), .int (lc_i (u2))]) : lc_Cel) := (fr53 _ (by omega) (by omega)).trans hz_9
      have h70 : σ62 (10) = some (lc_aI 364 (ug)) := (fr53 _ (by omega) (by omega)).trans hz_10
      have h71 : σ62 (8) = some (.inr (8, [.ref (2), .int (lc_i (a1)), .int (lc_i (a2)), .int (lc_i (a3))]) : lc_Cel) := (fr53 _ (by omega) (by omega)).trans hz_8
      have h72 : σ62 (11) = some (.inr (3, [.ref (7), .ref (12), .ref (14), .ref (16), .int (lc_i (ch))]) : lc_Cel) := (fr53 _ (by omega) (by omega)).trans hz_11
      have h73 : σ62 (12) = some (.inr (0, [.ref (13), .int (lc_i (lc_cnt (bf) 1 36)), .int (lc_i (lc_cnt (bf) 2 36)), .int (lc_i (d1)), .int (lc_i (d2)), .int (lc_i (d3))]) : lc_Cel) := (fr53 _ (by omega) (by omega)).trans hz_12
      have h74 : σ62 (13) = some (lc_aI 36 (bf)) := (fr53 _ (by omega) (by omega)).trans hz_13
      have h75 : σ62 (14) = some (.inr (4, [.ref (15), .int (lc_i (y1)), .int (lc_i (y2))]) : lc_Cel) := (fr53 _ (by omega) (by omega)).trans hz_14
      have h76 : σ62 (15) = some (lc_aI 364 (g1)) := (fr53 _ (by omega) (by omega)).trans hz_15
      have h77 : σ62 (16) = some (.inr (4, [.ref (17), .int (lc_i (x1)), .int (lc_i (x2))]) : lc_Cel) := (fr53 _ (by omega) (by omega)).trans hz_16
      have h78 : σ62 (17) = some (lc_aI 364 (g2)) := (fr53 _ (by omega) (by omega)).trans hz_17
      have h79 : σ62 (30) = some (.inr (2, [.ref (31), .int (lc_i ((k : Int)))]) : lc_Cel) := (fr53 _ (by omega) (by omega)).trans hz_30
      have h80 : σ62 (31) = some (lc_aS 4 (lc_h4 (r))) := (fr53 _ (by omega) (by omega)).trans hz_31
      have h81 : σ62 (48) = some (.inr (5, [.ref (49), .int (lc_i (z))]) : lc_Cel) := (fr53 _ (by omega) (by omega)).trans hz_48
      have h82 : σ62 (49) = some (lc_aC 80 (tx)) := (fr53 _ (by omega) (by omega)).trans hz_49
      have h83 : σ62 (18) = some (.inr (7, [.ref (19), .int (lc_i (mo)), .int (lc_i (ca)), .ref (21), .int (lc_i (ct))]) : lc_Cel) := (fr53 _ (by omega) (by omega)).trans hz_18
      have h84 : σ62 (19) = some (.inr (0, [.ref (20), .int (lc_i (lc_cnt (f) 1 36)), .int (lc_i (lc_cnt (f) 2 36)), .int (lc_i (s)), .int (lc_i (q)), .int (lc_i (m))]) : lc_Cel) := (fr53 _ (by omega) (by omega)).trans hz_19
      have h85 : σ62 (20) = some (lc_aI 36 (f)) := (fr53 _ (by omega) (by omega)).trans hz_20
      have h86 : σ62 (21) = some (lc_aJ 60 (fun i : Int => lc_j ((po) i))) := (fr53 _ (by omega) (by omega)).trans hz_21
      have h87 : σ62 (22) = some (.inr (7, [.ref (23), .int (lc_i (bMO)), .int (lc_i (bCA)), .ref (25), .int (lc_i (bCT))]) : lc_Cel) := (fr53 _ (by omega) (by omega)).trans hz_22
      have h88 : σ62 (23) = some (.inr (0, [.ref (24), .int (lc_i (lc_cnt (bF) 1 36)), .int (lc_i (lc_cnt (bF) 2 36)), .int (lc_i (bS)), .int (lc_i (bQ)), .int (lc_i (bM))]) : lc_Cel) := (fr53 _ (by omega) (by omega)).trans hz_23
      have h89 : σ62 (24) = some (lc_aI 36 (bF)) := (fr53 _ (by omega) (by omega)).trans hz_24
      have h90 : σ62 (25) = some (lc_aJ 60 (fun i : Int => lc_j ((bPO) i))) := (fr53 _ (by omega) (by omega)).trans hz_25
      have h91 : σ62 (26) = some (.inr (7, [.ref (27), .int (lc_i (nMO)), .int (lc_i (nCA)), .ref (29), .int (lc_i (nCT))]) : lc_Cel) := (fr53 _ (by omega) (by omega)).trans hz_26
      have h92 : σ62 (27) = some (.inr (0, [.ref (28), .int (lc_i (lc_cnt (nF) 1 36)), .int (lc_i (lc_cnt (nF) 2 36)), .int (lc_i (nS)), .int (lc_i (nQ)), .int (lc_i (nM))]) : lc_Cel) := (fr53 _ (by omega) (by omega)).trans hz_27
      have h93 : σ62 (28) = some (lc_aI 36 (nF)) := (fr53 _ (by omega) (by omega)).trans hz_28
      have h94 : σ62 (29) = some (lc_aJ 60 (fun i : Int => lc_j ((nPO) i))) := (fr53 _ (by omega) (by omega)).trans hz_29
      exact lc_iret dX10_point_87 rfl (Nat.le_of_ble_eq_true rfl) (Nat.le_of_ble_eq_true rfl) (hQ _ _ _ (by rw [lc_pnt, if_neg (show ¬ (¬ (0 ≤ x ∧ x < 36)) from by omega), if_neg (show ¬ wv = 0 from by omega), if_neg (show ¬ wv = 1 from by omega), if_pos (show wv = 2 from by omega)]; exact ⟨rfl, rfl, lc_CI_mk (BF := (bF, bS, bQ, bM, bMO, bCA, bCT, bPO)) (SN := (nF, nS, nQ, nM, nMO, nCA, nCT, nPO)) h64 h65 h66 h67 h54 h55 h68 h69 h70 (lc_Lk_mk h71 h72 h73 h74 h75 h76 h77 h78) ⟨h83, h84, h85, h86⟩ ⟨h87, h88, h89, h90⟩ ⟨h91, h92, h93, h94⟩ (hSN) h79 h80 (lc_Sl_fr hSl (fun i _ _ => (fr53 i (by omega) (by omega)))) h81 h82, fun i _ => (fr53 i (by omega) (by omega))⟩))
    · refine lc_swC (v := 3) (tgt := 88) dX10_point_11 h_11_5 (by decide) rfl (by decide) ?_
      refine lc_aload_n dX10_point_88 rfl 0 rfl ?_
      refine lc_get dX10_point_89 lc_fX10_30 hz_1 rfl ?_
      refine lc_aload_n dX10_point_92 rfl 0 rfl ?_
      refine lc_get dX10_point_93 lc_fX10_53 hz_1 rfl ?_
      refine lc_get dX10_point_96 lc_fX10_81 hz_18 rfl ?_
      refine lc_iload_n dX10_point_99 rfl 1 rfl ?_
      refine lc_callV (As := [.ref (19), .int (lc_i (x))]) (stk := []) (b := 7) dX10_point_100 lc_mX10_193 lc_yX6_capturesFrom hz_7 rfl (lc_cX6_capturesFrom l n (e1) (e2) (e3) (w) (19) (f) (lc_cnt (f) 1 36) (lc_cnt (f) 2 36) (s) (q) (m) (x) σ hz_7 hz_5 hz_6 hz_2 hz_3 hz_4 hz_19 hz_20 (hf) (hb) (by omega)) rfl ⟨Nat.le_of_ble_eq_true rfl, Nat.le_of_ble_eq_true rfl⟩ ⟨Nat.le_of_ble_eq_true rfl, Nat.le_of_ble_eq_true rfl⟩ rfl (Nat.le_of_ble_eq_true rfl) (fun v102 n103 σ104 q105 => ?_)
      obtain ⟨wk98, c99, c100, c101, rfl, rfl, h96, h97, fr95⟩ := q105
      have h106 : σ104 (1) = some (.inr (10, [.ref (2), .ref (5), .ref (7), .ref (9), .ref (11), .ref (18), .ref (22), .ref (26), .ref (30), .ref (48), .int (lc_i (if bs = true then 1 else 0)), .int (lc_i (if bt = true then 1 else 0)), .int (lc_i (sn)), .int (lc_i (sr))]) : lc_Cel) := (fr95 _ (by omega) (by omega)).trans hz_1
      have h107 : σ104 (2) = some (.inr (1, [.ref (3), .ref (4)]) : lc_Cel) := (fr95 _ (by omega) (by omega)).trans hz_2
      have h108 : σ104 (3) = some (lc_aI 48 (lc_pt)) := (fr95 _ (by omega) (by omega)).trans hz_3
      have h109 : σ104 (4) = some (lc_aI 72 (lc_sp)) := (fr95 _ (by omega) (by omega)).trans hz_4
      have h110 : σ104 (7) = some (.inr (6, [.ref (2), .ref (8), .ref (5)]) : lc_Cel) := (fr95 _ (by omega) (by omega)).trans hz_7
      have h111 : σ104 (9) = some (.inr (4, [.ref (10), .int (lc_i (u1)), .int (lc_i (u2))]) : lc_Cel) := (fr95 _ (by omega) (by omega)).trans hz_9
      have h112 : σ104 (10) = some (lc_aI 364 (ug)) := (fr95 _ (by omega) (by omega)).trans hz_10
      have h113 : σ104 (8) = some (.inr (8, [.ref (2), .int (lc_i (a1)), .int (lc_i (a2)), .int (lc_i (a3))]) : lc_Cel) := (fr95 _ (by omega) (by omega)).trans hz_8
      have h114 : σ104 (11) = some (.inr (3, [.ref (7), .ref (12), .ref (14), .ref (16), .int (lc_i (ch))]) : lc_Cel) := (fr95 _ (by omega) (by omega)).trans hz_11
      have h115 : σ104 (12) = some (.inr (0, [.ref (13), .int (lc_i (lc_cnt (bf) 1 36)), .int (lc_i (lc_cnt (bf) 2 36)), .int (lc_i (d1)), .int (lc_i (d2)), .int (lc_i (d3))]) : lc_Cel) := (fr95 _ (by omega) (by omega)).trans hz_12
      have h116 : σ104 (13) = some (lc_aI 36 (bf)) := (fr95 _ (by omega) (by omega)).trans hz_13
      have h117 : σ104 (14) = some (.inr (4, [.ref (15), .int (lc_i (y1)), .int (lc_i (y2))]) : lc_Cel) := (fr95 _ (by omega) (by omega)).trans hz_14
      have h118 : σ104 (15) = some (lc_aI 364 (g1)) := (fr95 _ (by omega) (by omega)).trans hz_15
      have h119 : σ104 (16) = some (.inr (4, [.ref (17), .int (lc_i (x1)), .int (lc_i (x2))]) : lc_Cel) := (fr95 _ (by omega) (by omega)).trans hz_16
      have h120 : σ104 (17) = some (lc_aI 364 (g2)) := (fr95 _ (by omega) (by omega)).trans hz_17
      have h121 : σ104 (30) = some (.inr (2, [.ref (31), .int (lc_i ((k : Int)))]) : lc_Cel) := (fr95 _ (by omega) (by omega)).trans hz_30
      have h122 : σ104 (31) = some (lc_aS 4 (lc_h4 (r))) := (fr95 _ (by omega) (by omega)).trans hz_31
      have h123 : σ104 (48) = some (.inr (5, [.ref (49), .int (lc_i (z))]) : lc_Cel) := (fr95 _ (by omega) (by omega)).trans hz_48
      have h124 : σ104 (49) = some (lc_aC 80 (tx)) := (fr95 _ (by omega) (by omega)).trans hz_49
      have h125 : σ104 (18) = some (.inr (7, [.ref (19), .int (lc_i (mo)), .int (lc_i (ca)), .ref (21), .int (lc_i (ct))]) : lc_Cel) := (fr95 _ (by omega) (by omega)).trans hz_18
      have h126 : σ104 (19) = some (.inr (0, [.ref (20), .int (lc_i (lc_cnt (f) 1 36)), .int (lc_i (lc_cnt (f) 2 36)), .int (lc_i (s)), .int (lc_i (q)), .int (lc_i (m))]) : lc_Cel) := (fr95 _ (by omega) (by omega)).trans hz_19
      have h127 : σ104 (20) = some (lc_aI 36 (f)) := (fr95 _ (by omega) (by omega)).trans hz_20
      have h128 : σ104 (21) = some (lc_aJ 60 (fun i : Int => lc_j ((po) i))) := (fr95 _ (by omega) (by omega)).trans hz_21
      have h129 : σ104 (22) = some (.inr (7, [.ref (23), .int (lc_i (bMO)), .int (lc_i (bCA)), .ref (25), .int (lc_i (bCT))]) : lc_Cel) := (fr95 _ (by omega) (by omega)).trans hz_22
      have h130 : σ104 (23) = some (.inr (0, [.ref (24), .int (lc_i (lc_cnt (bF) 1 36)), .int (lc_i (lc_cnt (bF) 2 36)), .int (lc_i (bS)), .int (lc_i (bQ)), .int (lc_i (bM))]) : lc_Cel) := (fr95 _ (by omega) (by omega)).trans hz_23
      have h131 : σ104 (24) = some (lc_aI 36 (bF)) := (fr95 _ (by omega) (by omega)).trans hz_24
      have h132 : σ104 (25) = some (lc_aJ 60 (fun i : Int => lc_j ((bPO) i))) := (fr95 _ (by omega) (by omega)).trans hz_25
      have h133 : σ104 (26) = some (.inr (7, [.ref (27), .int (lc_i (nMO)), .int (lc_i (nCA)), .ref (29), .int (lc_i (nCT))]) : lc_Cel) := (fr95 _ (by omega) (by omega)).trans hz_26
      have h134 : σ104 (27) = some (.inr (0, [.ref (28), .int (lc_i (lc_cnt (nF) 1 36)), .int (lc_i (lc_cnt (nF) 2 36)), .int (lc_i (nS)), .int (lc_i (nQ)), .int (lc_i (nM))]) : lc_Cel) := (fr95 _ (by omega) (by omega)).trans hz_27
      have h135 : σ104 (28) = some (lc_aI 36 (nF)) := (fr95 _ (by omega) (by omega)).trans hz_28
      have h136 : σ104 (29) = some (lc_aJ 60 (fun i : Int => lc_j ((nPO) i))) := (fr95 _ (by omega) (by omega)).trans hz_29
      exact lc_iret dX10_point_103 rfl (Nat.le_of_ble_eq_true rfl) (Nat.le_of_ble_eq_true rfl) (hQ _ _ _ (by rw [lc_pnt, if_neg (show ¬ (¬ (0 ≤ x ∧ x < 36)) from by omega), if_neg (show ¬ wv = 0 from by omega), if_neg (show ¬ wv = 1 from by omega), if_neg (show ¬ wv = 2 from by omega), if_pos (show wv = 3 from by omega)]; exact ⟨rfl, rfl, lc_CI_mk (BF := (bF, bS, bQ, bM, bMO, bCA, bCT, bPO)) (SN := (nF, nS, nQ, nM, nMO, nCA, nCT, nPO)) h106 h107 h108 h109 h96 h97 h110 h111 h112 (lc_Lk_mk h113 h114 h115 h116 h117 h118 h119 h120) ⟨h125, h126, h127, h128⟩ ⟨h129, h130, h131, h132⟩ ⟨h133, h134, h135, h136⟩ (hSN) h121 h122 (lc_Sl_fr hSl (fun i _ _ => (fr95 i (by omega) (by omega)))) h123 h124, fun i _ => (fr95 i (by omega) (by omega))⟩))
    · refine lc_swC (v := 4) (tgt := 104) dX10_point_11 h_11_5 (by decide) rfl (by decide) ?_
      refine lc_aload_n dX10_point_104 rfl 0 rfl ?_
      refine lc_get dX10_point_105 lc_fX10_30 hz_1 rfl ?_
      refine lc_aload_n dX10_point_108 rfl 0 rfl ?_
      refine lc_get dX10_point_109 lc_fX10_53 hz_1 rfl ?_
      refine lc_get dX10_point_112 lc_fX10_81 hz_18 rfl ?_
      refine lc_iload_n dX10_point_115 rfl 1 rfl ?_
      refine lc_callV (As := [.ref (19), .int (lc_i (x))]) (stk := []) (b := 7) dX10_point_116 lc_mX10_196 lc_yX6_quietMovesFrom hz_7 rfl (lc_cX6_quietMovesFrom l n (19) (f) (lc_cnt (f) 1 36) (lc_cnt (f) 2 36) (s) (q) (m) (x) σ hz_7 hz_19 hz_20 (hf) (hb) (by omega)) rfl ⟨Nat.le_of_ble_eq_true rfl, Nat.le_of_ble_eq_true rfl⟩ ⟨Nat.le_of_ble_eq_true rfl, Nat.le_of_ble_eq_true rfl⟩ rfl (Nat.le_of_ble_eq_true rfl) (fun v137 n138 σ139 q140 => ?_)
      obtain ⟨rfl, rfl, rfl⟩ := q140
      exact lc_iret dX10_point_119 rfl (Nat.le_of_ble_eq_true rfl) (Nat.le_of_ble_eq_true rfl) (hQ _ _ _ (by rw [lc_pnt, if_neg (show ¬ (¬ (0 ≤ x ∧ x < 36)) from by omega), if_neg (show ¬ wv = 0 from by omega), if_neg (show ¬ wv = 1 from by omega), if_neg (show ¬ wv = 2 from by omega), if_neg (show ¬ wv = 3 from by omega), if_pos (show wv = 4 from by omega)]; exact ⟨rfl, rfl, lc_CI_mk (BF := (bF, bS, bQ, bM, bMO, bCA, bCT, bPO)) (SN := (nF, nS, nQ, nM, nMO, nCA, nCT, nPO)) hz_1 hz_2 hz_3 hz_4 hz_5 hz_6 hz_7 hz_9 hz_10 (lc_Lk_mk hz_8 hz_11 hz_12 hz_13 hz_14 hz_15 hz_16 hz_17) ⟨hz_18, hz_19, hz_20, hz_21⟩ ⟨hz_22, hz_23, hz_24, hz_25⟩ ⟨hz_26, hz_27, hz_28, hz_29⟩ (hSN) hz_30 hz_31 (lc_Sl_fr hSl (fun i _ _ => rfl)) hz_48 hz_49, fun i _ => rfl⟩))
    · refine lc_swD (tgt := 120) dX10_point_11 (by omega) h_11_5 (by decide) ?_
      refine lc_bipush dX10_point_120 (by decide) ?_
      exact lc_iret dX10_point_122 rfl (Nat.le_of_ble_eq_true rfl) (Nat.le_of_ble_eq_true rfl) (hQ _ _ _ (by rw [lc_pnt, if_neg (show ¬ (¬ (0 ≤ x ∧ x < 36)) from by omega), if_neg (show ¬ wv = 0 from by omega), if_neg (show ¬ wv = 1 from by omega), if_neg (show ¬ wv = 2 from by omega), if_neg (show ¬ wv = 3 from by omega), if_neg (show ¬ wv = 4 from by omega)]; exact ⟨rfl, rfl, lc_CI_mk (BF := (bF, bS, bQ, bM, bMO, bCA, bCT, bPO)) (SN := (nF, nS, nQ, nM, nMO, nCA, nCT, nPO)) hz_1 hz_2 hz_3 hz_4 hz_5 hz_6 hz_7 hz_9 hz_10 (lc_Lk_mk hz_8 hz_11 hz_12 hz_13 hz_14 hz_15 hz_16 hz_17) ⟨hz_18, hz_19, hz_20, hz_21⟩ ⟨hz_22, hz_23, hz_24, hz_25⟩ ⟨hz_26, hz_27, hz_28, hz_29⟩ (hSN) hz_30 hz_31 (lc_Sl_fr hSl (fun i _ _ => rfl)) hz_48 hz_49, fun i _ => rfl⟩))
  · skip
    refine lc_bipush dX10_point_7 (by decide) ?_
    exact lc_iret dX10_point_9 rfl (Nat.le_of_ble_eq_true rfl) (Nat.le_of_ble_eq_true rfl) (hQ _ _ _ (by rw [lc_pnt, if_pos (show ¬ (0 ≤ x ∧ x < 36) from by omega)]; exact ⟨rfl, rfl, lc_CI_mk (BF := (bF, bS, bQ, bM, bMO, bCA, bCT, bPO)) (SN := (nF, nS, nQ, nM, nMO, nCA, nCT, nPO)) hz_1 hz_2 hz_3 hz_4 hz_5 hz_6 hz_7 hz_9 hz_10 (lc_Lk_mk hz_8 hz_11 hz_12 hz_13 hz_14 hz_15 hz_16 hz_17) ⟨hz_18, hz_19, hz_20, hz_21⟩ ⟨hz_22, hz_23, hz_24, hz_25⟩ ⟨hz_26, hz_27, hz_28, hz_29⟩ (hSN) hz_30 hz_31 (lc_Sl_fr hSl (fun i _ _ => rfl)) hz_48 hz_49, fun i _ => rfl⟩))

def lc_way : lc_Ab → Int → Int → Int → lc_Ab × Int
  | (N, P, H, k, tx, z, bs, bt, sn, sr), x, y, w => ((N, P, H, k, tx, z, bs, bt, sn, sr), if ¬ ((0 ≤ x ∧ x < 36) ∧ (0 ≤ y ∧ y < 36)) then -101 else if w < 0 ∨ 4 < w then -102 else if ¬ lc_cap N.1 x y = true then -105 else if w = 0 then (lc_wy N.1 x y).1 else if w = 1 then (lc_wy N.1 x y).2.1 else if w = 2 then (lc_wy N.1 x y).2.2.1 / 24 else if w = 3 then (lc_wy N.1 x y).2.2.1 % 24 else if 0 < (lc_wy N.1 x y).2.2.2 then 1 else 0)

set_option maxRecDepth 100000 in
set_option maxHeartbeats 600000 in
theorem lc_cX10_way (l : Launch) (n : Nat) (f : Int → Int) (s q m mo ca ct : Int) (po : Int → Int) (P : lc_St) (H : Nat → lc_St) (k : Nat) (tx : Int → Int) (z : Int) (bs bt : Bool) (sn sr : Int) (x y wv : Int) (σ : lc_S)  (hI : lc_CI σ ((f, s, q, m, mo, ca, ct, po), P, H, k, tx, z, bs, bt, sn, sr)) (hw : lc_wf ((f, s, q, m, mo, ca, ct, po), P, H, k, tx, z, bs, bt, sn, sr)) (hR_x : -2147483648 ≤ x ∧ x < 2147483648) (hR_y : -2147483648 ≤ y ∧ y < 2147483648) (hR_wv : -2147483648 ≤ wv ∧ wv < 2147483648) : lc_Con l yX10_way cX10_way 4 (some .int) (lc_Rd 5) [.ref (1), .int (lc_i (x)), .int (lc_i (y)), .int (lc_i (wv))] n σ (fun v n2 σ2 => v = some (.int (lc_i ((lc_way ((f, s, q, m, mo, ca, ct, po), P, H, k, tx, z, bs, bt, sn, sr) x y wv).2))) ∧ n = n2 ∧ lc_CI σ2 ((lc_way ((f, s, q, m, mo, ca, ct, po), P, H, k, tx, z, bs, bt, sn, sr) x y wv).1) ∧ ∀ i : Nat, 50 ≤ i ∨ i = 0 → σ2 i = σ i) := by
  obtain ⟨⟨hf9, hs9, hq9, hm9, hct9, hpo9, hkey9⟩, hwP, hwH, hk4, hz, htx⟩ := hw
  have hf : ∀ j : Int, 0 ≤ j → j < 36 → 0 ≤ f j ∧ f j ≤ 2 := hf9
  have hs : 1 ≤ s ∧ s ≤ 2 := hs9
  have hq : 0 ≤ q ∧ q ≤ 60 := hq9
  have hm : 4 ≤ m ∧ m ≤ 60 := hm9
  have hct : 1 ≤ ct ∧ ct ≤ 60 := hct9
  have hpo : ∀ i : Int, 0 ≤ i → i < ct → 0 ≤ po i ∧ po i < 450283905890997363 := hpo9
  have hkey : po (ct - 1) = lc_key f s 36 := hkey9
  have hpo4 : ∀ i : Int, 0 ≤ i → i < ct → 0 ≤ po i ∧ po i < 4611686018427387904 := fun i h1 h2 => ⟨(hpo i h1 h2).1, by have := (hpo i h1 h2).2; omega⟩
  obtain ⟨r, SN, BF, w, e1, e2, e3, u1, u2, ug, hc1, hc2, hc3, hc4, hc5, hc6, hc7, hc9, hc10, hLk, hN, hB, hS, hSN, hc30, hc31, hSl, hc48, hc49⟩ := hI
  have hb : 12 ≤ 19 := (by decide)
  obtain ⟨a1, a2, a3, ch, bf, d1, d2, d3, y1, y2, g1, x1, x2, g2, hk_8, hk_11, hk_12, hk_13, hk_14, hk_15, hk_16, hk_17⟩ := hLk
  obtain ⟨bF, bS, bQ, bM, bMO, bCA, bCT, bPO⟩ := BF
  obtain ⟨nF, nS, nQ, nM, nMO, nCA, nCT, nPO⟩ := SN
  obtain ⟨hN0, hN1, hN2, hN3⟩ := hN
  obtain ⟨hB0, hB1, hB2, hB3⟩ := hB
  obtain ⟨hS0, hS1, hS2, hS3⟩ := hS
  have hz_1 : σ (1) = some (.inr (10, [.ref (2), .ref (5), .ref (7), .ref (9), .ref (11), .ref (18), .ref (22), .ref (26), .ref (30), .ref (48), .int (lc_i (if bs = true then 1 else 0)), .int (lc_i (if bt = true then 1 else 0)), .int (lc_i (sn)), .int (lc_i (sr))]) : lc_Cel) := hc1
  have hz_2 : σ (2) = some (.inr (1, [.ref (3), .ref (4)]) : lc_Cel) := hc2
  have hz_3 : σ (3) = some (lc_aI 48 (lc_pt)) := hc3
  have hz_4 : σ (4) = some (lc_aI 72 (lc_sp)) := hc4
  have hz_5 : σ (5) = some (.inr (9, [.ref (2), .ref (6), .int (lc_i ((w).1)), .int (lc_i ((w).2.1)), .int (lc_i ((w).2.2.1)), .int (lc_i ((w).2.2.2))]) : lc_Cel) := hc5
  have hz_6 : σ (6) = some (.inr (8, [.ref (2), .int (lc_i (e1)), .int (lc_i (e2)), .int (lc_i (e3))]) : lc_Cel) := hc6
  have hz_7 : σ (7) = some (.inr (6, [.ref (2), .ref (8), .ref (5)]) : lc_Cel) := hc7
  have hz_9 : σ (9) = some (.inr (4, [.ref (10), .int (lc_i (u1)), .int (lc_i (u2))]) : lc_Cel) := hc9
  have hz_10 : σ (10) = some (lc_aI 364 (ug)) := hc10
  have hz_8 : σ (8) = some (.inr (8, [.ref (2), .int (lc_i (a1)), .int (lc_i (a2)), .int (lc_i (a3))]) : lc_Cel) := hk_8
  have hz_11 : σ (11) = some (.inr (3, [.ref (7), .ref (12), .ref (14), .ref (16), .int (lc_i (ch))]) : lc_Cel) := hk_11
  have hz_12 : σ (12) = some (.inr (0, [.ref (13), .int (lc_i (lc_cnt (bf) 1 36)), .int (lc_i (lc_cnt (bf) 2 36)), .int (lc_i (d1)), .int (lc_i (d2)), .int (lc_i (d3))]) : lc_Cel) := hk_12
  have hz_13 : σ (13) = some (lc_aI 36 (bf)) := hk_13
  have hz_14 : σ (14) = some (.inr (4, [.ref (15), .int (lc_i (y1)), .int (lc_i (y2))]) : lc_Cel) := hk_14
  have hz_15 : σ (15) = some (lc_aI 364 (g1)) := hk_15
  have hz_16 : σ (16) = some (.inr (4, [.ref (17), .int (lc_i (x1)), .int (lc_i (x2))]) : lc_Cel) := hk_16
  have hz_17 : σ (17) = some (lc_aI 364 (g2)) := hk_17
  have hz_30 : σ (30) = some (.inr (2, [.ref (31), .int (lc_i ((k : Int)))]) : lc_Cel) := hc30
  have hz_31 : σ (31) = some (lc_aS 4 (lc_h4 (r))) := hc31
  have hz_48 : σ (48) = some (.inr (5, [.ref (49), .int (lc_i (z))]) : lc_Cel) := hc48
  have hz_49 : σ (49) = some (lc_aC 80 (tx)) := hc49
  have hz_18 : σ (18) = some (.inr (7, [.ref (19), .int (lc_i (mo)), .int (lc_i (ca)), .ref (21), .int (lc_i (ct))]) : lc_Cel) := hN0
  have hz_19 : σ (19) = some (.inr (0, [.ref (20), .int (lc_i (lc_cnt (f) 1 36)), .int (lc_i (lc_cnt (f) 2 36)), .int (lc_i (s)), .int (lc_i (q)), .int (lc_i (m))]) : lc_Cel) := hN1
  have hz_20 : σ (20) = some (lc_aI 36 (f)) := hN2
  have hz_21 : σ (21) = some (lc_aJ 60 (fun i : Int => lc_j ((po) i))) := hN3
  have hz_22 : σ (22) = some (.inr (7, [.ref (23), .int (lc_i (bMO)), .int (lc_i (bCA)), .ref (25), .int (lc_i (bCT))]) : lc_Cel) := hB0
  have hz_23 : σ (23) = some (.inr (0, [.ref (24), .int (lc_i (lc_cnt (bF) 1 36)), .int (lc_i (lc_cnt (bF) 2 36)), .int (lc_i (bS)), .int (lc_i (bQ)), .int (lc_i (bM))]) : lc_Cel) := hB1
  have hz_24 : σ (24) = some (lc_aI 36 (bF)) := hB2
  have hz_25 : σ (25) = some (lc_aJ 60 (fun i : Int => lc_j ((bPO) i))) := hB3
  have hz_26 : σ (26) = some (.inr (7, [.ref (27), .int (lc_i (nMO)), .int (lc_i (nCA)), .ref (29), .int (lc_i (nCT))]) : lc_Cel) := hS0
  have hz_27 : σ (27) = some (.inr (0, [.ref (28), .int (lc_i (lc_cnt (nF) 1 36)), .int (lc_i (lc_cnt (nF) 2 36)), .int (lc_i (nS)), .int (lc_i (nQ)), .int (lc_i (nM))]) : lc_Cel) := hS1
  have hz_28 : σ (28) = some (lc_aI 36 (nF)) := hS2
  have hz_29 : σ (29) = some (lc_aJ 60 (fun i : Int => lc_j ((nPO) i))) := hS3
  refine lc_con RX10 false (by decide) rfl (fun h => absurd h (by decide)) (Nat.le_of_ble_eq_true rfl) ?_
  suffices H : ∀ Q : lc_QT, (∀ v n2 σ2, (fun v n2 σ2 => v = some (.int (lc_i ((lc_way ((f, s, q, m, mo, ca, ct, po), P, H, k, tx, z, bs, bt, sn, sr) x y wv).2))) ∧ n = n2 ∧ lc_CI σ2 ((lc_way ((f, s, q, m, mo, ca, ct, po), P, H, k, tx, z, bs, bt, sn, sr) x y wv).1) ∧ ∀ i : Nat, 50 ≤ i ∨ i = 0 → σ2 i = σ i : lc_QT) v n2 σ2 → Q v n2 σ2) → lc_V l RX10 cX10_way 4 (some .int) false (lc_Rd 5) (lc_G Q 0 0) lc_E0 0 0 n 0 [(0, .ref (1)), (1, .int (lc_i (x))), (2, .int (lc_i (y))), (3, .int (lc_i (wv)))] [] σ from H _ (fun _ _ _ h => h)
  intro Q hQ
  refine lc_iload_n dX10_way_0 rfl 1 rfl ?_
  refine lc_callS (As := [.int (lc_i (x))]) (stk := []) dX10_way_1 lc_mX10_77 lc_yX10_isPoint (lc_cX10_isPoint l n (x) σ (by omega)) rfl ⟨Nat.le_of_ble_eq_true rfl, Nat.le_of_ble_eq_true rfl⟩ ⟨Nat.le_of_ble_eq_true rfl, Nat.le_of_ble_eq_true rfl⟩ rfl (Nat.le_of_ble_eq_true rfl) (fun v1 n2 σ3 q4 => ?_)
  obtain ⟨rfl, rfl, rfl⟩ := q4
  refine lc_if_eqB (tgt := 14) dX10_way_4 (by decide) (fun h_4_4 => ?_) (fun h_4_4 => ?_)
  · skip
    refine lc_bipush dX10_way_14 (by decide) ?_
    exact lc_iret dX10_way_16 rfl (Nat.le_of_ble_eq_true rfl) (Nat.le_of_ble_eq_true rfl) (hQ _ _ _ (by rw [lc_way, if_pos (show ¬ ((0 ≤ x ∧ x < 36) ∧ (0 ≤ y ∧ y < 36)) from by omega)]; exact ⟨rfl, rfl, lc_CI_mk (BF := (bF, bS, bQ, bM, bMO, bCA, bCT, bPO)) (SN := (nF, nS, nQ, nM, nMO, nCA, nCT, nPO)) hz_1 hz_2 hz_3 hz_4 hz_5 hz_6 hz_7 hz_9 hz_10 (lc_Lk_mk hz_8 hz_11 hz_12 hz_13 hz_14 hz_15 hz_16 hz_17) ⟨hz_18, hz_19, hz_20, hz_21⟩ ⟨hz_22, hz_23, hz_24, hz_25⟩ ⟨hz_26, hz_27, hz_28, hz_29⟩ (hSN) hz_30 hz_31 (lc_Sl_fr hSl (fun i _ _ => rfl)) hz_48 hz_49, fun i _ => rfl⟩))
  · skip
    refine lc_iload_n dX10_way_7 rfl 2 rfl ?_
    refine lc_callS (As := [.int (lc_i (y))]) (stk := []) dX10_way_8 lc_mX10_77 lc_yX10_isPoint (lc_cX10_isPoint l n (y) σ (by omega)) rfl ⟨Nat.le_of_ble_eq_true rfl, Nat.le_of_ble_eq_true rfl⟩ ⟨Nat.le_of_ble_eq_true rfl, Nat.le_of_ble_eq_true rfl⟩ rfl (Nat.le_of_ble_eq_true rfl) (fun v6 n7 σ8 q9 => ?_)
    obtain ⟨rfl, rfl, rfl⟩ := q9
    refine lc_if_neB (tgt := 17) dX10_way_11 (by decide) (fun h_11_9 => ?_) (fun h_11_9 => ?_)
    · skip
      refine lc_iload_n dX10_way_17 rfl 3 rfl ?_
      refine lc_if_lt (tgt := 26) dX10_way_18 (by decide) (by omega) (fun h_18_10 => ?_) (fun h_18_10 => ?_)
      · skip
        refine lc_bipush dX10_way_26 (by decide) ?_
        exact lc_iret dX10_way_28 rfl (Nat.le_of_ble_eq_true rfl) (Nat.le_of_ble_eq_true rfl) (hQ _ _ _ (by rw [lc_way, if_neg (show ¬ (¬ ((0 ≤ x ∧ x < 36) ∧ (0 ≤ y ∧ y < 36))) from by omega), if_pos (show wv < 0 ∨ 4 < wv from by omega)]; exact ⟨rfl, rfl, lc_CI_mk (BF := (bF, bS, bQ, bM, bMO, bCA, bCT, bPO)) (SN := (nF, nS, nQ, nM, nMO, nCA, nCT, nPO)) hz_1 hz_2 hz_3 hz_4 hz_5 hz_6 hz_7 hz_9 hz_10 (lc_Lk_mk hz_8 hz_11 hz_12 hz_13 hz_14 hz_15 hz_16 hz_17) ⟨hz_18, hz_19, hz_20, hz_21⟩ ⟨hz_22, hz_23, hz_24, hz_25⟩ ⟨hz_26, hz_27, hz_28, hz_29⟩ (hSN) hz_30 hz_31 (lc_Sl_fr hSl (fun i _ _ => rfl)) hz_48 hz_49, fun i _ => rfl⟩))
      · skip
        refine lc_iload_n dX10_way_21 rfl 3 rfl ?_
        refine lc_iconst dX10_way_22 ?_
        refine lc_icmp_le (tgt := 29) dX10_way_23 (by decide) (by omega) (fun h_23_11 => ?_) (fun h_23_11 => ?_)
        · skip
          refine lc_aload_n dX10_way_29 rfl 0 rfl ?_
          refine lc_get dX10_way_30 lc_fX10_30 hz_1 rfl ?_
          refine lc_aload_n dX10_way_33 rfl 0 rfl ?_
          refine lc_get dX10_way_34 lc_fX10_53 hz_1 rfl ?_
          refine lc_get dX10_way_37 lc_fX10_81 hz_18 rfl ?_
          refine lc_iload_n dX10_way_40 rfl 1 rfl ?_
          refine lc_iload_n dX10_way_41 rfl 2 rfl ?_
          refine lc_callV (As := [.ref (19), .int (lc_i (x)), .int (lc_i (y))]) (stk := []) (b := 7) dX10_way_42 lc_mX10_199 lc_yX6_couldCapture hz_7 rfl (lc_cX6_couldCapture l n (e1) (e2) (e3) (w) (19) (f) (lc_cnt (f) 1 36) (lc_cnt (f) 2 36) (s) (q) (m) (x) (y) σ hz_7 hz_5 hz_6 hz_2 hz_3 hz_4 hz_19 hz_20 (hf) (hb) (by omega) (by omega)) rfl ⟨Nat.le_of_ble_eq_true rfl, Nat.le_of_ble_eq_true rfl⟩ ⟨Nat.le_of_ble_eq_true rfl, Nat.le_of_ble_eq_true rfl⟩ rfl (Nat.le_of_ble_eq_true rfl) (fun v21 n22 σ23 q24 => ?_)
          obtain ⟨wk16, c17, c18, c19, rfl, rfl, h14, h15, he20, fr13⟩ := q24
          have h25 : σ23 (1) = some (.inr (10, [.ref (2), .ref (5), .ref (7), .ref (9), .ref (11), .ref (18), .ref (22), .ref (26), .ref (30), .ref (48), .int (lc_i (if bs = true then 1 else 0)), .int (lc_i (if bt = true then 1 else 0)), .int (lc_i (sn)), .int (lc_i (sr))]) : lc_Cel) := (fr13 _ (by omega) (by omega)).trans hz_1
          have h26 : σ23 (2) = some (.inr (1, [.ref (3), .ref (4)]) : lc_Cel) := (fr13 _ (by omega) (by omega)).trans hz_2
          have h27 : σ23 (3) = some (lc_aI 48 (lc_pt)) := (fr13 _ (by omega) (by omega)).trans hz_3
          have h28 : σ23 (4) = some (lc_aI 72 (lc_sp)) := (fr13 _ (by omega) (by omega)).trans hz_4
          have h29 : σ23 (7) = some (.inr (6, [.ref (2), .ref (8), .ref (5)]) : lc_Cel) := (fr13 _ (by omega) (by omega)).trans hz_7
          have h30 : σ23 (9) = some (.inr (4, [.ref (10), .int (lc_i (u1)), .int (lc_i (u2))]) : lc_Cel) := (fr13 _ (by omega) (by omega)).trans hz_9
          have h31 : σ23 (10) = some (lc_aI 364 (ug)) := (fr13 _ (by omega) (by omega)).trans hz_10
          have h32 : σ23 (8) = some (.inr (8, [.ref (2), .int (lc_i (a1)), .int (lc_i (a2)), .int (lc_i (a3))]) : lc_Cel) := (fr13 _ (by omega) (by omega)).trans hz_8
          have h33 : σ23 (11) = some (.inr (3, [.ref (7), .ref (12), .ref (14), .ref (16), .int (lc_i (ch))]) : lc_Cel) := (fr13 _ (by omega) (by omega)).trans hz_11
          have h34 : σ23 (12) = some (.inr (0, [.ref (13), .int (lc_i (lc_cnt (bf) 1 36)), .int (lc_i (lc_cnt (bf) 2 36)), .int (lc_i (d1)), .int (lc_i (d2)), .int (lc_i (d3))]) : lc_Cel) := (fr13 _ (by omega) (by omega)).trans hz_12
          have h35 : σ23 (13) = some (lc_aI 36 (bf)) := (fr13 _ (by omega) (by omega)).trans hz_13
          have h36 : σ23 (14) = some (.inr (4, [.ref (15), .int (lc_i (y1)), .int (lc_i (y2))]) : lc_Cel) := (fr13 _ (by omega) (by omega)).trans hz_14
          have h37 : σ23 (15) = some (lc_aI 364 (g1)) := (fr13 _ (by omega) (by omega)).trans hz_15
          have h38 : σ23 (16) = some (.inr (4, [.ref (17), .int (lc_i (x1)), .int (lc_i (x2))]) : lc_Cel) := (fr13 _ (by omega) (by omega)).trans hz_16
          have h39 : σ23 (17) = some (lc_aI 364 (g2)) := (fr13 _ (by omega) (by omega)).trans hz_17
          have h40 : σ23 (30) = some (.inr (2, [.ref (31), .int (lc_i ((k : Int)))]) : lc_Cel) := (fr13 _ (by omega) (by omega)).trans hz_30
          have h41 : σ23 (31) = some (lc_aS 4 (lc_h4 (r))) := (fr13 _ (by omega) (by omega)).trans hz_31
          have h42 : σ23 (48) = some (.inr (5, [.ref (49), .int (lc_i (z))]) : lc_Cel) := (fr13 _ (by omega) (by omega)).trans hz_48
          have h43 : σ23 (49) = some (lc_aC 80 (tx)) := (fr13 _ (by omega) (by omega)).trans hz_49
          have h44 : σ23 (18) = some (.inr (7, [.ref (19), .int (lc_i (mo)), .int (lc_i (ca)), .ref (21), .int (lc_i (ct))]) : lc_Cel) := (fr13 _ (by omega) (by omega)).trans hz_18
          have h45 : σ23 (19) = some (.inr (0, [.ref (20), .int (lc_i (lc_cnt (f) 1 36)), .int (lc_i (lc_cnt (f) 2 36)), .int (lc_i (s)), .int (lc_i (q)), .int (lc_i (m))]) : lc_Cel) := (fr13 _ (by omega) (by omega)).trans hz_19
          have h46 : σ23 (20) = some (lc_aI 36 (f)) := (fr13 _ (by omega) (by omega)).trans hz_20
          have h47 : σ23 (21) = some (lc_aJ 60 (fun i : Int => lc_j ((po) i))) := (fr13 _ (by omega) (by omega)).trans hz_21
          have h48 : σ23 (22) = some (.inr (7, [.ref (23), .int (lc_i (bMO)), .int (lc_i (bCA)), .ref (25), .int (lc_i (bCT))]) : lc_Cel) := (fr13 _ (by omega) (by omega)).trans hz_22
          have h49 : σ23 (23) = some (.inr (0, [.ref (24), .int (lc_i (lc_cnt (bF) 1 36)), .int (lc_i (lc_cnt (bF) 2 36)), .int (lc_i (bS)), .int (lc_i (bQ)), .int (lc_i (bM))]) : lc_Cel) := (fr13 _ (by omega) (by omega)).trans hz_23
          have h50 : σ23 (24) = some (lc_aI 36 (bF)) := (fr13 _ (by omega) (by omega)).trans hz_24
          have h51 : σ23 (25) = some (lc_aJ 60 (fun i : Int => lc_j ((bPO) i))) := (fr13 _ (by omega) (by omega)).trans hz_25
          have h52 : σ23 (26) = some (.inr (7, [.ref (27), .int (lc_i (nMO)), .int (lc_i (nCA)), .ref (29), .int (lc_i (nCT))]) : lc_Cel) := (fr13 _ (by omega) (by omega)).trans hz_26
          have h53 : σ23 (27) = some (.inr (0, [.ref (28), .int (lc_i (lc_cnt (nF) 1 36)), .int (lc_i (lc_cnt (nF) 2 36)), .int (lc_i (nS)), .int (lc_i (nQ)), .int (lc_i (nM))]) : lc_Cel) := (fr13 _ (by omega) (by omega)).trans hz_27
          have h54 : σ23 (28) = some (lc_aI 36 (nF)) := (fr13 _ (by omega) (by omega)).trans hz_28
          have h55 : σ23 (29) = some (lc_aJ 60 (fun i : Int => lc_j ((nPO) i))) := (fr13 _ (by omega) (by omega)).trans hz_29
          refine lc_if_neB (tgt := 51) dX10_way_45 (by decide) (fun h_45_55 => ?_) (fun h_45_55 => ?_)
          · skip
            have ewk := he20 h_45_55
            subst ewk
            have hwy1 := lc_cap_iff.mp h_45_55
            have hwy := lc_wy_ok (f := f) (fr := x) (to := y) (by omega)
            have hwy2 := hwy.1
            have hwy3 := hwy.2 (by omega)
            have h57 : σ23 (5) = some (.inr (9, [.ref (2), .ref (6), .int (lc_i ((lc_wy f x y).1)), .int (lc_i ((lc_wy f x y).2.1)), .int (lc_i ((lc_wy f x y).2.2.1)), .int (lc_i ((lc_wy f x y).2.2.2))]) : lc_Cel) := h14
            refine lc_iload_n dX10_way_51 rfl 3 rfl ?_
            rcases (show wv = 0 ∨ wv = 1 ∨ wv = 2 ∨ wv = 3 ∨ (wv < 0 ∨ 3 < wv) by omega) with h_52_57 | h_52_57 | h_52_57 | h_52_57 | h_52_57
            · refine lc_swC (v := 0) (tgt := 84) dX10_way_52 h_52_57 (by decide) rfl (by decide) ?_
              refine lc_aload_n dX10_way_84 rfl 0 rfl ?_
              refine lc_get dX10_way_85 lc_fX10_21 h25 rfl ?_
              refine lc_get dX10_way_88 lc_fX10_203 h57 rfl ?_
              exact lc_iret dX10_way_91 rfl (Nat.le_of_ble_eq_true rfl) (Nat.le_of_ble_eq_true rfl) (hQ _ _ _ (by rw [lc_way, if_neg (show ¬ (¬ ((0 ≤ x ∧ x < 36) ∧ (0 ≤ y ∧ y < 36))) from by omega), if_neg (show ¬ (wv < 0 ∨ 4 < wv) from by omega), if_neg (show ¬ ¬ lc_cap f x y = true from fun q9 => q9 h_45_55), if_pos (show wv = 0 from by omega)]; exact ⟨rfl, rfl, lc_CI_mk (BF := (bF, bS, bQ, bM, bMO, bCA, bCT, bPO)) (SN := (nF, nS, nQ, nM, nMO, nCA, nCT, nPO)) h25 h26 h27 h28 h57 h15 h29 h30 h31 (lc_Lk_mk h32 h33 h34 h35 h36 h37 h38 h39) ⟨h44, h45, h46, h47⟩ ⟨h48, h49, h50, h51⟩ ⟨h52, h53, h54, h55⟩ (hSN) h40 h41 (lc_Sl_fr hSl (fun i _ _ => (fr13 i (by omega) (by omega)))) h42 h43, fun i _ => (fr13 i (by omega) (by omega))⟩))
            · refine lc_swC (v := 1) (tgt := 92) dX10_way_52 h_52_57 (by decide) rfl (by decide) ?_
              refine lc_aload_n dX10_way_92 rfl 0 rfl ?_
              refine lc_get dX10_way_93 lc_fX10_21 h25 rfl ?_
              refine lc_get dX10_way_96 lc_fX10_206 h57 rfl ?_
              exact lc_iret dX10_way_99 rfl (Nat.le_of_ble_eq_true rfl) (Nat.le_of_ble_eq_true rfl) (hQ _ _ _ (by rw [lc_way, if_neg (show ¬ (¬ ((0 ≤ x ∧ x < 36) ∧ (0 ≤ y ∧ y < 36))) from by omega), if_neg (show ¬ (wv < 0 ∨ 4 < wv) from by omega), if_neg (show ¬ ¬ lc_cap f x y = true from fun q9 => q9 h_45_55), if_neg (show ¬ wv = 0 from by omega), if_pos (show wv = 1 from by omega)]; exact ⟨rfl, rfl, lc_CI_mk (BF := (bF, bS, bQ, bM, bMO, bCA, bCT, bPO)) (SN := (nF, nS, nQ, nM, nMO, nCA, nCT, nPO)) h25 h26 h27 h28 h57 h15 h29 h30 h31 (lc_Lk_mk h32 h33 h34 h35 h36 h37 h38 h39) ⟨h44, h45, h46, h47⟩ ⟨h48, h49, h50, h51⟩ ⟨h52, h53, h54, h55⟩ (hSN) h40 h41 (lc_Sl_fr hSl (fun i _ _ => (fr13 i (by omega) (by omega)))) h42 h43, fun i _ => (fr13 i (by omega) (by omega))⟩))
            · refine lc_swC (v := 2) (tgt := 100) dX10_way_52 h_52_57 (by decide) rfl (by decide) ?_
              refine lc_aload_n dX10_way_100 rfl 0 rfl ?_
              refine lc_get dX10_way_101 lc_fX10_21 h25 rfl ?_
              refine lc_get dX10_way_104 lc_fX10_209 h57 rfl ?_
              refine lc_bipush dX10_way_107 (by decide) ?_
              refine lc_idiv dX10_way_109 (by omega) ?_
              exact lc_iret dX10_way_110 rfl (Nat.le_of_ble_eq_true rfl) (Nat.le_of_ble_eq_true rfl) (hQ _ _ _ (by rw [lc_way, if_neg (show ¬ (¬ ((0 ≤ x ∧ x < 36) ∧ (0 ≤ y ∧ y < 36))) from by omega), if_neg (show ¬ (wv < 0 ∨ 4 < wv) from by omega), if_neg (show ¬ ¬ lc_cap f x y = true from fun q9 => q9 h_45_55), if_neg (show ¬ wv = 0 from by omega), if_neg (show ¬ wv = 1 from by omega), if_pos (show wv = 2 from by omega)]; exact ⟨rfl, rfl, lc_CI_mk (BF := (bF, bS, bQ, bM, bMO, bCA, bCT, bPO)) (SN := (nF, nS, nQ, nM, nMO, nCA, nCT, nPO)) h25 h26 h27 h28 h57 h15 h29 h30 h31 (lc_Lk_mk h32 h33 h34 h35 h36 h37 h38 h39) ⟨h44, h45, h46, h47⟩ ⟨h48, h49, h50, h51⟩ ⟨h52, h53, h54, h55⟩ (hSN) h40 h41 (lc_Sl_fr hSl (fun i _ _ => (fr13 i (by omega) (by omega)))) h42 h43, fun i _ => (fr13 i (by omega) (by omega))⟩))
            · refine lc_swC (v := 3) (tgt := 111) dX10_way_52 h_52_57 (by decide) rfl (by decide) ?_
              refine lc_aload_n dX10_way_111 rfl 0 rfl ?_
              refine lc_get dX10_way_112 lc_fX10_21 h25 rfl ?_
              refine lc_get dX10_way_115 lc_fX10_209 h57 rfl ?_
              refine lc_bipush dX10_way_118 (by decide) ?_
              refine lc_irem dX10_way_120 (by omega) ?_
              exact lc_iret dX10_way_121 rfl (Nat.le_of_ble_eq_true rfl) (Nat.le_of_ble_eq_true rfl) (hQ _ _ _ (by rw [lc_way, if_neg (show ¬ (¬ ((0 ≤ x ∧ x < 36) ∧ (0 ≤ y ∧ y < 36))) from by omega), if_neg (show ¬ (wv < 0 ∨ 4 < wv) from by omega), if_neg (show ¬ ¬ lc_cap f x y = true from fun q9 => q9 h_45_55), if_neg (show ¬ wv = 0 from by omega), if_neg (show ¬ wv = 1 from by omega), if_neg (show ¬ wv = 2 from by omega), if_pos (show wv = 3 from by omega)]; exact ⟨rfl, rfl, lc_CI_mk (BF := (bF, bS, bQ, bM, bMO, bCA, bCT, bPO)) (SN := (nF, nS, nQ, nM, nMO, nCA, nCT, nPO)) h25 h26 h27 h28 h57 h15 h29 h30 h31 (lc_Lk_mk h32 h33 h34 h35 h36 h37 h38 h39) ⟨h44, h45, h46, h47⟩ ⟨h48, h49, h50, h51⟩ ⟨h52, h53, h54, h55⟩ (hSN) h40 h41 (lc_Sl_fr hSl (fun i _ _ => (fr13 i (by omega) (by omega)))) h42 h43, fun i _ => (fr13 i (by omega) (by omega))⟩))
            · refine lc_swD (tgt := 122) dX10_way_52 (by omega) h_52_57 (by decide) ?_
              refine lc_aload_n dX10_way_122 rfl 0 rfl ?_
              refine lc_get dX10_way_123 lc_fX10_21 h25 rfl ?_
              refine lc_get dX10_way_126 lc_fX10_212 h57 rfl ?_
              refine lc_if_le (tgt := 136) dX10_way_129 (by decide) (by omega) (fun h_129_58 => ?_) (fun h_129_58 => ?_)
              · skip
                refine lc_iconst dX10_way_136 ?_
                exact lc_iret dX10_way_137 rfl (Nat.le_of_ble_eq_true rfl) (Nat.le_of_ble_eq_true rfl) (hQ _ _ _ (by rw [lc_way, if_neg (show ¬ (¬ ((0 ≤ x ∧ x < 36) ∧ (0 ≤ y ∧ y < 36))) from by omega), if_neg (show ¬ (wv < 0 ∨ 4 < wv) from by omega), if_neg (show ¬ ¬ lc_cap f x y = true from fun q9 => q9 h_45_55), if_neg (show ¬ wv = 0 from by omega), if_neg (show ¬ wv = 1 from by omega), if_neg (show ¬ wv = 2 from by omega), if_neg (show ¬ wv = 3 from by omega), if_neg (show ¬ (0 < (lc_wy f x y).2.2.2) from by omega)]; exact ⟨rfl, rfl, lc_CI_mk (BF := (bF, bS, bQ, bM, bMO, bCA, bCT, bPO)) (SN := (nF, nS, nQ, nM, nMO, nCA, nCT, nPO)) h25 h26 h27 h28 h57 h15 h29 h30 h31 (lc_Lk_mk h32 h33 h34 h35 h36 h37 h38 h39) ⟨h44, h45, h46, h47⟩ ⟨h48, h49, h50, h51⟩ ⟨h52, h53, h54, h55⟩ (hSN) h40 h41 (lc_Sl_fr hSl (fun i _ _ => (fr13 i (by omega) (by omega)))) h42 h43, fun i _ => (fr13 i (by omega) (by omega))⟩))
              · skip
                refine lc_iconst dX10_way_132 ?_
                refine lc_goto (tgt := 137) dX10_way_133 (by decide) ?_
                exact lc_iret dX10_way_137 rfl (Nat.le_of_ble_eq_true rfl) (Nat.le_of_ble_eq_true rfl) (hQ _ _ _ (by rw [lc_way, if_neg (show ¬ (¬ ((0 ≤ x ∧ x < 36) ∧ (0 ≤ y ∧ y < 36))) from by omega), if_neg (show ¬ (wv < 0 ∨ 4 < wv) from by omega), if_neg (show ¬ ¬ lc_cap f x y = true from fun q9 => q9 h_45_55), if_neg (show ¬ wv = 0 from by omega), if_neg (show ¬ wv = 1 from by omega), if_neg (show ¬ wv = 2 from by omega), if_neg (show ¬ wv = 3 from by omega), if_pos (show 0 < (lc_wy f x y).2.2.2 from by omega)]; exact ⟨rfl, rfl, lc_CI_mk (BF := (bF, bS, bQ, bM, bMO, bCA, bCT, bPO)) (SN := (nF, nS, nQ, nM, nMO, nCA, nCT, nPO)) h25 h26 h27 h28 h57 h15 h29 h30 h31 (lc_Lk_mk h32 h33 h34 h35 h36 h37 h38 h39) ⟨h44, h45, h46, h47⟩ ⟨h48, h49, h50, h51⟩ ⟨h52, h53, h54, h55⟩ (hSN) h40 h41 (lc_Sl_fr hSl (fun i _ _ => (fr13 i (by omega) (by omega)))) h42 h43, fun i _ => (fr13 i (by omega) (by omega))⟩))
          · skip
            refine lc_bipush dX10_way_48 (by decide) ?_
            exact lc_iret dX10_way_50 rfl (Nat.le_of_ble_eq_true rfl) (Nat.le_of_ble_eq_true rfl) (hQ _ _ _ (by rw [lc_way, if_neg (show ¬ (¬ ((0 ≤ x ∧ x < 36) ∧ (0 ≤ y ∧ y < 36))) from by omega), if_neg (show ¬ (wv < 0 ∨ 4 < wv) from by omega), if_pos (show ¬ lc_cap f x y = true from h_45_55)]; exact ⟨rfl, rfl, lc_CI_mk (BF := (bF, bS, bQ, bM, bMO, bCA, bCT, bPO)) (SN := (nF, nS, nQ, nM, nMO, nCA, nCT, nPO)) h25 h26 h27 h28 h14 h15 h29 h30 h31 (lc_Lk_mk h32 h33 h34 h35 h36 h37 h38 h39) ⟨h44, h45, h46, h47⟩ ⟨h48, h49, h50, h51⟩ ⟨h52, h53, h54, h55⟩ (hSN) h40 h41 (lc_Sl_fr hSl (fun i _ _ => (fr13 i (by omega) (by omega)))) h42 h43, fun i _ => (fr13 i (by omega) (by omega))⟩))
        · skip
          refine lc_bipush dX10_way_26 (by decide) ?_
          exact lc_iret dX10_way_28 rfl (Nat.le_of_ble_eq_true rfl) (Nat.le_of_ble_eq_true rfl) (hQ _ _ _ (by rw [lc_way, if_neg (show ¬ (¬ ((0 ≤ x ∧ x < 36) ∧ (0 ≤ y ∧ y < 36))) from by omega), if_pos (show wv < 0 ∨ 4 < wv from by omega)]; exact ⟨rfl, rfl, lc_CI_mk (BF := (bF, bS, bQ, bM, bMO, bCA, bCT, bPO)) (SN := (nF, nS, nQ, nM, nMO, nCA, nCT, nPO)) hz_1 hz_2 hz_3 hz_4 hz_5 hz_6 hz_7 hz_9 hz_10 (lc_Lk_mk hz_8 hz_11 hz_12 hz_13 hz_14 hz_15 hz_16 hz_17) ⟨hz_18, hz_19, hz_20, hz_21⟩ ⟨hz_22, hz_23, hz_24, hz_25⟩ ⟨hz_26, hz_27, hz_28, hz_29⟩ (hSN) hz_30 hz_31 (lc_Sl_fr hSl (fun i _ _ => rfl)) hz_48 hz_49, fun i _ => rfl⟩))
    · skip
      refine lc_bipush dX10_way_14 (by decide) ?_
      exact lc_iret dX10_way_16 rfl (Nat.le_of_ble_eq_true rfl) (Nat.le_of_ble_eq_true rfl) (hQ _ _ _ (by rw [lc_way, if_pos (show ¬ ((0 ≤ x ∧ x < 36) ∧ (0 ≤ y ∧ y < 36)) from by omega)]; exact ⟨rfl, rfl, lc_CI_mk (BF := (bF, bS, bQ, bM, bMO, bCA, bCT, bPO)) (SN := (nF, nS, nQ, nM, nMO, nCA, nCT, nPO)) hz_1 hz_2 hz_3 hz_4 hz_5 hz_6 hz_7 hz_9 hz_10 (lc_Lk_mk hz_8 hz_11 hz_12 hz_13 hz_14 hz_15 hz_16 hz_17) ⟨hz_18, hz_19, hz_20, hz_21⟩ ⟨hz_22, hz_23, hz_24, hz_25⟩ ⟨hz_26, hz_27, hz_28, hz_29⟩ (hSN) hz_30 hz_31 (lc_Sl_fr hSl (fun i _ _ => rfl)) hz_48 hz_49, fun i _ => rfl⟩))

def lc_circ : lc_Ab → Int → Int → lc_Ab × Int
  | (N, P, H, k, tx, z, bs, bt, sn, sr), c, p => ((N, P, H, k, tx, z, bs, bt, sn, sr), if c < 0 ∨ 2 ≤ c ∨ p < 0 ∨ 24 ≤ p then -101 else lc_pt (c * 24 + p))

set_option maxRecDepth 100000 in
set_option maxHeartbeats 600000 in
theorem lc_cX10_circuit (l : Launch) (n : Nat) (f : Int → Int) (s q m mo ca ct : Int) (po : Int → Int) (P : lc_St) (H : Nat → lc_St) (k : Nat) (tx : Int → Int) (z : Int) (bs bt : Bool) (sn sr : Int) (cv pv : Int) (σ : lc_S)  (hI : lc_CI σ ((f, s, q, m, mo, ca, ct, po), P, H, k, tx, z, bs, bt, sn, sr)) (hw : lc_wf ((f, s, q, m, mo, ca, ct, po), P, H, k, tx, z, bs, bt, sn, sr)) (hR_cv : -2147483648 ≤ cv ∧ cv < 2147483648) (hR_pv : -2147483648 ≤ pv ∧ pv < 2147483648) : lc_Con l yX10_circuit cX10_circuit 3 (some .int) (lc_Rd 1) [.ref (1), .int (lc_i (cv)), .int (lc_i (pv))] n σ (fun v n2 σ2 => v = some (.int (lc_i ((lc_circ ((f, s, q, m, mo, ca, ct, po), P, H, k, tx, z, bs, bt, sn, sr) cv pv).2))) ∧ n = n2 ∧ lc_CI σ2 ((lc_circ ((f, s, q, m, mo, ca, ct, po), P, H, k, tx, z, bs, bt, sn, sr) cv pv).1) ∧ ∀ i : Nat, 50 ≤ i ∨ i = 0 → σ2 i = σ i) := by
  obtain ⟨⟨hf9, hs9, hq9, hm9, hct9, hpo9, hkey9⟩, hwP, hwH, hk4, hz, htx⟩ := hw
  have hf : ∀ j : Int, 0 ≤ j → j < 36 → 0 ≤ f j ∧ f j ≤ 2 := hf9
  have hs : 1 ≤ s ∧ s ≤ 2 := hs9
  have hq : 0 ≤ q ∧ q ≤ 60 := hq9
  have hm : 4 ≤ m ∧ m ≤ 60 := hm9
  have hct : 1 ≤ ct ∧ ct ≤ 60 := hct9
  have hpo : ∀ i : Int, 0 ≤ i → i < ct → 0 ≤ po i ∧ po i < 450283905890997363 := hpo9
  have hkey : po (ct - 1) = lc_key f s 36 := hkey9
  have hpo4 : ∀ i : Int, 0 ≤ i → i < ct → 0 ≤ po i ∧ po i < 4611686018427387904 := fun i h1 h2 => ⟨(hpo i h1 h2).1, by have := (hpo i h1 h2).2; omega⟩
  obtain ⟨r, SN, BF, w, e1, e2, e3, u1, u2, ug, hc1, hc2, hc3, hc4, hc5, hc6, hc7, hc9, hc10, hLk, hN, hB, hS, hSN, hc30, hc31, hSl, hc48, hc49⟩ := hI
  have hb : 12 ≤ 19 := (by decide)
  obtain ⟨a1, a2, a3, ch, bf, d1, d2, d3, y1, y2, g1, x1, x2, g2, hk_8, hk_11, hk_12, hk_13, hk_14, hk_15, hk_16, hk_17⟩ := hLk
  obtain ⟨bF, bS, bQ, bM, bMO, bCA, bCT, bPO⟩ := BF
  obtain ⟨nF, nS, nQ, nM, nMO, nCA, nCT, nPO⟩ := SN
  obtain ⟨hN0, hN1, hN2, hN3⟩ := hN
  obtain ⟨hB0, hB1, hB2, hB3⟩ := hB
  obtain ⟨hS0, hS1, hS2, hS3⟩ := hS
  have hz_1 : σ (1) = some (.inr (10, [.ref (2), .ref (5), .ref (7), .ref (9), .ref (11), .ref (18), .ref (22), .ref (26), .ref (30), .ref (48), .int (lc_i (if bs = true then 1 else 0)), .int (lc_i (if bt = true then 1 else 0)), .int (lc_i (sn)), .int (lc_i (sr))]) : lc_Cel) := hc1
  have hz_2 : σ (2) = some (.inr (1, [.ref (3), .ref (4)]) : lc_Cel) := hc2
  have hz_3 : σ (3) = some (lc_aI 48 (lc_pt)) := hc3
  have hz_4 : σ (4) = some (lc_aI 72 (lc_sp)) := hc4
  have hz_5 : σ (5) = some (.inr (9, [.ref (2), .ref (6), .int (lc_i ((w).1)), .int (lc_i ((w).2.1)), .int (lc_i ((w).2.2.1)), .int (lc_i ((w).2.2.2))]) : lc_Cel) := hc5
  have hz_6 : σ (6) = some (.inr (8, [.ref (2), .int (lc_i (e1)), .int (lc_i (e2)), .int (lc_i (e3))]) : lc_Cel) := hc6
  have hz_7 : σ (7) = some (.inr (6, [.ref (2), .ref (8), .ref (5)]) : lc_Cel) := hc7
  have hz_9 : σ (9) = some (.inr (4, [.ref (10), .int (lc_i (u1)), .int (lc_i (u2))]) : lc_Cel) := hc9
  have hz_10 : σ (10) = some (lc_aI 364 (ug)) := hc10
  have hz_8 : σ (8) = some (.inr (8, [.ref (2), .int (lc_i (a1)), .int (lc_i (a2)), .int (lc_i (a3))]) : lc_Cel) := hk_8
  have hz_11 : σ (11) = some (.inr (3, [.ref (7), .ref (12), .ref (14), .ref (16), .int (lc_i (ch))]) : lc_Cel) := hk_11
  have hz_12 : σ (12) = some (.inr (0, [.ref (13), .int (lc_i (lc_cnt (bf) 1 36)), .int (lc_i (lc_cnt (bf) 2 36)), .int (lc_i (d1)), .int (lc_i (d2)), .int (lc_i (d3))]) : lc_Cel) := hk_12
  have hz_13 : σ (13) = some (lc_aI 36 (bf)) := hk_13
  have hz_14 : σ (14) = some (.inr (4, [.ref (15), .int (lc_i (y1)), .int (lc_i (y2))]) : lc_Cel) := hk_14
  have hz_15 : σ (15) = some (lc_aI 364 (g1)) := hk_15
  have hz_16 : σ (16) = some (.inr (4, [.ref (17), .int (lc_i (x1)), .int (lc_i (x2))]) : lc_Cel) := hk_16
  have hz_17 : σ (17) = some (lc_aI 364 (g2)) := hk_17
  have hz_30 : σ (30) = some (.inr (2, [.ref (31), .int (lc_i ((k : Int)))]) : lc_Cel) := hc30
  have hz_31 : σ (31) = some (lc_aS 4 (lc_h4 (r))) := hc31
  have hz_48 : σ (48) = some (.inr (5, [.ref (49), .int (lc_i (z))]) : lc_Cel) := hc48
  have hz_49 : σ (49) = some (lc_aC 80 (tx)) := hc49
  have hz_18 : σ (18) = some (.inr (7, [.ref (19), .int (lc_i (mo)), .int (lc_i (ca)), .ref (21), .int (lc_i (ct))]) : lc_Cel) := hN0
  have hz_19 : σ (19) = some (.inr (0, [.ref (20), .int (lc_i (lc_cnt (f) 1 36)), .int (lc_i (lc_cnt (f) 2 36)), .int (lc_i (s)), .int (lc_i (q)), .int (lc_i (m))]) : lc_Cel) := hN1
  have hz_20 : σ (20) = some (lc_aI 36 (f)) := hN2
  have hz_21 : σ (21) = some (lc_aJ 60 (fun i : Int => lc_j ((po) i))) := hN3
  have hz_22 : σ (22) = some (.inr (7, [.ref (23), .int (lc_i (bMO)), .int (lc_i (bCA)), .ref (25), .int (lc_i (bCT))]) : lc_Cel) := hB0
  have hz_23 : σ (23) = some (.inr (0, [.ref (24), .int (lc_i (lc_cnt (bF) 1 36)), .int (lc_i (lc_cnt (bF) 2 36)), .int (lc_i (bS)), .int (lc_i (bQ)), .int (lc_i (bM))]) : lc_Cel) := hB1
  have hz_24 : σ (24) = some (lc_aI 36 (bF)) := hB2
  have hz_25 : σ (25) = some (lc_aJ 60 (fun i : Int => lc_j ((bPO) i))) := hB3
  have hz_26 : σ (26) = some (.inr (7, [.ref (27), .int (lc_i (nMO)), .int (lc_i (nCA)), .ref (29), .int (lc_i (nCT))]) : lc_Cel) := hS0
  have hz_27 : σ (27) = some (.inr (0, [.ref (28), .int (lc_i (lc_cnt (nF) 1 36)), .int (lc_i (lc_cnt (nF) 2 36)), .int (lc_i (nS)), .int (lc_i (nQ)), .int (lc_i (nM))]) : lc_Cel) := hS1
  have hz_28 : σ (28) = some (lc_aI 36 (nF)) := hS2
  have hz_29 : σ (29) = some (lc_aJ 60 (fun i : Int => lc_j ((nPO) i))) := hS3
  refine lc_con RX10 false (by decide) rfl (fun h => absurd h (by decide)) (Nat.le_of_ble_eq_true rfl) ?_
  suffices H : ∀ Q : lc_QT, (∀ v n2 σ2, (fun v n2 σ2 => v = some (.int (lc_i ((lc_circ ((f, s, q, m, mo, ca, ct, po), P, H, k, tx, z, bs, bt, sn, sr) cv pv).2))) ∧ n = n2 ∧ lc_CI σ2 ((lc_circ ((f, s, q, m, mo, ca, ct, po), P, H, k, tx, z, bs, bt, sn, sr) cv pv).1) ∧ ∀ i : Nat, 50 ≤ i ∨ i = 0 → σ2 i = σ i : lc_QT) v n2 σ2 → Q v n2 σ2) → lc_V l RX10 cX10_circuit 3 (some .int) false (lc_Rd 1) (lc_G Q 0 0) lc_E0 0 0 n 0 [(0, .ref (1)), (1, .int (lc_i (cv))), (2, .int (lc_i (pv)))] [] σ from H _ (fun _ _ _ h => h)
  intro Q hQ
  refine lc_iload_n dX10_circuit_0 rfl 1 rfl ?_
  refine lc_if_lt (tgt := 19) dX10_circuit_1 (by decide) (by omega) (fun h_1_0 => ?_) (fun h_1_0 => ?_)
  · skip
    refine lc_bipush dX10_circuit_19 (by decide) ?_
    exact lc_iret dX10_circuit_21 rfl (Nat.le_of_ble_eq_true rfl) (Nat.le_of_ble_eq_true rfl) (hQ _ _ _ (by rw [lc_circ, if_pos (show cv < 0 ∨ 2 ≤ cv ∨ pv < 0 ∨ 24 ≤ pv from by omega)]; exact ⟨rfl, rfl, lc_CI_mk (BF := (bF, bS, bQ, bM, bMO, bCA, bCT, bPO)) (SN := (nF, nS, nQ, nM, nMO, nCA, nCT, nPO)) hz_1 hz_2 hz_3 hz_4 hz_5 hz_6 hz_7 hz_9 hz_10 (lc_Lk_mk hz_8 hz_11 hz_12 hz_13 hz_14 hz_15 hz_16 hz_17) ⟨hz_18, hz_19, hz_20, hz_21⟩ ⟨hz_22, hz_23, hz_24, hz_25⟩ ⟨hz_26, hz_27, hz_28, hz_29⟩ (hSN) hz_30 hz_31 (lc_Sl_fr hSl (fun i _ _ => rfl)) hz_48 hz_49, fun i _ => rfl⟩))
  · skip
    refine lc_iload_n dX10_circuit_4 rfl 1 rfl ?_
    refine lc_iconst dX10_circuit_5 ?_
    refine lc_icmp_ge (tgt := 19) dX10_circuit_6 (by decide) (by omega) (fun h_6_1 => ?_) (fun h_6_1 => ?_)
    · skip
      refine lc_bipush dX10_circuit_19 (by decide) ?_
      exact lc_iret dX10_circuit_21 rfl (Nat.le_of_ble_eq_true rfl) (Nat.le_of_ble_eq_true rfl) (hQ _ _ _ (by rw [lc_circ, if_pos (show cv < 0 ∨ 2 ≤ cv ∨ pv < 0 ∨ 24 ≤ pv from by omega)]; exact ⟨rfl, rfl, lc_CI_mk (BF := (bF, bS, bQ, bM, bMO, bCA, bCT, bPO)) (SN := (nF, nS, nQ, nM, nMO, nCA, nCT, nPO)) hz_1 hz_2 hz_3 hz_4 hz_5 hz_6 hz_7 hz_9 hz_10 (lc_Lk_mk hz_8 hz_11 hz_12 hz_13 hz_14 hz_15 hz_16 hz_17) ⟨hz_18, hz_19, hz_20, hz_21⟩ ⟨hz_22, hz_23, hz_24, hz_25⟩ ⟨hz_26, hz_27, hz_28, hz_29⟩ (hSN) hz_30 hz_31 (lc_Sl_fr hSl (fun i _ _ => rfl)) hz_48 hz_49, fun i _ => rfl⟩))
    · skip
      refine lc_iload_n dX10_circuit_9 rfl 2 rfl ?_
      refine lc_if_lt (tgt := 19) dX10_circuit_10 (by decide) (by omega) (fun h_10_2 => ?_) (fun h_10_2 => ?_)
      · skip
        refine lc_bipush dX10_circuit_19 (by decide) ?_
        exact lc_iret dX10_circuit_21 rfl (Nat.le_of_ble_eq_true rfl) (Nat.le_of_ble_eq_true rfl) (hQ _ _ _ (by rw [lc_circ, if_pos (show cv < 0 ∨ 2 ≤ cv ∨ pv < 0 ∨ 24 ≤ pv from by omega)]; exact ⟨rfl, rfl, lc_CI_mk (BF := (bF, bS, bQ, bM, bMO, bCA, bCT, bPO)) (SN := (nF, nS, nQ, nM, nMO, nCA, nCT, nPO)) hz_1 hz_2 hz_3 hz_4 hz_5 hz_6 hz_7 hz_9 hz_10 (lc_Lk_mk hz_8 hz_11 hz_12 hz_13 hz_14 hz_15 hz_16 hz_17) ⟨hz_18, hz_19, hz_20, hz_21⟩ ⟨hz_22, hz_23, hz_24, hz_25⟩ ⟨hz_26, hz_27, hz_28, hz_29⟩ (hSN) hz_30 hz_31 (lc_Sl_fr hSl (fun i _ _ => rfl)) hz_48 hz_49, fun i _ => rfl⟩))
      · skip
        refine lc_iload_n dX10_circuit_13 rfl 2 rfl ?_
        refine lc_bipush dX10_circuit_14 (by decide) ?_
        refine lc_icmp_lt (tgt := 22) dX10_circuit_16 (by decide) (by omega) (fun h_16_3 => ?_) (fun h_16_3 => ?_)
        · skip
          refine lc_aload_n dX10_circuit_22 rfl 0 rfl ?_
          refine lc_get dX10_circuit_23 lc_fX10_10 hz_1 rfl ?_
          refine lc_iload_n dX10_circuit_26 rfl 1 rfl ?_
          refine lc_bipush dX10_circuit_27 (by decide) ?_
          refine lc_imul dX10_circuit_29 ?_
          refine lc_iload_n dX10_circuit_30 rfl 2 rfl ?_
          refine lc_iadd dX10_circuit_31 ?_
          refine lc_callV (As := [.int (lc_i (((cv) * (24)) + (pv)))]) (stk := []) (b := 2) dX10_circuit_32 lc_mX10_215 lc_yX1_pointAt hz_2 rfl (lc_cX1_pointAt l n (((cv) * (24)) + (pv)) σ hz_2 hz_3 (by omega)) rfl ⟨Nat.le_of_ble_eq_true rfl, Nat.le_of_ble_eq_true rfl⟩ ⟨Nat.le_of_ble_eq_true rfl, Nat.le_of_ble_eq_true rfl⟩ rfl (Nat.le_of_ble_eq_true rfl) (fun v5 n6 σ7 q8 => ?_)
          obtain ⟨rfl, rfl, rfl⟩ := q8
          refine lc_top (congrArg (fun z => Value.int (lc_i z)) (show (if 0 ≤ (((cv) * (24)) + (pv)) ∧ (((cv) * (24)) + (pv)) < 48 then lc_pt (((cv) * (24)) + (pv)) else -1 : Int) = lc_pt (cv * 24 + pv) from by rw [if_pos (by omega)])) ?_
          exact lc_iret dX10_circuit_35 rfl (Nat.le_of_ble_eq_true rfl) (Nat.le_of_ble_eq_true rfl) (hQ _ _ _ (by rw [lc_circ, if_neg (show ¬ (cv < 0 ∨ 2 ≤ cv ∨ pv < 0 ∨ 24 ≤ pv) from by omega)]; exact ⟨rfl, rfl, lc_CI_mk (BF := (bF, bS, bQ, bM, bMO, bCA, bCT, bPO)) (SN := (nF, nS, nQ, nM, nMO, nCA, nCT, nPO)) hz_1 hz_2 hz_3 hz_4 hz_5 hz_6 hz_7 hz_9 hz_10 (lc_Lk_mk hz_8 hz_11 hz_12 hz_13 hz_14 hz_15 hz_16 hz_17) ⟨hz_18, hz_19, hz_20, hz_21⟩ ⟨hz_22, hz_23, hz_24, hz_25⟩ ⟨hz_26, hz_27, hz_28, hz_29⟩ (hSN) hz_30 hz_31 (lc_Sl_fr hSl (fun i _ _ => rfl)) hz_48 hz_49, fun i _ => rfl⟩))
        · skip
          refine lc_bipush dX10_circuit_19 (by decide) ?_
          exact lc_iret dX10_circuit_21 rfl (Nat.le_of_ble_eq_true rfl) (Nat.le_of_ble_eq_true rfl) (hQ _ _ _ (by rw [lc_circ, if_pos (show cv < 0 ∨ 2 ≤ cv ∨ pv < 0 ∨ 24 ≤ pv from by omega)]; exact ⟨rfl, rfl, lc_CI_mk (BF := (bF, bS, bQ, bM, bMO, bCA, bCT, bPO)) (SN := (nF, nS, nQ, nM, nMO, nCA, nCT, nPO)) hz_1 hz_2 hz_3 hz_4 hz_5 hz_6 hz_7 hz_9 hz_10 (lc_Lk_mk hz_8 hz_11 hz_12 hz_13 hz_14 hz_15 hz_16 hz_17) ⟨hz_18, hz_19, hz_20, hz_21⟩ ⟨hz_22, hz_23, hz_24, hz_25⟩ ⟨hz_26, hz_27, hz_28, hz_29⟩ (hSN) hz_30 hz_31 (lc_Sl_fr hSl (fun i _ _ => rfl)) hz_48 hz_49, fun i _ => rfl⟩))

def lc_reas : lc_Ab → Int → Int → Bool → lc_Ab × Int
  | (N, P, H, k, tx, z, bs, bt, sn, sr), x, y, c => ((N, P, H, k, tx, z, bs, bt, sn, sr), if ¬ ((0 ≤ x ∧ x < 36) ∧ (0 ≤ y ∧ y < 36)) then -101 else lc_why N.1 N.2.1 N.2.2.1 N.2.2.2.1 x y c)

set_option maxRecDepth 100000 in
set_option maxHeartbeats 600000 in
theorem lc_cX10_reason (l : Launch) (n : Nat) (f : Int → Int) (s q m mo ca ct : Int) (po : Int → Int) (P : lc_St) (H : Nat → lc_St) (k : Nat) (tx : Int → Int) (z : Int) (bs bt : Bool) (sn sr : Int) (x y : Int) (cb : Bool) (σ : lc_S)  (hI : lc_CI σ ((f, s, q, m, mo, ca, ct, po), P, H, k, tx, z, bs, bt, sn, sr)) (hw : lc_wf ((f, s, q, m, mo, ca, ct, po), P, H, k, tx, z, bs, bt, sn, sr)) (hR_x : -2147483648 ≤ x ∧ x < 2147483648) (hR_y : -2147483648 ≤ y ∧ y < 2147483648) : lc_Con l yX10_reason cX10_reason 4 (some .int) (lc_Rd 6) [.ref (1), .int (lc_i (x)), .int (lc_i (y)), .int (lc_i (if cb = true then 1 else 0))] n σ (fun v n2 σ2 => v = some (.int (lc_i ((lc_reas ((f, s, q, m, mo, ca, ct, po), P, H, k, tx, z, bs, bt, sn, sr) x y cb).2))) ∧ n = n2 ∧ lc_CI σ2 ((lc_reas ((f, s, q, m, mo, ca, ct, po), P, H, k, tx, z, bs, bt, sn, sr) x y cb).1) ∧ ∀ i : Nat, 50 ≤ i ∨ i = 0 → σ2 i = σ i) := by
  obtain ⟨⟨hf9, hs9, hq9, hm9, hct9, hpo9, hkey9⟩, hwP, hwH, hk4, hz, htx⟩ := hw
  have hf : ∀ j : Int, 0 ≤ j → j < 36 → 0 ≤ f j ∧ f j ≤ 2 := hf9
  have hs : 1 ≤ s ∧ s ≤ 2 := hs9
  have hq : 0 ≤ q ∧ q ≤ 60 := hq9
  have hm : 4 ≤ m ∧ m ≤ 60 := hm9
  have hct : 1 ≤ ct ∧ ct ≤ 60 := hct9
  have hpo : ∀ i : Int, 0 ≤ i → i < ct → 0 ≤ po i ∧ po i < 450283905890997363 := hpo9
  have hkey : po (ct - 1) = lc_key f s 36 := hkey9
  have hpo4 : ∀ i : Int, 0 ≤ i → i < ct → 0 ≤ po i ∧ po i < 4611686018427387904 := fun i h1 h2 => ⟨(hpo i h1 h2).1, by have := (hpo i h1 h2).2; omega⟩
  obtain ⟨r, SN, BF, w, e1, e2, e3, u1, u2, ug, hc1, hc2, hc3, hc4, hc5, hc6, hc7, hc9, hc10, hLk, hN, hB, hS, hSN, hc30, hc31, hSl, hc48, hc49⟩ := hI
  have hb : 12 ≤ 19 := (by decide)
  obtain ⟨a1, a2, a3, ch, bf, d1, d2, d3, y1, y2, g1, x1, x2, g2, hk_8, hk_11, hk_12, hk_13, hk_14, hk_15, hk_16, hk_17⟩ := hLk
  obtain ⟨bF, bS, bQ, bM, bMO, bCA, bCT, bPO⟩ := BF
  obtain ⟨nF, nS, nQ, nM, nMO, nCA, nCT, nPO⟩ := SN
  obtain ⟨hN0, hN1, hN2, hN3⟩ := hN
  obtain ⟨hB0, hB1, hB2, hB3⟩ := hB
  obtain ⟨hS0, hS1, hS2, hS3⟩ := hS
  have hz_1 : σ (1) = some (.inr (10, [.ref (2), .ref (5), .ref (7), .ref (9), .ref (11), .ref (18), .ref (22), .ref (26), .ref (30), .ref (48), .int (lc_i (if bs = true then 1 else 0)), .int (lc_i (if bt = true then 1 else 0)), .int (lc_i (sn)), .int (lc_i (sr))]) : lc_Cel) := hc1
  have hz_2 : σ (2) = some (.inr (1, [.ref (3), .ref (4)]) : lc_Cel) := hc2
  have hz_3 : σ (3) = some (lc_aI 48 (lc_pt)) := hc3
  have hz_4 : σ (4) = some (lc_aI 72 (lc_sp)) := hc4
  have hz_5 : σ (5) = some (.inr (9, [.ref (2), .ref (6), .int (lc_i ((w).1)), .int (lc_i ((w).2.1)), .int (lc_i ((w).2.2.1)), .int (lc_i ((w).2.2.2))]) : lc_Cel) := hc5
  have hz_6 : σ (6) = some (.inr (8, [.ref (2), .int (lc_i (e1)), .int (lc_i (e2)), .int (lc_i (e3))]) : lc_Cel) := hc6
  have hz_7 : σ (7) = some (.inr (6, [.ref (2), .ref (8), .ref (5)]) : lc_Cel) := hc7
  have hz_9 : σ (9) = some (.inr (4, [.ref (10), .int (lc_i (u1)), .int (lc_i (u2))]) : lc_Cel) := hc9
  have hz_10 : σ (10) = some (lc_aI 364 (ug)) := hc10
  have hz_8 : σ (8) = some (.inr (8, [.ref (2), .int (lc_i (a1)), .int (lc_i (a2)), .int (lc_i (a3))]) : lc_Cel) := hk_8
  have hz_11 : σ (11) = some (.inr (3, [.ref (7), .ref (12), .ref (14), .ref (16), .int (lc_i (ch))]) : lc_Cel) := hk_11
  have hz_12 : σ (12) = some (.inr (0, [.ref (13), .int (lc_i (lc_cnt (bf) 1 36)), .int (lc_i (lc_cnt (bf) 2 36)), .int (lc_i (d1)), .int (lc_i (d2)), .int (lc_i (d3))]) : lc_Cel) := hk_12
  have hz_13 : σ (13) = some (lc_aI 36 (bf)) := hk_13
  have hz_14 : σ (14) = some (.inr (4, [.ref (15), .int (lc_i (y1)), .int (lc_i (y2))]) : lc_Cel) := hk_14
  have hz_15 : σ (15) = some (lc_aI 364 (g1)) := hk_15
  have hz_16 : σ (16) = some (.inr (4, [.ref (17), .int (lc_i (x1)), .int (lc_i (x2))]) : lc_Cel) := hk_16
  have hz_17 : σ (17) = some (lc_aI 364 (g2)) := hk_17
  have hz_30 : σ (30) = some (.inr (2, [.ref (31), .int (lc_i ((k : Int)))]) : lc_Cel) := hc30
  have hz_31 : σ (31) = some (lc_aS 4 (lc_h4 (r))) := hc31
  have hz_48 : σ (48) = some (.inr (5, [.ref (49), .int (lc_i (z))]) : lc_Cel) := hc48
  have hz_49 : σ (49) = some (lc_aC 80 (tx)) := hc49
  have hz_18 : σ (18) = some (.inr (7, [.ref (19), .int (lc_i (mo)), .int (lc_i (ca)), .ref (21), .int (lc_i (ct))]) : lc_Cel) := hN0
  have hz_19 : σ (19) = some (.inr (0, [.ref (20), .int (lc_i (lc_cnt (f) 1 36)), .int (lc_i (lc_cnt (f) 2 36)), .int (lc_i (s)), .int (lc_i (q)), .int (lc_i (m))]) : lc_Cel) := hN1
  have hz_20 : σ (20) = some (lc_aI 36 (f)) := hN2
  have hz_21 : σ (21) = some (lc_aJ 60 (fun i : Int => lc_j ((po) i))) := hN3
  have hz_22 : σ (22) = some (.inr (7, [.ref (23), .int (lc_i (bMO)), .int (lc_i (bCA)), .ref (25), .int (lc_i (bCT))]) : lc_Cel) := hB0
  have hz_23 : σ (23) = some (.inr (0, [.ref (24), .int (lc_i (lc_cnt (bF) 1 36)), .int (lc_i (lc_cnt (bF) 2 36)), .int (lc_i (bS)), .int (lc_i (bQ)), .int (lc_i (bM))]) : lc_Cel) := hB1
  have hz_24 : σ (24) = some (lc_aI 36 (bF)) := hB2
  have hz_25 : σ (25) = some (lc_aJ 60 (fun i : Int => lc_j ((bPO) i))) := hB3
  have hz_26 : σ (26) = some (.inr (7, [.ref (27), .int (lc_i (nMO)), .int (lc_i (nCA)), .ref (29), .int (lc_i (nCT))]) : lc_Cel) := hS0
  have hz_27 : σ (27) = some (.inr (0, [.ref (28), .int (lc_i (lc_cnt (nF) 1 36)), .int (lc_i (lc_cnt (nF) 2 36)), .int (lc_i (nS)), .int (lc_i (nQ)), .int (lc_i (nM))]) : lc_Cel) := hS1
  have hz_28 : σ (28) = some (lc_aI 36 (nF)) := hS2
  have hz_29 : σ (29) = some (lc_aJ 60 (fun i : Int => lc_j ((nPO) i))) := hS3
  refine lc_con RX10 false (by decide) rfl (fun h => absurd h (by decide)) (Nat.le_of_ble_eq_true rfl) ?_
  suffices H : ∀ Q : lc_QT, (∀ v n2 σ2, (fun v n2 σ2 => v = some (.int (lc_i ((lc_reas ((f, s, q, m, mo, ca, ct, po), P, H, k, tx, z, bs, bt, sn, sr) x y cb).2))) ∧ n = n2 ∧ lc_CI σ2 ((lc_reas ((f, s, q, m, mo, ca, ct, po), P, H, k, tx, z, bs, bt, sn, sr) x y cb).1) ∧ ∀ i : Nat, 50 ≤ i ∨ i = 0 → σ2 i = σ i : lc_QT) v n2 σ2 → Q v n2 σ2) → lc_V l RX10 cX10_reason 4 (some .int) false (lc_Rd 6) (lc_G Q 0 0) lc_E0 0 0 n 0 [(0, .ref (1)), (1, .int (lc_i (x))), (2, .int (lc_i (y))), (3, .int (lc_i (if cb = true then 1 else 0)))] [] σ from H _ (fun _ _ _ h => h)
  intro Q hQ
  refine lc_iload_n dX10_reason_0 rfl 1 rfl ?_
  refine lc_callS (As := [.int (lc_i (x))]) (stk := []) dX10_reason_1 lc_mX10_77 lc_yX10_isPoint (lc_cX10_isPoint l n (x) σ (by omega)) rfl ⟨Nat.le_of_ble_eq_true rfl, Nat.le_of_ble_eq_true rfl⟩ ⟨Nat.le_of_ble_eq_true rfl, Nat.le_of_ble_eq_true rfl⟩ rfl (Nat.le_of_ble_eq_true rfl) (fun v1 n2 σ3 q4 => ?_)
  obtain ⟨rfl, rfl, rfl⟩ := q4
  refine lc_if_eqB (tgt := 14) dX10_reason_4 (by decide) (fun h_4_4 => ?_) (fun h_4_4 => ?_)
  · skip
    refine lc_bipush dX10_reason_14 (by decide) ?_
    exact lc_iret dX10_reason_16 rfl (Nat.le_of_ble_eq_true rfl) (Nat.le_of_ble_eq_true rfl) (hQ _ _ _ (by rw [lc_reas, if_pos (show ¬ ((0 ≤ x ∧ x < 36) ∧ (0 ≤ y ∧ y < 36)) from by omega)]; exact ⟨rfl, rfl, lc_CI_mk (BF := (bF, bS, bQ, bM, bMO, bCA, bCT, bPO)) (SN := (nF, nS, nQ, nM, nMO, nCA, nCT, nPO)) hz_1 hz_2 hz_3 hz_4 hz_5 hz_6 hz_7 hz_9 hz_10 (lc_Lk_mk hz_8 hz_11 hz_12 hz_13 hz_14 hz_15 hz_16 hz_17) ⟨hz_18, hz_19, hz_20, hz_21⟩ ⟨hz_22, hz_23, hz_24, hz_25⟩ ⟨hz_26, hz_27, hz_28, hz_29⟩ (hSN) hz_30 hz_31 (lc_Sl_fr hSl (fun i _ _ => rfl)) hz_48 hz_49, fun i _ => rfl⟩))
  · skip
    refine lc_iload_n dX10_reason_7 rfl 2 rfl ?_
    refine lc_callS (As := [.int (lc_i (y))]) (stk := []) dX10_reason_8 lc_mX10_77 lc_yX10_isPoint (lc_cX10_isPoint l n (y) σ (by omega)) rfl ⟨Nat.le_of_ble_eq_true rfl, Nat.le_of_ble_eq_true rfl⟩ ⟨Nat.le_of_ble_eq_true rfl, Nat.le_of_ble_eq_true rfl⟩ rfl (Nat.le_of_ble_eq_true rfl) (fun v6 n7 σ8 q9 => ?_)
    obtain ⟨rfl, rfl, rfl⟩ := q9
    refine lc_if_neB (tgt := 17) dX10_reason_11 (by decide) (fun h_11_9 => ?_) (fun h_11_9 => ?_)
    · skip
      refine lc_aload_n dX10_reason_17 rfl 0 rfl ?_
      refine lc_get dX10_reason_18 lc_fX10_30 hz_1 rfl ?_
      refine lc_aload_n dX10_reason_21 rfl 0 rfl ?_
      refine lc_get dX10_reason_22 lc_fX10_53 hz_1 rfl ?_
      refine lc_get dX10_reason_25 lc_fX10_81 hz_18 rfl ?_
      refine lc_iload_n dX10_reason_28 rfl 1 rfl ?_
      refine lc_iload_n dX10_reason_29 rfl 2 rfl ?_
      refine lc_iload_n dX10_reason_30 rfl 3 rfl ?_
      refine lc_callV (As := [.ref (19), .int (lc_i (x)), .int (lc_i (y)), .int (lc_i (if cb = true then 1 else 0))]) (stk := []) (b := 7) dX10_reason_31 lc_mX10_85 lc_yX6_whyNot hz_7 rfl (lc_cX6_whyNot l n (e1) (e2) (e3) (w) (19) (f) (s) (q) (m) (x) (y) (cb) σ hz_7 hz_5 hz_6 hz_2 hz_3 hz_4 hz_19 hz_20 (hf) (by omega) (hs) (by omega) (by omega) (by omega) (by omega)) rfl ⟨Nat.le_of_ble_eq_true rfl, Nat.le_of_ble_eq_true rfl⟩ ⟨Nat.le_of_ble_eq_true rfl, Nat.le_of_ble_eq_true rfl⟩ rfl (Nat.le_of_ble_eq_true rfl) (fun v18 n19 σ20 q21 => ?_)
      obtain ⟨wk14, c15, c16, c17, rfl, rfl, h12, h13, fr11⟩ := q21
      have h22 : σ20 (1) = some (.inr (10, [.ref (2), .ref (5), .ref (7), .ref (9), .ref (11), .ref (18), .ref (22), .ref (26), .ref (30), .ref (48), .int (lc_i (if bs = true then 1 else 0)), .int (lc_i (if bt = true then 1 else 0)), .int (lc_i (sn)), .int (lc_i (sr))]) : lc_Cel) := (fr11 _ (by omega) (by omega)).trans hz_1
      have h23 : σ20 (2) = some (.inr (1, [.ref (3), .ref (4)]) : lc_Cel) := (fr11 _ (by omega) (by omega)).trans hz_2
      have h24 : σ20 (3) = some (lc_aI 48 (lc_pt)) := (fr11 _ (by omega) (by omega)).trans hz_3
      have h25 : σ20 (4) = some (lc_aI 72 (lc_sp)) := (fr11 _ (by omega) (by omega)).trans hz_4
      have h26 : σ20 (7) = some (.inr (6, [.ref (2), .ref (8), .ref (5)]) : lc_Cel) := (fr11 _ (by omega) (by omega)).trans hz_7
      have h27 : σ20 (9) = some (.inr (4, [.ref (10), .int (lc_i (u1)), .int (lc_i (u2))]) : lc_Cel) := (fr11 _ (by omega) (by omega)).trans hz_9
      have h28 : σ20 (10) = some (lc_aI 364 (ug)) := (fr11 _ (by omega) (by omega)).trans hz_10
      have h29 : σ20 (8) = some (.inr (8, [.ref (2), .int (lc_i (a1)), .int (lc_i (a2)), .int (lc_i (a3))]) : lc_Cel) := (fr11 _ (by omega) (by omega)).trans hz_8
      have h30 : σ20 (11) = some (.inr (3, [.ref (7), .ref (12), .ref (14), .ref (16), .int (lc_i (ch))]) : lc_Cel) := (fr11 _ (by omega) (by omega)).trans hz_11
      have h31 : σ20 (12) = some (.inr (0, [.ref (13), .int (lc_i (lc_cnt (bf) 1 36)), .int (lc_i (lc_cnt (bf) 2 36)), .int (lc_i (d1)), .int (lc_i (d2)), .int (lc_i (d3))]) : lc_Cel) := (fr11 _ (by omega) (by omega)).trans hz_12
      have h32 : σ20 (13) = some (lc_aI 36 (bf)) := (fr11 _ (by omega) (by omega)).trans hz_13
      have h33 : σ20 (14) = some (.inr (4, [.ref (15), .int (lc_i (y1)), .int (lc_i (y2))]) : lc_Cel) := (fr11 _ (by omega) (by omega)).trans hz_14
      have h34 : σ20 (15) = some (lc_aI 364 (g1)) := (fr11 _ (by omega) (by omega)).trans hz_15
      have h35 : σ20 (16) = some (.inr (4, [.ref (17), .int (lc_i (x1)), .int (lc_i (x2))]) : lc_Cel) := (fr11 _ (by omega) (by omega)).trans hz_16
      have h36 : σ20 (17) = some (lc_aI 364 (g2)) := (fr11 _ (by omega) (by omega)).trans hz_17
      have h37 : σ20 (30) = some (.inr (2, [.ref (31), .int (lc_i ((k : Int)))]) : lc_Cel) := (fr11 _ (by omega) (by omega)).trans hz_30
      have h38 : σ20 (31) = some (lc_aS 4 (lc_h4 (r))) := (fr11 _ (by omega) (by omega)).trans hz_31
      have h39 : σ20 (48) = some (.inr (5, [.ref (49), .int (lc_i (z))]) : lc_Cel) := (fr11 _ (by omega) (by omega)).trans hz_48
      have h40 : σ20 (49) = some (lc_aC 80 (tx)) := (fr11 _ (by omega) (by omega)).trans hz_49
      have h41 : σ20 (18) = some (.inr (7, [.ref (19), .int (lc_i (mo)), .int (lc_i (ca)), .ref (21), .int (lc_i (ct))]) : lc_Cel) := (fr11 _ (by omega) (by omega)).trans hz_18
      have h42 : σ20 (19) = some (.inr (0, [.ref (20), .int (lc_i (lc_cnt (f) 1 36)), .int (lc_i (lc_cnt (f) 2 36)), .int (lc_i (s)), .int (lc_i (q)), .int (lc_i (m))]) : lc_Cel) := (fr11 _ (by omega) (by omega)).trans hz_19
      have h43 : σ20 (20) = some (lc_aI 36 (f)) := (fr11 _ (by omega) (by omega)).trans hz_20
      have h44 : σ20 (21) = some (lc_aJ 60 (fun i : Int => lc_j ((po) i))) := (fr11 _ (by omega) (by omega)).trans hz_21
      have h45 : σ20 (22) = some (.inr (7, [.ref (23), .int (lc_i (bMO)), .int (lc_i (bCA)), .ref (25), .int (lc_i (bCT))]) : lc_Cel) := (fr11 _ (by omega) (by omega)).trans hz_22
      have h46 : σ20 (23) = some (.inr (0, [.ref (24), .int (lc_i (lc_cnt (bF) 1 36)), .int (lc_i (lc_cnt (bF) 2 36)), .int (lc_i (bS)), .int (lc_i (bQ)), .int (lc_i (bM))]) : lc_Cel) := (fr11 _ (by omega) (by omega)).trans hz_23
      have h47 : σ20 (24) = some (lc_aI 36 (bF)) := (fr11 _ (by omega) (by omega)).trans hz_24
      have h48 : σ20 (25) = some (lc_aJ 60 (fun i : Int => lc_j ((bPO) i))) := (fr11 _ (by omega) (by omega)).trans hz_25
      have h49 : σ20 (26) = some (.inr (7, [.ref (27), .int (lc_i (nMO)), .int (lc_i (nCA)), .ref (29), .int (lc_i (nCT))]) : lc_Cel) := (fr11 _ (by omega) (by omega)).trans hz_26
      have h50 : σ20 (27) = some (.inr (0, [.ref (28), .int (lc_i (lc_cnt (nF) 1 36)), .int (lc_i (lc_cnt (nF) 2 36)), .int (lc_i (nS)), .int (lc_i (nQ)), .int (lc_i (nM))]) : lc_Cel) := (fr11 _ (by omega) (by omega)).trans hz_27
      have h51 : σ20 (28) = some (lc_aI 36 (nF)) := (fr11 _ (by omega) (by omega)).trans hz_28
      have h52 : σ20 (29) = some (lc_aJ 60 (fun i : Int => lc_j ((nPO) i))) := (fr11 _ (by omega) (by omega)).trans hz_29
      exact lc_iret dX10_reason_34 rfl (Nat.le_of_ble_eq_true rfl) (Nat.le_of_ble_eq_true rfl) (hQ _ _ _ (by rw [lc_reas, if_neg (show ¬ (¬ ((0 ≤ x ∧ x < 36) ∧ (0 ≤ y ∧ y < 36))) from by omega)]; exact ⟨rfl, rfl, lc_CI_mk (BF := (bF, bS, bQ, bM, bMO, bCA, bCT, bPO)) (SN := (nF, nS, nQ, nM, nMO, nCA, nCT, nPO)) h22 h23 h24 h25 h12 h13 h26 h27 h28 (lc_Lk_mk h29 h30 h31 h32 h33 h34 h35 h36) ⟨h41, h42, h43, h44⟩ ⟨h45, h46, h47, h48⟩ ⟨h49, h50, h51, h52⟩ (hSN) h37 h38 (lc_Sl_fr hSl (fun i _ _ => (fr11 i (by omega) (by omega)))) h39 h40, fun i _ => (fr11 i (by omega) (by omega))⟩))
    · skip
      refine lc_bipush dX10_reason_14 (by decide) ?_
      exact lc_iret dX10_reason_16 rfl (Nat.le_of_ble_eq_true rfl) (Nat.le_of_ble_eq_true rfl) (hQ _ _ _ (by rw [lc_reas, if_pos (show ¬ ((0 ≤ x ∧ x < 36) ∧ (0 ≤ y ∧ y < 36)) from by omega)]; exact ⟨rfl, rfl, lc_CI_mk (BF := (bF, bS, bQ, bM, bMO, bCA, bCT, bPO)) (SN := (nF, nS, nQ, nM, nMO, nCA, nCT, nPO)) hz_1 hz_2 hz_3 hz_4 hz_5 hz_6 hz_7 hz_9 hz_10 (lc_Lk_mk hz_8 hz_11 hz_12 hz_13 hz_14 hz_15 hz_16 hz_17) ⟨hz_18, hz_19, hz_20, hz_21⟩ ⟨hz_22, hz_23, hz_24, hz_25⟩ ⟨hz_26, hz_27, hz_28, hz_29⟩ (hSN) hz_30 hz_31 (lc_Sl_fr hSl (fun i _ _ => rfl)) hz_48 hz_49, fun i _ => rfl⟩))

def lc_poss : lc_Ab → Int → lc_Ab × Int
  | (N, P, H, k, tx, z, bs, bt, sn, sr), x => ((N, P, H, k, tx, z, bs, bt, sn, sr), if x < 0 then -102 else if x < ((lc_mv N.1 N.2.1 N.2.2.1 N.2.2.2.1).length : Int) then (lc_mv N.1 N.2.1 N.2.2.1 N.2.2.2.1).getD x.toNat 0 else -105)

set_option maxRecDepth 100000 in
set_option maxHeartbeats 600000 in
theorem lc_cX10_possible (l : Launch) (n : Nat) (f : Int → Int) (s q m mo ca ct : Int) (po : Int → Int) (P : lc_St) (H : Nat → lc_St) (k : Nat) (tx : Int → Int) (z : Int) (bs bt : Bool) (sn sr : Int) (x : Int) (σ : lc_S)  (hI : lc_CI σ ((f, s, q, m, mo, ca, ct, po), P, H, k, tx, z, bs, bt, sn, sr)) (hw : lc_wf ((f, s, q, m, mo, ca, ct, po), P, H, k, tx, z, bs, bt, sn, sr)) (hR_x : -2147483648 ≤ x ∧ x < 2147483648) : lc_Con l yX10_possible cX10_possible 2 (some .int) (lc_Rd 4) [.ref (1), .int (lc_i (x))] n σ (fun v n2 σ2 => v = some (.int (lc_i ((lc_poss ((f, s, q, m, mo, ca, ct, po), P, H, k, tx, z, bs, bt, sn, sr) x).2))) ∧ n = n2 ∧ lc_CI σ2 ((lc_poss ((f, s, q, m, mo, ca, ct, po), P, H, k, tx, z, bs, bt, sn, sr) x).1) ∧ ∀ i : Nat, 50 ≤ i ∨ i = 0 → σ2 i = σ i) := by
  obtain ⟨⟨hf9, hs9, hq9, hm9, hct9, hpo9, hkey9⟩, hwP, hwH, hk4, hz, htx⟩ := hw
  have hf : ∀ j : Int, 0 ≤ j → j < 36 → 0 ≤ f j ∧ f j ≤ 2 := hf9
  have hs : 1 ≤ s ∧ s ≤ 2 := hs9
  have hq : 0 ≤ q ∧ q ≤ 60 := hq9
  have hm : 4 ≤ m ∧ m ≤ 60 := hm9
  have hct : 1 ≤ ct ∧ ct ≤ 60 := hct9
  have hpo : ∀ i : Int, 0 ≤ i → i < ct → 0 ≤ po i ∧ po i < 450283905890997363 := hpo9
  have hkey : po (ct - 1) = lc_key f s 36 := hkey9
  have hpo4 : ∀ i : Int, 0 ≤ i → i < ct → 0 ≤ po i ∧ po i < 4611686018427387904 := fun i h1 h2 => ⟨(hpo i h1 h2).1, by have := (hpo i h1 h2).2; omega⟩
  obtain ⟨r, SN, BF, w, e1, e2, e3, u1, u2, ug, hc1, hc2, hc3, hc4, hc5, hc6, hc7, hc9, hc10, hLk, hN, hB, hS, hSN, hc30, hc31, hSl, hc48, hc49⟩ := hI
  have hb : 12 ≤ 19 := (by decide)
  obtain ⟨a1, a2, a3, ch, bf, d1, d2, d3, y1, y2, g1, x1, x2, g2, hk_8, hk_11, hk_12, hk_13, hk_14, hk_15, hk_16, hk_17⟩ := hLk
  obtain ⟨bF, bS, bQ, bM, bMO, bCA, bCT, bPO⟩ := BF
  obtain ⟨nF, nS, nQ, nM, nMO, nCA, nCT, nPO⟩ := SN
  obtain ⟨hN0, hN1, hN2, hN3⟩ := hN
  obtain ⟨hB0, hB1, hB2, hB3⟩ := hB
  obtain ⟨hS0, hS1, hS2, hS3⟩ := hS
  have hz_1 : σ (1) = some (.inr (10, [.ref (2), .ref (5), .ref (7), .ref (9), .ref (11), .ref (18), .ref (22), .ref (26), .ref (30), .ref (48), .int (lc_i (if bs = true then 1 else 0)), .int (lc_i (if bt = true then 1 else 0)), .int (lc_i (sn)), .int (lc_i (sr))]) : lc_Cel) := hc1
  have hz_2 : σ (2) = some (.inr (1, [.ref (3), .ref (4)]) : lc_Cel) := hc2
  have hz_3 : σ (3) = some (lc_aI 48 (lc_pt)) := hc3
  have hz_4 : σ (4) = some (lc_aI 72 (lc_sp)) := hc4
  have hz_5 : σ (5) = some (.inr (9, [.ref (2), .ref (6), .int (lc_i ((w).1)), .int (lc_i ((w).2.1)), .int (lc_i ((w).2.2.1)), .int (lc_i ((w).2.2.2))]) : lc_Cel) := hc5
  have hz_6 : σ (6) = some (.inr (8, [.ref (2), .int (lc_i (e1)), .int (lc_i (e2)), .int (lc_i (e3))]) : lc_Cel) := hc6
  have hz_7 : σ (7) = some (.inr (6, [.ref (2), .ref (8), .ref (5)]) : lc_Cel) := hc7
  have hz_9 : σ (9) = some (.inr (4, [.ref (10), .int (lc_i (u1)), .int (lc_i (u2))]) : lc_Cel) := hc9
  have hz_10 : σ (10) = some (lc_aI 364 (ug)) := hc10
  have hz_8 : σ (8) = some (.inr (8, [.ref (2), .int (lc_i (a1)), .int (lc_i (a2)), .int (lc_i (a3))]) : lc_Cel) := hk_8
  have hz_11 : σ (11) = some (.inr (3, [.ref (7), .ref (12), .ref (14), .ref (16), .int (lc_i (ch))]) : lc_Cel) := hk_11
  have hz_12 : σ (12) = some (.inr (0, [.ref (13), .int (lc_i (lc_cnt (bf) 1 36)), .int (lc_i (lc_cnt (bf) 2 36)), .int (lc_i (d1)), .int (lc_i (d2)), .int (lc_i (d3))]) : lc_Cel) := hk_12
  have hz_13 : σ (13) = some (lc_aI 36 (bf)) := hk_13
  have hz_14 : σ (14) = some (.inr (4, [.ref (15), .int (lc_i (y1)), .int (lc_i (y2))]) : lc_Cel) := hk_14
  have hz_15 : σ (15) = some (lc_aI 364 (g1)) := hk_15
  have hz_16 : σ (16) = some (.inr (4, [.ref (17), .int (lc_i (x1)), .int (lc_i (x2))]) : lc_Cel) := hk_16
  have hz_17 : σ (17) = some (lc_aI 364 (g2)) := hk_17
  have hz_30 : σ (30) = some (.inr (2, [.ref (31), .int (lc_i ((k : Int)))]) : lc_Cel) := hc30
  have hz_31 : σ (31) = some (lc_aS 4 (lc_h4 (r))) := hc31
  have hz_48 : σ (48) = some (.inr (5, [.ref (49), .int (lc_i (z))]) : lc_Cel) := hc48
  have hz_49 : σ (49) = some (lc_aC 80 (tx)) := hc49
  have hz_18 : σ (18) = some (.inr (7, [.ref (19), .int (lc_i (mo)), .int (lc_i (ca)), .ref (21), .int (lc_i (ct))]) : lc_Cel) := hN0
  have hz_19 : σ (19) = some (.inr (0, [.ref (20), .int (lc_i (lc_cnt (f) 1 36)), .int (lc_i (lc_cnt (f) 2 36)), .int (lc_i (s)), .int (lc_i (q)), .int (lc_i (m))]) : lc_Cel) := hN1
  have hz_20 : σ (20) = some (lc_aI 36 (f)) := hN2
  have hz_21 : σ (21) = some (lc_aJ 60 (fun i : Int => lc_j ((po) i))) := hN3
  have hz_22 : σ (22) = some (.inr (7, [.ref (23), .int (lc_i (bMO)), .int (lc_i (bCA)), .ref (25), .int (lc_i (bCT))]) : lc_Cel) := hB0
  have hz_23 : σ (23) = some (.inr (0, [.ref (24), .int (lc_i (lc_cnt (bF) 1 36)), .int (lc_i (lc_cnt (bF) 2 36)), .int (lc_i (bS)), .int (lc_i (bQ)), .int (lc_i (bM))]) : lc_Cel) := hB1
  have hz_24 : σ (24) = some (lc_aI 36 (bF)) := hB2
  have hz_25 : σ (25) = some (lc_aJ 60 (fun i : Int => lc_j ((bPO) i))) := hB3
  have hz_26 : σ (26) = some (.inr (7, [.ref (27), .int (lc_i (nMO)), .int (lc_i (nCA)), .ref (29), .int (lc_i (nCT))]) : lc_Cel) := hS0
  have hz_27 : σ (27) = some (.inr (0, [.ref (28), .int (lc_i (lc_cnt (nF) 1 36)), .int (lc_i (lc_cnt (nF) 2 36)), .int (lc_i (nS)), .int (lc_i (nQ)), .int (lc_i (nM))]) : lc_Cel) := hS1
  have hz_28 : σ (28) = some (lc_aI 36 (nF)) := hS2
  have hz_29 : σ (29) = some (lc_aJ 60 (fun i : Int => lc_j ((nPO) i))) := hS3
  refine lc_con RX10 false (by decide) rfl (fun h => absurd h (by decide)) (Nat.le_of_ble_eq_true rfl) ?_
  suffices H : ∀ Q : lc_QT, (∀ v n2 σ2, (fun v n2 σ2 => v = some (.int (lc_i ((lc_poss ((f, s, q, m, mo, ca, ct, po), P, H, k, tx, z, bs, bt, sn, sr) x).2))) ∧ n = n2 ∧ lc_CI σ2 ((lc_poss ((f, s, q, m, mo, ca, ct, po), P, H, k, tx, z, bs, bt, sn, sr) x).1) ∧ ∀ i : Nat, 50 ≤ i ∨ i = 0 → σ2 i = σ i : lc_QT) v n2 σ2 → Q v n2 σ2) → lc_V l RX10 cX10_possible 2 (some .int) false (lc_Rd 4) (lc_G Q 0 0) lc_E0 0 0 n 0 [(0, .ref (1)), (1, .int (lc_i (x)))] [] σ from H _ (fun _ _ _ h => h)
  intro Q hQ
  refine lc_iload_n dX10_possible_0 rfl 1 rfl ?_
  refine lc_if_ge (tgt := 7) dX10_possible_1 (by decide) (by omega) (fun h_1_0 => ?_) (fun h_1_0 => ?_)
  · skip
    refine lc_aload_n dX10_possible_7 rfl 0 rfl ?_
    refine lc_get dX10_possible_8 lc_fX10_30 hz_1 rfl ?_
    refine lc_aload_n dX10_possible_11 rfl 0 rfl ?_
    refine lc_get dX10_possible_12 lc_fX10_53 hz_1 rfl ?_
    refine lc_get dX10_possible_15 lc_fX10_81 hz_18 rfl ?_
    refine lc_aload_n dX10_possible_18 rfl 0 rfl ?_
    refine lc_get dX10_possible_19 lc_fX10_37 hz_1 rfl ?_
    refine lc_callV (As := [.ref (19), .ref (9)]) (stk := []) (b := 7) dX10_possible_22 lc_mX10_218 lc_yX6_listMoves hz_7 rfl (lc_cX6_listMoves l n (a1) (a2) (a3) (19) (f) (s) (q) (m) (9) (ug) (u1) (u2) σ hz_7 hz_2 hz_3 hz_4 hz_8 hz_19 hz_20 hz_9 hz_10 (hf) (by omega) (hs) (by omega) (by omega) (by omega)) rfl ⟨Nat.le_of_ble_eq_true rfl, Nat.le_of_ble_eq_true rfl⟩ ⟨Nat.le_of_ble_eq_true rfl, Nat.le_of_ble_eq_true rfl⟩ rfl (Nat.le_of_ble_eq_true rfl) (fun v11 n12 σ13 q14 => ?_)
    obtain ⟨c8, c9, c10, g7, rfl, rfl, h2, h3, h4, hl5, fr6⟩ := q14
    have h15 : σ13 (1) = some (.inr (10, [.ref (2), .ref (5), .ref (7), .ref (9), .ref (11), .ref (18), .ref (22), .ref (26), .ref (30), .ref (48), .int (lc_i (if bs = true then 1 else 0)), .int (lc_i (if bt = true then 1 else 0)), .int (lc_i (sn)), .int (lc_i (sr))]) : lc_Cel) := (fr6 _ (by omega) (by omega) (by omega)).trans hz_1
    have h16 : σ13 (2) = some (.inr (1, [.ref (3), .ref (4)]) : lc_Cel) := (fr6 _ (by omega) (by omega) (by omega)).trans hz_2
    have h17 : σ13 (3) = some (lc_aI 48 (lc_pt)) := (fr6 _ (by omega) (by omega) (by omega)).trans hz_3
    have h18 : σ13 (4) = some (lc_aI 72 (lc_sp)) := (fr6 _ (by omega) (by omega) (by omega)).trans hz_4
    have h19 : σ13 (5) = some (.inr (9, [.ref (2), .ref (6), .int (lc_i ((w).1)), .int (lc_i ((w).2.1)), .int (lc_i ((w).2.2.1)), .int (lc_i ((w).2.2.2))]) : lc_Cel) := (fr6 _ (by omega) (by omega) (by omega)).trans hz_5
    have h20 : σ13 (6) = some (.inr (8, [.ref (2), .int (lc_i (e1)), .int (lc_i (e2)), .int (lc_i (e3))]) : lc_Cel) := (fr6 _ (by omega) (by omega) (by omega)).trans hz_6
    have h21 : σ13 (7) = some (.inr (6, [.ref (2), .ref (8), .ref (5)]) : lc_Cel) := (fr6 _ (by omega) (by omega) (by omega)).trans hz_7
    have h22 : σ13 (11) = some (.inr (3, [.ref (7), .ref (12), .ref (14), .ref (16), .int (lc_i (ch))]) : lc_Cel) := (fr6 _ (by omega) (by omega) (by omega)).trans hz_11
    have h23 : σ13 (12) = some (.inr (0, [.ref (13), .int (lc_i (lc_cnt (bf) 1 36)), .int (lc_i (lc_cnt (bf) 2 36)), .int (lc_i (d1)), .int (lc_i (d2)), .int (lc_i (d3))]) : lc_Cel) := (fr6 _ (by omega) (by omega) (by omega)).trans hz_12
    have h24 : σ13 (13) = some (lc_aI 36 (bf)) := (fr6 _ (by omega) (by omega) (by omega)).trans hz_13
    have h25 : σ13 (14) = some (.inr (4, [.ref (15), .int (lc_i (y1)), .int (lc_i (y2))]) : lc_Cel) := (fr6 _ (by omega) (by omega) (by omega)).trans hz_14
    have h26 : σ13 (15) = some (lc_aI 364 (g1)) := (fr6 _ (by omega) (by omega) (by omega)).trans hz_15
    have h27 : σ13 (16) = some (.inr (4, [.ref (17), .int (lc_i (x1)), .int (lc_i (x2))]) : lc_Cel) := (fr6 _ (by omega) (by omega) (by omega)).trans hz_16
    have h28 : σ13 (17) = some (lc_aI 364 (g2)) := (fr6 _ (by omega) (by omega) (by omega)).trans hz_17
    have h29 : σ13 (30) = some (.inr (2, [.ref (31), .int (lc_i ((k : Int)))]) : lc_Cel) := (fr6 _ (by omega) (by omega) (by omega)).trans hz_30
    have h30 : σ13 (31) = some (lc_aS 4 (lc_h4 (r))) := (fr6 _ (by omega) (by omega) (by omega)).trans hz_31
    have h31 : σ13 (48) = some (.inr (5, [.ref (49), .int (lc_i (z))]) : lc_Cel) := (fr6 _ (by omega) (by omega) (by omega)).trans hz_48
    have h32 : σ13 (49) = some (lc_aC 80 (tx)) := (fr6 _ (by omega) (by omega) (by omega)).trans hz_49
    have h33 : σ13 (18) = some (.inr (7, [.ref (19), .int (lc_i (mo)), .int (lc_i (ca)), .ref (21), .int (lc_i (ct))]) : lc_Cel) := (fr6 _ (by omega) (by omega) (by omega)).trans hz_18
    have h34 : σ13 (19) = some (.inr (0, [.ref (20), .int (lc_i (lc_cnt (f) 1 36)), .int (lc_i (lc_cnt (f) 2 36)), .int (lc_i (s)), .int (lc_i (q)), .int (lc_i (m))]) : lc_Cel) := (fr6 _ (by omega) (by omega) (by omega)).trans hz_19
    have h35 : σ13 (20) = some (lc_aI 36 (f)) := (fr6 _ (by omega) (by omega) (by omega)).trans hz_20
    have h36 : σ13 (21) = some (lc_aJ 60 (fun i : Int => lc_j ((po) i))) := (fr6 _ (by omega) (by omega) (by omega)).trans hz_21
    have h37 : σ13 (22) = some (.inr (7, [.ref (23), .int (lc_i (bMO)), .int (lc_i (bCA)), .ref (25), .int (lc_i (bCT))]) : lc_Cel) := (fr6 _ (by omega) (by omega) (by omega)).trans hz_22
    have h38 : σ13 (23) = some (.inr (0, [.ref (24), .int (lc_i (lc_cnt (bF) 1 36)), .int (lc_i (lc_cnt (bF) 2 36)), .int (lc_i (bS)), .int (lc_i (bQ)), .int (lc_i (bM))]) : lc_Cel) := (fr6 _ (by omega) (by omega) (by omega)).trans hz_23
    have h39 : σ13 (24) = some (lc_aI 36 (bF)) := (fr6 _ (by omega) (by omega) (by omega)).trans hz_24
    have h40 : σ13 (25) = some (lc_aJ 60 (fun i : Int => lc_j ((bPO) i))) := (fr6 _ (by omega) (by omega) (by omega)).trans hz_25
    have h41 : σ13 (26) = some (.inr (7, [.ref (27), .int (lc_i (nMO)), .int (lc_i (nCA)), .ref (29), .int (lc_i (nCT))]) : lc_Cel) := (fr6 _ (by omega) (by omega) (by omega)).trans hz_26
    have h42 : σ13 (27) = some (.inr (0, [.ref (28), .int (lc_i (lc_cnt (nF) 1 36)), .int (lc_i (lc_cnt (nF) 2 36)), .int (lc_i (nS)), .int (lc_i (nQ)), .int (lc_i (nM))]) : lc_Cel) := (fr6 _ (by omega) (by omega) (by omega)).trans hz_27
    have h43 : σ13 (28) = some (lc_aI 36 (nF)) := (fr6 _ (by omega) (by omega) (by omega)).trans hz_28
    have h44 : σ13 (29) = some (lc_aJ 60 (fun i : Int => lc_j ((nPO) i))) := (fr6 _ (by omega) (by omega) (by omega)).trans hz_29
    have hll := hl5.2
    refine lc_iload_n dX10_possible_25 rfl 1 rfl ?_
    refine lc_aload_n dX10_possible_26 rfl 0 rfl ?_
    refine lc_get dX10_possible_27 lc_fX10_37 h15 rfl ?_
    refine lc_callV (As := []) (stk := [.int (lc_i (x))]) (b := 9) dX10_possible_30 lc_mX10_222 lc_yX4_size h3 rfl (lc_cX4_size l n (9) (g7) (((lc_mv (f) (s) (q) (m)).length : Int)) (((lc_caps (f) (s) (q) (m)).length : Int)) σ13 h3) rfl ⟨Nat.le_of_ble_eq_true rfl, Nat.le_of_ble_eq_true rfl⟩ ⟨Nat.le_of_ble_eq_true rfl, Nat.le_of_ble_eq_true rfl⟩ rfl (Nat.le_of_ble_eq_true rfl) (fun v45 n46 σ47 q48 => ?_)
    obtain ⟨rfl, rfl, rfl⟩ := q48
    refine lc_icmp_ge (tgt := 47) dX10_possible_33 (by decide) (by omega) (fun h_33_48 => ?_) (fun h_33_48 => ?_)
    · skip
      refine lc_bipush dX10_possible_47 (by decide) ?_
      exact lc_iret dX10_possible_49 rfl (Nat.le_of_ble_eq_true rfl) (Nat.le_of_ble_eq_true rfl) (hQ _ _ _ (by rw [lc_poss, if_neg (show ¬ (x < 0) from by omega), if_neg (show ¬ (x < ((lc_mv f s q m).length : Int)) from by omega)]; exact ⟨rfl, rfl, lc_CI_mk (BF := (bF, bS, bQ, bM, bMO, bCA, bCT, bPO)) (SN := (nF, nS, nQ, nM, nMO, nCA, nCT, nPO)) h15 h16 h17 h18 h19 h20 h21 h3 h4 (lc_Lk_mk h2 h22 h23 h24 h25 h26 h27 h28) ⟨h33, h34, h35, h36⟩ ⟨h37, h38, h39, h40⟩ ⟨h41, h42, h43, h44⟩ (hSN) h29 h30 (lc_Sl_fr hSl (fun i _ _ => (fr6 i (by omega) (by omega) (by omega)))) h31 h32, fun i _ => (fr6 i (by omega) (by omega) (by omega))⟩))
    · skip
      refine lc_aload_n dX10_possible_36 rfl 0 rfl ?_
      refine lc_get dX10_possible_37 lc_fX10_37 h15 rfl ?_
      refine lc_iload_n dX10_possible_40 rfl 1 rfl ?_
      refine lc_callV (As := [.int (lc_i (x))]) (stk := []) (b := 9) dX10_possible_41 lc_mX10_223 lc_yX4_get h3 rfl (lc_cX4_get l n (9) (g7) (((lc_mv (f) (s) (q) (m)).length : Int)) (((lc_caps (f) (s) (q) (m)).length : Int)) (x) σ13 h3 h4 (by omega) (by omega)) rfl ⟨Nat.le_of_ble_eq_true rfl, Nat.le_of_ble_eq_true rfl⟩ ⟨Nat.le_of_ble_eq_true rfl, Nat.le_of_ble_eq_true rfl⟩ rfl (Nat.le_of_ble_eq_true rfl) (fun v50 n51 σ52 q53 => ?_)
      obtain ⟨rfl, rfl, rfl⟩ := q53
      refine lc_top (congrArg (fun z => Value.int (lc_i z)) (show (if 0 ≤ (x) ∧ (x) < ((lc_mv (f) (s) (q) (m)).length : Int) then (g7) (x) else -1 : Int) = (lc_mv f s q m).getD x.toNat 0 from by rw [if_pos (by omega)]; have h9 := hl5.1 x.toNat (by omega); rw [show ((x.toNat : Nat) : Int) = x from by omega] at h9; exact h9)) ?_
      refine lc_goto (tgt := 49) dX10_possible_44 (by decide) ?_
      exact lc_iret dX10_possible_49 rfl (Nat.le_of_ble_eq_true rfl) (Nat.le_of_ble_eq_true rfl) (hQ _ _ _ (by rw [lc_poss, if_neg (show ¬ (x < 0) from by omega), if_pos (show x < ((lc_mv f s q m).length : Int) from by omega)]; exact ⟨rfl, rfl, lc_CI_mk (BF := (bF, bS, bQ, bM, bMO, bCA, bCT, bPO)) (SN := (nF, nS, nQ, nM, nMO, nCA, nCT, nPO)) h15 h16 h17 h18 h19 h20 h21 h3 h4 (lc_Lk_mk h2 h22 h23 h24 h25 h26 h27 h28) ⟨h33, h34, h35, h36⟩ ⟨h37, h38, h39, h40⟩ ⟨h41, h42, h43, h44⟩ (hSN) h29 h30 (lc_Sl_fr hSl (fun i _ _ => (fr6 i (by omega) (by omega) (by omega)))) h31 h32, fun i _ => (fr6 i (by omega) (by omega) (by omega))⟩))
  · skip
    refine lc_bipush dX10_possible_4 (by decide) ?_
    exact lc_iret dX10_possible_6 rfl (Nat.le_of_ble_eq_true rfl) (Nat.le_of_ble_eq_true rfl) (hQ _ _ _ (by rw [lc_poss, if_pos (show x < 0 from by omega)]; exact ⟨rfl, rfl, lc_CI_mk (BF := (bF, bS, bQ, bM, bMO, bCA, bCT, bPO)) (SN := (nF, nS, nQ, nM, nMO, nCA, nCT, nPO)) hz_1 hz_2 hz_3 hz_4 hz_5 hz_6 hz_7 hz_9 hz_10 (lc_Lk_mk hz_8 hz_11 hz_12 hz_13 hz_14 hz_15 hz_16 hz_17) ⟨hz_18, hz_19, hz_20, hz_21⟩ ⟨hz_22, hz_23, hz_24, hz_25⟩ ⟨hz_26, hz_27, hz_28, hz_29⟩ (hSN) hz_30 hz_31 (lc_Sl_fr hSl (fun i _ _ => rfl)) hz_48 hz_49, fun i _ => rfl⟩))

def lc_look : lc_Ab → Int → lc_Ab × Int
  | (N, P, H, k, tx, z, bs, bt, sn, sr), d => ((N, P, H, k, tx, z, bs, bt, sn, sr), if d < 0 ∨ 2 < d then -102 else (lc_sv N.2.2.2.1 d.toNat N.1 N.2.1 N.2.2.1).1)

set_option maxRecDepth 100000 in
set_option maxHeartbeats 600000 in
theorem lc_cX10_look (l : Launch) (n : Nat) (f : Int → Int) (s q m mo ca ct : Int) (po : Int → Int) (P : lc_St) (H : Nat → lc_St) (k : Nat) (tx : Int → Int) (z : Int) (bs bt : Bool) (sn sr : Int) (d : Int) (σ : lc_S)  (hI : lc_CI σ ((f, s, q, m, mo, ca, ct, po), P, H, k, tx, z, bs, bt, sn, sr)) (hw : lc_wf ((f, s, q, m, mo, ca, ct, po), P, H, k, tx, z, bs, bt, sn, sr)) (hR_d : -2147483648 ≤ d ∧ d < 2147483648) : lc_Con l yX10_look cX10_look 2 (some .int) (lc_Rd 10) [.ref (1), .int (lc_i (d))] n σ (fun v n2 σ2 => v = some (.int (lc_i ((lc_look ((f, s, q, m, mo, ca, ct, po), P, H, k, tx, z, bs, bt, sn, sr) d).2))) ∧ n = n2 ∧ lc_CI σ2 ((lc_look ((f, s, q, m, mo, ca, ct, po), P, H, k, tx, z, bs, bt, sn, sr) d).1) ∧ ∀ i : Nat, 50 ≤ i ∨ i = 0 → σ2 i = σ i) := by
  obtain ⟨⟨hf9, hs9, hq9, hm9, hct9, hpo9, hkey9⟩, hwP, hwH, hk4, hz, htx⟩ := hw
  have hf : ∀ j : Int, 0 ≤ j → j < 36 → 0 ≤ f j ∧ f j ≤ 2 := hf9
  have hs : 1 ≤ s ∧ s ≤ 2 := hs9
  have hq : 0 ≤ q ∧ q ≤ 60 := hq9
  have hm : 4 ≤ m ∧ m ≤ 60 := hm9
  have hct : 1 ≤ ct ∧ ct ≤ 60 := hct9
  have hpo : ∀ i : Int, 0 ≤ i → i < ct → 0 ≤ po i ∧ po i < 450283905890997363 := hpo9
  have hkey : po (ct - 1) = lc_key f s 36 := hkey9
  have hpo4 : ∀ i : Int, 0 ≤ i → i < ct → 0 ≤ po i ∧ po i < 4611686018427387904 := fun i h1 h2 => ⟨(hpo i h1 h2).1, by have := (hpo i h1 h2).2; omega⟩
  obtain ⟨r, SN, BF, w, e1, e2, e3, u1, u2, ug, hc1, hc2, hc3, hc4, hc5, hc6, hc7, hc9, hc10, hLk, hN, hB, hS, hSN, hc30, hc31, hSl, hc48, hc49⟩ := hI
  have hb : 12 ≤ 19 := (by decide)
  obtain ⟨a1, a2, a3, ch, bf, d1, d2, d3, y1, y2, g1, x1, x2, g2, hk_8, hk_11, hk_12, hk_13, hk_14, hk_15, hk_16, hk_17⟩ := hLk
  obtain ⟨bF, bS, bQ, bM, bMO, bCA, bCT, bPO⟩ := BF
  obtain ⟨nF, nS, nQ, nM, nMO, nCA, nCT, nPO⟩ := SN
  obtain ⟨hN0, hN1, hN2, hN3⟩ := hN
  obtain ⟨hB0, hB1, hB2, hB3⟩ := hB
  obtain ⟨hS0, hS1, hS2, hS3⟩ := hS
  have hz_1 : σ (1) = some (.inr (10, [.ref (2), .ref (5), .ref (7), .ref (9), .ref (11), .ref (18), .ref (22), .ref (26), .ref (30), .ref (48), .int (lc_i (if bs = true then 1 else 0)), .int (lc_i (if bt = true then 1 else 0)), .int (lc_i (sn)), .int (lc_i (sr))]) : lc_Cel) := hc1
  have hz_2 : σ (2) = some (.inr (1, [.ref (3), .ref (4)]) : lc_Cel) := hc2
  have hz_3 : σ (3) = some (lc_aI 48 (lc_pt)) := hc3
  have hz_4 : σ (4) = some (lc_aI 72 (lc_sp)) := hc4
  have hz_5 : σ (5) = some (.inr (9, [.ref (2), .ref (6), .int (lc_i ((w).1)), .int (lc_i ((w).2.1)), .int (lc_i ((w).2.2.1)), .int (lc_i ((w).2.2.2))]) : lc_Cel) := hc5
  have hz_6 : σ (6) = some (.inr (8, [.ref (2), .int (lc_i (e1)), .int (lc_i (e2)), .int (lc_i (e3))]) : lc_Cel) := hc6
  have hz_7 : σ (7) = some (.inr (6, [.ref (2), .ref (8), .ref (5)]) : lc_Cel) := hc7
  have hz_9 : σ (9) = some (.inr (4, [.ref (10), .int (lc_i (u1)), .int (lc_i (u2))]) : lc_Cel) := hc9
  have hz_10 : σ (10) = some (lc_aI 364 (ug)) := hc10
  have hz_8 : σ (8) = some (.inr (8, [.ref (2), .int (lc_i (a1)), .int (lc_i (a2)), .int (lc_i (a3))]) : lc_Cel) := hk_8
  have hz_11 : σ (11) = some (.inr (3, [.ref (7), .ref (12), .ref (14), .ref (16), .int (lc_i (ch))]) : lc_Cel) := hk_11
  have hz_12 : σ (12) = some (.inr (0, [.ref (13), .int (lc_i (lc_cnt (bf) 1 36)), .int (lc_i (lc_cnt (bf) 2 36)), .int (lc_i (d1)), .int (lc_i (d2)), .int (lc_i (d3))]) : lc_Cel) := hk_12
  have hz_13 : σ (13) = some (lc_aI 36 (bf)) := hk_13
  have hz_14 : σ (14) = some (.inr (4, [.ref (15), .int (lc_i (y1)), .int (lc_i (y2))]) : lc_Cel) := hk_14
  have hz_15 : σ (15) = some (lc_aI 364 (g1)) := hk_15
  have hz_16 : σ (16) = some (.inr (4, [.ref (17), .int (lc_i (x1)), .int (lc_i (x2))]) : lc_Cel) := hk_16
  have hz_17 : σ (17) = some (lc_aI 364 (g2)) := hk_17
  have hz_30 : σ (30) = some (.inr (2, [.ref (31), .int (lc_i ((k : Int)))]) : lc_Cel) := hc30
  have hz_31 : σ (31) = some (lc_aS 4 (lc_h4 (r))) := hc31
  have hz_48 : σ (48) = some (.inr (5, [.ref (49), .int (lc_i (z))]) : lc_Cel) := hc48
  have hz_49 : σ (49) = some (lc_aC 80 (tx)) := hc49
  have hz_18 : σ (18) = some (.inr (7, [.ref (19), .int (lc_i (mo)), .int (lc_i (ca)), .ref (21), .int (lc_i (ct))]) : lc_Cel) := hN0
  have hz_19 : σ (19) = some (.inr (0, [.ref (20), .int (lc_i (lc_cnt (f) 1 36)), .int (lc_i (lc_cnt (f) 2 36)), .int (lc_i (s)), .int (lc_i (q)), .int (lc_i (m))]) : lc_Cel) := hN1
  have hz_20 : σ (20) = some (lc_aI 36 (f)) := hN2
  have hz_21 : σ (21) = some (lc_aJ 60 (fun i : Int => lc_j ((po) i))) := hN3
  have hz_22 : σ (22) = some (.inr (7, [.ref (23), .int (lc_i (bMO)), .int (lc_i (bCA)), .ref (25), .int (lc_i (bCT))]) : lc_Cel) := hB0
  have hz_23 : σ (23) = some (.inr (0, [.ref (24), .int (lc_i (lc_cnt (bF) 1 36)), .int (lc_i (lc_cnt (bF) 2 36)), .int (lc_i (bS)), .int (lc_i (bQ)), .int (lc_i (bM))]) : lc_Cel) := hB1
  have hz_24 : σ (24) = some (lc_aI 36 (bF)) := hB2
  have hz_25 : σ (25) = some (lc_aJ 60 (fun i : Int => lc_j ((bPO) i))) := hB3
  have hz_26 : σ (26) = some (.inr (7, [.ref (27), .int (lc_i (nMO)), .int (lc_i (nCA)), .ref (29), .int (lc_i (nCT))]) : lc_Cel) := hS0
  have hz_27 : σ (27) = some (.inr (0, [.ref (28), .int (lc_i (lc_cnt (nF) 1 36)), .int (lc_i (lc_cnt (nF) 2 36)), .int (lc_i (nS)), .int (lc_i (nQ)), .int (lc_i (nM))]) : lc_Cel) := hS1
  have hz_28 : σ (28) = some (lc_aI 36 (nF)) := hS2
  have hz_29 : σ (29) = some (lc_aJ 60 (fun i : Int => lc_j ((nPO) i))) := hS3
  refine lc_con RX10 false (by decide) rfl (fun h => absurd h (by decide)) (Nat.le_of_ble_eq_true rfl) ?_
  suffices H : ∀ Q : lc_QT, (∀ v n2 σ2, (fun v n2 σ2 => v = some (.int (lc_i ((lc_look ((f, s, q, m, mo, ca, ct, po), P, H, k, tx, z, bs, bt, sn, sr) d).2))) ∧ n = n2 ∧ lc_CI σ2 ((lc_look ((f, s, q, m, mo, ca, ct, po), P, H, k, tx, z, bs, bt, sn, sr) d).1) ∧ ∀ i : Nat, 50 ≤ i ∨ i = 0 → σ2 i = σ i : lc_QT) v n2 σ2 → Q v n2 σ2) → lc_V l RX10 cX10_look 2 (some .int) false (lc_Rd 10) (lc_G Q 0 0) lc_E0 0 0 n 0 [(0, .ref (1)), (1, .int (lc_i (d)))] [] σ from H _ (fun _ _ _ h => h)
  intro Q hQ
  refine lc_iload_n dX10_look_0 rfl 1 rfl ?_
  refine lc_if_lt (tgt := 9) dX10_look_1 (by decide) (by omega) (fun h_1_0 => ?_) (fun h_1_0 => ?_)
  · skip
    refine lc_bipush dX10_look_9 (by decide) ?_
    exact lc_iret dX10_look_11 rfl (Nat.le_of_ble_eq_true rfl) (Nat.le_of_ble_eq_true rfl) (hQ _ _ _ (by rw [lc_look, if_pos (show d < 0 ∨ 2 < d from by omega)]; exact ⟨rfl, rfl, lc_CI_mk (BF := (bF, bS, bQ, bM, bMO, bCA, bCT, bPO)) (SN := (nF, nS, nQ, nM, nMO, nCA, nCT, nPO)) hz_1 hz_2 hz_3 hz_4 hz_5 hz_6 hz_7 hz_9 hz_10 (lc_Lk_mk hz_8 hz_11 hz_12 hz_13 hz_14 hz_15 hz_16 hz_17) ⟨hz_18, hz_19, hz_20, hz_21⟩ ⟨hz_22, hz_23, hz_24, hz_25⟩ ⟨hz_26, hz_27, hz_28, hz_29⟩ (hSN) hz_30 hz_31 (lc_Sl_fr hSl (fun i _ _ => rfl)) hz_48 hz_49, fun i _ => rfl⟩))
  · skip
    refine lc_iload_n dX10_look_4 rfl 1 rfl ?_
    refine lc_iconst dX10_look_5 ?_
    refine lc_icmp_le (tgt := 12) dX10_look_6 (by decide) (by omega) (fun h_6_1 => ?_) (fun h_6_1 => ?_)
    · skip
      refine lc_aload_n dX10_look_12 rfl 0 rfl ?_
      refine lc_get dX10_look_13 lc_fX10_46 hz_1 rfl ?_
      refine lc_aload_n dX10_look_16 rfl 0 rfl ?_
      refine lc_get dX10_look_17 lc_fX10_53 hz_1 rfl ?_
      refine lc_get dX10_look_20 lc_fX10_81 hz_18 rfl ?_
      refine lc_iload_n dX10_look_23 rfl 1 rfl ?_
      refine lc_callV (As := [.ref (19), .int (lc_i (d))]) (stk := []) (b := 11) dX10_look_24 lc_mX10_226 lc_yX3_worthAhead hz_11 rfl (lc_cX3_worthAhead l n (ch) (a1) (a2) (a3) (bf) (d1) (d2) (d3) (y1) (y2) (g1) (x1) (x2) (g2) (f) (s) (q) (m) (d) σ hz_11 hz_7 hz_2 hz_3 hz_4 hz_8 hz_12 hz_13 hz_14 hz_15 hz_16 hz_17 hz_19 hz_20 hf hs hq hm (by omega)) rfl ⟨Nat.le_of_ble_eq_true rfl, Nat.le_of_ble_eq_true rfl⟩ ⟨Nat.le_of_ble_eq_true rfl, Nat.le_of_ble_eq_true rfl⟩ rfl (Nat.le_of_ble_eq_true rfl) (fun v27 n28 σ29 q30 => ?_)
      obtain ⟨rfl, rfl, ⟨e5, e6, e7, e8, e9, e10, e11, e12, e13, e14, e15, e16, e17, e18, h19, h20, h21, h22, h23, h24, h25, h26⟩, fr4⟩ := q30
      have h31 : σ29 (1) = some (.inr (10, [.ref (2), .ref (5), .ref (7), .ref (9), .ref (11), .ref (18), .ref (22), .ref (26), .ref (30), .ref (48), .int (lc_i (if bs = true then 1 else 0)), .int (lc_i (if bt = true then 1 else 0)), .int (lc_i (sn)), .int (lc_i (sr))]) : lc_Cel) := (fr4 _ (by omega) (by omega) (by omega) (by omega) (by omega) (by omega) (by omega) (by omega)).trans hz_1
      have h32 : σ29 (2) = some (.inr (1, [.ref (3), .ref (4)]) : lc_Cel) := (fr4 _ (by omega) (by omega) (by omega) (by omega) (by omega) (by omega) (by omega) (by omega)).trans hz_2
      have h33 : σ29 (3) = some (lc_aI 48 (lc_pt)) := (fr4 _ (by omega) (by omega) (by omega) (by omega) (by omega) (by omega) (by omega) (by omega)).trans hz_3
      have h34 : σ29 (4) = some (lc_aI 72 (lc_sp)) := (fr4 _ (by omega) (by omega) (by omega) (by omega) (by omega) (by omega) (by omega) (by omega)).trans hz_4
      have h35 : σ29 (5) = some (.inr (9, [.ref (2), .ref (6), .int (lc_i ((w).1)), .int (lc_i ((w).2.1)), .int (lc_i ((w).2.2.1)), .int (lc_i ((w).2.2.2))]) : lc_Cel) := (fr4 _ (by omega) (by omega) (by omega) (by omega) (by omega) (by omega) (by omega) (by omega)).trans hz_5
      have h36 : σ29 (6) = some (.inr (8, [.ref (2), .int (lc_i (e1)), .int (lc_i (e2)), .int (lc_i (e3))]) : lc_Cel) := (fr4 _ (by omega) (by omega) (by omega) (by omega) (by omega) (by omega) (by omega) (by omega)).trans hz_6
      have h37 : σ29 (7) = some (.inr (6, [.ref (2), .ref (8), .ref (5)]) : lc_Cel) := (fr4 _ (by omega) (by omega) (by omega) (by omega) (by omega) (by omega) (by omega) (by omega)).trans hz_7
      have h38 : σ29 (9) = some (.inr (4, [.ref (10), .int (lc_i (u1)), .int (lc_i (u2))]) : lc_Cel) := (fr4 _ (by omega) (by omega) (by omega) (by omega) (by omega) (by omega) (by omega) (by omega)).trans hz_9
      have h39 : σ29 (10) = some (lc_aI 364 (ug)) := (fr4 _ (by omega) (by omega) (by omega) (by omega) (by omega) (by omega) (by omega) (by omega)).trans hz_10
      have h40 : σ29 (30) = some (.inr (2, [.ref (31), .int (lc_i ((k : Int)))]) : lc_Cel) := (fr4 _ (by omega) (by omega) (by omega) (by omega) (by omega) (by omega) (by omega) (by omega)).trans hz_30
      have h41 : σ29 (31) = some (lc_aS 4 (lc_h4 (r))) := (fr4 _ (by omega) (by omega) (by omega) (by omega) (by omega) (by omega) (by omega) (by omega)).trans hz_31
      have h42 : σ29 (48) = some (.inr (5, [.ref (49), .int (lc_i (z))]) : lc_Cel) := (fr4 _ (by omega) (by omega) (by omega) (by omega) (by omega) (by omega) (by omega) (by omega)).trans hz_48
      have h43 : σ29 (49) = some (lc_aC 80 (tx)) := (fr4 _ (by omega) (by omega) (by omega) (by omega) (by omega) (by omega) (by omega) (by omega)).trans hz_49
      have h44 : σ29 (18) = some (.inr (7, [.ref (19), .int (lc_i (mo)), .int (lc_i (ca)), .ref (21), .int (lc_i (ct))]) : lc_Cel) := (fr4 _ (by omega) (by omega) (by omega) (by omega) (by omega) (by omega) (by omega) (by omega)).trans hz_18
      have h45 : σ29 (19) = some (.inr (0, [.ref (20), .int (lc_i (lc_cnt (f) 1 36)), .int (lc_i (lc_cnt (f) 2 36)), .int (lc_i (s)), .int (lc_i (q)), .int (lc_i (m))]) : lc_Cel) := (fr4 _ (by omega) (by omega) (by omega) (by omega) (by omega) (by omega) (by omega) (by omega)).trans hz_19
      have h46 : σ29 (20) = some (lc_aI 36 (f)) := (fr4 _ (by omega) (by omega) (by omega) (by omega) (by omega) (by omega) (by omega) (by omega)).trans hz_20
      have h47 : σ29 (21) = some (lc_aJ 60 (fun i : Int => lc_j ((po) i))) := (fr4 _ (by omega) (by omega) (by omega) (by omega) (by omega) (by omega) (by omega) (by omega)).trans hz_21
      have h48 : σ29 (22) = some (.inr (7, [.ref (23), .int (lc_i (bMO)), .int (lc_i (bCA)), .ref (25), .int (lc_i (bCT))]) : lc_Cel) := (fr4 _ (by omega) (by omega) (by omega) (by omega) (by omega) (by omega) (by omega) (by omega)).trans hz_22
      have h49 : σ29 (23) = some (.inr (0, [.ref (24), .int (lc_i (lc_cnt (bF) 1 36)), .int (lc_i (lc_cnt (bF) 2 36)), .int (lc_i (bS)), .int (lc_i (bQ)), .int (lc_i (bM))]) : lc_Cel) := (fr4 _ (by omega) (by omega) (by omega) (by omega) (by omega) (by omega) (by omega) (by omega)).trans hz_23
      have h50 : σ29 (24) = some (lc_aI 36 (bF)) := (fr4 _ (by omega) (by omega) (by omega) (by omega) (by omega) (by omega) (by omega) (by omega)).trans hz_24
      have h51 : σ29 (25) = some (lc_aJ 60 (fun i : Int => lc_j ((bPO) i))) := (fr4 _ (by omega) (by omega) (by omega) (by omega) (by omega) (by omega) (by omega) (by omega)).trans hz_25
      have h52 : σ29 (26) = some (.inr (7, [.ref (27), .int (lc_i (nMO)), .int (lc_i (nCA)), .ref (29), .int (lc_i (nCT))]) : lc_Cel) := (fr4 _ (by omega) (by omega) (by omega) (by omega) (by omega) (by omega) (by omega) (by omega)).trans hz_26
      have h53 : σ29 (27) = some (.inr (0, [.ref (28), .int (lc_i (lc_cnt (nF) 1 36)), .int (lc_i (lc_cnt (nF) 2 36)), .int (lc_i (nS)), .int (lc_i (nQ)), .int (lc_i (nM))]) : lc_Cel) := (fr4 _ (by omega) (by omega) (by omega) (by omega) (by omega) (by omega) (by omega) (by omega)).trans hz_27
      have h54 : σ29 (28) = some (lc_aI 36 (nF)) := (fr4 _ (by omega) (by omega) (by omega) (by omega) (by omega) (by omega) (by omega) (by omega)).trans hz_28
      have h55 : σ29 (29) = some (lc_aJ 60 (fun i : Int => lc_j ((nPO) i))) := (fr4 _ (by omega) (by omega) (by omega) (by omega) (by omega) (by omega) (by omega) (by omega)).trans hz_29
      exact lc_iret dX10_look_27 rfl (Nat.le_of_ble_eq_true rfl) (Nat.le_of_ble_eq_true rfl) (hQ _ _ _ (by rw [lc_look, if_neg (show ¬ (d < 0 ∨ 2 < d) from by omega)]; exact ⟨rfl, rfl, lc_CI_mk (BF := (bF, bS, bQ, bM, bMO, bCA, bCT, bPO)) (SN := (nF, nS, nQ, nM, nMO, nCA, nCT, nPO)) h31 h32 h33 h34 h35 h36 h37 h38 h39 (lc_Lk_mk h19 h20 h21 h22 h23 h24 h25 h26) ⟨h44, h45, h46, h47⟩ ⟨h48, h49, h50, h51⟩ ⟨h52, h53, h54, h55⟩ (hSN) h40 h41 (lc_Sl_fr hSl (fun i _ _ => (fr4 i (by omega) (by omega) (by omega) (by omega) (by omega) (by omega) (by omega) (by omega)))) h42 h43, fun i _ => (fr4 i (by omega) (by omega) (by omega) (by omega) (by omega) (by omega) (by omega) (by omega))⟩))
    · skip
      refine lc_bipush dX10_look_9 (by decide) ?_
      exact lc_iret dX10_look_11 rfl (Nat.le_of_ble_eq_true rfl) (Nat.le_of_ble_eq_true rfl) (hQ _ _ _ (by rw [lc_look, if_pos (show d < 0 ∨ 2 < d from by omega)]; exact ⟨rfl, rfl, lc_CI_mk (BF := (bF, bS, bQ, bM, bMO, bCA, bCT, bPO)) (SN := (nF, nS, nQ, nM, nMO, nCA, nCT, nPO)) hz_1 hz_2 hz_3 hz_4 hz_5 hz_6 hz_7 hz_9 hz_10 (lc_Lk_mk hz_8 hz_11 hz_12 hz_13 hz_14 hz_15 hz_16 hz_17) ⟨hz_18, hz_19, hz_20, hz_21⟩ ⟨hz_22, hz_23, hz_24, hz_25⟩ ⟨hz_26, hz_27, hz_28, hz_29⟩ (hSN) hz_30 hz_31 (lc_Sl_fr hSl (fun i _ _ => rfl)) hz_48 hz_49, fun i _ => rfl⟩))

def lc_best : lc_Ab → Int → lc_Ab × Int
  | (N, P, H, k, tx, z, bs, bt, sn, sr), d => ((N, P, H, k, tx, z, bs, bt, sn, sr), if d < 1 ∨ 2 < d then -102 else if (lc_sv N.2.2.2.1 d.toNat N.1 N.2.1 N.2.2.1).2 < 0 then -105 else (lc_sv N.2.2.2.1 d.toNat N.1 N.2.1 N.2.2.1).2)

set_option maxRecDepth 100000 in
set_option maxHeartbeats 600000 in
theorem lc_cX10_best (l : Launch) (n : Nat) (f : Int → Int) (s q m mo ca ct : Int) (po : Int → Int) (P : lc_St) (H : Nat → lc_St) (k : Nat) (tx : Int → Int) (z : Int) (bs bt : Bool) (sn sr : Int) (d : Int) (σ : lc_S)  (hI : lc_CI σ ((f, s, q, m, mo, ca, ct, po), P, H, k, tx, z, bs, bt, sn, sr)) (hw : lc_wf ((f, s, q, m, mo, ca, ct, po), P, H, k, tx, z, bs, bt, sn, sr)) (hR_d : -2147483648 ≤ d ∧ d < 2147483648) : lc_Con l yX10_best cX10_best 3 (some .int) (lc_Rd 10) [.ref (1), .int (lc_i (d))] n σ (fun v n2 σ2 => v = some (.int (lc_i ((lc_best ((f, s, q, m, mo, ca, ct, po), P, H, k, tx, z, bs, bt, sn, sr) d).2))) ∧ n = n2 ∧ lc_CI σ2 ((lc_best ((f, s, q, m, mo, ca, ct, po), P, H, k, tx, z, bs, bt, sn, sr) d).1) ∧ ∀ i : Nat, 50 ≤ i ∨ i = 0 → σ2 i = σ i) := by
  obtain ⟨⟨hf9, hs9, hq9, hm9, hct9, hpo9, hkey9⟩, hwP, hwH, hk4, hz, htx⟩ := hw
  have hf : ∀ j : Int, 0 ≤ j → j < 36 → 0 ≤ f j ∧ f j ≤ 2 := hf9
  have hs : 1 ≤ s ∧ s ≤ 2 := hs9
  have hq : 0 ≤ q ∧ q ≤ 60 := hq9
  have hm : 4 ≤ m ∧ m ≤ 60 := hm9
  have hct : 1 ≤ ct ∧ ct ≤ 60 := hct9
  have hpo : ∀ i : Int, 0 ≤ i → i < ct → 0 ≤ po i ∧ po i < 450283905890997363 := hpo9
  have hkey : po (ct - 1) = lc_key f s 36 := hkey9
  have hpo4 : ∀ i : Int, 0 ≤ i → i < ct → 0 ≤ po i ∧ po i < 4611686018427387904 := fun i h1 h2 => ⟨(hpo i h1 h2).1, by have := (hpo i h1 h2).2; omega⟩
  obtain ⟨r, SN, BF, w, e1, e2, e3, u1, u2, ug, hc1, hc2, hc3, hc4, hc5, hc6, hc7, hc9, hc10, hLk, hN, hB, hS, hSN, hc30, hc31, hSl, hc48, hc49⟩ := hI
  have hb : 12 ≤ 19 := (by decide)
  obtain ⟨a1, a2, a3, ch, bf, d1, d2, d3, y1, y2, g1, x1, x2, g2, hk_8, hk_11, hk_12, hk_13, hk_14, hk_15, hk_16, hk_17⟩ := hLk
  obtain ⟨bF, bS, bQ, bM, bMO, bCA, bCT, bPO⟩ := BF
  obtain ⟨nF, nS, nQ, nM, nMO, nCA, nCT, nPO⟩ := SN
  obtain ⟨hN0, hN1, hN2, hN3⟩ := hN
  obtain ⟨hB0, hB1, hB2, hB3⟩ := hB
  obtain ⟨hS0, hS1, hS2, hS3⟩ := hS
  have hz_1 : σ (1) = some (.inr (10, [.ref (2), .ref (5), .ref (7), .ref (9), .ref (11), .ref (18), .ref (22), .ref (26), .ref (30), .ref (48), .int (lc_i (if bs = true then 1 else 0)), .int (lc_i (if bt = true then 1 else 0)), .int (lc_i (sn)), .int (lc_i (sr))]) : lc_Cel) := hc1
  have hz_2 : σ (2) = some (.inr (1, [.ref (3), .ref (4)]) : lc_Cel) := hc2
  have hz_3 : σ (3) = some (lc_aI 48 (lc_pt)) := hc3
  have hz_4 : σ (4) = some (lc_aI 72 (lc_sp)) := hc4
  have hz_5 : σ (5) = some (.inr (9, [.ref (2), .ref (6), .int (lc_i ((w).1)), .int (lc_i ((w).2.1)), .int (lc_i ((w).2.2.1)), .int (lc_i ((w).2.2.2))]) : lc_Cel) := hc5
  have hz_6 : σ (6) = some (.inr (8, [.ref (2), .int (lc_i (e1)), .int (lc_i (e2)), .int (lc_i (e3))]) : lc_Cel) := hc6
  have hz_7 : σ (7) = some (.inr (6, [.ref (2), .ref (8), .ref (5)]) : lc_Cel) := hc7
  have hz_9 : σ (9) = some (.inr (4, [.ref (10), .int (lc_i (u1)), .int (lc_i (u2))]) : lc_Cel) := hc9
  have hz_10 : σ (10) = some (lc_aI 364 (ug)) := hc10
  have hz_8 : σ (8) = some (.inr (8, [.ref (2), .int (lc_i (a1)), .int (lc_i (a2)), .int (lc_i (a3))]) : lc_Cel) := hk_8
  have hz_11 : σ (11) = some (.inr (3, [.ref (7), .ref (12), .ref (14), .ref (16), .int (lc_i (ch))]) : lc_Cel) := hk_11
  have hz_12 : σ (12) = some (.inr (0, [.ref (13), .int (lc_i (lc_cnt (bf) 1 36)), .int (lc_i (lc_cnt (bf) 2 36)), .int (lc_i (d1)), .int (lc_i (d2)), .int (lc_i (d3))]) : lc_Cel) := hk_12
  have hz_13 : σ (13) = some (lc_aI 36 (bf)) := hk_13
  have hz_14 : σ (14) = some (.inr (4, [.ref (15), .int (lc_i (y1)), .int (lc_i (y2))]) : lc_Cel) := hk_14
  have hz_15 : σ (15) = some (lc_aI 364 (g1)) := hk_15
  have hz_16 : σ (16) = some (.inr (4, [.ref (17), .int (lc_i (x1)), .int (lc_i (x2))]) : lc_Cel) := hk_16
  have hz_17 : σ (17) = some (lc_aI 364 (g2)) := hk_17
  have hz_30 : σ (30) = some (.inr (2, [.ref (31), .int (lc_i ((k : Int)))]) : lc_Cel) := hc30
  have hz_31 : σ (31) = some (lc_aS 4 (lc_h4 (r))) := hc31
  have hz_48 : σ (48) = some (.inr (5, [.ref (49), .int (lc_i (z))]) : lc_Cel) := hc48
  have hz_49 : σ (49) = some (lc_aC 80 (tx)) := hc49
  have hz_18 : σ (18) = some (.inr (7, [.ref (19), .int (lc_i (mo)), .int (lc_i (ca)), .ref (21), .int (lc_i (ct))]) : lc_Cel) := hN0
  have hz_19 : σ (19) = some (.inr (0, [.ref (20), .int (lc_i (lc_cnt (f) 1 36)), .int (lc_i (lc_cnt (f) 2 36)), .int (lc_i (s)), .int (lc_i (q)), .int (lc_i (m))]) : lc_Cel) := hN1
  have hz_20 : σ (20) = some (lc_aI 36 (f)) := hN2
  have hz_21 : σ (21) = some (lc_aJ 60 (fun i : Int => lc_j ((po) i))) := hN3
  have hz_22 : σ (22) = some (.inr (7, [.ref (23), .int (lc_i (bMO)), .int (lc_i (bCA)), .ref (25), .int (lc_i (bCT))]) : lc_Cel) := hB0
  have hz_23 : σ (23) = some (.inr (0, [.ref (24), .int (lc_i (lc_cnt (bF) 1 36)), .int (lc_i (lc_cnt (bF) 2 36)), .int (lc_i (bS)), .int (lc_i (bQ)), .int (lc_i (bM))]) : lc_Cel) := hB1
  have hz_24 : σ (24) = some (lc_aI 36 (bF)) := hB2
  have hz_25 : σ (25) = some (lc_aJ 60 (fun i : Int => lc_j ((bPO) i))) := hB3
  have hz_26 : σ (26) = some (.inr (7, [.ref (27), .int (lc_i (nMO)), .int (lc_i (nCA)), .ref (29), .int (lc_i (nCT))]) : lc_Cel) := hS0
  have hz_27 : σ (27) = some (.inr (0, [.ref (28), .int (lc_i (lc_cnt (nF) 1 36)), .int (lc_i (lc_cnt (nF) 2 36)), .int (lc_i (nS)), .int (lc_i (nQ)), .int (lc_i (nM))]) : lc_Cel) := hS1
  have hz_28 : σ (28) = some (lc_aI 36 (nF)) := hS2
  have hz_29 : σ (29) = some (lc_aJ 60 (fun i : Int => lc_j ((nPO) i))) := hS3
  refine lc_con RX10 false (by decide) rfl (fun h => absurd h (by decide)) (Nat.le_of_ble_eq_true rfl) ?_
  suffices H : ∀ Q : lc_QT, (∀ v n2 σ2, (fun v n2 σ2 => v = some (.int (lc_i ((lc_best ((f, s, q, m, mo, ca, ct, po), P, H, k, tx, z, bs, bt, sn, sr) d).2))) ∧ n = n2 ∧ lc_CI σ2 ((lc_best ((f, s, q, m, mo, ca, ct, po), P, H, k, tx, z, bs, bt, sn, sr) d).1) ∧ ∀ i : Nat, 50 ≤ i ∨ i = 0 → σ2 i = σ i : lc_QT) v n2 σ2 → Q v n2 σ2) → lc_V l RX10 cX10_best 3 (some .int) false (lc_Rd 10) (lc_G Q 0 0) lc_E0 0 0 n 0 [(0, .ref (1)), (1, .int (lc_i (d)))] [] σ from H _ (fun _ _ _ h => h)
  intro Q hQ
  refine lc_iload_n dX10_best_0 rfl 1 rfl ?_
  refine lc_iconst dX10_best_1 ?_
  refine lc_icmp_lt (tgt := 10) dX10_best_2 (by decide) (by omega) (fun h_2_0 => ?_) (fun h_2_0 => ?_)
  · skip
    refine lc_bipush dX10_best_10 (by decide) ?_
    exact lc_iret dX10_best_12 rfl (Nat.le_of_ble_eq_true rfl) (Nat.le_of_ble_eq_true rfl) (hQ _ _ _ (by rw [lc_best, if_pos (show d < 1 ∨ 2 < d from by omega)]; exact ⟨rfl, rfl, lc_CI_mk (BF := (bF, bS, bQ, bM, bMO, bCA, bCT, bPO)) (SN := (nF, nS, nQ, nM, nMO, nCA, nCT, nPO)) hz_1 hz_2 hz_3 hz_4 hz_5 hz_6 hz_7 hz_9 hz_10 (lc_Lk_mk hz_8 hz_11 hz_12 hz_13 hz_14 hz_15 hz_16 hz_17) ⟨hz_18, hz_19, hz_20, hz_21⟩ ⟨hz_22, hz_23, hz_24, hz_25⟩ ⟨hz_26, hz_27, hz_28, hz_29⟩ (hSN) hz_30 hz_31 (lc_Sl_fr hSl (fun i _ _ => rfl)) hz_48 hz_49, fun i _ => rfl⟩))
  · skip
    refine lc_iload_n dX10_best_5 rfl 1 rfl ?_
    refine lc_iconst dX10_best_6 ?_
    refine lc_icmp_le (tgt := 13) dX10_best_7 (by decide) (by omega) (fun h_7_1 => ?_) (fun h_7_1 => ?_)
    · skip
      refine lc_aload_n dX10_best_13 rfl 0 rfl ?_
      refine lc_get dX10_best_14 lc_fX10_46 hz_1 rfl ?_
      refine lc_aload_n dX10_best_17 rfl 0 rfl ?_
      refine lc_get dX10_best_18 lc_fX10_53 hz_1 rfl ?_
      refine lc_get dX10_best_21 lc_fX10_81 hz_18 rfl ?_
      refine lc_iload_n dX10_best_24 rfl 1 rfl ?_
      refine lc_callV (As := [.ref (19), .int (lc_i (d))]) (stk := []) (b := 11) dX10_best_25 lc_mX10_110 lc_yX3_bestMove hz_11 rfl (lc_cX3_bestMove l n (ch) (a1) (a2) (a3) (bf) (d1) (d2) (d3) (y1) (y2) (g1) (x1) (x2) (g2) (f) (s) (q) (m) (d) σ hz_11 hz_7 hz_2 hz_3 hz_4 hz_8 hz_12 hz_13 hz_14 hz_15 hz_16 hz_17 hz_19 hz_20 hf hs hq hm (by omega)) rfl ⟨Nat.le_of_ble_eq_true rfl, Nat.le_of_ble_eq_true rfl⟩ ⟨Nat.le_of_ble_eq_true rfl, Nat.le_of_ble_eq_true rfl⟩ rfl (Nat.le_of_ble_eq_true rfl) (fun v27 n28 σ29 q30 => ?_)
      obtain ⟨rfl, rfl, ⟨e5, e6, e7, e8, e9, e10, e11, e12, e13, e14, e15, e16, e17, e18, h19, h20, h21, h22, h23, h24, h25, h26⟩, fr4⟩ := q30
      have h31 : σ29 (1) = some (.inr (10, [.ref (2), .ref (5), .ref (7), .ref (9), .ref (11), .ref (18), .ref (22), .ref (26), .ref (30), .ref (48), .int (lc_i (if bs = true then 1 else 0)), .int (lc_i (if bt = true then 1 else 0)), .int (lc_i (sn)), .int (lc_i (sr))]) : lc_Cel) := (fr4 _ (by omega) (by omega) (by omega) (by omega) (by omega) (by omega) (by omega) (by omega)).trans hz_1
      have h32 : σ29 (2) = some (.inr (1, [.ref (3), .ref (4)]) : lc_Cel) := (fr4 _ (by omega) (by omega) (by omega) (by omega) (by omega) (by omega) (by omega) (by omega)).trans hz_2
      have h33 : σ29 (3) = some (lc_aI 48 (lc_pt)) := (fr4 _ (by omega) (by omega) (by omega) (by omega) (by omega) (by omega) (by omega) (by omega)).trans hz_3
      have h34 : σ29 (4) = some (lc_aI 72 (lc_sp)) := (fr4 _ (by omega) (by omega) (by omega) (by omega) (by omega) (by omega) (by omega) (by omega)).trans hz_4
      have h35 : σ29 (5) = some (.inr (9, [.ref (2), .ref (6), .int (lc_i ((w).1)), .int (lc_i ((w).2.1)), .int (lc_i ((w).2.2.1)), .int (lc_i ((w).2.2.2))]) : lc_Cel) := (fr4 _ (by omega) (by omega) (by omega) (by omega) (by omega) (by omega) (by omega) (by omega)).trans hz_5
      have h36 : σ29 (6) = some (.inr (8, [.ref (2), .int (lc_i (e1)), .int (lc_i (e2)), .int (lc_i (e3))]) : lc_Cel) := (fr4 _ (by omega) (by omega) (by omega) (by omega) (by omega) (by omega) (by omega) (by omega)).trans hz_6
      have h37 : σ29 (7) = some (.inr (6, [.ref (2), .ref (8), .ref (5)]) : lc_Cel) := (fr4 _ (by omega) (by omega) (by omega) (by omega) (by omega) (by omega) (by omega) (by omega)).trans hz_7
      have h38 : σ29 (9) = some (.inr (4, [.ref (10), .int (lc_i (u1)), .int (lc_i (u2))]) : lc_Cel) := (fr4 _ (by omega) (by omega) (by omega) (by omega) (by omega) (by omega) (by omega) (by omega)).trans hz_9
      have h39 : σ29 (10) = some (lc_aI 364 (ug)) := (fr4 _ (by omega) (by omega) (by omega) (by omega) (by omega) (by omega) (by omega) (by omega)).trans hz_10
      have h40 : σ29 (30) = some (.inr (2, [.ref (31), .int (lc_i ((k : Int)))]) : lc_Cel) := (fr4 _ (by omega) (by omega) (by omega) (by omega) (by omega) (by omega) (by omega) (by omega)).trans hz_30
      have h41 : σ29 (31) = some (lc_aS 4 (lc_h4 (r))) := (fr4 _ (by omega) (by omega) (by omega) (by omega) (by omega) (by omega) (by omega) (by omega)).trans hz_31
      have h42 : σ29 (48) = some (.inr (5, [.ref (49), .int (lc_i (z))]) : lc_Cel) := (fr4 _ (by omega) (by omega) (by omega) (by omega) (by omega) (by omega) (by omega) (by omega)).trans hz_48
      have h43 : σ29 (49) = some (lc_aC 80 (tx)) := (fr4 _ (by omega) (by omega) (by omega) (by omega) (by omega) (by omega) (by omega) (by omega)).trans hz_49
      have h44 : σ29 (18) = some (.inr (7, [.ref (19), .int (lc_i (mo)), .int (lc_i (ca)), .ref (21), .int (lc_i (ct))]) : lc_Cel) := (fr4 _ (by omega) (by omega) (by omega) (by omega) (by omega) (by omega) (by omega) (by omega)).trans hz_18
      have h45 : σ29 (19) = some (.inr (0, [.ref (20), .int (lc_i (lc_cnt (f) 1 36)), .int (lc_i (lc_cnt (f) 2 36)), .int (lc_i (s)), .int (lc_i (q)), .int (lc_i (m))]) : lc_Cel) := (fr4 _ (by omega) (by omega) (by omega) (by omega) (by omega) (by omega) (by omega) (by omega)).trans hz_19
      have h46 : σ29 (20) = some (lc_aI 36 (f)) := (fr4 _ (by omega) (by omega) (by omega) (by omega) (by omega) (by omega) (by omega) (by omega)).trans hz_20
      have h47 : σ29 (21) = some (lc_aJ 60 (fun i : Int => lc_j ((po) i))) := (fr4 _ (by omega) (by omega) (by omega) (by omega) (by omega) (by omega) (by omega) (by omega)).trans hz_21
      have h48 : σ29 (22) = some (.inr (7, [.ref (23), .int (lc_i (bMO)), .int (lc_i (bCA)), .ref (25), .int (lc_i (bCT))]) : lc_Cel) := (fr4 _ (by omega) (by omega) (by omega) (by omega) (by omega) (by omega) (by omega) (by omega)).trans hz_22
      have h49 : σ29 (23) = some (.inr (0, [.ref (24), .int (lc_i (lc_cnt (bF) 1 36)), .int (lc_i (lc_cnt (bF) 2 36)), .int (lc_i (bS)), .int (lc_i (bQ)), .int (lc_i (bM))]) : lc_Cel) := (fr4 _ (by omega) (by omega) (by omega) (by omega) (by omega) (by omega) (by omega) (by omega)).trans hz_23
      have h50 : σ29 (24) = some (lc_aI 36 (bF)) := (fr4 _ (by omega) (by omega) (by omega) (by omega) (by omega) (by omega) (by omega) (by omega)).trans hz_24
      have h51 : σ29 (25) = some (lc_aJ 60 (fun i : Int => lc_j ((bPO) i))) := (fr4 _ (by omega) (by omega) (by omega) (by omega) (by omega) (by omega) (by omega) (by omega)).trans hz_25
      have h52 : σ29 (26) = some (.inr (7, [.ref (27), .int (lc_i (nMO)), .int (lc_i (nCA)), .ref (29), .int (lc_i (nCT))]) : lc_Cel) := (fr4 _ (by omega) (by omega) (by omega) (by omega) (by omega) (by omega) (by omega) (by omega)).trans hz_26
      have h53 : σ29 (27) = some (.inr (0, [.ref (28), .int (lc_i (lc_cnt (nF) 1 36)), .int (lc_i (lc_cnt (nF) 2 36)), .int (lc_i (nS)), .int (lc_i (nQ)), .int (lc_i (nM))]) : lc_Cel) := (fr4 _ (by omega) (by omega) (by omega) (by omega) (by omega) (by omega) (by omega) (by omega)).trans hz_27
      have h54 : σ29 (28) = some (lc_aI 36 (nF)) := (fr4 _ (by omega) (by omega) (by omega) (by omega) (by omega) (by omega) (by omega) (by omega)).trans hz_28
      have h55 : σ29 (29) = some (lc_aJ 60 (fun i : Int => lc_j ((nPO) i))) := (fr4 _ (by omega) (by omega) (by omega) (by omega) (by omega) (by omega) (by omega) (by omega)).trans hz_29
      have hsc := lc_sv_c (m := m) (d := d.toNat) (f := f) (q := q) hs
      refine lc_istore_n (lv' := [(0, .ref (1)), (1, .int (lc_i (d))), (2, .int (lc_i ((lc_sv (m) (d).toNat (f) (s) (q)).2)))]) dX10_best_28 rfl (by decide) rfl ?_
      refine lc_iload_n dX10_best_29 rfl 2 rfl ?_
      refine lc_if_ge (tgt := 38) dX10_best_30 (by decide) (by omega) (fun h_30_55 => ?_) (fun h_30_55 => ?_)
      · skip
        refine lc_iload_n dX10_best_38 rfl 2 rfl ?_
        exact lc_iret dX10_best_39 rfl (Nat.le_of_ble_eq_true rfl) (Nat.le_of_ble_eq_true rfl) (hQ _ _ _ (by rw [lc_best, if_neg (show ¬ (d < 1 ∨ 2 < d) from by omega), if_neg (show ¬ ((lc_sv m d.toNat f s q).2 < 0) from by omega)]; exact ⟨rfl, rfl, lc_CI_mk (BF := (bF, bS, bQ, bM, bMO, bCA, bCT, bPO)) (SN := (nF, nS, nQ, nM, nMO, nCA, nCT, nPO)) h31 h32 h33 h34 h35 h36 h37 h38 h39 (lc_Lk_mk h19 h20 h21 h22 h23 h24 h25 h26) ⟨h44, h45, h46, h47⟩ ⟨h48, h49, h50, h51⟩ ⟨h52, h53, h54, h55⟩ (hSN) h40 h41 (lc_Sl_fr hSl (fun i _ _ => (fr4 i (by omega) (by omega) (by omega) (by omega) (by omega) (by omega) (by omega) (by omega)))) h42 h43, fun i _ => (fr4 i (by omega) (by omega) (by omega) (by omega) (by omega) (by omega) (by omega) (by omega))⟩))
      · skip
        refine lc_bipush dX10_best_33 (by decide) ?_
        refine lc_goto (tgt := 39) dX10_best_35 (by decide) ?_
        exact lc_iret dX10_best_39 rfl (Nat.le_of_ble_eq_true rfl) (Nat.le_of_ble_eq_true rfl) (hQ _ _ _ (by rw [lc_best, if_neg (show ¬ (d < 1 ∨ 2 < d) from by omega), if_pos (show (lc_sv m d.toNat f s q).2 < 0 from by omega)]; exact ⟨rfl, rfl, lc_CI_mk (BF := (bF, bS, bQ, bM, bMO, bCA, bCT, bPO)) (SN := (nF, nS, nQ, nM, nMO, nCA, nCT, nPO)) h31 h32 h33 h34 h35 h36 h37 h38 h39 (lc_Lk_mk h19 h20 h21 h22 h23 h24 h25 h26) ⟨h44, h45, h46, h47⟩ ⟨h48, h49, h50, h51⟩ ⟨h52, h53, h54, h55⟩ (hSN) h40 h41 (lc_Sl_fr hSl (fun i _ _ => (fr4 i (by omega) (by omega) (by omega) (by omega) (by omega) (by omega) (by omega) (by omega)))) h42 h43, fun i _ => (fr4 i (by omega) (by omega) (by omega) (by omega) (by omega) (by omega) (by omega) (by omega))⟩))
    · skip
      refine lc_bipush dX10_best_10 (by decide) ?_
      exact lc_iret dX10_best_12 rfl (Nat.le_of_ble_eq_true rfl) (Nat.le_of_ble_eq_true rfl) (hQ _ _ _ (by rw [lc_best, if_pos (show d < 1 ∨ 2 < d from by omega)]; exact ⟨rfl, rfl, lc_CI_mk (BF := (bF, bS, bQ, bM, bMO, bCA, bCT, bPO)) (SN := (nF, nS, nQ, nM, nMO, nCA, nCT, nPO)) hz_1 hz_2 hz_3 hz_4 hz_5 hz_6 hz_7 hz_9 hz_10 (lc_Lk_mk hz_8 hz_11 hz_12 hz_13 hz_14 hz_15 hz_16 hz_17) ⟨hz_18, hz_19, hz_20, hz_21⟩ ⟨hz_22, hz_23, hz_24, hz_25⟩ ⟨hz_26, hz_27, hz_28, hz_29⟩ (hSN) hz_30 hz_31 (lc_Sl_fr hSl (fun i _ _ => rfl)) hz_48 hz_49, fun i _ => rfl⟩))
