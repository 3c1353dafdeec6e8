/-! LoopCaptures: the other calls -/
theorem lc_fold_m {V : (Int → Int) → Int → Int → Int} {f : Int → Int} {s q : Int} : ∀ (L : List Int) (a : Int × Int), (L.foldl (lc_st V f s q) a).2 = a.2 ∨ (L.foldl (lc_st V f s q) a).2 ∈ L
  | [], _ => Or.inl rfl
  | x :: r, a => by
    rcases lc_fold_m r (lc_st V f s q a x) with h | h
    · have h2 : (lc_st V f s q a x).2 = a.2 ∨ (lc_st V f s q a x).2 = x := by
        unfold lc_st
        split
        · exact Or.inr rfl
        · exact Or.inl rfl
      rcases h2 with h2 | h2
      · exact Or.inl (h.trans h2)
      · refine Or.inr ?_
        show (r.foldl (lc_st V f s q) (lc_st V f s q a x)).2 ∈ x :: r
        rw [h, h2]
        exact List.mem_cons_self
    · exact Or.inr (List.mem_cons_of_mem _ h)
theorem lc_sv_m (m : Int) (d : Nat) (f : Int → Int) (s q : Int) : (lc_sv m d f s q).2 = -1 ∨ (lc_sv m d f s q).2 ∈ lc_mv f s q m := by
  cases d with
  | zero => exact Or.inl rfl
  | succ d => exact lc_fold_m (V := fun f s q => (lc_sv m d f s q).1) (lc_mv f s q m) (-1000, -1)
theorem lc_sv_c {m : Int} {d : Nat} {f : Int → Int} {s q : Int} (hs : 1 ≤ s ∧ s ≤ 2) : -1 ≤ (lc_sv m d f s q).2 ∧ (lc_sv m d f s q).2 < 3600 ∧ (0 ≤ (lc_sv m d f s q).2 → (0 ≤ (lc_sv m d f s q).2 / 100 ∧ (lc_sv m d f s q).2 / 100 < 36) ∧ (0 ≤ (lc_sv m d f s q).2 % 100 ∧ (lc_sv m d f s q).2 % 100 < 36)) := by
  rcases lc_sv_m m d f s q with h | h
  · rw [h]; exact ⟨by decide, by decide, fun h9 => absurd h9 (by decide)⟩
  · have h1 := lc_mv_r h
    exact ⟨by omega, h1.2, fun _ => (lc_mv_mem hs.1 h).1⟩
theorem lc_wy_ok {f : Int → Int} {fr to : Int} (h : 0 ≤ fr ∧ fr < 36) : lc_wok (lc_wy f fr to) := lc_two_ok (lc_two_ok (lc_w0 _) (lc_sp_r (by omega))) (lc_sp_r (by omega))

def lc_play : lc_Ab → Int → lc_Ab × Int
  | (N, P, H, k, tx, z, bs, bt, sn, sr), d => if d < 1 ∨ 2 < d then ((N, P, H, k, tx, z, bs, bt, sn, sr), -102) else if (lc_sv N.2.2.2.1 d.toNat N.1 N.2.1 N.2.2.1).2 < 0 then ((N, P, H, k, tx, z, bs, bt, sn, sr), -104) else ((lc_mvN N ((lc_sv N.2.2.2.1 d.toNat N.1 N.2.1 N.2.2.1).2 / 100) ((lc_sv N.2.2.2.1 d.toNat N.1 N.2.1 N.2.2.1).2 % 100), P, lc_pu H k N, lc_hk k, tx, z, bs, bt, sn, sr), (lc_sv N.2.2.2.1 d.toNat N.1 N.2.1 N.2.2.1).2)

set_option maxRecDepth 100000 in
set_option maxHeartbeats 600000 in
theorem lc_cX10_play (l : Launch) (n : Nat) (f : Int → Int) (s q m mo ca ct : Int) (po : Int → Int) (P : lc_St) (H : Nat → lc_St) (k : Nat) (tx : Int → Int) (z : Int) (bs bt : Bool) (sn sr : Int) (d : Int) (σ : lc_S)  (hI : lc_CI σ ((f, s, q, m, mo, ca, ct, po), P, H, k, tx, z, bs, bt, sn, sr)) (hw : lc_wf ((f, s, q, m, mo, ca, ct, po), P, H, k, tx, z, bs, bt, sn, sr)) (hR_d : -2147483648 ≤ d ∧ d < 2147483648) : lc_Con l yX10_play cX10_play 3 (some .int) (lc_Rd 10) [.ref (1), .int (lc_i (d))] n σ (fun v n2 σ2 => v = some (.int (lc_i ((lc_play ((f, s, q, m, mo, ca, ct, po), P, H, k, tx, z, bs, bt, sn, sr) d).2))) ∧ n = n2 ∧ lc_CI σ2 ((lc_play ((f, s, q, m, mo, ca, ct, po), P, H, k, tx, z, bs, bt, sn, sr) d).1) ∧ ∀ i : Nat, 50 ≤ i ∨ i = 0 → σ2 i = σ i) := by
  obtain ⟨⟨hf9, hs9, hq9, hm9, hct9, hpo9, hkey9⟩, hwP, hwH, hk4, hz, htx⟩ := hw
  have hf : ∀ j : Int, 0 ≤ j → j < 36 → 0 ≤ f j ∧ f j ≤ 2 := hf9
  have hs : 1 ≤ s ∧ s ≤ 2 := hs9
  have hq : 0 ≤ q ∧ q ≤ 60 := hq9
  have hm : 4 ≤ m ∧ m ≤ 60 := hm9
  have hct : 1 ≤ ct ∧ ct ≤ 60 := hct9
  have hpo : ∀ i : Int, 0 ≤ i → i < ct → 0 ≤ po i ∧ po i < 450283905890997363 := hpo9
  have hkey : po (ct - 1) = lc_key f s 36 := hkey9
  have hpo4 : ∀ i : Int, 0 ≤ i → i < ct → 0 ≤ po i ∧ po i < 4611686018427387904 := fun i h1 h2 => ⟨(hpo i h1 h2).1, by have := (hpo i h1 h2).2; omega⟩
  obtain ⟨r, SN, BF, w, e1, e2, e3, u1, u2, ug, hc1, hc2, hc3, hc4, hc5, hc6, hc7, hc9, hc10, hLk, hN, hB, hS, hSN, hc30, hc31, hSl, hc48, hc49⟩ := hI
  have hb : 12 ≤ 19 := (by decide)
  obtain ⟨a1, a2, a3, ch, bf, d1, d2, d3, y1, y2, g1, x1, x2, g2, hk_8, hk_11, hk_12, hk_13, hk_14, hk_15, hk_16, hk_17⟩ := hLk
  obtain ⟨bF, bS, bQ, bM, bMO, bCA, bCT, bPO⟩ := BF
  obtain ⟨nF, nS, nQ, nM, nMO, nCA, nCT, nPO⟩ := SN
  obtain ⟨hN0, hN1, hN2, hN3⟩ := hN
  obtain ⟨hB0, hB1, hB2, hB3⟩ := hB
  obtain ⟨hS0, hS1, hS2, hS3⟩ := hS
  have hz_1 : σ (1) = some (.inr (10, [.ref (2), .ref (5), .ref (7), .ref (9), .ref (11), .ref (18), .ref (22), .ref (26), .ref (30), .ref (48), .int (lc_i (if bs = true then 1 else 0)), .int (lc_i (if bt = true then 1 else 0)), .int (lc_i (sn)), .int (lc_i (sr))]) : lc_Cel) := hc1
  have hz_2 : σ (2) = some (.inr (1, [.ref (3), .ref (4)]) : lc_Cel) := hc2
  have hz_3 : σ (3) = some (lc_aI 48 (lc_pt)) := hc3
  have hz_4 : σ (4) = some (lc_aI 72 (lc_sp)) := hc4
  have hz_5 : σ (5) = some (.inr (9, [.ref (2), .ref (6), .int (lc_i ((w).1)), .int (lc_i ((w).2.1)), .int (lc_i ((w).2.2.1)), .int (lc_i ((w).2.2.2))]) : lc_Cel) := hc5
  have hz_6 : σ (6) = some (.inr (8, [.ref (2), .int (lc_i (e1)), .int (lc_i (e2)), .int (lc_i (e3))]) : lc_Cel) := hc6
  have hz_7 : σ (7) = some (.inr (6, [.ref (2), .ref (8), .ref (5)]) : lc_Cel) := hc7
  have hz_9 : σ (9) = some (.inr (4, [.ref (10), .int (lc_i (u1)), .int (lc_i (u2))]) : lc_Cel) := hc9
  have hz_10 : σ (10) = some (lc_aI 364 (ug)) := hc10
  have hz_8 : σ (8) = some (.inr (8, [.ref (2), .int (lc_i (a1)), .int (lc_i (a2)), .int (lc_i (a3))]) : lc_Cel) := hk_8
  have hz_11 : σ (11) = some (.inr (3, [.ref (7), .ref (12), .ref (14), .ref (16), .int (lc_i (ch))]) : lc_Cel) := hk_11
  have hz_12 : σ (12) = some (.inr (0, [.ref (13), .int (lc_i (lc_cnt (bf) 1 36)), .int (lc_i (lc_cnt (bf) 2 36)), .int (lc_i (d1)), .int (lc_i (d2)), .int (lc_i (d3))]) : lc_Cel) := hk_12
  have hz_13 : σ (13) = some (lc_aI 36 (bf)) := hk_13
  have hz_14 : σ (14) = some (.inr (4, [.ref (15), .int (lc_i (y1)), .int (lc_i (y2))]) : lc_Cel) := hk_14
  have hz_15 : σ (15) = some (lc_aI 364 (g1)) := hk_15
  have hz_16 : σ (16) = some (.inr (4, [.ref (17), .int (lc_i (x1)), .int (lc_i (x2))]) : lc_Cel) := hk_16
  have hz_17 : σ (17) = some (lc_aI 364 (g2)) := hk_17
  have hz_30 : σ (30) = some (.inr (2, [.ref (31), .int (lc_i ((k : Int)))]) : lc_Cel) := hc30
  have hz_31 : σ (31) = some (lc_aS 4 (lc_h4 (r))) := hc31
  have hz_48 : σ (48) = some (.inr (5, [.ref (49), .int (lc_i (z))]) : lc_Cel) := hc48
  have hz_49 : σ (49) = some (lc_aC 80 (tx)) := hc49
  have hz_18 : σ (18) = some (.inr (7, [.ref (19), .int (lc_i (mo)), .int (lc_i (ca)), .ref (21), .int (lc_i (ct))]) : lc_Cel) := hN0
  have hz_19 : σ (19) = some (.inr (0, [.ref (20), .int (lc_i (lc_cnt (f) 1 36)), .int (lc_i (lc_cnt (f) 2 36)), .int (lc_i (s)), .int (lc_i (q)), .int (lc_i (m))]) : lc_Cel) := hN1
  have hz_20 : σ (20) = some (lc_aI 36 (f)) := hN2
  have hz_21 : σ (21) = some (lc_aJ 60 (fun i : Int => lc_j ((po) i))) := hN3
  have hz_22 : σ (22) = some (.inr (7, [.ref (23), .int (lc_i (bMO)), .int (lc_i (bCA)), .ref (25), .int (lc_i (bCT))]) : lc_Cel) := hB0
  have hz_23 : σ (23) = some (.inr (0, [.ref (24), .int (lc_i (lc_cnt (bF) 1 36)), .int (lc_i (lc_cnt (bF) 2 36)), .int (lc_i (bS)), .int (lc_i (bQ)), .int (lc_i (bM))]) : lc_Cel) := hB1
  have hz_24 : σ (24) = some (lc_aI 36 (bF)) := hB2
  have hz_25 : σ (25) = some (lc_aJ 60 (fun i : Int => lc_j ((bPO) i))) := hB3
  have hz_26 : σ (26) = some (.inr (7, [.ref (27), .int (lc_i (nMO)), .int (lc_i (nCA)), .ref (29), .int (lc_i (nCT))]) : lc_Cel) := hS0
  have hz_27 : σ (27) = some (.inr (0, [.ref (28), .int (lc_i (lc_cnt (nF) 1 36)), .int (lc_i (lc_cnt (nF) 2 36)), .int (lc_i (nS)), .int (lc_i (nQ)), .int (lc_i (nM))]) : lc_Cel) := hS1
  have hz_28 : σ (28) = some (lc_aI 36 (nF)) := hS2
  have hz_29 : σ (29) = some (lc_aJ 60 (fun i : Int => lc_j ((nPO) i))) := hS3
  obtain ⟨t, ht⟩ : ∃ t : Nat, t = 32 + 4 * ((r + k) % 4) := ⟨_, rfl⟩
  obtain ⟨⟨f3, s3, q3, m3, mo3, ca3, ct3, po3⟩, hT0, hT1, hT2, hT3⟩ := lc_Sl_at hSl ht
  have hz_t : σ (t) = some (.inr (7, [.ref (t + 1), .int (lc_i (mo3)), .int (lc_i (ca3)), .ref (t + 3), .int (lc_i (ct3))]) : lc_Cel) := hT0
  have hz_t_1 : σ (t + 1) = some (.inr (0, [.ref (t + 2), .int (lc_i (lc_cnt (f3) 1 36)), .int (lc_i (lc_cnt (f3) 2 36)), .int (lc_i (s3)), .int (lc_i (q3)), .int (lc_i (m3))]) : lc_Cel) := hT1
  have hz_t_2 : σ (t + 2) = some (lc_aI 36 (f3)) := hT2
  have hz_t_3 : σ (t + 3) = some (lc_aJ 60 (fun i : Int => lc_j ((po3) i))) := hT3
  refine lc_con RX10 false (by decide) rfl (fun h => absurd h (by decide)) (Nat.le_of_ble_eq_true rfl) ?_
  suffices H : ∀ Q : lc_QT, (∀ v n2 σ2, (fun v n2 σ2 => v = some (.int (lc_i ((lc_play ((f, s, q, m, mo, ca, ct, po), P, H, k, tx, z, bs, bt, sn, sr) d).2))) ∧ n = n2 ∧ lc_CI σ2 ((lc_play ((f, s, q, m, mo, ca, ct, po), P, H, k, tx, z, bs, bt, sn, sr) d).1) ∧ ∀ i : Nat, 50 ≤ i ∨ i = 0 → σ2 i = σ i : lc_QT) v n2 σ2 → Q v n2 σ2) → lc_V l RX10 cX10_play 3 (some .int) false (lc_Rd 10) (lc_G Q 0 0) lc_E0 0 0 n 0 [(0, .ref (1)), (1, .int (lc_i (d)))] [] σ from H _ (fun _ _ _ h => h)
  intro Q hQ
  refine lc_iload_n dX10_play_0 rfl 1 rfl ?_
  refine lc_iconst dX10_play_1 ?_
  refine lc_icmp_lt (tgt := 10) dX10_play_2 (by decide) (by omega) (fun h_2_0 => ?_) (fun h_2_0 => ?_)
  · skip
    refine lc_bipush dX10_play_10 (by decide) ?_
    exact lc_iret dX10_play_12 rfl (Nat.le_of_ble_eq_true rfl) (Nat.le_of_ble_eq_true rfl) (hQ _ _ _ (by rw [lc_play, if_pos (show d < 1 ∨ 2 < d from by omega)]; exact ⟨rfl, rfl, lc_CI_mk (BF := (bF, bS, bQ, bM, bMO, bCA, bCT, bPO)) (SN := (nF, nS, nQ, nM, nMO, nCA, nCT, nPO)) hz_1 hz_2 hz_3 hz_4 hz_5 hz_6 hz_7 hz_9 hz_10 (lc_Lk_mk hz_8 hz_11 hz_12 hz_13 hz_14 hz_15 hz_16 hz_17) ⟨hz_18, hz_19, hz_20, hz_21⟩ ⟨hz_22, hz_23, hz_24, hz_25⟩ ⟨hz_26, hz_27, hz_28, hz_29⟩ (hSN) hz_30 hz_31 (lc_Sl_fr hSl (fun i _ _ => rfl)) hz_48 hz_49, fun i _ => rfl⟩))
  · skip
    refine lc_iload_n dX10_play_5 rfl 1 rfl ?_
    refine lc_iconst dX10_play_6 ?_
    refine lc_icmp_le (tgt := 13) dX10_play_7 (by decide) (by omega) (fun h_7_1 => ?_) (fun h_7_1 => ?_)
    · skip
      refine lc_aload_n dX10_play_13 rfl 0 rfl ?_
      refine lc_get dX10_play_14 lc_fX10_46 hz_1 rfl ?_
      refine lc_aload_n dX10_play_17 rfl 0 rfl ?_
      refine lc_get dX10_play_18 lc_fX10_53 hz_1 rfl ?_
      refine lc_get dX10_play_21 lc_fX10_81 hz_18 rfl ?_
      refine lc_iload_n dX10_play_24 rfl 1 rfl ?_
      refine lc_callV (As := [.ref (19), .int (lc_i (d))]) (stk := []) (b := 11) dX10_play_25 lc_mX10_110 lc_yX3_bestMove hz_11 rfl (lc_cX3_bestMove l n (ch) (a1) (a2) (a3) (bf) (d1) (d2) (d3) (y1) (y2) (g1) (x1) (x2) (g2) (f) (s) (q) (m) (d) σ hz_11 hz_7 hz_2 hz_3 hz_4 hz_8 hz_12 hz_13 hz_14 hz_15 hz_16 hz_17 hz_19 hz_20 hf hs hq hm (by omega)) rfl ⟨Nat.le_of_ble_eq_true rfl, Nat.le_of_ble_eq_true rfl⟩ ⟨Nat.le_of_ble_eq_true rfl, Nat.le_of_ble_eq_true rfl⟩ rfl (Nat.le_of_ble_eq_true rfl) (fun v27 n28 σ29 q30 => ?_)
      obtain ⟨rfl, rfl, ⟨e5, e6, e7, e8, e9, e10, e11, e12, e13, e14, e15, e16, e17, e18, h19, h20, h21, h22, h23, h24, h25, h26⟩, fr4⟩ := q30
      have h31 : σ29 (1) = some (.inr (10, [.ref (2), .ref (5), .ref (7), .ref (9), .ref (11), .ref (18), .ref (22), .ref (26), .ref (30), .ref (48), .int (lc_i (if bs = true then 1 else 0)), .int (lc_i (if bt = true then 1 else 0)), .int (lc_i (sn)), .int (lc_i (sr))]) : lc_Cel) := (fr4 _ (by omega) (by omega) (by omega) (by omega) (by omega) (by omega) (by omega) (by omega)).trans hz_1
      have h32 : σ29 (2) = some (.inr (1, [.ref (3), .ref (4)]) : lc_Cel) := (fr4 _ (by omega) (by omega) (by omega) (by omega) (by omega) (by omega) (by omega) (by omega)).trans hz_2
      have h33 : σ29 (3) = some (lc_aI 48 (lc_pt)) := (fr4 _ (by omega) (by omega) (by omega) (by omega) (by omega) (by omega) (by omega) (by omega)).trans hz_3
      have h34 : σ29 (4) = some (lc_aI 72 (lc_sp)) := (fr4 _ (by omega) (by omega) (by omega) (by omega) (by omega) (by omega) (by omega) (by omega)).trans hz_4
      have h35 : σ29 (5) = some (.inr (9, [.ref (2), .ref (6), .int (lc_i ((w).1)), .int (lc_i ((w).2.1)), .int (lc_i ((w).2.2.1)), .int (lc_i ((w).2.2.2))]) : lc_Cel) := (fr4 _ (by omega) (by omega) (by omega) (by omega) (by omega) (by omega) (by omega) (by omega)).trans hz_5
      have h36 : σ29 (6) = some (.inr (8, [.ref (2), .int (lc_i (e1)), .int (lc_i (e2)), .int (lc_i (e3))]) : lc_Cel) := (fr4 _ (by omega) (by omega) (by omega) (by omega) (by omega) (by omega) (by omega) (by omega)).trans hz_6
      have h37 : σ29 (7) = some (.inr (6, [.ref (2), .ref (8), .ref (5)]) : lc_Cel) := (fr4 _ (by omega) (by omega) (by omega) (by omega) (by omega) (by omega) (by omega) (by omega)).trans hz_7
      have h38 : σ29 (9) = some (.inr (4, [.ref (10), .int (lc_i (u1)), .int (lc_i (u2))]) : lc_Cel) := (fr4 _ (by omega) (by omega) (by omega) (by omega) (by omega) (by omega) (by omega) (by omega)).trans hz_9
      have h39 : σ29 (10) = some (lc_aI 364 (ug)) := (fr4 _ (by omega) (by omega) (by omega) (by omega) (by omega) (by omega) (by omega) (by omega)).trans hz_10
      have h40 : σ29 (30) = some (.inr (2, [.ref (31), .int (lc_i ((k : Int)))]) : lc_Cel) := (fr4 _ (by omega) (by omega) (by omega) (by omega) (by omega) (by omega) (by omega) (by omega)).trans hz_30
      have h41 : σ29 (31) = some (lc_aS 4 (lc_h4 (r))) := (fr4 _ (by omega) (by omega) (by omega) (by omega) (by omega) (by omega) (by omega) (by omega)).trans hz_31
      have h42 : σ29 (48) = some (.inr (5, [.ref (49), .int (lc_i (z))]) : lc_Cel) := (fr4 _ (by omega) (by omega) (by omega) (by omega) (by omega) (by omega) (by omega) (by omega)).trans hz_48
      have h43 : σ29 (49) = some (lc_aC 80 (tx)) := (fr4 _ (by omega) (by omega) (by omega) (by omega) (by omega) (by omega) (by omega) (by omega)).trans hz_49
      have h44 : σ29 (18) = some (.inr (7, [.ref (19), .int (lc_i (mo)), .int (lc_i (ca)), .ref (21), .int (lc_i (ct))]) : lc_Cel) := (fr4 _ (by omega) (by omega) (by omega) (by omega) (by omega) (by omega) (by omega) (by omega)).trans hz_18
      have h45 : σ29 (19) = some (.inr (0, [.ref (20), .int (lc_i (lc_cnt (f) 1 36)), .int (lc_i (lc_cnt (f) 2 36)), .int (lc_i (s)), .int (lc_i (q)), .int (lc_i (m))]) : lc_Cel) := (fr4 _ (by omega) (by omega) (by omega) (by omega) (by omega) (by omega) (by omega) (by omega)).trans hz_19
      have h46 : σ29 (20) = some (lc_aI 36 (f)) := (fr4 _ (by omega) (by omega) (by omega) (by omega) (by omega) (by omega) (by omega) (by omega)).trans hz_20
      have h47 : σ29 (21) = some (lc_aJ 60 (fun i : Int => lc_j ((po) i))) := (fr4 _ (by omega) (by omega) (by omega) (by omega) (by omega) (by omega) (by omega) (by omega)).trans hz_21
      have h48 : σ29 (22) = some (.inr (7, [.ref (23), .int (lc_i (bMO)), .int (lc_i (bCA)), .ref (25), .int (lc_i (bCT))]) : lc_Cel) := (fr4 _ (by omega) (by omega) (by omega) (by omega) (by omega) (by omega) (by omega) (by omega)).trans hz_22
      have h49 : σ29 (23) = some (.inr (0, [.ref (24), .int (lc_i (lc_cnt (bF) 1 36)), .int (lc_i (lc_cnt (bF) 2 36)), .int (lc_i (bS)), .int (lc_i (bQ)), .int (lc_i (bM))]) : lc_Cel) := (fr4 _ (by omega) (by omega) (by omega) (by omega) (by omega) (by omega) (by omega) (by omega)).trans hz_23
      have h50 : σ29 (24) = some (lc_aI 36 (bF)) := (fr4 _ (by omega) (by omega) (by omega) (by omega) (by omega) (by omega) (by omega) (by omega)).trans hz_24
      have h51 : σ29 (25) = some (lc_aJ 60 (fun i : Int => lc_j ((bPO) i))) := (fr4 _ (by omega) (by omega) (by omega) (by omega) (by omega) (by omega) (by omega) (by omega)).trans hz_25
      have h52 : σ29 (26) = some (.inr (7, [.ref (27), .int (lc_i (nMO)), .int (lc_i (nCA)), .ref (29), .int (lc_i (nCT))]) : lc_Cel) := (fr4 _ (by omega) (by omega) (by omega) (by omega) (by omega) (by omega) (by omega) (by omega)).trans hz_26
      have h53 : σ29 (27) = some (.inr (0, [.ref (28), .int (lc_i (lc_cnt (nF) 1 36)), .int (lc_i (lc_cnt (nF) 2 36)), .int (lc_i (nS)), .int (lc_i (nQ)), .int (lc_i (nM))]) : lc_Cel) := (fr4 _ (by omega) (by omega) (by omega) (by omega) (by omega) (by omega) (by omega) (by omega)).trans hz_27
      have h54 : σ29 (28) = some (lc_aI 36 (nF)) := (fr4 _ (by omega) (by omega) (by omega) (by omega) (by omega) (by omega) (by omega) (by omega)).trans hz_28
      have h55 : σ29 (29) = some (lc_aJ 60 (fun i : Int => lc_j ((nPO) i))) := (fr4 _ (by omega) (by omega) (by omega) (by omega) (by omega) (by omega) (by omega) (by omega)).trans hz_29
      have h56 : σ29 (t) = some (.inr (7, [.ref (t + 1), .int (lc_i (mo3)), .int (lc_i (ca3)), .ref (t + 3), .int (lc_i (ct3))]) : lc_Cel) := (fr4 _ (by omega) (by omega) (by omega) (by omega) (by omega) (by omega) (by omega) (by omega)).trans hz_t
      have h57 : σ29 (t + 1) = some (.inr (0, [.ref (t + 2), .int (lc_i (lc_cnt (f3) 1 36)), .int (lc_i (lc_cnt (f3) 2 36)), .int (lc_i (s3)), .int (lc_i (q3)), .int (lc_i (m3))]) : lc_Cel) := (fr4 _ (by omega) (by omega) (by omega) (by omega) (by omega) (by omega) (by omega) (by omega)).trans hz_t_1
      have h58 : σ29 (t + 2) = some (lc_aI 36 (f3)) := (fr4 _ (by omega) (by omega) (by omega) (by omega) (by omega) (by omega) (by omega) (by omega)).trans hz_t_2
      have h59 : σ29 (t + 3) = some (lc_aJ 60 (fun i : Int => lc_j ((po3) i))) := (fr4 _ (by omega) (by omega) (by omega) (by omega) (by omega) (by omega) (by omega) (by omega)).trans hz_t_3
      have hsc := lc_sv_c (m := m) (d := d.toNat) (f := f) (q := q) hs
      refine lc_istore_n (lv' := [(0, .ref (1)), (1, .int (lc_i (d))), (2, .int (lc_i ((lc_sv (m) (d).toNat (f) (s) (q)).2)))]) dX10_play_28 rfl (by decide) rfl ?_
      refine lc_iload_n dX10_play_29 rfl 2 rfl ?_
      refine lc_if_ge (tgt := 36) dX10_play_30 (by decide) (by omega) (fun h_30_59 => ?_) (fun h_30_59 => ?_)
      · skip
        have hsc2 := hsc.2.2 (by omega)
        refine lc_aload_n dX10_play_36 rfl 0 rfl ?_
        refine lc_get dX10_play_37 lc_fX10_66 h31 rfl ?_
        refine lc_aload_n dX10_play_40 rfl 0 rfl ?_
        refine lc_get dX10_play_41 lc_fX10_53 h31 rfl ?_
        refine lc_callV (As := [.ref (18)]) (stk := []) (b := 30) dX10_play_44 lc_mX10_89 lc_yX2_push h40 rfl (lc_cX2_push l n (r) (k) (18) (f) (s) (q) (m) (mo) (ca) (ct) (po) (t) (f3) (s3) (q3) (m3) (mo3) (ca3) (ct3) (po3) σ29 h40 h41 h44 h45 h46 h47 h56 h57 h58 h59 (hk4) (ht) (by omega) (lc_Sl_st (lc_Sl_fr hSl (fun i _ _ => (fr4 i (by omega) (by omega) (by omega) (by omega) (by omega) (by omega) (by omega) (by omega)))))) rfl ⟨Nat.le_of_ble_eq_true rfl, Nat.le_of_ble_eq_true rfl⟩ ⟨Nat.le_of_ble_eq_true rfl, Nat.le_of_ble_eq_true rfl⟩ rfl (Nat.le_of_ble_eq_true rfl) (fun v68 n69 σ70 q71 => ?_)
        obtain ⟨rfl, rfl, h62, h63, h64, h65, h66, h67, fr61⟩ := q71
        have h72 : σ70 (1) = some (.inr (10, [.ref (2), .ref (5), .ref (7), .ref (9), .ref (11), .ref (18), .ref (22), .ref (26), .ref (30), .ref (48), .int (lc_i (if bs = true then 1 else 0)), .int (lc_i (if bt = true then 1 else 0)), .int (lc_i (sn)), .int (lc_i (sr))]) : lc_Cel) := (fr61 _ (by omega) (by omega) (by omega) (by omega) (by omega) (by omega)).trans h31
        have h73 : σ70 (2) = some (.inr (1, [.ref (3), .ref (4)]) : lc_Cel) := (fr61 _ (by omega) (by omega) (by omega) (by omega) (by omega) (by omega)).trans h32
        have h74 : σ70 (3) = some (lc_aI 48 (lc_pt)) := (fr61 _ (by omega) (by omega) (by omega) (by omega) (by omega) (by omega)).trans h33
        have h75 : σ70 (4) = some (lc_aI 72 (lc_sp)) := (fr61 _ (by omega) (by omega) (by omega) (by omega) (by omega) (by omega)).trans h34
        have h76 : σ70 (5) = some (.inr (9, [.ref (2), .ref (6), .int (lc_i ((w).1)), .int (lc_i ((w).2.1)), .int (lc_i ((w).2.2.1)), .int (lc_i ((w).2.2.2))]) : lc_Cel) := (fr61 _ (by omega) (by omega) (by omega) (by omega) (by omega) (by omega)).trans h35
        have h77 : σ70 (6) = some (.inr (8, [.ref (2), .int (lc_i (e1)), .int (lc_i (e2)), .int (lc_i (e3))]) : lc_Cel) := (fr61 _ (by omega) (by omega) (by omega) (by omega) (by omega) (by omega)).trans h36
        have h78 : σ70 (7) = some (.inr (6, [.ref (2), .ref (8), .ref (5)]) : lc_Cel) := (fr61 _ (by omega) (by omega) (by omega) (by omega) (by omega) (by omega)).trans h37
        have h79 : σ70 (9) = some (.inr (4, [.ref (10), .int (lc_i (u1)), .int (lc_i (u2))]) : lc_Cel) := (fr61 _ (by omega) (by omega) (by omega) (by omega) (by omega) (by omega)).trans h38
        have h80 : σ70 (10) = some (lc_aI 364 (ug)) := (fr61 _ (by omega) (by omega) (by omega) (by omega) (by omega) (by omega)).trans h39
        have h81 : σ70 (48) = some (.inr (5, [.ref (49), .int (lc_i (z))]) : lc_Cel) := (fr61 _ (by omega) (by omega) (by omega) (by omega) (by omega) (by omega)).trans h42
        have h82 : σ70 (49) = some (lc_aC 80 (tx)) := (fr61 _ (by omega) (by omega) (by omega) (by omega) (by omega) (by omega)).trans h43
        have h83 : σ70 (18) = some (.inr (7, [.ref (19), .int (lc_i (mo)), .int (lc_i (ca)), .ref (21), .int (lc_i (ct))]) : lc_Cel) := (fr61 _ (by omega) (by omega) (by omega) (by omega) (by omega) (by omega)).trans h44
        have h84 : σ70 (19) = some (.inr (0, [.ref (20), .int (lc_i (lc_cnt (f) 1 36)), .int (lc_i (lc_cnt (f) 2 36)), .int (lc_i (s)), .int (lc_i (q)), .int (lc_i (m))]) : lc_Cel) := (fr61 _ (by omega) (by omega) (by omega) (by omega) (by omega) (by omega)).trans h45
        have h85 : σ70 (20) = some (lc_aI 36 (f)) := (fr61 _ (by omega) (by omega) (by omega) (by omega) (by omega) (by omega)).trans h46
        have h86 : σ70 (21) = some (lc_aJ 60 (fun i : Int => lc_j ((po) i))) := (fr61 _ (by omega) (by omega) (by omega) (by omega) (by omega) (by omega)).trans h47
        have h87 : σ70 (22) = some (.inr (7, [.ref (23), .int (lc_i (bMO)), .int (lc_i (bCA)), .ref (25), .int (lc_i (bCT))]) : lc_Cel) := (fr61 _ (by omega) (by omega) (by omega) (by omega) (by omega) (by omega)).trans h48
        have h88 : σ70 (23) = some (.inr (0, [.ref (24), .int (lc_i (lc_cnt (bF) 1 36)), .int (lc_i (lc_cnt (bF) 2 36)), .int (lc_i (bS)), .int (lc_i (bQ)), .int (lc_i (bM))]) : lc_Cel) := (fr61 _ (by omega) (by omega) (by omega) (by omega) (by omega) (by omega)).trans h49
        have h89 : σ70 (24) = some (lc_aI 36 (bF)) := (fr61 _ (by omega) (by omega) (by omega) (by omega) (by omega) (by omega)).trans h50
        have h90 : σ70 (25) = some (lc_aJ 60 (fun i : Int => lc_j ((bPO) i))) := (fr61 _ (by omega) (by omega) (by omega) (by omega) (by omega) (by omega)).trans h51
        have h91 : σ70 (26) = some (.inr (7, [.ref (27), .int (lc_i (nMO)), .int (lc_i (nCA)), .ref (29), .int (lc_i (nCT))]) : lc_Cel) := (fr61 _ (by omega) (by omega) (by omega) (by omega) (by omega) (by omega)).trans h52
        have h92 : σ70 (27) = some (.inr (0, [.ref (28), .int (lc_i (lc_cnt (nF) 1 36)), .int (lc_i (lc_cnt (nF) 2 36)), .int (lc_i (nS)), .int (lc_i (nQ)), .int (lc_i (nM))]) : lc_Cel) := (fr61 _ (by omega) (by omega) (by omega) (by omega) (by omega) (by omega)).trans h53
        have h93 : σ70 (28) = some (lc_aI 36 (nF)) := (fr61 _ (by omega) (by omega) (by omega) (by omega) (by omega) (by omega)).trans h54
        have h94 : σ70 (29) = some (lc_aJ 60 (fun i : Int => lc_j ((nPO) i))) := (fr61 _ (by omega) (by omega) (by omega) (by omega) (by omega) (by omega)).trans h55
        have h95 : σ70 (8) = some (.inr (8, [.ref (2), .int (lc_i (e5)), .int (lc_i (e6)), .int (lc_i (e7))]) : lc_Cel) := (fr61 _ (by omega) (by omega) (by omega) (by omega) (by omega) (by omega)).trans h19
        have h96 : σ70 (11) = some (.inr (3, [.ref (7), .ref (12), .ref (14), .ref (16), .int (lc_i (e8))]) : lc_Cel) := (fr61 _ (by omega) (by omega) (by omega) (by omega) (by omega) (by omega)).trans h20
        have h97 : σ70 (12) = some (.inr (0, [.ref (13), .int (lc_i (lc_cnt (e9) 1 36)), .int (lc_i (lc_cnt (e9) 2 36)), .int (lc_i (e10)), .int (lc_i (e11)), .int (lc_i (e12))]) : lc_Cel) := (fr61 _ (by omega) (by omega) (by omega) (by omega) (by omega) (by omega)).trans h21
        have h98 : σ70 (13) = some (lc_aI 36 (e9)) := (fr61 _ (by omega) (by omega) (by omega) (by omega) (by omega) (by omega)).trans h22
        have h99 : σ70 (14) = some (.inr (4, [.ref (15), .int (lc_i (e13)), .int (lc_i (e14))]) : lc_Cel) := (fr61 _ (by omega) (by omega) (by omega) (by omega) (by omega) (by omega)).trans h23
        have h100 : σ70 (15) = some (lc_aI 364 (e15)) := (fr61 _ (by omega) (by omega) (by omega) (by omega) (by omega) (by omega)).trans h24
        have h101 : σ70 (16) = some (.inr (4, [.ref (17), .int (lc_i (e16)), .int (lc_i (e17))]) : lc_Cel) := (fr61 _ (by omega) (by omega) (by omega) (by omega) (by omega) (by omega)).trans h25
        have h102 : σ70 (17) = some (lc_aI 364 (e18)) := (fr61 _ (by omega) (by omega) (by omega) (by omega) (by omega) (by omega)).trans h26
        refine lc_aload_n dX10_play_47 rfl 0 rfl ?_
        refine lc_get dX10_play_48 lc_fX10_53 h72 rfl ?_
        refine lc_iload_n dX10_play_51 rfl 2 rfl ?_
        refine lc_bipush dX10_play_52 (by decide) ?_
        refine lc_idiv dX10_play_54 (by omega) ?_
        refine lc_iload_n dX10_play_55 rfl 2 rfl ?_
        refine lc_bipush dX10_play_56 (by decide) ?_
        refine lc_irem dX10_play_58 (by omega) ?_
        refine lc_callV (As := [.int (lc_i (((lc_sv (m) (d).toNat (f) (s) (q)).2) / (100))), .int (lc_i (((lc_sv (m) (d).toNat (f) (s) (q)).2) % (100)))]) (stk := []) (b := 18) dX10_play_59 lc_mX10_93 lc_yX7_makeMove h83 rfl (lc_cX7_makeMove l n (18) (f) (s) (q) (m) (mo) (ca) (ct) (po) (((lc_sv (m) (d).toNat (f) (s) (q)).2) / (100)) (((lc_sv (m) (d).toNat (f) (s) (q)).2) % (100)) σ70 h83 h84 h85 h86 (hf) (hs) (by omega) (by omega)) rfl ⟨Nat.le_of_ble_eq_true rfl, Nat.le_of_ble_eq_true rfl⟩ ⟨Nat.le_of_ble_eq_true rfl, Nat.le_of_ble_eq_true rfl⟩ rfl (Nat.le_of_ble_eq_true rfl) (fun v108 n109 σ110 q111 => ?_)
        obtain ⟨rfl, rfl, h104, h105, h106, h107, fr103⟩ := q111
        have h112 : σ110 (1) = some (.inr (10, [.ref (2), .ref (5), .ref (7), .ref (9), .ref (11), .ref (18), .ref (22), .ref (26), .ref (30), .ref (48), .int (lc_i (if bs = true then 1 else 0)), .int (lc_i (if bt = true then 1 else 0)), .int (lc_i (sn)), .int (lc_i (sr))]) : lc_Cel) := (fr103 _ (by omega) (by omega) (by omega) (by omega)).trans h72
        have h113 : σ110 (2) = some (.inr (1, [.ref (3), .ref (4)]) : lc_Cel) := (fr103 _ (by omega) (by omega) (by omega) (by omega)).trans h73
        have h114 : σ110 (3) = some (lc_aI 48 (lc_pt)) := (fr103 _ (by omega) (by omega) (by omega) (by omega)).trans h74
        have h115 : σ110 (4) = some (lc_aI 72 (lc_sp)) := (fr103 _ (by omega) (by omega) (by omega) (by omega)).trans h75
        have h116 : σ110 (5) = some (.inr (9, [.ref (2), .ref (6), .int (lc_i ((w).1)), .int (lc_i ((w).2.1)), .int (lc_i ((w).2.2.1)), .int (lc_i ((w).2.2.2))]) : lc_Cel) := (fr103 _ (by omega) (by omega) (by omega) (by omega)).trans h76
        have h117 : σ110 (6) = some (.inr (8, [.ref (2), .int (lc_i (e1)), .int (lc_i (e2)), .int (lc_i (e3))]) : lc_Cel) := (fr103 _ (by omega) (by omega) (by omega) (by omega)).trans h77
        have h118 : σ110 (7) = some (.inr (6, [.ref (2), .ref (8), .ref (5)]) : lc_Cel) := (fr103 _ (by omega) (by omega) (by omega) (by omega)).trans h78
        have h119 : σ110 (9) = some (.inr (4, [.ref (10), .int (lc_i (u1)), .int (lc_i (u2))]) : lc_Cel) := (fr103 _ (by omega) (by omega) (by omega) (by omega)).trans h79
        have h120 : σ110 (10) = some (lc_aI 364 (ug)) := (fr103 _ (by omega) (by omega) (by omega) (by omega)).trans h80
        have h121 : σ110 (48) = some (.inr (5, [.ref (49), .int (lc_i (z))]) : lc_Cel) := (fr103 _ (by omega) (by omega) (by omega) (by omega)).trans h81
        have h122 : σ110 (49) = some (lc_aC 80 (tx)) := (fr103 _ (by omega) (by omega) (by omega) (by omega)).trans h82
        have h123 : σ110 (22) = some (.inr (7, [.ref (23), .int (lc_i (bMO)), .int (lc_i (bCA)), .ref (25), .int (lc_i (bCT))]) : lc_Cel) := (fr103 _ (by omega) (by omega) (by omega) (by omega)).trans h87
        have h124 : σ110 (23) = some (.inr (0, [.ref (24), .int (lc_i (lc_cnt (bF) 1 36)), .int (lc_i (lc_cnt (bF) 2 36)), .int (lc_i (bS)), .int (lc_i (bQ)), .int (lc_i (bM))]) : lc_Cel) := (fr103 _ (by omega) (by omega) (by omega) (by omega)).trans h88
        have h125 : σ110 (24) = some (lc_aI 36 (bF)) := (fr103 _ (by omega) (by omega) (by omega) (by omega)).trans h89
        have h126 : σ110 (25) = some (lc_aJ 60 (fun i : Int => lc_j ((bPO) i))) := (fr103 _ (by omega) (by omega) (by omega) (by omega)).trans h90
        have h127 : σ110 (26) = some (.inr (7, [.ref (27), .int (lc_i (nMO)), .int (lc_i (nCA)), .ref (29), .int (lc_i (nCT))]) : lc_Cel) := (fr103 _ (by omega) (by omega) (by omega) (by omega)).trans h91
        have h128 : σ110 (27) = some (.inr (0, [.ref (28), .int (lc_i (lc_cnt (nF) 1 36)), .int (lc_i (lc_cnt (nF) 2 36)), .int (lc_i (nS)), .int (lc_i (nQ)), .int (lc_i (nM))]) : lc_Cel) := (fr103 _ (by omega) (by omega) (by omega) (by omega)).trans h92
        have h129 : σ110 (28) = some (lc_aI 36 (nF)) := (fr103 _ (by omega) (by omega) (by omega) (by omega)).trans h93
        have h130 : σ110 (29) = some (lc_aJ 60 (fun i : Int => lc_j ((nPO) i))) := (fr103 _ (by omega) (by omega) (by omega) (by omega)).trans h94
        have h131 : σ110 (8) = some (.inr (8, [.ref (2), .int (lc_i (e5)), .int (lc_i (e6)), .int (lc_i (e7))]) : lc_Cel) := (fr103 _ (by omega) (by omega) (by omega) (by omega)).trans h95
        have h132 : σ110 (11) = some (.inr (3, [.ref (7), .ref (12), .ref (14), .ref (16), .int (lc_i (e8))]) : lc_Cel) := (fr103 _ (by omega) (by omega) (by omega) (by omega)).trans h96
        have h133 : σ110 (12) = some (.inr (0, [.ref (13), .int (lc_i (lc_cnt (e9) 1 36)), .int (lc_i (lc_cnt (e9) 2 36)), .int (lc_i (e10)), .int (lc_i (e11)), .int (lc_i (e12))]) : lc_Cel) := (fr103 _ (by omega) (by omega) (by omega) (by omega)).trans h97
        have h134 : σ110 (13) = some (lc_aI 36 (e9)) := (fr103 _ (by omega) (by omega) (by omega) (by omega)).trans h98
        have h135 : σ110 (14) = some (.inr (4, [.ref (15), .int (lc_i (e13)), .int (lc_i (e14))]) : lc_Cel) := (fr103 _ (by omega) (by omega) (by omega) (by omega)).trans h99
        have h136 : σ110 (15) = some (lc_aI 364 (e15)) := (fr103 _ (by omega) (by omega) (by omega) (by omega)).trans h100
        have h137 : σ110 (16) = some (.inr (4, [.ref (17), .int (lc_i (e16)), .int (lc_i (e17))]) : lc_Cel) := (fr103 _ (by omega) (by omega) (by omega) (by omega)).trans h101
        have h138 : σ110 (17) = some (lc_aI 364 (e18)) := (fr103 _ (by omega) (by omega) (by omega) (by omega)).trans h102
        have h139 : σ110 (30) = some (.inr (2, [.ref (31), .int (lc_i (((lc_hk (k) : Nat) : Int)))]) : lc_Cel) := (fr103 _ (by omega) (by omega) (by omega) (by omega)).trans h62
        have h140 : σ110 (31) = some (lc_aS 4 (lc_h4 (lc_hr (r) (k)))) := (fr103 _ (by omega) (by omega) (by omega) (by omega)).trans h63
        have h141 : σ110 (t) = some (.inr (7, [.ref (t + 1), .int (lc_i (mo)), .int (lc_i (ca)), .ref (t + 3), .int (lc_i (ct))]) : lc_Cel) := (fr103 _ (by omega) (by omega) (by omega) (by omega)).trans h64
        have h142 : σ110 (t + 1) = some (.inr (0, [.ref (t + 2), .int (lc_i (lc_cnt (f) 1 36)), .int (lc_i (lc_cnt (f) 2 36)), .int (lc_i (s)), .int (lc_i (q)), .int (lc_i (m))]) : lc_Cel) := (fr103 _ (by omega) (by omega) (by omega) (by omega)).trans h65
        have h143 : σ110 (t + 2) = some (lc_aI 36 (f)) := (fr103 _ (by omega) (by omega) (by omega) (by omega)).trans h66
        have h144 : σ110 (t + 3) = some (lc_aJ 60 (fun i : Int => lc_j ((po) i))) := (fr103 _ (by omega) (by omega) (by omega) (by omega)).trans h67
        refine lc_iload_n dX10_play_62 rfl 2 rfl ?_
        exact lc_iret dX10_play_63 rfl (Nat.le_of_ble_eq_true rfl) (Nat.le_of_ble_eq_true rfl) (hQ _ _ _ (by rw [lc_play, if_neg (show ¬ (d < 1 ∨ 2 < d) from by omega), if_neg (show ¬ ((lc_sv m d.toNat f s q).2 < 0) from by omega)]; exact ⟨rfl, rfl, lc_CI_mk (BF := (bF, bS, bQ, bM, bMO, bCA, bCT, bPO)) (SN := (nF, nS, nQ, nM, nMO, nCA, nCT, nPO)) h112 h113 h114 h115 h116 h117 h118 h119 h120 (lc_Lk_mk h131 h132 h133 h134 h135 h136 h137 h138) ⟨h104, h105, h106, h107⟩ ⟨h123, h124, h125, h126⟩ ⟨h127, h128, h129, h130⟩ (hSN) h139 h140 (lc_Sl_push (N := (f, s, q, m, mo, ca, ct, po)) hSl hk4 ht (fun i _ _ _ _ _ _ => ((fr103 i (by omega) (by omega) (by omega) (by omega)).trans ((fr61 i (by omega) (by omega) (by omega) (by omega) (by omega) (by omega)).trans (fr4 i (by omega) (by omega) (by omega) (by omega) (by omega) (by omega) (by omega) (by omega))))) ⟨h141, h142, h143, h144⟩) h121 h122, fun i _ => ((fr103 i (by omega) (by omega) (by omega) (by omega)).trans ((fr61 i (by omega) (by omega) (by omega) (by omega) (by omega) (by omega)).trans (fr4 i (by omega) (by omega) (by omega) (by omega) (by omega) (by omega) (by omega) (by omega))))⟩))
      · skip
        refine lc_bipush dX10_play_33 (by decide) ?_
        exact lc_iret dX10_play_35 rfl (Nat.le_of_ble_eq_true rfl) (Nat.le_of_ble_eq_true rfl) (hQ _ _ _ (by rw [lc_play, if_neg (show ¬ (d < 1 ∨ 2 < d) from by omega), if_pos (show (lc_sv m d.toNat f s q).2 < 0 from by omega)]; exact ⟨rfl, rfl, lc_CI_mk (BF := (bF, bS, bQ, bM, bMO, bCA, bCT, bPO)) (SN := (nF, nS, nQ, nM, nMO, nCA, nCT, nPO)) h31 h32 h33 h34 h35 h36 h37 h38 h39 (lc_Lk_mk h19 h20 h21 h22 h23 h24 h25 h26) ⟨h44, h45, h46, h47⟩ ⟨h48, h49, h50, h51⟩ ⟨h52, h53, h54, h55⟩ (hSN) h40 h41 (lc_Sl_fr hSl (fun i _ _ => (fr4 i (by omega) (by omega) (by omega) (by omega) (by omega) (by omega) (by omega) (by omega)))) h42 h43, fun i _ => (fr4 i (by omega) (by omega) (by omega) (by omega) (by omega) (by omega) (by omega) (by omega))⟩))
    · skip
      refine lc_bipush dX10_play_10 (by decide) ?_
      exact lc_iret dX10_play_12 rfl (Nat.le_of_ble_eq_true rfl) (Nat.le_of_ble_eq_true rfl) (hQ _ _ _ (by rw [lc_play, if_pos (show d < 1 ∨ 2 < d from by omega)]; exact ⟨rfl, rfl, lc_CI_mk (BF := (bF, bS, bQ, bM, bMO, bCA, bCT, bPO)) (SN := (nF, nS, nQ, nM, nMO, nCA, nCT, nPO)) hz_1 hz_2 hz_3 hz_4 hz_5 hz_6 hz_7 hz_9 hz_10 (lc_Lk_mk hz_8 hz_11 hz_12 hz_13 hz_14 hz_15 hz_16 hz_17) ⟨hz_18, hz_19, hz_20, hz_21⟩ ⟨hz_22, hz_23, hz_24, hz_25⟩ ⟨hz_26, hz_27, hz_28, hz_29⟩ (hSN) hz_30 hz_31 (lc_Sl_fr hSl (fun i _ _ => rfl)) hz_48 hz_49, fun i _ => rfl⟩))

def lc_zSet : lc_Ab → Int → Int → lc_Ab × Int
  | (N, P, H, k, tx, z, bs, bt, sn, sr), x, w => if ¬ (0 ≤ x ∧ x < 36) then ((N, P, H, k, tx, z, bs, bt, sn, sr), -101) else if w < 0 ∨ 2 < w then ((N, P, H, k, tx, z, bs, bt, sn, sr), -102) else if N.1 x = w then ((N, P, H, k, tx, z, bs, bt, sn, sr), -105) else (((lc_u N.1 x w, N.2.1, 0, N.2.2.2.1, N.2.2.2.2.1, N.2.2.2.2.2.1, lc_rc 0, lc_rp N.2.2.2.2.2.2.2 0 (lc_key (lc_u N.1 x w) N.2.1 36)), P, lc_pu H k N, lc_hk k, tx, z, bs, bt, sn, sr), N.1 x)

set_option maxRecDepth 100000 in
set_option maxHeartbeats 600000 in
theorem lc_cX10_setUp (l : Launch) (n : Nat) (f : Int → Int) (s q m mo ca ct : Int) (po : Int → Int) (P : lc_St) (H : Nat → lc_St) (k : Nat) (tx : Int → Int) (z : Int) (bs bt : Bool) (sn sr : Int) (x wv : Int) (σ : lc_S)  (hI : lc_CI σ ((f, s, q, m, mo, ca, ct, po), P, H, k, tx, z, bs, bt, sn, sr)) (hw : lc_wf ((f, s, q, m, mo, ca, ct, po), P, H, k, tx, z, bs, bt, sn, sr)) (hR_x : -2147483648 ≤ x ∧ x < 2147483648) (hR_wv : -2147483648 ≤ wv ∧ wv < 2147483648) : lc_Con l yX10_setUp cX10_setUp 4 (some .int) (lc_Rd 4) [.ref (1), .int (lc_i (x)), .int (lc_i (wv))] n σ (fun v n2 σ2 => v = some (.int (lc_i ((lc_zSet ((f, s, q, m, mo, ca, ct, po), P, H, k, tx, z, bs, bt, sn, sr) x wv).2))) ∧ n = n2 ∧ lc_CI σ2 ((lc_zSet ((f, s, q, m, mo, ca, ct, po), P, H, k, tx, z, bs, bt, sn, sr) x wv).1) ∧ ∀ i : Nat, 50 ≤ i ∨ i = 0 → σ2 i = σ i) := by
  obtain ⟨⟨hf9, hs9, hq9, hm9, hct9, hpo9, hkey9⟩, hwP, hwH, hk4, hz, htx⟩ := hw
  have hf : ∀ j : Int, 0 ≤ j → j < 36 → 0 ≤ f j ∧ f j ≤ 2 := hf9
  have hs : 1 ≤ s ∧ s ≤ 2 := hs9
  have hq : 0 ≤ q ∧ q ≤ 60 := hq9
  have hm : 4 ≤ m ∧ m ≤ 60 := hm9
  have hct : 1 ≤ ct ∧ ct ≤ 60 := hct9
  have hpo : ∀ i : Int, 0 ≤ i → i < ct → 0 ≤ po i ∧ po i < 450283905890997363 := hpo9
  have hkey : po (ct - 1) = lc_key f s 36 := hkey9
  have hpo4 : ∀ i : Int, 0 ≤ i → i < ct → 0 ≤ po i ∧ po i < 4611686018427387904 := fun i h1 h2 => ⟨(hpo i h1 h2).1, by have := (hpo i h1 h2).2; omega⟩
  obtain ⟨r, SN, BF, w, e1, e2, e3, u1, u2, ug, hc1, hc2, hc3, hc4, hc5, hc6, hc7, hc9, hc10, hLk, hN, hB, hS, hSN, hc30, hc31, hSl, hc48, hc49⟩ := hI
  have hb : 12 ≤ 19 := (by decide)
  obtain ⟨a1, a2, a3, ch, bf, d1, d2, d3, y1, y2, g1, x1, x2, g2, hk_8, hk_11, hk_12, hk_13, hk_14, hk_15, hk_16, hk_17⟩ := hLk
  obtain ⟨bF, bS, bQ, bM, bMO, bCA, bCT, bPO⟩ := BF
  obtain ⟨nF, nS, nQ, nM, nMO, nCA, nCT, nPO⟩ := SN
  obtain ⟨hN0, hN1, hN2, hN3⟩ := hN
  obtain ⟨hB0, hB1, hB2, hB3⟩ := hB
  obtain ⟨hS0, hS1, hS2, hS3⟩ := hS
  have hz_1 : σ (1) = some (.inr (10, [.ref (2), .ref (5), .ref (7), .ref (9), .ref (11), .ref (18), .ref (22), .ref (26), .ref (30), .ref (48), .int (lc_i (if bs = true then 1 else 0)), .int (lc_i (if bt = true then 1 else 0)), .int (lc_i (sn)), .int (lc_i (sr))]) : lc_Cel) := hc1
  have hz_2 : σ (2) = some (.inr (1, [.ref (3), .ref (4)]) : lc_Cel) := hc2
  have hz_3 : σ (3) = some (lc_aI 48 (lc_pt)) := hc3
  have hz_4 : σ (4) = some (lc_aI 72 (lc_sp)) := hc4
  have hz_5 : σ (5) = some (.inr (9, [.ref (2), .ref (6), .int (lc_i ((w).1)), .int (lc_i ((w).2.1)), .int (lc_i ((w).2.2.1)), .int (lc_i ((w).2.2.2))]) : lc_Cel) := hc5
  have hz_6 : σ (6) = some (.inr (8, [.ref (2), .int (lc_i (e1)), .int (lc_i (e2)), .int (lc_i (e3))]) : lc_Cel) := hc6
  have hz_7 : σ (7) = some (.inr (6, [.ref (2), .ref (8), .ref (5)]) : lc_Cel) := hc7
  have hz_9 : σ (9) = some (.inr (4, [.ref (10), .int (lc_i (u1)), .int (lc_i (u2))]) : lc_Cel) := hc9
  have hz_10 : σ (10) = some (lc_aI 364 (ug)) := hc10
  have hz_8 : σ (8) = some (.inr (8, [.ref (2), .int (lc_i (a1)), .int (lc_i (a2)), .int (lc_i (a3))]) : lc_Cel) := hk_8
  have hz_11 : σ (11) = some (.inr (3, [.ref (7), .ref (12), .ref (14), .ref (16), .int (lc_i (ch))]) : lc_Cel) := hk_11
  have hz_12 : σ (12) = some (.inr (0, [.ref (13), .int (lc_i (lc_cnt (bf) 1 36)), .int (lc_i (lc_cnt (bf) 2 36)), .int (lc_i (d1)), .int (lc_i (d2)), .int (lc_i (d3))]) : lc_Cel) := hk_12
  have hz_13 : σ (13) = some (lc_aI 36 (bf)) := hk_13
  have hz_14 : σ (14) = some (.inr (4, [.ref (15), .int (lc_i (y1)), .int (lc_i (y2))]) : lc_Cel) := hk_14
  have hz_15 : σ (15) = some (lc_aI 364 (g1)) := hk_15
  have hz_16 : σ (16) = some (.inr (4, [.ref (17), .int (lc_i (x1)), .int (lc_i (x2))]) : lc_Cel) := hk_16
  have hz_17 : σ (17) = some (lc_aI 364 (g2)) := hk_17
  have hz_30 : σ (30) = some (.inr (2, [.ref (31), .int (lc_i ((k : Int)))]) : lc_Cel) := hc30
  have hz_31 : σ (31) = some (lc_aS 4 (lc_h4 (r))) := hc31
  have hz_48 : σ (48) = some (.inr (5, [.ref (49), .int (lc_i (z))]) : lc_Cel) := hc48
  have hz_49 : σ (49) = some (lc_aC 80 (tx)) := hc49
  have hz_18 : σ (18) = some (.inr (7, [.ref (19), .int (lc_i (mo)), .int (lc_i (ca)), .ref (21), .int (lc_i (ct))]) : lc_Cel) := hN0
  have hz_19 : σ (19) = some (.inr (0, [.ref (20), .int (lc_i (lc_cnt (f) 1 36)), .int (lc_i (lc_cnt (f) 2 36)), .int (lc_i (s)), .int (lc_i (q)), .int (lc_i (m))]) : lc_Cel) := hN1
  have hz_20 : σ (20) = some (lc_aI 36 (f)) := hN2
  have hz_21 : σ (21) = some (lc_aJ 60 (fun i : Int => lc_j ((po) i))) := hN3
  have hz_22 : σ (22) = some (.inr (7, [.ref (23), .int (lc_i (bMO)), .int (lc_i (bCA)), .ref (25), .int (lc_i (bCT))]) : lc_Cel) := hB0
  have hz_23 : σ (23) = some (.inr (0, [.ref (24), .int (lc_i (lc_cnt (bF) 1 36)), .int (lc_i (lc_cnt (bF) 2 36)), .int (lc_i (bS)), .int (lc_i (bQ)), .int (lc_i (bM))]) : lc_Cel) := hB1
  have hz_24 : σ (24) = some (lc_aI 36 (bF)) := hB2
  have hz_25 : σ (25) = some (lc_aJ 60 (fun i : Int => lc_j ((bPO) i))) := hB3
  have hz_26 : σ (26) = some (.inr (7, [.ref (27), .int (lc_i (nMO)), .int (lc_i (nCA)), .ref (29), .int (lc_i (nCT))]) : lc_Cel) := hS0
  have hz_27 : σ (27) = some (.inr (0, [.ref (28), .int (lc_i (lc_cnt (nF) 1 36)), .int (lc_i (lc_cnt (nF) 2 36)), .int (lc_i (nS)), .int (lc_i (nQ)), .int (lc_i (nM))]) : lc_Cel) := hS1
  have hz_28 : σ (28) = some (lc_aI 36 (nF)) := hS2
  have hz_29 : σ (29) = some (lc_aJ 60 (fun i : Int => lc_j ((nPO) i))) := hS3
  obtain ⟨t, ht⟩ : ∃ t : Nat, t = 32 + 4 * ((r + k) % 4) := ⟨_, rfl⟩
  obtain ⟨⟨f3, s3, q3, m3, mo3, ca3, ct3, po3⟩, hT0, hT1, hT2, hT3⟩ := lc_Sl_at hSl ht
  have hz_t : σ (t) = some (.inr (7, [.ref (t + 1), .int (lc_i (mo3)), .int (lc_i (ca3)), .ref (t + 3), .int (lc_i (ct3))]) : lc_Cel) := hT0
  have hz_t_1 : σ (t + 1) = some (.inr (0, [.ref (t + 2), .int (lc_i (lc_cnt (f3) 1 36)), .int (lc_i (lc_cnt (f3) 2 36)), .int (lc_i (s3)), .int (lc_i (q3)), .int (lc_i (m3))]) : lc_Cel) := hT1
  have hz_t_2 : σ (t + 2) = some (lc_aI 36 (f3)) := hT2
  have hz_t_3 : σ (t + 3) = some (lc_aJ 60 (fun i : Int => lc_j ((po3) i))) := hT3
  refine lc_con RX10 false (by decide) rfl (fun h => absurd h (by decide)) (Nat.le_of_ble_eq_true rfl) ?_
  suffices H : ∀ Q : lc_QT, (∀ v n2 σ2, (fun v n2 σ2 => v = some (.int (lc_i ((lc_zSet ((f, s, q, m, mo, ca, ct, po), P, H, k, tx, z, bs, bt, sn, sr) x wv).2))) ∧ n = n2 ∧ lc_CI σ2 ((lc_zSet ((f, s, q, m, mo, ca, ct, po), P, H, k, tx, z, bs, bt, sn, sr) x wv).1) ∧ ∀ i : Nat, 50 ≤ i ∨ i = 0 → σ2 i = σ i : lc_QT) v n2 σ2 → Q v n2 σ2) → lc_V l RX10 cX10_setUp 4 (some .int) false (lc_Rd 4) (lc_G Q 0 0) lc_E0 0 0 n 0 [(0, .ref (1)), (1, .int (lc_i (x))), (2, .int (lc_i (wv)))] [] σ from H _ (fun _ _ _ h => h)
  intro Q hQ
  refine lc_iload_n dX10_setUp_0 rfl 1 rfl ?_
  refine lc_callS (As := [.int (lc_i (x))]) (stk := []) dX10_setUp_1 lc_mX10_77 lc_yX10_isPoint (lc_cX10_isPoint l n (x) σ (by omega)) rfl ⟨Nat.le_of_ble_eq_true rfl, Nat.le_of_ble_eq_true rfl⟩ ⟨Nat.le_of_ble_eq_true rfl, Nat.le_of_ble_eq_true rfl⟩ rfl (Nat.le_of_ble_eq_true rfl) (fun v1 n2 σ3 q4 => ?_)
  obtain ⟨rfl, rfl, rfl⟩ := q4
  refine lc_if_neB (tgt := 10) dX10_setUp_4 (by decide) (fun h_4_4 => ?_) (fun h_4_4 => ?_)
  · skip
    refine lc_iload_n dX10_setUp_10 rfl 2 rfl ?_
    refine lc_if_lt (tgt := 19) dX10_setUp_11 (by decide) (by omega) (fun h_11_5 => ?_) (fun h_11_5 => ?_)
    · skip
      refine lc_bipush dX10_setUp_19 (by decide) ?_
      exact lc_iret dX10_setUp_21 rfl (Nat.le_of_ble_eq_true rfl) (Nat.le_of_ble_eq_true rfl) (hQ _ _ _ (by rw [lc_zSet, if_neg (show ¬ (¬ (0 ≤ x ∧ x < 36)) from by omega), if_pos (show wv < 0 ∨ 2 < wv from by omega)]; exact ⟨rfl, rfl, lc_CI_mk (BF := (bF, bS, bQ, bM, bMO, bCA, bCT, bPO)) (SN := (nF, nS, nQ, nM, nMO, nCA, nCT, nPO)) hz_1 hz_2 hz_3 hz_4 hz_5 hz_6 hz_7 hz_9 hz_10 (lc_Lk_mk hz_8 hz_11 hz_12 hz_13 hz_14 hz_15 hz_16 hz_17) ⟨hz_18, hz_19, hz_20, hz_21⟩ ⟨hz_22, hz_23, hz_24, hz_25⟩ ⟨hz_26, hz_27, hz_28, hz_29⟩ (hSN) hz_30 hz_31 (lc_Sl_fr hSl (fun i _ _ => rfl)) hz_48 hz_49, fun i _ => rfl⟩))
    · skip
      refine lc_iload_n dX10_setUp_14 rfl 2 rfl ?_
      refine lc_iconst dX10_setUp_15 ?_
      refine lc_icmp_le (tgt := 22) dX10_setUp_16 (by decide) (by omega) (fun h_16_6 => ?_) (fun h_16_6 => ?_)
      · skip
        refine lc_aload_n dX10_setUp_22 rfl 0 rfl ?_
        refine lc_get dX10_setUp_23 lc_fX10_53 hz_1 rfl ?_
        refine lc_get dX10_setUp_26 lc_fX10_81 hz_18 rfl ?_
        refine lc_iload_n dX10_setUp_29 rfl 1 rfl ?_
        refine lc_callV (As := [.int (lc_i (x))]) (stk := []) (b := 19) dX10_setUp_30 lc_mX10_114 lc_yX0_at hz_19 rfl (lc_cX0_at l n (19) (f) (lc_cnt (f) 1 36) (lc_cnt (f) 2 36) (s) (q) (m) (x) σ hz_19 hz_20 (by omega)) rfl ⟨Nat.le_of_ble_eq_true rfl, Nat.le_of_ble_eq_true rfl⟩ ⟨Nat.le_of_ble_eq_true rfl, Nat.le_of_ble_eq_true rfl⟩ rfl (Nat.le_of_ble_eq_true rfl) (fun v8 n9 σ10 q11 => ?_)
        obtain ⟨rfl, rfl, rfl⟩ := q11
        refine lc_top (congrArg (fun z => Value.int (lc_i z)) (show (if 0 ≤ (x) ∧ (x) < 36 then (f) (x) else 0 : Int) = f x from by rw [if_pos (by omega)])) ?_
        have hfx := hf x (by omega) (by omega)
        refine lc_istore_n (lv' := [(0, .ref (1)), (1, .int (lc_i (x))), (2, .int (lc_i (wv))), (3, .int (lc_i (f x)))]) dX10_setUp_33 rfl (by decide) rfl ?_
        refine lc_iload_n dX10_setUp_34 rfl 3 rfl ?_
        refine lc_iload_n dX10_setUp_35 rfl 2 rfl ?_
        refine lc_icmp_ne (tgt := 42) dX10_setUp_36 (by decide) (by omega) (fun h_36_11 => ?_) (fun h_36_11 => ?_)
        · skip
          refine lc_aload_n dX10_setUp_42 rfl 0 rfl ?_
          refine lc_get dX10_setUp_43 lc_fX10_66 hz_1 rfl ?_
          refine lc_aload_n dX10_setUp_46 rfl 0 rfl ?_
          refine lc_get dX10_setUp_47 lc_fX10_53 hz_1 rfl ?_
          refine lc_callV (As := [.ref (18)]) (stk := []) (b := 30) dX10_setUp_50 lc_mX10_89 lc_yX2_push hz_30 rfl (lc_cX2_push l n (r) (k) (18) (f) (s) (q) (m) (mo) (ca) (ct) (po) (t) (f3) (s3) (q3) (m3) (mo3) (ca3) (ct3) (po3) σ hz_30 hz_31 hz_18 hz_19 hz_20 hz_21 hz_t hz_t_1 hz_t_2 hz_t_3 (hk4) (ht) (by omega) (lc_Sl_st (lc_Sl_fr hSl (fun i _ _ => rfl)))) rfl ⟨Nat.le_of_ble_eq_true rfl, Nat.le_of_ble_eq_true rfl⟩ ⟨Nat.le_of_ble_eq_true rfl, Nat.le_of_ble_eq_true rfl⟩ rfl (Nat.le_of_ble_eq_true rfl) (fun v20 n21 σ22 q23 => ?_)
          obtain ⟨rfl, rfl, h14, h15, h16, h17, h18, h19, fr13⟩ := q23
          have h24 : σ22 (1) = some (.inr (10, [.ref (2), .ref (5), .ref (7), .ref (9), .ref (11), .ref (18), .ref (22), .ref (26), .ref (30), .ref (48), .int (lc_i (if bs = true then 1 else 0)), .int (lc_i (if bt = true then 1 else 0)), .int (lc_i (sn)), .int (lc_i (sr))]) : lc_Cel) := (fr13 _ (by omega) (by omega) (by omega) (by omega) (by omega) (by omega)).trans hz_1
          have h25 : σ22 (2) = some (.inr (1, [.ref (3), .ref (4)]) : lc_Cel) := (fr13 _ (by omega) (by omega) (by omega) (by omega) (by omega) (by omega)).trans hz_2
          have h26 : σ22 (3) = some (lc_aI 48 (lc_pt)) := (fr13 _ (by omega) (by omega) (by omega) (by omega) (by omega) (by omega)).trans hz_3
          have h27 : σ22 (4) = some (lc_aI 72 (lc_sp)) := (fr13 _ (by omega) (by omega) (by omega) (by omega) (by omega) (by omega)).trans hz_4
          have h28 : σ22 (5) = some (.inr (9, [.ref (2), .ref (6), .int (lc_i ((w).1)), .int (lc_i ((w).2.1)), .int (lc_i ((w).2.2.1)), .int (lc_i ((w).2.2.2))]) : lc_Cel) := (fr13 _ (by omega) (by omega) (by omega) (by omega) (by omega) (by omega)).trans hz_5
          have h29 : σ22 (6) = some (.inr (8, [.ref (2), .int (lc_i (e1)), .int (lc_i (e2)), .int (lc_i (e3))]) : lc_Cel) := (fr13 _ (by omega) (by omega) (by omega) (by omega) (by omega) (by omega)).trans hz_6
          have h30 : σ22 (7) = some (.inr (6, [.ref (2), .ref (8), .ref (5)]) : lc_Cel) := (fr13 _ (by omega) (by omega) (by omega) (by omega) (by omega) (by omega)).trans hz_7
          have h31 : σ22 (9) = some (.inr (4, [.ref (10), .int (lc_i (u1)), .int (lc_i (u2))]) : lc_Cel) := (fr13 _ (by omega) (by omega) (by omega) (by omega) (by omega) (by omega)).trans hz_9
          have h32 : σ22 (10) = some (lc_aI 364 (ug)) := (fr13 _ (by omega) (by omega) (by omega) (by omega) (by omega) (by omega)).trans hz_10
          have h33 : σ22 (8) = some (.inr (8, [.ref (2), .int (lc_i (a1)), .int (lc_i (a2)), .int (lc_i (a3))]) : lc_Cel) := (fr13 _ (by omega) (by omega) (by omega) (by omega) (by omega) (by omega)).trans hz_8
          have h34 : σ22 (11) = some (.inr (3, [.ref (7), .ref (12), .ref (14), .ref (16), .int (lc_i (ch))]) : lc_Cel) := (fr13 _ (by omega) (by omega) (by omega) (by omega) (by omega) (by omega)).trans hz_11
          have h35 : σ22 (12) = some (.inr (0, [.ref (13), .int (lc_i (lc_cnt (bf) 1 36)), .int (lc_i (lc_cnt (bf) 2 36)), .int (lc_i (d1)), .int (lc_i (d2)), .int (lc_i (d3))]) : lc_Cel) := (fr13 _ (by omega) (by omega) (by omega) (by omega) (by omega) (by omega)).trans hz_12
          have h36 : σ22 (13) = some (lc_aI 36 (bf)) := (fr13 _ (by omega) (by omega) (by omega) (by omega) (by omega) (by omega)).trans hz_13
          have h37 : σ22 (14) = some (.inr (4, [.ref (15), .int (lc_i (y1)), .int (lc_i (y2))]) : lc_Cel) := (fr13 _ (by omega) (by omega) (by omega) (by omega) (by omega) (by omega)).trans hz_14
          have h38 : σ22 (15) = some (lc_aI 364 (g1)) := (fr13 _ (by omega) (by omega) (by omega) (by omega) (by omega) (by omega)).trans hz_15
          have h39 : σ22 (16) = some (.inr (4, [.ref (17), .int (lc_i (x1)), .int (lc_i (x2))]) : lc_Cel) := (fr13 _ (by omega) (by omega) (by omega) (by omega) (by omega) (by omega)).trans hz_16
          have h40 : σ22 (17) = some (lc_aI 364 (g2)) := (fr13 _ (by omega) (by omega) (by omega) (by omega) (by omega) (by omega)).trans hz_17
          have h41 : σ22 (48) = some (.inr (5, [.ref (49), .int (lc_i (z))]) : lc_Cel) := (fr13 _ (by omega) (by omega) (by omega) (by omega) (by omega) (by omega)).trans hz_48
          have h42 : σ22 (49) = some (lc_aC 80 (tx)) := (fr13 _ (by omega) (by omega) (by omega) (by omega) (by omega) (by omega)).trans hz_49
          have h43 : σ22 (18) = some (.inr (7, [.ref (19), .int (lc_i (mo)), .int (lc_i (ca)), .ref (21), .int (lc_i (ct))]) : lc_Cel) := (fr13 _ (by omega) (by omega) (by omega) (by omega) (by omega) (by omega)).trans hz_18
          have h44 : σ22 (19) = some (.inr (0, [.ref (20), .int (lc_i (lc_cnt (f) 1 36)), .int (lc_i (lc_cnt (f) 2 36)), .int (lc_i (s)), .int (lc_i (q)), .int (lc_i (m))]) : lc_Cel) := (fr13 _ (by omega) (by omega) (by omega) (by omega) (by omega) (by omega)).trans hz_19
          have h45 : σ22 (20) = some (lc_aI 36 (f)) := (fr13 _ (by omega) (by omega) (by omega) (by omega) (by omega) (by omega)).trans hz_20
          have h46 : σ22 (21) = some (lc_aJ 60 (fun i : Int => lc_j ((po) i))) := (fr13 _ (by omega) (by omega) (by omega) (by omega) (by omega) (by omega)).trans hz_21
          have h47 : σ22 (22) = some (.inr (7, [.ref (23), .int (lc_i (bMO)), .int (lc_i (bCA)), .ref (25), .int (lc_i (bCT))]) : lc_Cel) := (fr13 _ (by omega) (by omega) (by omega) (by omega) (by omega) (by omega)).trans hz_22
          have h48 : σ22 (23) = some (.inr (0, [.ref (24), .int (lc_i (lc_cnt (bF) 1 36)), .int (lc_i (lc_cnt (bF) 2 36)), .int (lc_i (bS)), .int (lc_i (bQ)), .int (lc_i (bM))]) : lc_Cel) := (fr13 _ (by omega) (by omega) (by omega) (by omega) (by omega) (by omega)).trans hz_23
          have h49 : σ22 (24) = some (lc_aI 36 (bF)) := (fr13 _ (by omega) (by omega) (by omega) (by omega) (by omega) (by omega)).trans hz_24
          have h50 : σ22 (25) = some (lc_aJ 60 (fun i : Int => lc_j ((bPO) i))) := (fr13 _ (by omega) (by omega) (by omega) (by omega) (by omega) (by omega)).trans hz_25
          have h51 : σ22 (26) = some (.inr (7, [.ref (27), .int (lc_i (nMO)), .int (lc_i (nCA)), .ref (29), .int (lc_i (nCT))]) : lc_Cel) := (fr13 _ (by omega) (by omega) (by omega) (by omega) (by omega) (by omega)).trans hz_26
          have h52 : σ22 (27) = some (.inr (0, [.ref (28), .int (lc_i (lc_cnt (nF) 1 36)), .int (lc_i (lc_cnt (nF) 2 36)), .int (lc_i (nS)), .int (lc_i (nQ)), .int (lc_i (nM))]) : lc_Cel) := (fr13 _ (by omega) (by omega) (by omega) (by omega) (by omega) (by omega)).trans hz_27
          have h53 : σ22 (28) = some (lc_aI 36 (nF)) := (fr13 _ (by omega) (by omega) (by omega) (by omega) (by omega) (by omega)).trans hz_28
          have h54 : σ22 (29) = some (lc_aJ 60 (fun i : Int => lc_j ((nPO) i))) := (fr13 _ (by omega) (by omega) (by omega) (by omega) (by omega) (by omega)).trans hz_29
          refine lc_aload_n dX10_setUp_53 rfl 0 rfl ?_
          refine lc_get dX10_setUp_54 lc_fX10_53 h24 rfl ?_
          refine lc_iload_n dX10_setUp_57 rfl 1 rfl ?_
          refine lc_iload_n dX10_setUp_58 rfl 2 rfl ?_
          refine lc_callV (As := [.int (lc_i (x)), .int (lc_i (wv))]) (stk := []) (b := 18) dX10_setUp_59 lc_mX10_117 lc_yX7_place h43 rfl (lc_cX7_place l n (18) (f) (s) (q) (m) (mo) (ca) (ct) (po) (x) (wv) σ22 h43 h44 h45 h46 (hf) (hs) (by omega) (by omega)) rfl ⟨Nat.le_of_ble_eq_true rfl, Nat.le_of_ble_eq_true rfl⟩ ⟨Nat.le_of_ble_eq_true rfl, Nat.le_of_ble_eq_true rfl⟩ rfl (Nat.le_of_ble_eq_true rfl) (fun v60 n61 σ62 q63 => ?_)
          obtain ⟨rfl, rfl, h56, h57, h58, h59, fr55⟩ := q63
          have h64 : σ62 (1) = some (.inr (10, [.ref (2), .ref (5), .ref (7), .ref (9), .ref (11), .ref (18), .ref (22), .ref (26), .ref (30), .ref (48), .int (lc_i (if bs = true then 1 else 0)), .int (lc_i (if bt = true then 1 else 0)), .int (lc_i (sn)), .int (lc_i (sr))]) : lc_Cel) := (fr55 _ (by omega) (by omega) (by omega) (by omega)).trans h24
          have h65 : σ62 (2) = some (.inr (1, [.ref (3), .ref (4)]) : lc_Cel) := (fr55 _ (by omega) (by omega) (by omega) (by omega)).trans h25
          have h66 : σ62 (3) = some (lc_aI 48 (lc_pt)) := (fr55 _ (by omega) (by omega) (by omega) (by omega)).trans h26
          have h67 : σ62 (4) = some (lc_aI 72 (lc_sp)) := (fr55 _ (by omega) (by omega) (by omega) (by omega)).trans h27
          have h68 : σ62 (5) = some (.inr (9, [.ref (2), .ref (6), .int (lc_i ((w).1)), .int (lc_i ((w).2.1)), .int (lc_i ((w).2.2.1)), .int (lc_i ((w).2.2.2))]) : lc_Cel) := (fr55 _ (by omega) (by omega) (by omega) (by omega)).trans h28
          have h69 : σ62 (6) = some (.inr (8, [.ref (2), .int (lc_i (e1)), .int (lc_i (e2)), .int (lc_i (e3))]) : lc_Cel) := (fr55 _ (by omega) (by omega) (by omega) (by omega)).trans h29
          have h70 : σ62 (7) = some (.inr (6, [.ref (2), .ref (8), .ref (5)]) : lc_Cel) := (fr55 _ (by omega) (by omega) (by omega) (by omega)).trans h30
          have h71 : σ62 (9) = some (.inr (4, [.ref (10), .int (lc_i (u1)), .int (lc_i (u2))]) : lc_Cel) := (fr55 _ (by omega) (by omega) (by omega) (by omega)).trans h31
          have h72 : σ62 (10) = some (lc_aI 364 (ug)) := (fr55 _ (by omega) (by omega) (by omega) (by omega)).trans h32
          have h73 : σ62 (8) = some (.inr (8, [.ref (2), .int (lc_i (a1)), .int (lc_i (a2)), .int (lc_i (a3))]) : lc_Cel) := (fr55 _ (by omega) (by omega) (by omega) (by omega)).trans h33
          have h74 : σ62 (11) = some (.inr (3, [.ref (7), .ref (12), .ref (14), .ref (16), .int (lc_i (ch))]) : lc_Cel) := (fr55 _ (by omega) (by omega) (by omega) (by omega)).trans h34
          have h75 : σ62 (12) = some (.inr (0, [.ref (13), .int (lc_i (lc_cnt (bf) 1 36)), .int (lc_i (lc_cnt (bf) 2 36)), .int (lc_i (d1)), .int (lc_i (d2)), .int (lc_i (d3))]) : lc_Cel) := (fr55 _ (by omega) (by omega) (by omega) (by omega)).trans h35
          have h76 : σ62 (13) = some (lc_aI 36 (bf)) := (fr55 _ (by omega) (by omega) (by omega) (by omega)).trans h36
          have h77 : σ62 (14) = some (.inr (4, [.ref (15), .int (lc_i (y1)), .int (lc_i (y2))]) : lc_Cel) := (fr55 _ (by omega) (by omega) (by omega) (by omega)).trans h37
          have h78 : σ62 (15) = some (lc_aI 364 (g1)) := (fr55 _ (by omega) (by omega) (by omega) (by omega)).trans h38
          have h79 : σ62 (16) = some (.inr (4, [.ref (17), .int (lc_i (x1)), .int (lc_i (x2))]) : lc_Cel) := (fr55 _ (by omega) (by omega) (by omega) (by omega)).trans h39
          have h80 : σ62 (17) = some (lc_aI 364 (g2)) := (fr55 _ (by omega) (by omega) (by omega) (by omega)).trans h40
          have h81 : σ62 (48) = some (.inr (5, [.ref (49), .int (lc_i (z))]) : lc_Cel) := (fr55 _ (by omega) (by omega) (by omega) (by omega)).trans h41
          have h82 : σ62 (49) = some (lc_aC 80 (tx)) := (fr55 _ (by omega) (by omega) (by omega) (by omega)).trans h42
          have h83 : σ62 (22) = some (.inr (7, [.ref (23), .int (lc_i (bMO)), .int (lc_i (bCA)), .ref (25), .int (lc_i (bCT))]) : lc_Cel) := (fr55 _ (by omega) (by omega) (by omega) (by omega)).trans h47
          have h84 : σ62 (23) = some (.inr (0, [.ref (24), .int (lc_i (lc_cnt (bF) 1 36)), .int (lc_i (lc_cnt (bF) 2 36)), .int (lc_i (bS)), .int (lc_i (bQ)), .int (lc_i (bM))]) : lc_Cel) := (fr55 _ (by omega) (by omega) (by omega) (by omega)).trans h48
          have h85 : σ62 (24) = some (lc_aI 36 (bF)) := (fr55 _ (by omega) (by omega) (by omega) (by omega)).trans h49
          have h86 : σ62 (25) = some (lc_aJ 60 (fun i : Int => lc_j ((bPO) i))) := (fr55 _ (by omega) (by omega) (by omega) (by omega)).trans h50
          have h87 : σ62 (26) = some (.inr (7, [.ref (27), .int (lc_i (nMO)), .int (lc_i (nCA)), .ref (29), .int (lc_i (nCT))]) : lc_Cel) := (fr55 _ (by omega) (by omega) (by omega) (by omega)).trans h51
          have h88 : σ62 (27) = some (.inr (0, [.ref (28), .int (lc_i (lc_cnt (nF) 1 36)), .int (lc_i (lc_cnt (nF) 2 36)), .int (lc_i (nS)), .int (lc_i (nQ)), .int (lc_i (nM))]) : lc_Cel) := (fr55 _ (by omega) (by omega) (by omega) (by omega)).trans h52
          have h89 : σ62 (28) = some (lc_aI 36 (nF)) := (fr55 _ (by omega) (by omega) (by omega) (by omega)).trans h53
          have h90 : σ62 (29) = some (lc_aJ 60 (fun i : Int => lc_j ((nPO) i))) := (fr55 _ (by omega) (by omega) (by omega) (by omega)).trans h54
          have h91 : σ62 (30) = some (.inr (2, [.ref (31), .int (lc_i (((lc_hk (k) : Nat) : Int)))]) : lc_Cel) := (fr55 _ (by omega) (by omega) (by omega) (by omega)).trans h14
          have h92 : σ62 (31) = some (lc_aS 4 (lc_h4 (lc_hr (r) (k)))) := (fr55 _ (by omega) (by omega) (by omega) (by omega)).trans h15
          have h93 : σ62 (t) = some (.inr (7, [.ref (t + 1), .int (lc_i (mo)), .int (lc_i (ca)), .ref (t + 3), .int (lc_i (ct))]) : lc_Cel) := (fr55 _ (by omega) (by omega) (by omega) (by omega)).trans h16
          have h94 : σ62 (t + 1) = some (.inr (0, [.ref (t + 2), .int (lc_i (lc_cnt (f) 1 36)), .int (lc_i (lc_cnt (f) 2 36)), .int (lc_i (s)), .int (lc_i (q)), .int (lc_i (m))]) : lc_Cel) := (fr55 _ (by omega) (by omega) (by omega) (by omega)).trans h17
          have h95 : σ62 (t + 2) = some (lc_aI 36 (f)) := (fr55 _ (by omega) (by omega) (by omega) (by omega)).trans h18
          have h96 : σ62 (t + 3) = some (lc_aJ 60 (fun i : Int => lc_j ((po) i))) := (fr55 _ (by omega) (by omega) (by omega) (by omega)).trans h19
          refine lc_iload_n dX10_setUp_62 rfl 3 rfl ?_
          exact lc_iret dX10_setUp_63 rfl (Nat.le_of_ble_eq_true rfl) (Nat.le_of_ble_eq_true rfl) (hQ _ _ _ (by rw [lc_zSet, if_neg (show ¬ (¬ (0 ≤ x ∧ x < 36)) from by omega), if_neg (show ¬ (wv < 0 ∨ 2 < wv) from by omega), if_neg (show ¬ (f x = wv) from by omega)]; exact ⟨rfl, rfl, lc_CI_mk (BF := (bF, bS, bQ, bM, bMO, bCA, bCT, bPO)) (SN := (nF, nS, nQ, nM, nMO, nCA, nCT, nPO)) h64 h65 h66 h67 h68 h69 h70 h71 h72 (lc_Lk_mk h73 h74 h75 h76 h77 h78 h79 h80) ⟨h56, h57, h58, h59⟩ ⟨h83, h84, h85, h86⟩ ⟨h87, h88, h89, h90⟩ (hSN) h91 h92 (lc_Sl_push (N := (f, s, q, m, mo, ca, ct, po)) hSl hk4 ht (fun i _ _ _ _ _ _ => ((fr55 i (by omega) (by omega) (by omega) (by omega)).trans (fr13 i (by omega) (by omega) (by omega) (by omega) (by omega) (by omega)))) ⟨h93, h94, h95, h96⟩) h81 h82, fun i _ => ((fr55 i (by omega) (by omega) (by omega) (by omega)).trans (fr13 i (by omega) (by omega) (by omega) (by omega) (by omega) (by omega)))⟩))
        · skip
          refine lc_bipush dX10_setUp_39 (by decide) ?_
          exact lc_iret dX10_setUp_41 rfl (Nat.le_of_ble_eq_true rfl) (Nat.le_of_ble_eq_true rfl) (hQ _ _ _ (by rw [lc_zSet, if_neg (show ¬ (¬ (0 ≤ x ∧ x < 36)) from by omega), if_neg (show ¬ (wv < 0 ∨ 2 < wv) from by omega), if_pos (show f x = wv from by omega)]; exact ⟨rfl, rfl, lc_CI_mk (BF := (bF, bS, bQ, bM, bMO, bCA, bCT, bPO)) (SN := (nF, nS, nQ, nM, nMO, nCA, nCT, nPO)) hz_1 hz_2 hz_3 hz_4 hz_5 hz_6 hz_7 hz_9 hz_10 (lc_Lk_mk hz_8 hz_11 hz_12 hz_13 hz_14 hz_15 hz_16 hz_17) ⟨hz_18, hz_19, hz_20, hz_21⟩ ⟨hz_22, hz_23, hz_24, hz_25⟩ ⟨hz_26, hz_27, hz_28, hz_29⟩ (hSN) hz_30 hz_31 (lc_Sl_fr hSl (fun i _ _ => rfl)) hz_48 hz_49, fun i _ => rfl⟩))
      · skip
        refine lc_bipush dX10_setUp_19 (by decide) ?_
        exact lc_iret dX10_setUp_21 rfl (Nat.le_of_ble_eq_true rfl) (Nat.le_of_ble_eq_true rfl) (hQ _ _ _ (by rw [lc_zSet, if_neg (show ¬ (¬ (0 ≤ x ∧ x < 36)) from by omega), if_pos (show wv < 0 ∨ 2 < wv from by omega)]; exact ⟨rfl, rfl, lc_CI_mk (BF := (bF, bS, bQ, bM, bMO, bCA, bCT, bPO)) (SN := (nF, nS, nQ, nM, nMO, nCA, nCT, nPO)) hz_1 hz_2 hz_3 hz_4 hz_5 hz_6 hz_7 hz_9 hz_10 (lc_Lk_mk hz_8 hz_11 hz_12 hz_13 hz_14 hz_15 hz_16 hz_17) ⟨hz_18, hz_19, hz_20, hz_21⟩ ⟨hz_22, hz_23, hz_24, hz_25⟩ ⟨hz_26, hz_27, hz_28, hz_29⟩ (hSN) hz_30 hz_31 (lc_Sl_fr hSl (fun i _ _ => rfl)) hz_48 hz_49, fun i _ => rfl⟩))
  · skip
    refine lc_bipush dX10_setUp_7 (by decide) ?_
    exact lc_iret dX10_setUp_9 rfl (Nat.le_of_ble_eq_true rfl) (Nat.le_of_ble_eq_true rfl) (hQ _ _ _ (by rw [lc_zSet, if_pos (show ¬ (0 ≤ x ∧ x < 36) from by omega)]; exact ⟨rfl, rfl, lc_CI_mk (BF := (bF, bS, bQ, bM, bMO, bCA, bCT, bPO)) (SN := (nF, nS, nQ, nM, nMO, nCA, nCT, nPO)) hz_1 hz_2 hz_3 hz_4 hz_5 hz_6 hz_7 hz_9 hz_10 (lc_Lk_mk hz_8 hz_11 hz_12 hz_13 hz_14 hz_15 hz_16 hz_17) ⟨hz_18, hz_19, hz_20, hz_21⟩ ⟨hz_22, hz_23, hz_24, hz_25⟩ ⟨hz_26, hz_27, hz_28, hz_29⟩ (hSN) hz_30 hz_31 (lc_Sl_fr hSl (fun i _ _ => rfl)) hz_48 hz_49, fun i _ => rfl⟩))

def lc_turn : lc_Ab → lc_Ab × Int
  | (N, P, H, k, tx, z, bs, bt, sn, sr) => (((N.1, 3 - N.2.1, 0, N.2.2.2.1, N.2.2.2.2.1, N.2.2.2.2.2.1, lc_rc 0, lc_rp N.2.2.2.2.2.2.2 0 (lc_key N.1 (3 - N.2.1) 36)), P, lc_pu H k N, lc_hk k, tx, z, bs, bt, sn, sr), 3 - N.2.1)

set_option maxRecDepth 100000 in
set_option maxHeartbeats 600000 in
theorem lc_cX10_turn (l : Launch) (n : Nat) (f : Int → Int) (s q m mo ca ct : Int) (po : Int → Int) (P : lc_St) (H : Nat → lc_St) (k : Nat) (tx : Int → Int) (z : Int) (bs bt : Bool) (sn sr : Int) (σ : lc_S)  (hI : lc_CI σ ((f, s, q, m, mo, ca, ct, po), P, H, k, tx, z, bs, bt, sn, sr)) (hw : lc_wf ((f, s, q, m, mo, ca, ct, po), P, H, k, tx, z, bs, bt, sn, sr)) : lc_Con l yX10_turn cX10_turn 1 (some .int) (lc_Rd 4) [.ref (1)] n σ (fun v n2 σ2 => v = some (.int (lc_i ((lc_turn ((f, s, q, m, mo, ca, ct, po), P, H, k, tx, z, bs, bt, sn, sr)).2))) ∧ n = n2 ∧ lc_CI σ2 ((lc_turn ((f, s, q, m, mo, ca, ct, po), P, H, k, tx, z, bs, bt, sn, sr)).1) ∧ ∀ i : Nat, 50 ≤ i ∨ i = 0 → σ2 i = σ i) := by
  obtain ⟨⟨hf9, hs9, hq9, hm9, hct9, hpo9, hkey9⟩, hwP, hwH, hk4, hz, htx⟩ := hw
  have hf : ∀ j : Int, 0 ≤ j → j < 36 → 0 ≤ f j ∧ f j ≤ 2 := hf9
  have hs : 1 ≤ s ∧ s ≤ 2 := hs9
  have hq : 0 ≤ q ∧ q ≤ 60 := hq9
  have hm : 4 ≤ m ∧ m ≤ 60 := hm9
  have hct : 1 ≤ ct ∧ ct ≤ 60 := hct9
  have hpo : ∀ i : Int, 0 ≤ i → i < ct → 0 ≤ po i ∧ po i < 450283905890997363 := hpo9
  have hkey : po (ct - 1) = lc_key f s 36 := hkey9
  have hpo4 : ∀ i : Int, 0 ≤ i → i < ct → 0 ≤ po i ∧ po i < 4611686018427387904 := fun i h1 h2 => ⟨(hpo i h1 h2).1, by have := (hpo i h1 h2).2; omega⟩
  obtain ⟨r, SN, BF, w, e1, e2, e3, u1, u2, ug, hc1, hc2, hc3, hc4, hc5, hc6, hc7, hc9, hc10, hLk, hN, hB, hS, hSN, hc30, hc31, hSl, hc48, hc49⟩ := hI
  have hb : 12 ≤ 19 := (by decide)
  obtain ⟨a1, a2, a3, ch, bf, d1, d2, d3, y1, y2, g1, x1, x2, g2, hk_8, hk_11, hk_12, hk_13, hk_14, hk_15, hk_16, hk_17⟩ := hLk
  obtain ⟨bF, bS, bQ, bM, bMO, bCA, bCT, bPO⟩ := BF
  obtain ⟨nF, nS, nQ, nM, nMO, nCA, nCT, nPO⟩ := SN
  obtain ⟨hN0, hN1, hN2, hN3⟩ := hN
  obtain ⟨hB0, hB1, hB2, hB3⟩ := hB
  obtain ⟨hS0, hS1, hS2, hS3⟩ := hS
  have hz_1 : σ (1) = some (.inr (10, [.ref (2), .ref (5), .ref (7), .ref (9), .ref (11), .ref (18), .ref (22), .ref (26), .ref (30), .ref (48), .int (lc_i (if bs = true then 1 else 0)), .int (lc_i (if bt = true then 1 else 0)), .int (lc_i (sn)), .int (lc_i (sr))]) : lc_Cel) := hc1
  have hz_2 : σ (2) = some (.inr (1, [.ref (3), .ref (4)]) : lc_Cel) := hc2
  have hz_3 : σ (3) = some (lc_aI 48 (lc_pt)) := hc3
  have hz_4 : σ (4) = some (lc_aI 72 (lc_sp)) := hc4
  have hz_5 : σ (5) = some (.inr (9, [.ref (2), .ref (6), .int (lc_i ((w).1)), .int (lc_i ((w).2.1)), .int (lc_i ((w).2.2.1)), .int (lc_i ((w).2.2.2))]) : lc_Cel) := hc5
  have hz_6 : σ (6) = some (.inr (8, [.ref (2), .int (lc_i (e1)), .int (lc_i (e2)), .int (lc_i (e3))]) : lc_Cel) := hc6
  have hz_7 : σ (7) = some (.inr (6, [.ref (2), .ref (8), .ref (5)]) : lc_Cel) := hc7
  have hz_9 : σ (9) = some (.inr (4, [.ref (10), .int (lc_i (u1)), .int (lc_i (u2))]) : lc_Cel) := hc9
  have hz_10 : σ (10) = some (lc_aI 364 (ug)) := hc10
  have hz_8 : σ (8) = some (.inr (8, [.ref (2), .int (lc_i (a1)), .int (lc_i (a2)), .int (lc_i (a3))]) : lc_Cel) := hk_8
  have hz_11 : σ (11) = some (.inr (3, [.ref (7), .ref (12), .ref (14), .ref (16), .int (lc_i (ch))]) : lc_Cel) := hk_11
  have hz_12 : σ (12) = some (.inr (0, [.ref (13), .int (lc_i (lc_cnt (bf) 1 36)), .int (lc_i (lc_cnt (bf) 2 36)), .int (lc_i (d1)), .int (lc_i (d2)), .int (lc_i (d3))]) : lc_Cel) := hk_12
  have hz_13 : σ (13) = some (lc_aI 36 (bf)) := hk_13
  have hz_14 : σ (14) = some (.inr (4, [.ref (15), .int (lc_i (y1)), .int (lc_i (y2))]) : lc_Cel) := hk_14
  have hz_15 : σ (15) = some (lc_aI 364 (g1)) := hk_15
  have hz_16 : σ (16) = some (.inr (4, [.ref (17), .int (lc_i (x1)), .int (lc_i (x2))]) : lc_Cel) := hk_16
  have hz_17 : σ (17) = some (lc_aI 364 (g2)) := hk_17
  have hz_30 : σ (30) = some (.inr (2, [.ref (31), .int (lc_i ((k : Int)))]) : lc_Cel) := hc30
  have hz_31 : σ (31) = some (lc_aS 4 (lc_h4 (r))) := hc31
  have hz_48 : σ (48) = some (.inr (5, [.ref (49), .int (lc_i (z))]) : lc_Cel) := hc48
  have hz_49 : σ (49) = some (lc_aC 80 (tx)) := hc49
  have hz_18 : σ (18) = some (.inr (7, [.ref (19), .int (lc_i (mo)), .int (lc_i (ca)), .ref (21), .int (lc_i (ct))]) : lc_Cel) := hN0
  have hz_19 : σ (19) = some (.inr (0, [.ref (20), .int (lc_i (lc_cnt (f) 1 36)), .int (lc_i (lc_cnt (f) 2 36)), .int (lc_i (s)), .int (lc_i (q)), .int (lc_i (m))]) : lc_Cel) := hN1
  have hz_20 : σ (20) = some (lc_aI 36 (f)) := hN2
  have hz_21 : σ (21) = some (lc_aJ 60 (fun i : Int => lc_j ((po) i))) := hN3
  have hz_22 : σ (22) = some (.inr (7, [.ref (23), .int (lc_i (bMO)), .int (lc_i (bCA)), .ref (25), .int (lc_i (bCT))]) : lc_Cel) := hB0
  have hz_23 : σ (23) = some (.inr (0, [.ref (24), .int (lc_i (lc_cnt (bF) 1 36)), .int (lc_i (lc_cnt (bF) 2 36)), .int (lc_i (bS)), .int (lc_i (bQ)), .int (lc_i (bM))]) : lc_Cel) := hB1
  have hz_24 : σ (24) = some (lc_aI 36 (bF)) := hB2
  have hz_25 : σ (25) = some (lc_aJ 60 (fun i : Int => lc_j ((bPO) i))) := hB3
  have hz_26 : σ (26) = some (.inr (7, [.ref (27), .int (lc_i (nMO)), .int (lc_i (nCA)), .ref (29), .int (lc_i (nCT))]) : lc_Cel) := hS0
  have hz_27 : σ (27) = some (.inr (0, [.ref (28), .int (lc_i (lc_cnt (nF) 1 36)), .int (lc_i (lc_cnt (nF) 2 36)), .int (lc_i (nS)), .int (lc_i (nQ)), .int (lc_i (nM))]) : lc_Cel) := hS1
  have hz_28 : σ (28) = some (lc_aI 36 (nF)) := hS2
  have hz_29 : σ (29) = some (lc_aJ 60 (fun i : Int => lc_j ((nPO) i))) := hS3
  obtain ⟨t, ht⟩ : ∃ t : Nat, t = 32 + 4 * ((r + k) % 4) := ⟨_, rfl⟩
  obtain ⟨⟨f3, s3, q3, m3, mo3, ca3, ct3, po3⟩, hT0, hT1, hT2, hT3⟩ := lc_Sl_at hSl ht
  have hz_t : σ (t) = some (.inr (7, [.ref (t + 1), .int (lc_i (mo3)), .int (lc_i (ca3)), .ref (t + 3), .int (lc_i (ct3))]) : lc_Cel) := hT0
  have hz_t_1 : σ (t + 1) = some (.inr (0, [.ref (t + 2), .int (lc_i (lc_cnt (f3) 1 36)), .int (lc_i (lc_cnt (f3) 2 36)), .int (lc_i (s3)), .int (lc_i (q3)), .int (lc_i (m3))]) : lc_Cel) := hT1
  have hz_t_2 : σ (t + 2) = some (lc_aI 36 (f3)) := hT2
  have hz_t_3 : σ (t + 3) = some (lc_aJ 60 (fun i : Int => lc_j ((po3) i))) := hT3
  refine lc_con RX10 false (by decide) rfl (fun h => absurd h (by decide)) (Nat.le_of_ble_eq_true rfl) ?_
  suffices H : ∀ Q : lc_QT, (∀ v n2 σ2, (fun v n2 σ2 => v = some (.int (lc_i ((lc_turn ((f, s, q, m, mo, ca, ct, po), P, H, k, tx, z, bs, bt, sn, sr)).2))) ∧ n = n2 ∧ lc_CI σ2 ((lc_turn ((f, s, q, m, mo, ca, ct, po), P, H, k, tx, z, bs, bt, sn, sr)).1) ∧ ∀ i : Nat, 50 ≤ i ∨ i = 0 → σ2 i = σ i : lc_QT) v n2 σ2 → Q v n2 σ2) → lc_V l RX10 cX10_turn 1 (some .int) false (lc_Rd 4) (lc_G Q 0 0) lc_E0 0 0 n 0 [(0, .ref (1))] [] σ from H _ (fun _ _ _ h => h)
  intro Q hQ
  refine lc_aload_n dX10_turn_0 rfl 0 rfl ?_
  refine lc_get dX10_turn_1 lc_fX10_66 hz_1 rfl ?_
  refine lc_aload_n dX10_turn_4 rfl 0 rfl ?_
  refine lc_get dX10_turn_5 lc_fX10_53 hz_1 rfl ?_
  refine lc_callV (As := [.ref (18)]) (stk := []) (b := 30) dX10_turn_8 lc_mX10_89 lc_yX2_push hz_30 rfl (lc_cX2_push l n (r) (k) (18) (f) (s) (q) (m) (mo) (ca) (ct) (po) (t) (f3) (s3) (q3) (m3) (mo3) (ca3) (ct3) (po3) σ hz_30 hz_31 hz_18 hz_19 hz_20 hz_21 hz_t hz_t_1 hz_t_2 hz_t_3 (hk4) (ht) (by omega) (lc_Sl_st (lc_Sl_fr hSl (fun i _ _ => rfl)))) rfl ⟨Nat.le_of_ble_eq_true rfl, Nat.le_of_ble_eq_true rfl⟩ ⟨Nat.le_of_ble_eq_true rfl, Nat.le_of_ble_eq_true rfl⟩ rfl (Nat.le_of_ble_eq_true rfl) (fun v8 n9 σ10 q11 => ?_)
  obtain ⟨rfl, rfl, h2, h3, h4, h5, h6, h7, fr1⟩ := q11
  have h12 : σ10 (1) = some (.inr (10, [.ref (2), .ref (5), .ref (7), .ref (9), .ref (11), .ref (18), .ref (22), .ref (26), .ref (30), .ref (48), .int (lc_i (if bs = true then 1 else 0)), .int (lc_i (if bt = true then 1 else 0)), .int (lc_i (sn)), .int (lc_i (sr))]) : lc_Cel) := (fr1 _ (by omega) (by omega) (by omega) (by omega) (by omega) (by omega)).trans hz_1
  have h13 : σ10 (2) = some (.inr (1, [.ref (3), .ref (4)]) : lc_Cel) := (fr1 _ (by omega) (by omega) (by omega) (by omega) (by omega) (by omega)).trans hz_2
  have h14 : σ10 (3) = some (lc_aI 48 (lc_pt)) := (fr1 _ (by omega) (by omega) (by omega) (by omega) (by omega) (by omega)).trans hz_3
  have h15 : σ10 (4) = some (lc_aI 72 (lc_sp)) := (fr1 _ (by omega) (by omega) (by omega) (by omega) (by omega) (by omega)).trans hz_4
  have h16 : σ10 (5) = some (.inr (9, [.ref (2), .ref (6), .int (lc_i ((w).1)), .int (lc_i ((w).2.1)), .int (lc_i ((w).2.2.1)), .int (lc_i ((w).2.2.2))]) : lc_Cel) := (fr1 _ (by omega) (by omega) (by omega) (by omega) (by omega) (by omega)).trans hz_5
  have h17 : σ10 (6) = some (.inr (8, [.ref (2), .int (lc_i (e1)), .int (lc_i (e2)), .int (lc_i (e3))]) : lc_Cel) := (fr1 _ (by omega) (by omega) (by omega) (by omega) (by omega) (by omega)).trans hz_6
  have h18 : σ10 (7) = some (.inr (6, [.ref (2), .ref (8), .ref (5)]) : lc_Cel) := (fr1 _ (by omega) (by omega) (by omega) (by omega) (by omega) (by omega)).trans hz_7
  have h19 : σ10 (9) = some (.inr (4, [.ref (10), .int (lc_i (u1)), .int (lc_i (u2))]) : lc_Cel) := (fr1 _ (by omega) (by omega) (by omega) (by omega) (by omega) (by omega)).trans hz_9
  have h20 : σ10 (10) = some (lc_aI 364 (ug)) := (fr1 _ (by omega) (by omega) (by omega) (by omega) (by omega) (by omega)).trans hz_10
  have h21 : σ10 (8) = some (.inr (8, [.ref (2), .int (lc_i (a1)), .int (lc_i (a2)), .int (lc_i (a3))]) : lc_Cel) := (fr1 _ (by omega) (by omega) (by omega) (by omega) (by omega) (by omega)).trans hz_8
  have h22 : σ10 (11) = some (.inr (3, [.ref (7), .ref (12), .ref (14), .ref (16), .int (lc_i (ch))]) : lc_Cel) := (fr1 _ (by omega) (by omega) (by omega) (by omega) (by omega) (by omega)).trans hz_11
  have h23 : σ10 (12) = some (.inr (0, [.ref (13), .int (lc_i (lc_cnt (bf) 1 36)), .int (lc_i (lc_cnt (bf) 2 36)), .int (lc_i (d1)), .int (lc_i (d2)), .int (lc_i (d3))]) : lc_Cel) := (fr1 _ (by omega) (by omega) (by omega) (by omega) (by omega) (by omega)).trans hz_12
  have h24 : σ10 (13) = some (lc_aI 36 (bf)) := (fr1 _ (by omega) (by omega) (by omega) (by omega) (by omega) (by omega)).trans hz_13
  have h25 : σ10 (14) = some (.inr (4, [.ref (15), .int (lc_i (y1)), .int (lc_i (y2))]) : lc_Cel) := (fr1 _ (by omega) (by omega) (by omega) (by omega) (by omega) (by omega)).trans hz_14
  have h26 : σ10 (15) = some (lc_aI 364 (g1)) := (fr1 _ (by omega) (by omega) (by omega) (by omega) (by omega) (by omega)).trans hz_15
  have h27 : σ10 (16) = some (.inr (4, [.ref (17), .int (lc_i (x1)), .int (lc_i (x2))]) : lc_Cel) := (fr1 _ (by omega) (by omega) (by omega) (by omega) (by omega) (by omega)).trans hz_16
  have h28 : σ10 (17) = some (lc_aI 364 (g2)) := (fr1 _ (by omega) (by omega) (by omega) (by omega) (by omega) (by omega)).trans hz_17
  have h29 : σ10 (48) = some (.inr (5, [.ref (49), .int (lc_i (z))]) : lc_Cel) := (fr1 _ (by omega) (by omega) (by omega) (by omega) (by omega) (by omega)).trans hz_48
  have h30 : σ10 (49) = some (lc_aC 80 (tx)) := (fr1 _ (by omega) (by omega) (by omega) (by omega) (by omega) (by omega)).trans hz_49
  have h31 : σ10 (18) = some (.inr (7, [.ref (19), .int (lc_i (mo)), .int (lc_i (ca)), .ref (21), .int (lc_i (ct))]) : lc_Cel) := (fr1 _ (by omega) (by omega) (by omega) (by omega) (by omega) (by omega)).trans hz_18
  have h32 : σ10 (19) = some (.inr (0, [.ref (20), .int (lc_i (lc_cnt (f) 1 36)), .int (lc_i (lc_cnt (f) 2 36)), .int (lc_i (s)), .int (lc_i (q)), .int (lc_i (m))]) : lc_Cel) := (fr1 _ (by omega) (by omega) (by omega) (by omega) (by omega) (by omega)).trans hz_19
  have h33 : σ10 (20) = some (lc_aI 36 (f)) := (fr1 _ (by omega) (by omega) (by omega) (by omega) (by omega) (by omega)).trans hz_20
  have h34 : σ10 (21) = some (lc_aJ 60 (fun i : Int => lc_j ((po) i))) := (fr1 _ (by omega) (by omega) (by omega) (by omega) (by omega) (by omega)).trans hz_21
  have h35 : σ10 (22) = some (.inr (7, [.ref (23), .int (lc_i (bMO)), .int (lc_i (bCA)), .ref (25), .int (lc_i (bCT))]) : lc_Cel) := (fr1 _ (by omega) (by omega) (by omega) (by omega) (by omega) (by omega)).trans hz_22
  have h36 : σ10 (23) = some (.inr (0, [.ref (24), .int (lc_i (lc_cnt (bF) 1 36)), .int (lc_i (lc_cnt (bF) 2 36)), .int (lc_i (bS)), .int (lc_i (bQ)), .int (lc_i (bM))]) : lc_Cel) := (fr1 _ (by omega) (by omega) (by omega) (by omega) (by omega) (by omega)).trans hz_23
  have h37 : σ10 (24) = some (lc_aI 36 (bF)) := (fr1 _ (by omega) (by omega) (by omega) (by omega) (by omega) (by omega)).trans hz_24
  have h38 : σ10 (25) = some (lc_aJ 60 (fun i : Int => lc_j ((bPO) i))) := (fr1 _ (by omega) (by omega) (by omega) (by omega) (by omega) (by omega)).trans hz_25
  have h39 : σ10 (26) = some (.inr (7, [.ref (27), .int (lc_i (nMO)), .int (lc_i (nCA)), .ref (29), .int (lc_i (nCT))]) : lc_Cel) := (fr1 _ (by omega) (by omega) (by omega) (by omega) (by omega) (by omega)).trans hz_26
  have h40 : σ10 (27) = some (.inr (0, [.ref (28), .int (lc_i (lc_cnt (nF) 1 36)), .int (lc_i (lc_cnt (nF) 2 36)), .int (lc_i (nS)), .int (lc_i (nQ)), .int (lc_i (nM))]) : lc_Cel) := (fr1 _ (by omega) (by omega) (by omega) (by omega) (by omega) (by omega)).trans hz_27
  have h41 : σ10 (28) = some (lc_aI 36 (nF)) := (fr1 _ (by omega) (by omega) (by omega) (by omega) (by omega) (by omega)).trans hz_28
  have h42 : σ10 (29) = some (lc_aJ 60 (fun i : Int => lc_j ((nPO) i))) := (fr1 _ (by omega) (by omega) (by omega) (by omega) (by omega) (by omega)).trans hz_29
  refine lc_aload_n dX10_turn_11 rfl 0 rfl ?_
  refine lc_get dX10_turn_12 lc_fX10_53 h12 rfl ?_
  refine lc_callV (As := []) (stk := []) (b := 18) dX10_turn_15 lc_mX10_120 lc_yX7_changeSide h31 rfl (lc_cX7_changeSide l n (18) (f) (s) (q) (m) (mo) (ca) (ct) (po) σ10 h31 h32 h33 h34 (hf) (hs)) rfl ⟨Nat.le_of_ble_eq_true rfl, Nat.le_of_ble_eq_true rfl⟩ ⟨Nat.le_of_ble_eq_true rfl, Nat.le_of_ble_eq_true rfl⟩ rfl (Nat.le_of_ble_eq_true rfl) (fun v48 n49 σ50 q51 => ?_)
  obtain ⟨rfl, rfl, h44, h45, h46, h47, fr43⟩ := q51
  have h52 : σ50 (1) = some (.inr (10, [.ref (2), .ref (5), .ref (7), .ref (9), .ref (11), .ref (18), .ref (22), .ref (26), .ref (30), .ref (48), .int (lc_i (if bs = true then 1 else 0)), .int (lc_i (if bt = true then 1 else 0)), .int (lc_i (sn)), .int (lc_i (sr))]) : lc_Cel) := (fr43 _ (by omega) (by omega) (by omega) (by omega)).trans h12
  have h53 : σ50 (2) = some (.inr (1, [.ref (3), .ref (4)]) : lc_Cel) := (fr43 _ (by omega) (by omega) (by omega) (by omega)).trans h13
  have h54 : σ50 (3) = some (lc_aI 48 (lc_pt)) := (fr43 _ (by omega) (by omega) (by omega) (by omega)).trans h14
  have h55 : σ50 (4) = some (lc_aI 72 (lc_sp)) := (fr43 _ (by omega) (by omega) (by omega) (by omega)).trans h15
  have h56 : σ50 (5) = some (.inr (9, [.ref (2), .ref (6), .int (lc_i ((w).1)), .int (lc_i ((w).2.1)), .int (lc_i ((w).2.2.1)), .int (lc_i ((w).2.2.2))]) : lc_Cel) := (fr43 _ (by omega) (by omega) (by omega) (by omega)).trans h16
  have h57 : σ50 (6) = some (.inr (8, [.ref (2), .int (lc_i (e1)), .int (lc_i (e2)), .int (lc_i (e3))]) : lc_Cel) := (fr43 _ (by omega) (by omega) (by omega) (by omega)).trans h17
  have h58 : σ50 (7) = some (.inr (6, [.ref (2), .ref (8), .ref (5)]) : lc_Cel) := (fr43 _ (by omega) (by omega) (by omega) (by omega)).trans h18
  have h59 : σ50 (9) = some (.inr (4, [.ref (10), .int (lc_i (u1)), .int (lc_i (u2))]) : lc_Cel) := (fr43 _ (by omega) (by omega) (by omega) (by omega)).trans h19
  have h60 : σ50 (10) = some (lc_aI 364 (ug)) := (fr43 _ (by omega) (by omega) (by omega) (by omega)).trans h20
  have h61 : σ50 (8) = some (.inr (8, [.ref (2), .int (lc_i (a1)), .int (lc_i (a2)), .int (lc_i (a3))]) : lc_Cel) := (fr43 _ (by omega) (by omega) (by omega) (by omega)).trans h21
  have h62 : σ50 (11) = some (.inr (3, [.ref (7), .ref (12), .ref (14), .ref (16), .int (lc_i (ch))]) : lc_Cel) := (fr43 _ (by omega) (by omega) (by omega) (by omega)).trans h22
  have h63 : σ50 (12) = some (.inr (0, [.ref (13), .int (lc_i (lc_cnt (bf) 1 36)), .int (lc_i (lc_cnt (bf) 2 36)), .int (lc_i (d1)), .int (lc_i (d2)), .int (lc_i (d3))]) : lc_Cel) := (fr43 _ (by omega) (by omega) (by omega) (by omega)).trans h23
  have h64 : σ50 (13) = some (lc_aI 36 (bf)) := (fr43 _ (by omega) (by omega) (by omega) (by omega)).trans h24
  have h65 : σ50 (14) = some (.inr (4, [.ref (15), .int (lc_i (y1)), .int (lc_i (y2))]) : lc_Cel) := (fr43 _ (by omega) (by omega) (by omega) (by omega)).trans h25
  have h66 : σ50 (15) = some (lc_aI 364 (g1)) := (fr43 _ (by omega) (by omega) (by omega) (by omega)).trans h26
  have h67 : σ50 (16) = some (.inr (4, [.ref (17), .int (lc_i (x1)), .int (lc_i (x2))]) : lc_Cel) := (fr43 _ (by omega) (by omega) (by omega) (by omega)).trans h27
  have h68 : σ50 (17) = some (lc_aI 364 (g2)) := (fr43 _ (by omega) (by omega) (by omega) (by omega)).trans h28
  have h69 : σ50 (48) = some (.inr (5, [.ref (49), .int (lc_i (z))]) : lc_Cel) := (fr43 _ (by omega) (by omega) (by omega) (by omega)).trans h29
  have h70 : σ50 (49) = some (lc_aC 80 (tx)) := (fr43 _ (by omega) (by omega) (by omega) (by omega)).trans h30
  have h71 : σ50 (22) = some (.inr (7, [.ref (23), .int (lc_i (bMO)), .int (lc_i (bCA)), .ref (25), .int (lc_i (bCT))]) : lc_Cel) := (fr43 _ (by omega) (by omega) (by omega) (by omega)).trans h35
  have h72 : σ50 (23) = some (.inr (0, [.ref (24), .int (lc_i (lc_cnt (bF) 1 36)), .int (lc_i (lc_cnt (bF) 2 36)), .int (lc_i (bS)), .int (lc_i (bQ)), .int (lc_i (bM))]) : lc_Cel) := (fr43 _ (by omega) (by omega) (by omega) (by omega)).trans h36
  have h73 : σ50 (24) = some (lc_aI 36 (bF)) := (fr43 _ (by omega) (by omega) (by omega) (by omega)).trans h37
  have h74 : σ50 (25) = some (lc_aJ 60 (fun i : Int => lc_j ((bPO) i))) := (fr43 _ (by omega) (by omega) (by omega) (by omega)).trans h38
  have h75 : σ50 (26) = some (.inr (7, [.ref (27), .int (lc_i (nMO)), .int (lc_i (nCA)), .ref (29), .int (lc_i (nCT))]) : lc_Cel) := (fr43 _ (by omega) (by omega) (by omega) (by omega)).trans h39
  have h76 : σ50 (27) = some (.inr (0, [.ref (28), .int (lc_i (lc_cnt (nF) 1 36)), .int (lc_i (lc_cnt (nF) 2 36)), .int (lc_i (nS)), .int (lc_i (nQ)), .int (lc_i (nM))]) : lc_Cel) := (fr43 _ (by omega) (by omega) (by omega) (by omega)).trans h40
  have h77 : σ50 (28) = some (lc_aI 36 (nF)) := (fr43 _ (by omega) (by omega) (by omega) (by omega)).trans h41
  have h78 : σ50 (29) = some (lc_aJ 60 (fun i : Int => lc_j ((nPO) i))) := (fr43 _ (by omega) (by omega) (by omega) (by omega)).trans h42
  have h79 : σ50 (30) = some (.inr (2, [.ref (31), .int (lc_i (((lc_hk (k) : Nat) : Int)))]) : lc_Cel) := (fr43 _ (by omega) (by omega) (by omega) (by omega)).trans h2
  have h80 : σ50 (31) = some (lc_aS 4 (lc_h4 (lc_hr (r) (k)))) := (fr43 _ (by omega) (by omega) (by omega) (by omega)).trans h3
  have h81 : σ50 (t) = some (.inr (7, [.ref (t + 1), .int (lc_i (mo)), .int (lc_i (ca)), .ref (t + 3), .int (lc_i (ct))]) : lc_Cel) := (fr43 _ (by omega) (by omega) (by omega) (by omega)).trans h4
  have h82 : σ50 (t + 1) = some (.inr (0, [.ref (t + 2), .int (lc_i (lc_cnt (f) 1 36)), .int (lc_i (lc_cnt (f) 2 36)), .int (lc_i (s)), .int (lc_i (q)), .int (lc_i (m))]) : lc_Cel) := (fr43 _ (by omega) (by omega) (by omega) (by omega)).trans h5
  have h83 : σ50 (t + 2) = some (lc_aI 36 (f)) := (fr43 _ (by omega) (by omega) (by omega) (by omega)).trans h6
  have h84 : σ50 (t + 3) = some (lc_aJ 60 (fun i : Int => lc_j ((po) i))) := (fr43 _ (by omega) (by omega) (by omega) (by omega)).trans h7
  refine lc_aload_n dX10_turn_18 rfl 0 rfl ?_
  refine lc_get dX10_turn_19 lc_fX10_53 h52 rfl ?_
  refine lc_get dX10_turn_22 lc_fX10_81 h44 rfl ?_
  refine lc_callV (As := []) (stk := []) (b := 19) dX10_turn_25 lc_mX10_103 lc_yX0_sideToMove h45 rfl (lc_cX0_sideToMove l n (19) (f) (lc_cnt (f) 1 36) (lc_cnt (f) 2 36) (3 - (s)) (0) (m) σ50 h45) rfl ⟨Nat.le_of_ble_eq_true rfl, Nat.le_of_ble_eq_true rfl⟩ ⟨Nat.le_of_ble_eq_true rfl, Nat.le_of_ble_eq_true rfl⟩ rfl (Nat.le_of_ble_eq_true rfl) (fun v85 n86 σ87 q88 => ?_)
  obtain ⟨rfl, rfl, rfl⟩ := q88
  exact lc_iret dX10_turn_28 rfl (Nat.le_of_ble_eq_true rfl) (Nat.le_of_ble_eq_true rfl) (hQ _ _ _ (by rw [lc_turn]; exact ⟨rfl, rfl, lc_CI_mk (BF := (bF, bS, bQ, bM, bMO, bCA, bCT, bPO)) (SN := (nF, nS, nQ, nM, nMO, nCA, nCT, nPO)) h52 h53 h54 h55 h56 h57 h58 h59 h60 (lc_Lk_mk h61 h62 h63 h64 h65 h66 h67 h68) ⟨h44, h45, h46, h47⟩ ⟨h71, h72, h73, h74⟩ ⟨h75, h76, h77, h78⟩ (hSN) h79 h80 (lc_Sl_push (N := (f, s, q, m, mo, ca, ct, po)) hSl hk4 ht (fun i _ _ _ _ _ _ => ((fr43 i (by omega) (by omega) (by omega) (by omega)).trans (fr1 i (by omega) (by omega) (by omega) (by omega) (by omega) (by omega)))) ⟨h81, h82, h83, h84⟩) h69 h70, fun i _ => ((fr43 i (by omega) (by omega) (by omega) (by omega)).trans (fr1 i (by omega) (by omega) (by omega) (by omega) (by omega) (by omega)))⟩))

def lc_beg : lc_Ab → lc_Ab × Int
  | (N, P, H, k, tx, z, bs, bt, sn, sr) => (((lc_f0, 1, 0, N.2.2.2.1, 0, 0, lc_rc 0, lc_rp N.2.2.2.2.2.2.2 0 (lc_key lc_f0 1 36)), P, lc_pu H k N, lc_hk k, tx, z, bs, bt, sn, sr), lc_cnt N.1 1 36 + lc_cnt N.1 2 36)

set_option maxRecDepth 100000 in
set_option maxHeartbeats 600000 in
theorem lc_cX10_begin (l : Launch) (n : Nat) (f : Int → Int) (s q m mo ca ct : Int) (po : Int → Int) (P : lc_St) (H : Nat → lc_St) (k : Nat) (tx : Int → Int) (z : Int) (bs bt : Bool) (sn sr : Int) (σ : lc_S)  (hI : lc_CI σ ((f, s, q, m, mo, ca, ct, po), P, H, k, tx, z, bs, bt, sn, sr)) (hw : lc_wf ((f, s, q, m, mo, ca, ct, po), P, H, k, tx, z, bs, bt, sn, sr)) : lc_Con l yX10_begin cX10_begin 2 (some .int) (lc_Rd 4) [.ref (1)] n σ (fun v n2 σ2 => v = some (.int (lc_i ((lc_beg ((f, s, q, m, mo, ca, ct, po), P, H, k, tx, z, bs, bt, sn, sr)).2))) ∧ n = n2 ∧ lc_CI σ2 ((lc_beg ((f, s, q, m, mo, ca, ct, po), P, H, k, tx, z, bs, bt, sn, sr)).1) ∧ ∀ i : Nat, 50 ≤ i ∨ i = 0 → σ2 i = σ i) := by
  obtain ⟨⟨hf9, hs9, hq9, hm9, hct9, hpo9, hkey9⟩, hwP, hwH, hk4, hz, htx⟩ := hw
  have hf : ∀ j : Int, 0 ≤ j → j < 36 → 0 ≤ f j ∧ f j ≤ 2 := hf9
  have hs : 1 ≤ s ∧ s ≤ 2 := hs9
  have hq : 0 ≤ q ∧ q ≤ 60 := hq9
  have hm : 4 ≤ m ∧ m ≤ 60 := hm9
  have hct : 1 ≤ ct ∧ ct ≤ 60 := hct9
  have hpo : ∀ i : Int, 0 ≤ i → i < ct → 0 ≤ po i ∧ po i < 450283905890997363 := hpo9
  have hkey : po (ct - 1) = lc_key f s 36 := hkey9
  have hpo4 : ∀ i : Int, 0 ≤ i → i < ct → 0 ≤ po i ∧ po i < 4611686018427387904 := fun i h1 h2 => ⟨(hpo i h1 h2).1, by have := (hpo i h1 h2).2; omega⟩
  obtain ⟨r, SN, BF, w, e1, e2, e3, u1, u2, ug, hc1, hc2, hc3, hc4, hc5, hc6, hc7, hc9, hc10, hLk, hN, hB, hS, hSN, hc30, hc31, hSl, hc48, hc49⟩ := hI
  have hb : 12 ≤ 19 := (by decide)
  obtain ⟨a1, a2, a3, ch, bf, d1, d2, d3, y1, y2, g1, x1, x2, g2, hk_8, hk_11, hk_12, hk_13, hk_14, hk_15, hk_16, hk_17⟩ := hLk
  obtain ⟨bF, bS, bQ, bM, bMO, bCA, bCT, bPO⟩ := BF
  obtain ⟨nF, nS, nQ, nM, nMO, nCA, nCT, nPO⟩ := SN
  obtain ⟨hN0, hN1, hN2, hN3⟩ := hN
  obtain ⟨hB0, hB1, hB2, hB3⟩ := hB
  obtain ⟨hS0, hS1, hS2, hS3⟩ := hS
  have hz_1 : σ (1) = some (.inr (10, [.ref (2), .ref (5), .ref (7), .ref (9), .ref (11), .ref (18), .ref (22), .ref (26), .ref (30), .ref (48), .int (lc_i (if bs = true then 1 else 0)), .int (lc_i (if bt = true then 1 else 0)), .int (lc_i (sn)), .int (lc_i (sr))]) : lc_Cel) := hc1
  have hz_2 : σ (2) = some (.inr (1, [.ref (3), .ref (4)]) : lc_Cel) := hc2
  have hz_3 : σ (3) = some (lc_aI 48 (lc_pt)) := hc3
  have hz_4 : σ (4) = some (lc_aI 72 (lc_sp)) := hc4
  have hz_5 : σ (5) = some (.inr (9, [.ref (2), .ref (6), .int (lc_i ((w).1)), .int (lc_i ((w).2.1)), .int (lc_i ((w).2.2.1)), .int (lc_i ((w).2.2.2))]) : lc_Cel) := hc5
  have hz_6 : σ (6) = some (.inr (8, [.ref (2), .int (lc_i (e1)), .int (lc_i (e2)), .int (lc_i (e3))]) : lc_Cel) := hc6
  have hz_7 : σ (7) = some (.inr (6, [.ref (2), .ref (8), .ref (5)]) : lc_Cel) := hc7
  have hz_9 : σ (9) = some (.inr (4, [.ref (10), .int (lc_i (u1)), .int (lc_i (u2))]) : lc_Cel) := hc9
  have hz_10 : σ (10) = some (lc_aI 364 (ug)) := hc10
  have hz_8 : σ (8) = some (.inr (8, [.ref (2), .int (lc_i (a1)), .int (lc_i (a2)), .int (lc_i (a3))]) : lc_Cel) := hk_8
  have hz_11 : σ (11) = some (.inr (3, [.ref (7), .ref (12), .ref (14), .ref (16), .int (lc_i (ch))]) : lc_Cel) := hk_11
  have hz_12 : σ (12) = some (.inr (0, [.ref (13), .int (lc_i (lc_cnt (bf) 1 36)), .int (lc_i (lc_cnt (bf) 2 36)), .int (lc_i (d1)), .int (lc_i (d2)), .int (lc_i (d3))]) : lc_Cel) := hk_12
  have hz_13 : σ (13) = some (lc_aI 36 (bf)) := hk_13
  have hz_14 : σ (14) = some (.inr (4, [.ref (15), .int (lc_i (y1)), .int (lc_i (y2))]) : lc_Cel) := hk_14
  have hz_15 : σ (15) = some (lc_aI 364 (g1)) := hk_15
  have hz_16 : σ (16) = some (.inr (4, [.ref (17), .int (lc_i (x1)), .int (lc_i (x2))]) : lc_Cel) := hk_16
  have hz_17 : σ (17) = some (lc_aI 364 (g2)) := hk_17
  have hz_30 : σ (30) = some (.inr (2, [.ref (31), .int (lc_i ((k : Int)))]) : lc_Cel) := hc30
  have hz_31 : σ (31) = some (lc_aS 4 (lc_h4 (r))) := hc31
  have hz_48 : σ (48) = some (.inr (5, [.ref (49), .int (lc_i (z))]) : lc_Cel) := hc48
  have hz_49 : σ (49) = some (lc_aC 80 (tx)) := hc49
  have hz_18 : σ (18) = some (.inr (7, [.ref (19), .int (lc_i (mo)), .int (lc_i (ca)), .ref (21), .int (lc_i (ct))]) : lc_Cel) := hN0
  have hz_19 : σ (19) = some (.inr (0, [.ref (20), .int (lc_i (lc_cnt (f) 1 36)), .int (lc_i (lc_cnt (f) 2 36)), .int (lc_i (s)), .int (lc_i (q)), .int (lc_i (m))]) : lc_Cel) := hN1
  have hz_20 : σ (20) = some (lc_aI 36 (f)) := hN2
  have hz_21 : σ (21) = some (lc_aJ 60 (fun i : Int => lc_j ((po) i))) := hN3
  have hz_22 : σ (22) = some (.inr (7, [.ref (23), .int (lc_i (bMO)), .int (lc_i (bCA)), .ref (25), .int (lc_i (bCT))]) : lc_Cel) := hB0
  have hz_23 : σ (23) = some (.inr (0, [.ref (24), .int (lc_i (lc_cnt (bF) 1 36)), .int (lc_i (lc_cnt (bF) 2 36)), .int (lc_i (bS)), .int (lc_i (bQ)), .int (lc_i (bM))]) : lc_Cel) := hB1
  have hz_24 : σ (24) = some (lc_aI 36 (bF)) := hB2
  have hz_25 : σ (25) = some (lc_aJ 60 (fun i : Int => lc_j ((bPO) i))) := hB3
  have hz_26 : σ (26) = some (.inr (7, [.ref (27), .int (lc_i (nMO)), .int (lc_i (nCA)), .ref (29), .int (lc_i (nCT))]) : lc_Cel) := hS0
  have hz_27 : σ (27) = some (.inr (0, [.ref (28), .int (lc_i (lc_cnt (nF) 1 36)), .int (lc_i (lc_cnt (nF) 2 36)), .int (lc_i (nS)), .int (lc_i (nQ)), .int (lc_i (nM))]) : lc_Cel) := hS1
  have hz_28 : σ (28) = some (lc_aI 36 (nF)) := hS2
  have hz_29 : σ (29) = some (lc_aJ 60 (fun i : Int => lc_j ((nPO) i))) := hS3
  obtain ⟨t, ht⟩ : ∃ t : Nat, t = 32 + 4 * ((r + k) % 4) := ⟨_, rfl⟩
  obtain ⟨⟨f3, s3, q3, m3, mo3, ca3, ct3, po3⟩, hT0, hT1, hT2, hT3⟩ := lc_Sl_at hSl ht
  have hz_t : σ (t) = some (.inr (7, [.ref (t + 1), .int (lc_i (mo3)), .int (lc_i (ca3)), .ref (t + 3), .int (lc_i (ct3))]) : lc_Cel) := hT0
  have hz_t_1 : σ (t + 1) = some (.inr (0, [.ref (t + 2), .int (lc_i (lc_cnt (f3) 1 36)), .int (lc_i (lc_cnt (f3) 2 36)), .int (lc_i (s3)), .int (lc_i (q3)), .int (lc_i (m3))]) : lc_Cel) := hT1
  have hz_t_2 : σ (t + 2) = some (lc_aI 36 (f3)) := hT2
  have hz_t_3 : σ (t + 3) = some (lc_aJ 60 (fun i : Int => lc_j ((po3) i))) := hT3
  refine lc_con RX10 false (by decide) rfl (fun h => absurd h (by decide)) (Nat.le_of_ble_eq_true rfl) ?_
  suffices H : ∀ Q : lc_QT, (∀ v n2 σ2, (fun v n2 σ2 => v = some (.int (lc_i ((lc_beg ((f, s, q, m, mo, ca, ct, po), P, H, k, tx, z, bs, bt, sn, sr)).2))) ∧ n = n2 ∧ lc_CI σ2 ((lc_beg ((f, s, q, m, mo, ca, ct, po), P, H, k, tx, z, bs, bt, sn, sr)).1) ∧ ∀ i : Nat, 50 ≤ i ∨ i = 0 → σ2 i = σ i : lc_QT) v n2 σ2 → Q v n2 σ2) → lc_V l RX10 cX10_begin 2 (some .int) false (lc_Rd 4) (lc_G Q 0 0) lc_E0 0 0 n 0 [(0, .ref (1))] [] σ from H _ (fun _ _ _ h => h)
  intro Q hQ
  refine lc_aload_n dX10_begin_0 rfl 0 rfl ?_
  refine lc_get dX10_begin_1 lc_fX10_53 hz_1 rfl ?_
  refine lc_get dX10_begin_4 lc_fX10_81 hz_18 rfl ?_
  refine lc_callV (As := []) (stk := []) (b := 19) dX10_begin_7 lc_mX10_123 lc_yX0_allPieces hz_19 rfl (lc_cX0_allPieces l n (19) (f) (lc_cnt (f) 1 36) (lc_cnt (f) 2 36) (s) (q) (m) σ hz_19) rfl ⟨Nat.le_of_ble_eq_true rfl, Nat.le_of_ble_eq_true rfl⟩ ⟨Nat.le_of_ble_eq_true rfl, Nat.le_of_ble_eq_true rfl⟩ rfl (Nat.le_of_ble_eq_true rfl) (fun v1 n2 σ3 q4 => ?_)
  obtain ⟨rfl, rfl, rfl⟩ := q4
  refine lc_istore_n (lv' := [(0, .ref (1)), (1, .int (lc_i ((lc_cnt (f) 1 36) + (lc_cnt (f) 2 36))))]) dX10_begin_10 rfl (by decide) rfl ?_
  refine lc_aload_n dX10_begin_11 rfl 0 rfl ?_
  refine lc_get dX10_begin_12 lc_fX10_66 hz_1 rfl ?_
  refine lc_aload_n dX10_begin_15 rfl 0 rfl ?_
  refine lc_get dX10_begin_16 lc_fX10_53 hz_1 rfl ?_
  refine lc_callV (As := [.ref (18)]) (stk := []) (b := 30) dX10_begin_19 lc_mX10_89 lc_yX2_push hz_30 rfl (lc_cX2_push l n (r) (k) (18) (f) (s) (q) (m) (mo) (ca) (ct) (po) (t) (f3) (s3) (q3) (m3) (mo3) (ca3) (ct3) (po3) σ hz_30 hz_31 hz_18 hz_19 hz_20 hz_21 hz_t hz_t_1 hz_t_2 hz_t_3 (hk4) (ht) (by omega) (lc_Sl_st (lc_Sl_fr hSl (fun i _ _ => rfl)))) rfl ⟨Nat.le_of_ble_eq_true rfl, Nat.le_of_ble_eq_true rfl⟩ ⟨Nat.le_of_ble_eq_true rfl, Nat.le_of_ble_eq_true rfl⟩ rfl (Nat.le_of_ble_eq_true rfl) (fun v12 n13 σ14 q15 => ?_)
  obtain ⟨rfl, rfl, h6, h7, h8, h9, h10, h11, fr5⟩ := q15
  have h16 : σ14 (1) = some (.inr (10, [.ref (2), .ref (5), .ref (7), .ref (9), .ref (11), .ref (18), .ref (22), .ref (26), .ref (30), .ref (48), .int (lc_i (if bs = true then 1 else 0)), .int (lc_i (if bt = true then 1 else 0)), .int (lc_i (sn)), .int (lc_i (sr))]) : lc_Cel) := (fr5 _ (by omega) (by omega) (by omega) (by omega) (by omega) (by omega)).trans hz_1
  have h17 : σ14 (2) = some (.inr (1, [.ref (3), .ref (4)]) : lc_Cel) := (fr5 _ (by omega) (by omega) (by omega) (by omega) (by omega) (by omega)).trans hz_2
  have h18 : σ14 (3) = some (lc_aI 48 (lc_pt)) := (fr5 _ (by omega) (by omega) (by omega) (by omega) (by omega) (by omega)).trans hz_3
  have h19 : σ14 (4) = some (lc_aI 72 (lc_sp)) := (fr5 _ (by omega) (by omega) (by omega) (by omega) (by omega) (by omega)).trans hz_4
  have h20 : σ14 (5) = some (.inr (9, [.ref (2), .ref (6), .int (lc_i ((w).1)), .int (lc_i ((w).2.1)), .int (lc_i ((w).2.2.1)), .int (lc_i ((w).2.2.2))]) : lc_Cel) := (fr5 _ (by omega) (by omega) (by omega) (by omega) (by omega) (by omega)).trans hz_5
  have h21 : σ14 (6) = some (.inr (8, [.ref (2), .int (lc_i (e1)), .int (lc_i (e2)), .int (lc_i (e3))]) : lc_Cel) := (fr5 _ (by omega) (by omega) (by omega) (by omega) (by omega) (by omega)).trans hz_6
  have h22 : σ14 (7) = some (.inr (6, [.ref (2), .ref (8), .ref (5)]) : lc_Cel) := (fr5 _ (by omega) (by omega) (by omega) (by omega) (by omega) (by omega)).trans hz_7
  have h23 : σ14 (9) = some (.inr (4, [.ref (10), .int (lc_i (u1)), .int (lc_i (u2))]) : lc_Cel) := (fr5 _ (by omega) (by omega) (by omega) (by omega) (by omega) (by omega)).trans hz_9
  have h24 : σ14 (10) = some (lc_aI 364 (ug)) := (fr5 _ (by omega) (by omega) (by omega) (by omega) (by omega) (by omega)).trans hz_10
  have h25 : σ14 (8) = some (.inr (8, [.ref (2), .int (lc_i (a1)), .int (lc_i (a2)), .int (lc_i (a3))]) : lc_Cel) := (fr5 _ (by omega) (by omega) (by omega) (by omega) (by omega) (by omega)).trans hz_8
  have h26 : σ14 (11) = some (.inr (3, [.ref (7), .ref (12), .ref (14), .ref (16), .int (lc_i (ch))]) : lc_Cel) := (fr5 _ (by omega) (by omega) (by omega) (by omega) (by omega) (by omega)).trans hz_11
  have h27 : σ14 (12) = some (.inr (0, [.ref (13), .int (lc_i (lc_cnt (bf) 1 36)), .int (lc_i (lc_cnt (bf) 2 36)), .int (lc_i (d1)), .int (lc_i (d2)), .int (lc_i (d3))]) : lc_Cel) := (fr5 _ (by omega) (by omega) (by omega) (by omega) (by omega) (by omega)).trans hz_12
  have h28 : σ14 (13) = some (lc_aI 36 (bf)) := (fr5 _ (by omega) (by omega) (by omega) (by omega) (by omega) (by omega)).trans hz_13
  have h29 : σ14 (14) = some (.inr (4, [.ref (15), .int (lc_i (y1)), .int (lc_i (y2))]) : lc_Cel) := (fr5 _ (by omega) (by omega) (by omega) (by omega) (by omega) (by omega)).trans hz_14
  have h30 : σ14 (15) = some (lc_aI 364 (g1)) := (fr5 _ (by omega) (by omega) (by omega) (by omega) (by omega) (by omega)).trans hz_15
  have h31 : σ14 (16) = some (.inr (4, [.ref (17), .int (lc_i (x1)), .int (lc_i (x2))]) : lc_Cel) := (fr5 _ (by omega) (by omega) (by omega) (by omega) (by omega) (by omega)).trans hz_16
  have h32 : σ14 (17) = some (lc_aI 364 (g2)) := (fr5 _ (by omega) (by omega) (by omega) (by omega) (by omega) (by omega)).trans hz_17
  have h33 : σ14 (48) = some (.inr (5, [.ref (49), .int (lc_i (z))]) : lc_Cel) := (fr5 _ (by omega) (by omega) (by omega) (by omega) (by omega) (by omega)).trans hz_48
  have h34 : σ14 (49) = some (lc_aC 80 (tx)) := (fr5 _ (by omega) (by omega) (by omega) (by omega) (by omega) (by omega)).trans hz_49
  have h35 : σ14 (18) = some (.inr (7, [.ref (19), .int (lc_i (mo)), .int (lc_i (ca)), .ref (21), .int (lc_i (ct))]) : lc_Cel) := (fr5 _ (by omega) (by omega) (by omega) (by omega) (by omega) (by omega)).trans hz_18
  have h36 : σ14 (19) = some (.inr (0, [.ref (20), .int (lc_i (lc_cnt (f) 1 36)), .int (lc_i (lc_cnt (f) 2 36)), .int (lc_i (s)), .int (lc_i (q)), .int (lc_i (m))]) : lc_Cel) := (fr5 _ (by omega) (by omega) (by omega) (by omega) (by omega) (by omega)).trans hz_19
  have h37 : σ14 (20) = some (lc_aI 36 (f)) := (fr5 _ (by omega) (by omega) (by omega) (by omega) (by omega) (by omega)).trans hz_20
  have h38 : σ14 (21) = some (lc_aJ 60 (fun i : Int => lc_j ((po) i))) := (fr5 _ (by omega) (by omega) (by omega) (by omega) (by omega) (by omega)).trans hz_21
  have h39 : σ14 (22) = some (.inr (7, [.ref (23), .int (lc_i (bMO)), .int (lc_i (bCA)), .ref (25), .int (lc_i (bCT))]) : lc_Cel) := (fr5 _ (by omega) (by omega) (by omega) (by omega) (by omega) (by omega)).trans hz_22
  have h40 : σ14 (23) = some (.inr (0, [.ref (24), .int (lc_i (lc_cnt (bF) 1 36)), .int (lc_i (lc_cnt (bF) 2 36)), .int (lc_i (bS)), .int (lc_i (bQ)), .int (lc_i (bM))]) : lc_Cel) := (fr5 _ (by omega) (by omega) (by omega) (by omega) (by omega) (by omega)).trans hz_23
  have h41 : σ14 (24) = some (lc_aI 36 (bF)) := (fr5 _ (by omega) (by omega) (by omega) (by omega) (by omega) (by omega)).trans hz_24
  have h42 : σ14 (25) = some (lc_aJ 60 (fun i : Int => lc_j ((bPO) i))) := (fr5 _ (by omega) (by omega) (by omega) (by omega) (by omega) (by omega)).trans hz_25
  have h43 : σ14 (26) = some (.inr (7, [.ref (27), .int (lc_i (nMO)), .int (lc_i (nCA)), .ref (29), .int (lc_i (nCT))]) : lc_Cel) := (fr5 _ (by omega) (by omega) (by omega) (by omega) (by omega) (by omega)).trans hz_26
  have h44 : σ14 (27) = some (.inr (0, [.ref (28), .int (lc_i (lc_cnt (nF) 1 36)), .int (lc_i (lc_cnt (nF) 2 36)), .int (lc_i (nS)), .int (lc_i (nQ)), .int (lc_i (nM))]) : lc_Cel) := (fr5 _ (by omega) (by omega) (by omega) (by omega) (by omega) (by omega)).trans hz_27
  have h45 : σ14 (28) = some (lc_aI 36 (nF)) := (fr5 _ (by omega) (by omega) (by omega) (by omega) (by omega) (by omega)).trans hz_28
  have h46 : σ14 (29) = some (lc_aJ 60 (fun i : Int => lc_j ((nPO) i))) := (fr5 _ (by omega) (by omega) (by omega) (by omega) (by omega) (by omega)).trans hz_29
  refine lc_aload_n dX10_begin_22 rfl 0 rfl ?_
  refine lc_get dX10_begin_23 lc_fX10_53 h16 rfl ?_
  refine lc_callV (As := []) (stk := []) (b := 18) dX10_begin_26 lc_mX10_126 lc_yX7_startAnew h35 rfl (lc_cX7_startAnew l n (18) (f) (s) (q) (m) (mo) (ca) (ct) (po) σ14 h35 h36 h37 h38 (hf) (hs)) rfl ⟨Nat.le_of_ble_eq_true rfl, Nat.le_of_ble_eq_true rfl⟩ ⟨Nat.le_of_ble_eq_true rfl, Nat.le_of_ble_eq_true rfl⟩ rfl (Nat.le_of_ble_eq_true rfl) (fun v52 n53 σ54 q55 => ?_)
  obtain ⟨rfl, rfl, h48, h49, h50, h51, fr47⟩ := q55
  have h56 : σ54 (1) = some (.inr (10, [.ref (2), .ref (5), .ref (7), .ref (9), .ref (11), .ref (18), .ref (22), .ref (26), .ref (30), .ref (48), .int (lc_i (if bs = true then 1 else 0)), .int (lc_i (if bt = true then 1 else 0)), .int (lc_i (sn)), .int (lc_i (sr))]) : lc_Cel) := (fr47 _ (by omega) (by omega) (by omega) (by omega)).trans h16
  have h57 : σ54 (2) = some (.inr (1, [.ref (3), .ref (4)]) : lc_Cel) := (fr47 _ (by omega) (by omega) (by omega) (by omega)).trans h17
  have h58 : σ54 (3) = some (lc_aI 48 (lc_pt)) := (fr47 _ (by omega) (by omega) (by omega) (by omega)).trans h18
  have h59 : σ54 (4) = some (lc_aI 72 (lc_sp)) := (fr47 _ (by omega) (by omega) (by omega) (by omega)).trans h19
  have h60 : σ54 (5) = some (.inr (9, [.ref (2), .ref (6), .int (lc_i ((w).1)), .int (lc_i ((w).2.1)), .int (lc_i ((w).2.2.1)), .int (lc_i ((w).2.2.2))]) : lc_Cel) := (fr47 _ (by omega) (by omega) (by omega) (by omega)).trans h20
  have h61 : σ54 (6) = some (.inr (8, [.ref (2), .int (lc_i (e1)), .int (lc_i (e2)), .int (lc_i (e3))]) : lc_Cel) := (fr47 _ (by omega) (by omega) (by omega) (by omega)).trans h21
  have h62 : σ54 (7) = some (.inr (6, [.ref (2), .ref (8), .ref (5)]) : lc_Cel) := (fr47 _ (by omega) (by omega) (by omega) (by omega)).trans h22
  have h63 : σ54 (9) = some (.inr (4, [.ref (10), .int (lc_i (u1)), .int (lc_i (u2))]) : lc_Cel) := (fr47 _ (by omega) (by omega) (by omega) (by omega)).trans h23
  have h64 : σ54 (10) = some (lc_aI 364 (ug)) := (fr47 _ (by omega) (by omega) (by omega) (by omega)).trans h24
  have h65 : σ54 (8) = some (.inr (8, [.ref (2), .int (lc_i (a1)), .int (lc_i (a2)), .int (lc_i (a3))]) : lc_Cel) := (fr47 _ (by omega) (by omega) (by omega) (by omega)).trans h25
  have h66 : σ54 (11) = some (.inr (3, [.ref (7), .ref (12), .ref (14), .ref (16), .int (lc_i (ch))]) : lc_Cel) := (fr47 _ (by omega) (by omega) (by omega) (by omega)).trans h26
  have h67 : σ54 (12) = some (.inr (0, [.ref (13), .int (lc_i (lc_cnt (bf) 1 36)), .int (lc_i (lc_cnt (bf) 2 36)), .int (lc_i (d1)), .int (lc_i (d2)), .int (lc_i (d3))]) : lc_Cel) := (fr47 _ (by omega) (by omega) (by omega) (by omega)).trans h27
  have h68 : σ54 (13) = some (lc_aI 36 (bf)) := (fr47 _ (by omega) (by omega) (by omega) (by omega)).trans h28
  have h69 : σ54 (14) = some (.inr (4, [.ref (15), .int (lc_i (y1)), .int (lc_i (y2))]) : lc_Cel) := (fr47 _ (by omega) (by omega) (by omega) (by omega)).trans h29
  have h70 : σ54 (15) = some (lc_aI 364 (g1)) := (fr47 _ (by omega) (by omega) (by omega) (by omega)).trans h30
  have h71 : σ54 (16) = some (.inr (4, [.ref (17), .int (lc_i (x1)), .int (lc_i (x2))]) : lc_Cel) := (fr47 _ (by omega) (by omega) (by omega) (by omega)).trans h31
  have h72 : σ54 (17) = some (lc_aI 364 (g2)) := (fr47 _ (by omega) (by omega) (by omega) (by omega)).trans h32
  have h73 : σ54 (48) = some (.inr (5, [.ref (49), .int (lc_i (z))]) : lc_Cel) := (fr47 _ (by omega) (by omega) (by omega) (by omega)).trans h33
  have h74 : σ54 (49) = some (lc_aC 80 (tx)) := (fr47 _ (by omega) (by omega) (by omega) (by omega)).trans h34
  have h75 : σ54 (22) = some (.inr (7, [.ref (23), .int (lc_i (bMO)), .int (lc_i (bCA)), .ref (25), .int (lc_i (bCT))]) : lc_Cel) := (fr47 _ (by omega) (by omega) (by omega) (by omega)).trans h39
  have h76 : σ54 (23) = some (.inr (0, [.ref (24), .int (lc_i (lc_cnt (bF) 1 36)), .int (lc_i (lc_cnt (bF) 2 36)), .int (lc_i (bS)), .int (lc_i (bQ)), .int (lc_i (bM))]) : lc_Cel) := (fr47 _ (by omega) (by omega) (by omega) (by omega)).trans h40
  have h77 : σ54 (24) = some (lc_aI 36 (bF)) := (fr47 _ (by omega) (by omega) (by omega) (by omega)).trans h41
  have h78 : σ54 (25) = some (lc_aJ 60 (fun i : Int => lc_j ((bPO) i))) := (fr47 _ (by omega) (by omega) (by omega) (by omega)).trans h42
  have h79 : σ54 (26) = some (.inr (7, [.ref (27), .int (lc_i (nMO)), .int (lc_i (nCA)), .ref (29), .int (lc_i (nCT))]) : lc_Cel) := (fr47 _ (by omega) (by omega) (by omega) (by omega)).trans h43
  have h80 : σ54 (27) = some (.inr (0, [.ref (28), .int (lc_i (lc_cnt (nF) 1 36)), .int (lc_i (lc_cnt (nF) 2 36)), .int (lc_i (nS)), .int (lc_i (nQ)), .int (lc_i (nM))]) : lc_Cel) := (fr47 _ (by omega) (by omega) (by omega) (by omega)).trans h44
  have h81 : σ54 (28) = some (lc_aI 36 (nF)) := (fr47 _ (by omega) (by omega) (by omega) (by omega)).trans h45
  have h82 : σ54 (29) = some (lc_aJ 60 (fun i : Int => lc_j ((nPO) i))) := (fr47 _ (by omega) (by omega) (by omega) (by omega)).trans h46
  have h83 : σ54 (30) = some (.inr (2, [.ref (31), .int (lc_i (((lc_hk (k) : Nat) : Int)))]) : lc_Cel) := (fr47 _ (by omega) (by omega) (by omega) (by omega)).trans h6
  have h84 : σ54 (31) = some (lc_aS 4 (lc_h4 (lc_hr (r) (k)))) := (fr47 _ (by omega) (by omega) (by omega) (by omega)).trans h7
  have h85 : σ54 (t) = some (.inr (7, [.ref (t + 1), .int (lc_i (mo)), .int (lc_i (ca)), .ref (t + 3), .int (lc_i (ct))]) : lc_Cel) := (fr47 _ (by omega) (by omega) (by omega) (by omega)).trans h8
  have h86 : σ54 (t + 1) = some (.inr (0, [.ref (t + 2), .int (lc_i (lc_cnt (f) 1 36)), .int (lc_i (lc_cnt (f) 2 36)), .int (lc_i (s)), .int (lc_i (q)), .int (lc_i (m))]) : lc_Cel) := (fr47 _ (by omega) (by omega) (by omega) (by omega)).trans h9
  have h87 : σ54 (t + 2) = some (lc_aI 36 (f)) := (fr47 _ (by omega) (by omega) (by omega) (by omega)).trans h10
  have h88 : σ54 (t + 3) = some (lc_aJ 60 (fun i : Int => lc_j ((po) i))) := (fr47 _ (by omega) (by omega) (by omega) (by omega)).trans h11
  refine lc_iload_n dX10_begin_29 rfl 1 rfl ?_
  exact lc_iret dX10_begin_30 rfl (Nat.le_of_ble_eq_true rfl) (Nat.le_of_ble_eq_true rfl) (hQ _ _ _ (by rw [lc_beg]; exact ⟨rfl, rfl, lc_CI_mk (BF := (bF, bS, bQ, bM, bMO, bCA, bCT, bPO)) (SN := (nF, nS, nQ, nM, nMO, nCA, nCT, nPO)) h56 h57 h58 h59 h60 h61 h62 h63 h64 (lc_Lk_mk h65 h66 h67 h68 h69 h70 h71 h72) ⟨h48, h49, h50, h51⟩ ⟨h75, h76, h77, h78⟩ ⟨h79, h80, h81, h82⟩ (hSN) h83 h84 (lc_Sl_push (N := (f, s, q, m, mo, ca, ct, po)) hSl hk4 ht (fun i _ _ _ _ _ _ => ((fr47 i (by omega) (by omega) (by omega) (by omega)).trans (fr5 i (by omega) (by omega) (by omega) (by omega) (by omega) (by omega)))) ⟨h85, h86, h87, h88⟩) h73 h74, fun i _ => ((fr47 i (by omega) (by omega) (by omega) (by omega)).trans (fr5 i (by omega) (by omega) (by omega) (by omega) (by omega) (by omega)))⟩))

def lc_zLim : lc_Ab → Int → lc_Ab × Int
  | (N, P, H, k, tx, z, bs, bt, sn, sr), x => if x < 4 ∨ 60 < x then ((N, P, H, k, tx, z, bs, bt, sn, sr), -102) else if N.2.2.2.1 = x then ((N, P, H, k, tx, z, bs, bt, sn, sr), -105) else (((N.1, N.2.1, N.2.2.1, x, N.2.2.2.2), P, lc_pu H k N, lc_hk k, tx, z, bs, bt, sn, sr), N.2.2.2.1)

set_option maxRecDepth 100000 in
set_option maxHeartbeats 600000 in
theorem lc_cX10_setLimit (l : Launch) (n : Nat) (f : Int → Int) (s q m mo ca ct : Int) (po : Int → Int) (P : lc_St) (H : Nat → lc_St) (k : Nat) (tx : Int → Int) (z : Int) (bs bt : Bool) (sn sr : Int) (x : Int) (σ : lc_S)  (hI : lc_CI σ ((f, s, q, m, mo, ca, ct, po), P, H, k, tx, z, bs, bt, sn, sr)) (hw : lc_wf ((f, s, q, m, mo, ca, ct, po), P, H, k, tx, z, bs, bt, sn, sr)) (hR_x : -2147483648 ≤ x ∧ x < 2147483648) : lc_Con l yX10_setLimit cX10_setLimit 3 (some .int) (lc_Rd 3) [.ref (1), .int (lc_i (x))] n σ (fun v n2 σ2 => v = some (.int (lc_i ((lc_zLim ((f, s, q, m, mo, ca, ct, po), P, H, k, tx, z, bs, bt, sn, sr) x).2))) ∧ n = n2 ∧ lc_CI σ2 ((lc_zLim ((f, s, q, m, mo, ca, ct, po), P, H, k, tx, z, bs, bt, sn, sr) x).1) ∧ ∀ i : Nat, 50 ≤ i ∨ i = 0 → σ2 i = σ i) := by
  obtain ⟨⟨hf9, hs9, hq9, hm9, hct9, hpo9, hkey9⟩, hwP, hwH, hk4, hz, htx⟩ := hw
  have hf : ∀ j : Int, 0 ≤ j → j < 36 → 0 ≤ f j ∧ f j ≤ 2 := hf9
  have hs : 1 ≤ s ∧ s ≤ 2 := hs9
  have hq : 0 ≤ q ∧ q ≤ 60 := hq9
  have hm : 4 ≤ m ∧ m ≤ 60 := hm9
  have hct : 1 ≤ ct ∧ ct ≤ 60 := hct9
  have hpo : ∀ i : Int, 0 ≤ i → i < ct → 0 ≤ po i ∧ po i < 450283905890997363 := hpo9
  have hkey : po (ct - 1) = lc_key f s 36 := hkey9
  have hpo4 : ∀ i : Int, 0 ≤ i → i < ct → 0 ≤ po i ∧ po i < 4611686018427387904 := fun i h1 h2 => ⟨(hpo i h1 h2).1, by have := (hpo i h1 h2).2; omega⟩
  obtain ⟨r, SN, BF, w, e1, e2, e3, u1, u2, ug, hc1, hc2, hc3, hc4, hc5, hc6, hc7, hc9, hc10, hLk, hN, hB, hS, hSN, hc30, hc31, hSl, hc48, hc49⟩ := hI
  have hb : 12 ≤ 19 := (by decide)
  obtain ⟨a1, a2, a3, ch, bf, d1, d2, d3, y1, y2, g1, x1, x2, g2, hk_8, hk_11, hk_12, hk_13, hk_14, hk_15, hk_16, hk_17⟩ := hLk
  obtain ⟨bF, bS, bQ, bM, bMO, bCA, bCT, bPO⟩ := BF
  obtain ⟨nF, nS, nQ, nM, nMO, nCA, nCT, nPO⟩ := SN
  obtain ⟨hN0, hN1, hN2, hN3⟩ := hN
  obtain ⟨hB0, hB1, hB2, hB3⟩ := hB
  obtain ⟨hS0, hS1, hS2, hS3⟩ := hS
  have hz_1 : σ (1) = some (.inr (10, [.ref (2), .ref (5), .ref (7), .ref (9), .ref (11), .ref (18), .ref (22), .ref (26), .ref (30), .ref (48), .int (lc_i (if bs = true then 1 else 0)), .int (lc_i (if bt = true then 1 else 0)), .int (lc_i (sn)), .int (lc_i (sr))]) : lc_Cel) := hc1
  have hz_2 : σ (2) = some (.inr (1, [.ref (3), .ref (4)]) : lc_Cel) := hc2
  have hz_3 : σ (3) = some (lc_aI 48 (lc_pt)) := hc3
  have hz_4 : σ (4) = some (lc_aI 72 (lc_sp)) := hc4
  have hz_5 : σ (5) = some (.inr (9, [.ref (2), .ref (6), .int (lc_i ((w).1)), .int (lc_i ((w).2.1)), .int (lc_i ((w).2.2.1)), .int (lc_i ((w).2.2.2))]) : lc_Cel) := hc5
  have hz_6 : σ (6) = some (.inr (8, [.ref (2), .int (lc_i (e1)), .int (lc_i (e2)), .int (lc_i (e3))]) : lc_Cel) := hc6
  have hz_7 : σ (7) = some (.inr (6, [.ref (2), .ref (8), .ref (5)]) : lc_Cel) := hc7
  have hz_9 : σ (9) = some (.inr (4, [.ref (10), .int (lc_i (u1)), .int (lc_i (u2))]) : lc_Cel) := hc9
  have hz_10 : σ (10) = some (lc_aI 364 (ug)) := hc10
  have hz_8 : σ (8) = some (.inr (8, [.ref (2), .int (lc_i (a1)), .int (lc_i (a2)), .int (lc_i (a3))]) : lc_Cel) := hk_8
  have hz_11 : σ (11) = some (.inr (3, [.ref (7), .ref (12), .ref (14), .ref (16), .int (lc_i (ch))]) : lc_Cel) := hk_11
  have hz_12 : σ (12) = some (.inr (0, [.ref (13), .int (lc_i (lc_cnt (bf) 1 36)), .int (lc_i (lc_cnt (bf) 2 36)), .int (lc_i (d1)), .int (lc_i (d2)), .int (lc_i (d3))]) : lc_Cel) := hk_12
  have hz_13 : σ (13) = some (lc_aI 36 (bf)) := hk_13
  have hz_14 : σ (14) = some (.inr (4, [.ref (15), .int (lc_i (y1)), .int (lc_i (y2))]) : lc_Cel) := hk_14
  have hz_15 : σ (15) = some (lc_aI 364 (g1)) := hk_15
  have hz_16 : σ (16) = some (.inr (4, [.ref (17), .int (lc_i (x1)), .int (lc_i (x2))]) : lc_Cel) := hk_16
  have hz_17 : σ (17) = some (lc_aI 364 (g2)) := hk_17
  have hz_30 : σ (30) = some (.inr (2, [.ref (31), .int (lc_i ((k : Int)))]) : lc_Cel) := hc30
  have hz_31 : σ (31) = some (lc_aS 4 (lc_h4 (r))) := hc31
  have hz_48 : σ (48) = some (.inr (5, [.ref (49), .int (lc_i (z))]) : lc_Cel) := hc48
  have hz_49 : σ (49) = some (lc_aC 80 (tx)) := hc49
  have hz_18 : σ (18) = some (.inr (7, [.ref (19), .int (lc_i (mo)), .int (lc_i (ca)), .ref (21), .int (lc_i (ct))]) : lc_Cel) := hN0
  have hz_19 : σ (19) = some (.inr (0, [.ref (20), .int (lc_i (lc_cnt (f) 1 36)), .int (lc_i (lc_cnt (f) 2 36)), .int (lc_i (s)), .int (lc_i (q)), .int (lc_i (m))]) : lc_Cel) := hN1
  have hz_20 : σ (20) = some (lc_aI 36 (f)) := hN2
  have hz_21 : σ (21) = some (lc_aJ 60 (fun i : Int => lc_j ((po) i))) := hN3
  have hz_22 : σ (22) = some (.inr (7, [.ref (23), .int (lc_i (bMO)), .int (lc_i (bCA)), .ref (25), .int (lc_i (bCT))]) : lc_Cel) := hB0
  have hz_23 : σ (23) = some (.inr (0, [.ref (24), .int (lc_i (lc_cnt (bF) 1 36)), .int (lc_i (lc_cnt (bF) 2 36)), .int (lc_i (bS)), .int (lc_i (bQ)), .int (lc_i (bM))]) : lc_Cel) := hB1
  have hz_24 : σ (24) = some (lc_aI 36 (bF)) := hB2
  have hz_25 : σ (25) = some (lc_aJ 60 (fun i : Int => lc_j ((bPO) i))) := hB3
  have hz_26 : σ (26) = some (.inr (7, [.ref (27), .int (lc_i (nMO)), .int (lc_i (nCA)), .ref (29), .int (lc_i (nCT))]) : lc_Cel) := hS0
  have hz_27 : σ (27) = some (.inr (0, [.ref (28), .int (lc_i (lc_cnt (nF) 1 36)), .int (lc_i (lc_cnt (nF) 2 36)), .int (lc_i (nS)), .int (lc_i (nQ)), .int (lc_i (nM))]) : lc_Cel) := hS1
  have hz_28 : σ (28) = some (lc_aI 36 (nF)) := hS2
  have hz_29 : σ (29) = some (lc_aJ 60 (fun i : Int => lc_j ((nPO) i))) := hS3
  obtain ⟨t, ht⟩ : ∃ t : Nat, t = 32 + 4 * ((r + k) % 4) := ⟨_, rfl⟩
  obtain ⟨⟨f3, s3, q3, m3, mo3, ca3, ct3, po3⟩, hT0, hT1, hT2, hT3⟩ := lc_Sl_at hSl ht
  have hz_t : σ (t) = some (.inr (7, [.ref (t + 1), .int (lc_i (mo3)), .int (lc_i (ca3)), .ref (t + 3), .int (lc_i (ct3))]) : lc_Cel) := hT0
  have hz_t_1 : σ (t + 1) = some (.inr (0, [.ref (t + 2), .int (lc_i (lc_cnt (f3) 1 36)), .int (lc_i (lc_cnt (f3) 2 36)), .int (lc_i (s3)), .int (lc_i (q3)), .int (lc_i (m3))]) : lc_Cel) := hT1
  have hz_t_2 : σ (t + 2) = some (lc_aI 36 (f3)) := hT2
  have hz_t_3 : σ (t + 3) = some (lc_aJ 60 (fun i : Int => lc_j ((po3) i))) := hT3
  refine lc_con RX10 false (by decide) rfl (fun h => absurd h (by decide)) (Nat.le_of_ble_eq_true rfl) ?_
  suffices H : ∀ Q : lc_QT, (∀ v n2 σ2, (fun v n2 σ2 => v = some (.int (lc_i ((lc_zLim ((f, s, q, m, mo, ca, ct, po), P, H, k, tx, z, bs, bt, sn, sr) x).2))) ∧ n = n2 ∧ lc_CI σ2 ((lc_zLim ((f, s, q, m, mo, ca, ct, po), P, H, k, tx, z, bs, bt, sn, sr) x).1) ∧ ∀ i : Nat, 50 ≤ i ∨ i = 0 → σ2 i = σ i : lc_QT) v n2 σ2 → Q v n2 σ2) → lc_V l RX10 cX10_setLimit 3 (some .int) false (lc_Rd 3) (lc_G Q 0 0) lc_E0 0 0 n 0 [(0, .ref (1)), (1, .int (lc_i (x)))] [] σ from H _ (fun _ _ _ h => h)
  intro Q hQ
  refine lc_iload_n dX10_setLimit_0 rfl 1 rfl ?_
  refine lc_iconst dX10_setLimit_1 ?_
  refine lc_icmp_lt (tgt := 11) dX10_setLimit_2 (by decide) (by omega) (fun h_2_0 => ?_) (fun h_2_0 => ?_)
  · skip
    refine lc_bipush dX10_setLimit_11 (by decide) ?_
    exact lc_iret dX10_setLimit_13 rfl (Nat.le_of_ble_eq_true rfl) (Nat.le_of_ble_eq_true rfl) (hQ _ _ _ (by rw [lc_zLim, if_pos (show x < 4 ∨ 60 < x from by omega)]; exact ⟨rfl, rfl, lc_CI_mk (BF := (bF, bS, bQ, bM, bMO, bCA, bCT, bPO)) (SN := (nF, nS, nQ, nM, nMO, nCA, nCT, nPO)) hz_1 hz_2 hz_3 hz_4 hz_5 hz_6 hz_7 hz_9 hz_10 (lc_Lk_mk hz_8 hz_11 hz_12 hz_13 hz_14 hz_15 hz_16 hz_17) ⟨hz_18, hz_19, hz_20, hz_21⟩ ⟨hz_22, hz_23, hz_24, hz_25⟩ ⟨hz_26, hz_27, hz_28, hz_29⟩ (hSN) hz_30 hz_31 (lc_Sl_fr hSl (fun i _ _ => rfl)) hz_48 hz_49, fun i _ => rfl⟩))
  · skip
    refine lc_iload_n dX10_setLimit_5 rfl 1 rfl ?_
    refine lc_bipush dX10_setLimit_6 (by decide) ?_
    refine lc_icmp_le (tgt := 14) dX10_setLimit_8 (by decide) (by omega) (fun h_8_1 => ?_) (fun h_8_1 => ?_)
    · skip
      refine lc_aload_n dX10_setLimit_14 rfl 0 rfl ?_
      refine lc_get dX10_setLimit_15 lc_fX10_53 hz_1 rfl ?_
      refine lc_get dX10_setLimit_18 lc_fX10_81 hz_18 rfl ?_
      refine lc_callV (As := []) (stk := []) (b := 19) dX10_setLimit_21 lc_mX10_129 lc_yX0_limit hz_19 rfl (lc_cX0_limit l n (19) (f) (lc_cnt (f) 1 36) (lc_cnt (f) 2 36) (s) (q) (m) σ hz_19) rfl ⟨Nat.le_of_ble_eq_true rfl, Nat.le_of_ble_eq_true rfl⟩ ⟨Nat.le_of_ble_eq_true rfl, Nat.le_of_ble_eq_true rfl⟩ rfl (Nat.le_of_ble_eq_true rfl) (fun v3 n4 σ5 q6 => ?_)
      obtain ⟨rfl, rfl, rfl⟩ := q6
      refine lc_istore_n (lv' := [(0, .ref (1)), (1, .int (lc_i (x))), (2, .int (lc_i (m)))]) dX10_setLimit_24 rfl (by decide) rfl ?_
      refine lc_iload_n dX10_setLimit_25 rfl 2 rfl ?_
      refine lc_iload_n dX10_setLimit_26 rfl 1 rfl ?_
      refine lc_icmp_ne (tgt := 33) dX10_setLimit_27 (by decide) (by omega) (fun h_27_6 => ?_) (fun h_27_6 => ?_)
      · skip
        refine lc_aload_n dX10_setLimit_33 rfl 0 rfl ?_
        refine lc_get dX10_setLimit_34 lc_fX10_66 hz_1 rfl ?_
        refine lc_aload_n dX10_setLimit_37 rfl 0 rfl ?_
        refine lc_get dX10_setLimit_38 lc_fX10_53 hz_1 rfl ?_
        refine lc_callV (As := [.ref (18)]) (stk := []) (b := 30) dX10_setLimit_41 lc_mX10_89 lc_yX2_push hz_30 rfl (lc_cX2_push l n (r) (k) (18) (f) (s) (q) (m) (mo) (ca) (ct) (po) (t) (f3) (s3) (q3) (m3) (mo3) (ca3) (ct3) (po3) σ hz_30 hz_31 hz_18 hz_19 hz_20 hz_21 hz_t hz_t_1 hz_t_2 hz_t_3 (hk4) (ht) (by omega) (lc_Sl_st (lc_Sl_fr hSl (fun i _ _ => rfl)))) rfl ⟨Nat.le_of_ble_eq_true rfl, Nat.le_of_ble_eq_true rfl⟩ ⟨Nat.le_of_ble_eq_true rfl, Nat.le_of_ble_eq_true rfl⟩ rfl (Nat.le_of_ble_eq_true rfl) (fun v15 n16 σ17 q18 => ?_)
        obtain ⟨rfl, rfl, h9, h10, h11, h12, h13, h14, fr8⟩ := q18
        have h19 : σ17 (1) = some (.inr (10, [.ref (2), .ref (5), .ref (7), .ref (9), .ref (11), .ref (18), .ref (22), .ref (26), .ref (30), .ref (48), .int (lc_i (if bs = true then 1 else 0)), .int (lc_i (if bt = true then 1 else 0)), .int (lc_i (sn)), .int (lc_i (sr))]) : lc_Cel) := (fr8 _ (by omega) (by omega) (by omega) (by omega) (by omega) (by omega)).trans hz_1
        have h20 : σ17 (2) = some (.inr (1, [.ref (3), .ref (4)]) : lc_Cel) := (fr8 _ (by omega) (by omega) (by omega) (by omega) (by omega) (by omega)).trans hz_2
        have h21 : σ17 (3) = some (lc_aI 48 (lc_pt)) := (fr8 _ (by omega) (by omega) (by omega) (by omega) (by omega) (by omega)).trans hz_3
        have h22 : σ17 (4) = some (lc_aI 72 (lc_sp)) := (fr8 _ (by omega) (by omega) (by omega) (by omega) (by omega) (by omega)).trans hz_4
        have h23 : σ17 (5) = some (.inr (9, [.ref (2), .ref (6), .int (lc_i ((w).1)), .int (lc_i ((w).2.1)), .int (lc_i ((w).2.2.1)), .int (lc_i ((w).2.2.2))]) : lc_Cel) := (fr8 _ (by omega) (by omega) (by omega) (by omega) (by omega) (by omega)).trans hz_5
        have h24 : σ17 (6) = some (.inr (8, [.ref (2), .int (lc_i (e1)), .int (lc_i (e2)), .int (lc_i (e3))]) : lc_Cel) := (fr8 _ (by omega) (by omega) (by omega) (by omega) (by omega) (by omega)).trans hz_6
        have h25 : σ17 (7) = some (.inr (6, [.ref (2), .ref (8), .ref (5)]) : lc_Cel) := (fr8 _ (by omega) (by omega) (by omega) (by omega) (by omega) (by omega)).trans hz_7
        have h26 : σ17 (9) = some (.inr (4, [.ref (10), .int (lc_i (u1)), .int (lc_i (u2))]) : lc_Cel) := (fr8 _ (by omega) (by omega) (by omega) (by omega) (by omega) (by omega)).trans hz_9
        have h27 : σ17 (10) = some (lc_aI 364 (ug)) := (fr8 _ (by omega) (by omega) (by omega) (by omega) (by omega) (by omega)).trans hz_10
        have h28 : σ17 (8) = some (.inr (8, [.ref (2), .int (lc_i (a1)), .int (lc_i (a2)), .int (lc_i (a3))]) : lc_Cel) := (fr8 _ (by omega) (by omega) (by omega) (by omega) (by omega) (by omega)).trans hz_8
        have h29 : σ17 (11) = some (.inr (3, [.ref (7), .ref (12), .ref (14), .ref (16), .int (lc_i (ch))]) : lc_Cel) := (fr8 _ (by omega) (by omega) (by omega) (by omega) (by omega) (by omega)).trans hz_11
        have h30 : σ17 (12) = some (.inr (0, [.ref (13), .int (lc_i (lc_cnt (bf) 1 36)), .int (lc_i (lc_cnt (bf) 2 36)), .int (lc_i (d1)), .int (lc_i (d2)), .int (lc_i (d3))]) : lc_Cel) := (fr8 _ (by omega) (by omega) (by omega) (by omega) (by omega) (by omega)).trans hz_12
        have h31 : σ17 (13) = some (lc_aI 36 (bf)) := (fr8 _ (by omega) (by omega) (by omega) (by omega) (by omega) (by omega)).trans hz_13
        have h32 : σ17 (14) = some (.inr (4, [.ref (15), .int (lc_i (y1)), .int (lc_i (y2))]) : lc_Cel) := (fr8 _ (by omega) (by omega) (by omega) (by omega) (by omega) (by omega)).trans hz_14
        have h33 : σ17 (15) = some (lc_aI 364 (g1)) := (fr8 _ (by omega) (by omega) (by omega) (by omega) (by omega) (by omega)).trans hz_15
        have h34 : σ17 (16) = some (.inr (4, [.ref (17), .int (lc_i (x1)), .int (lc_i (x2))]) : lc_Cel) := (fr8 _ (by omega) (by omega) (by omega) (by omega) (by omega) (by omega)).trans hz_16
        have h35 : σ17 (17) = some (lc_aI 364 (g2)) := (fr8 _ (by omega) (by omega) (by omega) (by omega) (by omega) (by omega)).trans hz_17
        have h36 : σ17 (48) = some (.inr (5, [.ref (49), .int (lc_i (z))]) : lc_Cel) := (fr8 _ (by omega) (by omega) (by omega) (by omega) (by omega) (by omega)).trans hz_48
        have h37 : σ17 (49) = some (lc_aC 80 (tx)) := (fr8 _ (by omega) (by omega) (by omega) (by omega) (by omega) (by omega)).trans hz_49
        have h38 : σ17 (18) = some (.inr (7, [.ref (19), .int (lc_i (mo)), .int (lc_i (ca)), .ref (21), .int (lc_i (ct))]) : lc_Cel) := (fr8 _ (by omega) (by omega) (by omega) (by omega) (by omega) (by omega)).trans hz_18
        have h39 : σ17 (19) = some (.inr (0, [.ref (20), .int (lc_i (lc_cnt (f) 1 36)), .int (lc_i (lc_cnt (f) 2 36)), .int (lc_i (s)), .int (lc_i (q)), .int (lc_i (m))]) : lc_Cel) := (fr8 _ (by omega) (by omega) (by omega) (by omega) (by omega) (by omega)).trans hz_19
        have h40 : σ17 (20) = some (lc_aI 36 (f)) := (fr8 _ (by omega) (by omega) (by omega) (by omega) (by omega) (by omega)).trans hz_20
        have h41 : σ17 (21) = some (lc_aJ 60 (fun i : Int => lc_j ((po) i))) := (fr8 _ (by omega) (by omega) (by omega) (by omega) (by omega) (by omega)).trans hz_21
        have h42 : σ17 (22) = some (.inr (7, [.ref (23), .int (lc_i (bMO)), .int (lc_i (bCA)), .ref (25), .int (lc_i (bCT))]) : lc_Cel) := (fr8 _ (by omega) (by omega) (by omega) (by omega) (by omega) (by omega)).trans hz_22
        have h43 : σ17 (23) = some (.inr (0, [.ref (24), .int (lc_i (lc_cnt (bF) 1 36)), .int (lc_i (lc_cnt (bF) 2 36)), .int (lc_i (bS)), .int (lc_i (bQ)), .int (lc_i (bM))]) : lc_Cel) := (fr8 _ (by omega) (by omega) (by omega) (by omega) (by omega) (by omega)).trans hz_23
        have h44 : σ17 (24) = some (lc_aI 36 (bF)) := (fr8 _ (by omega) (by omega) (by omega) (by omega) (by omega) (by omega)).trans hz_24
        have h45 : σ17 (25) = some (lc_aJ 60 (fun i : Int => lc_j ((bPO) i))) := (fr8 _ (by omega) (by omega) (by omega) (by omega) (by omega) (by omega)).trans hz_25
        have h46 : σ17 (26) = some (.inr (7, [.ref (27), .int (lc_i (nMO)), .int (lc_i (nCA)), .ref (29), .int (lc_i (nCT))]) : lc_Cel) := (fr8 _ (by omega) (by omega) (by omega) (by omega) (by omega) (by omega)).trans hz_26
        have h47 : σ17 (27) = some (.inr (0, [.ref (28), .int (lc_i (lc_cnt (nF) 1 36)), .int (lc_i (lc_cnt (nF) 2 36)), .int (lc_i (nS)), .int (lc_i (nQ)), .int (lc_i (nM))]) : lc_Cel) := (fr8 _ (by omega) (by omega) (by omega) (by omega) (by omega) (by omega)).trans hz_27
        have h48 : σ17 (28) = some (lc_aI 36 (nF)) := (fr8 _ (by omega) (by omega) (by omega) (by omega) (by omega) (by omega)).trans hz_28
        have h49 : σ17 (29) = some (lc_aJ 60 (fun i : Int => lc_j ((nPO) i))) := (fr8 _ (by omega) (by omega) (by omega) (by omega) (by omega) (by omega)).trans hz_29
        refine lc_aload_n dX10_setLimit_44 rfl 0 rfl ?_
        refine lc_get dX10_setLimit_45 lc_fX10_53 h19 rfl ?_
        refine lc_get dX10_setLimit_48 lc_fX10_81 h38 rfl ?_
        refine lc_iload_n dX10_setLimit_51 rfl 1 rfl ?_
        refine lc_callV (As := [.int (lc_i (x))]) (stk := []) (b := 19) dX10_setLimit_52 lc_mX10_132 lc_yX0_changeLimit h39 rfl (lc_cX0_changeLimit l n (19) (f) (lc_cnt (f) 1 36) (lc_cnt (f) 2 36) (s) (q) (m) (x) σ17 h39) rfl ⟨Nat.le_of_ble_eq_true rfl, Nat.le_of_ble_eq_true rfl⟩ ⟨Nat.le_of_ble_eq_true rfl, Nat.le_of_ble_eq_true rfl⟩ rfl (Nat.le_of_ble_eq_true rfl) (fun v52 n53 σ54 q55 => ?_)
        obtain ⟨rfl, rfl, h51, fr50⟩ := q55
        have h56 : σ54 (1) = some (.inr (10, [.ref (2), .ref (5), .ref (7), .ref (9), .ref (11), .ref (18), .ref (22), .ref (26), .ref (30), .ref (48), .int (lc_i (if bs = true then 1 else 0)), .int (lc_i (if bt = true then 1 else 0)), .int (lc_i (sn)), .int (lc_i (sr))]) : lc_Cel) := (fr50 _ (by omega)).trans h19
        have h57 : σ54 (2) = some (.inr (1, [.ref (3), .ref (4)]) : lc_Cel) := (fr50 _ (by omega)).trans h20
        have h58 : σ54 (3) = some (lc_aI 48 (lc_pt)) := (fr50 _ (by omega)).trans h21
        have h59 : σ54 (4) = some (lc_aI 72 (lc_sp)) := (fr50 _ (by omega)).trans h22
        have h60 : σ54 (5) = some (.inr (9, [.ref (2), .ref (6), .int (lc_i ((w).1)), .int (lc_i ((w).2.1)), .int (lc_i ((w).2.2.1)), .int (lc_i ((w).2.2.2))]) : lc_Cel) := (fr50 _ (by omega)).trans h23
        have h61 : σ54 (6) = some (.inr (8, [.ref (2), .int (lc_i (e1)), .int (lc_i (e2)), .int (lc_i (e3))]) : lc_Cel) := (fr50 _ (by omega)).trans h24
        have h62 : σ54 (7) = some (.inr (6, [.ref (2), .ref (8), .ref (5)]) : lc_Cel) := (fr50 _ (by omega)).trans h25
        have h63 : σ54 (9) = some (.inr (4, [.ref (10), .int (lc_i (u1)), .int (lc_i (u2))]) : lc_Cel) := (fr50 _ (by omega)).trans h26
        have h64 : σ54 (10) = some (lc_aI 364 (ug)) := (fr50 _ (by omega)).trans h27
        have h65 : σ54 (8) = some (.inr (8, [.ref (2), .int (lc_i (a1)), .int (lc_i (a2)), .int (lc_i (a3))]) : lc_Cel) := (fr50 _ (by omega)).trans h28
        have h66 : σ54 (11) = some (.inr (3, [.ref (7), .ref (12), .ref (14), .ref (16), .int (lc_i (ch))]) : lc_Cel) := (fr50 _ (by omega)).trans h29
        have h67 : σ54 (12) = some (.inr (0, [.ref (13), .int (lc_i (lc_cnt (bf) 1 36)), .int (lc_i (lc_cnt (bf) 2 36)), .int (lc_i (d1)), .int (lc_i (d2)), .int (lc_i (d3))]) : lc_Cel) := (fr50 _ (by omega)).trans h30
        have h68 : σ54 (13) = some (lc_aI 36 (bf)) := (fr50 _ (by omega)).trans h31
        have h69 : σ54 (14) = some (.inr (4, [.ref (15), .int (lc_i (y1)), .int (lc_i (y2))]) : lc_Cel) := (fr50 _ (by omega)).trans h32
        have h70 : σ54 (15) = some (lc_aI 364 (g1)) := (fr50 _ (by omega)).trans h33
        have h71 : σ54 (16) = some (.inr (4, [.ref (17), .int (lc_i (x1)), .int (lc_i (x2))]) : lc_Cel) := (fr50 _ (by omega)).trans h34
        have h72 : σ54 (17) = some (lc_aI 364 (g2)) := (fr50 _ (by omega)).trans h35
        have h73 : σ54 (48) = some (.inr (5, [.ref (49), .int (lc_i (z))]) : lc_Cel) := (fr50 _ (by omega)).trans h36
        have h74 : σ54 (49) = some (lc_aC 80 (tx)) := (fr50 _ (by omega)).trans h37
        have h75 : σ54 (18) = some (.inr (7, [.ref (19), .int (lc_i (mo)), .int (lc_i (ca)), .ref (21), .int (lc_i (ct))]) : lc_Cel) := (fr50 _ (by omega)).trans h38
        have h76 : σ54 (20) = some (lc_aI 36 (f)) := (fr50 _ (by omega)).trans h40
        have h77 : σ54 (21) = some (lc_aJ 60 (fun i : Int => lc_j ((po) i))) := (fr50 _ (by omega)).trans h41
        have h78 : σ54 (22) = some (.inr (7, [.ref (23), .int (lc_i (bMO)), .int (lc_i (bCA)), .ref (25), .int (lc_i (bCT))]) : lc_Cel) := (fr50 _ (by omega)).trans h42
        have h79 : σ54 (23) = some (.inr (0, [.ref (24), .int (lc_i (lc_cnt (bF) 1 36)), .int (lc_i (lc_cnt (bF) 2 36)), .int (lc_i (bS)), .int (lc_i (bQ)), .int (lc_i (bM))]) : lc_Cel) := (fr50 _ (by omega)).trans h43
        have h80 : σ54 (24) = some (lc_aI 36 (bF)) := (fr50 _ (by omega)).trans h44
        have h81 : σ54 (25) = some (lc_aJ 60 (fun i : Int => lc_j ((bPO) i))) := (fr50 _ (by omega)).trans h45
        have h82 : σ54 (26) = some (.inr (7, [.ref (27), .int (lc_i (nMO)), .int (lc_i (nCA)), .ref (29), .int (lc_i (nCT))]) : lc_Cel) := (fr50 _ (by omega)).trans h46
        have h83 : σ54 (27) = some (.inr (0, [.ref (28), .int (lc_i (lc_cnt (nF) 1 36)), .int (lc_i (lc_cnt (nF) 2 36)), .int (lc_i (nS)), .int (lc_i (nQ)), .int (lc_i (nM))]) : lc_Cel) := (fr50 _ (by omega)).trans h47
        have h84 : σ54 (28) = some (lc_aI 36 (nF)) := (fr50 _ (by omega)).trans h48
        have h85 : σ54 (29) = some (lc_aJ 60 (fun i : Int => lc_j ((nPO) i))) := (fr50 _ (by omega)).trans h49
        have h86 : σ54 (30) = some (.inr (2, [.ref (31), .int (lc_i (((lc_hk (k) : Nat) : Int)))]) : lc_Cel) := (fr50 _ (by omega)).trans h9
        have h87 : σ54 (31) = some (lc_aS 4 (lc_h4 (lc_hr (r) (k)))) := (fr50 _ (by omega)).trans h10
        have h88 : σ54 (t) = some (.inr (7, [.ref (t + 1), .int (lc_i (mo)), .int (lc_i (ca)), .ref (t + 3), .int (lc_i (ct))]) : lc_Cel) := (fr50 _ (by omega)).trans h11
        have h89 : σ54 (t + 1) = some (.inr (0, [.ref (t + 2), .int (lc_i (lc_cnt (f) 1 36)), .int (lc_i (lc_cnt (f) 2 36)), .int (lc_i (s)), .int (lc_i (q)), .int (lc_i (m))]) : lc_Cel) := (fr50 _ (by omega)).trans h12
        have h90 : σ54 (t + 2) = some (lc_aI 36 (f)) := (fr50 _ (by omega)).trans h13
        have h91 : σ54 (t + 3) = some (lc_aJ 60 (fun i : Int => lc_j ((po) i))) := (fr50 _ (by omega)).trans h14
        refine lc_iload_n dX10_setLimit_55 rfl 2 rfl ?_
        exact lc_iret dX10_setLimit_56 rfl (Nat.le_of_ble_eq_true rfl) (Nat.le_of_ble_eq_true rfl) (hQ _ _ _ (by rw [lc_zLim, if_neg (show ¬ (x < 4 ∨ 60 < x) from by omega), if_neg (show ¬ (m = x) from by omega)]; exact ⟨rfl, rfl, lc_CI_mk (BF := (bF, bS, bQ, bM, bMO, bCA, bCT, bPO)) (SN := (nF, nS, nQ, nM, nMO, nCA, nCT, nPO)) h56 h57 h58 h59 h60 h61 h62 h63 h64 (lc_Lk_mk h65 h66 h67 h68 h69 h70 h71 h72) ⟨h75, h51, h76, h77⟩ ⟨h78, h79, h80, h81⟩ ⟨h82, h83, h84, h85⟩ (hSN) h86 h87 (lc_Sl_push (N := (f, s, q, m, mo, ca, ct, po)) hSl hk4 ht (fun i _ _ _ _ _ _ => ((fr50 i (by omega)).trans (fr8 i (by omega) (by omega) (by omega) (by omega) (by omega) (by omega)))) ⟨h88, h89, h90, h91⟩) h73 h74, fun i _ => ((fr50 i (by omega)).trans (fr8 i (by omega) (by omega) (by omega) (by omega) (by omega) (by omega)))⟩))
      · skip
        refine lc_bipush dX10_setLimit_30 (by decide) ?_
        exact lc_iret dX10_setLimit_32 rfl (Nat.le_of_ble_eq_true rfl) (Nat.le_of_ble_eq_true rfl) (hQ _ _ _ (by rw [lc_zLim, if_neg (show ¬ (x < 4 ∨ 60 < x) from by omega), if_pos (show m = x from by omega)]; exact ⟨rfl, rfl, lc_CI_mk (BF := (bF, bS, bQ, bM, bMO, bCA, bCT, bPO)) (SN := (nF, nS, nQ, nM, nMO, nCA, nCT, nPO)) hz_1 hz_2 hz_3 hz_4 hz_5 hz_6 hz_7 hz_9 hz_10 (lc_Lk_mk hz_8 hz_11 hz_12 hz_13 hz_14 hz_15 hz_16 hz_17) ⟨hz_18, hz_19, hz_20, hz_21⟩ ⟨hz_22, hz_23, hz_24, hz_25⟩ ⟨hz_26, hz_27, hz_28, hz_29⟩ (hSN) hz_30 hz_31 (lc_Sl_fr hSl (fun i _ _ => rfl)) hz_48 hz_49, fun i _ => rfl⟩))
    · skip
      refine lc_bipush dX10_setLimit_11 (by decide) ?_
      exact lc_iret dX10_setLimit_13 rfl (Nat.le_of_ble_eq_true rfl) (Nat.le_of_ble_eq_true rfl) (hQ _ _ _ (by rw [lc_zLim, if_pos (show x < 4 ∨ 60 < x from by omega)]; exact ⟨rfl, rfl, lc_CI_mk (BF := (bF, bS, bQ, bM, bMO, bCA, bCT, bPO)) (SN := (nF, nS, nQ, nM, nMO, nCA, nCT, nPO)) hz_1 hz_2 hz_3 hz_4 hz_5 hz_6 hz_7 hz_9 hz_10 (lc_Lk_mk hz_8 hz_11 hz_12 hz_13 hz_14 hz_15 hz_16 hz_17) ⟨hz_18, hz_19, hz_20, hz_21⟩ ⟨hz_22, hz_23, hz_24, hz_25⟩ ⟨hz_26, hz_27, hz_28, hz_29⟩ (hSN) hz_30 hz_31 (lc_Sl_fr hSl (fun i _ _ => rfl)) hz_48 hz_49, fun i _ => rfl⟩))

def lc_type : lc_Ab → Int → lc_Ab × Int
  | (N, P, H, k, tx, z, bs, bt, sn, sr), c => ((N, P, H, k, lc_ta tx z c, lc_tz z, bs, bt, sn, sr), if z < 80 then lc_tz z else -103)

set_option maxRecDepth 100000 in
set_option maxHeartbeats 600000 in
theorem lc_cX10_type (l : Launch) (n : Nat) (f : Int → Int) (s q m mo ca ct : Int) (po : Int → Int) (P : lc_St) (H : Nat → lc_St) (k : Nat) (tx : Int → Int) (z : Int) (bs bt : Bool) (sn sr : Int) (c : Int) (σ : lc_S)  (hI : lc_CI σ ((f, s, q, m, mo, ca, ct, po), P, H, k, tx, z, bs, bt, sn, sr)) (hw : lc_wf ((f, s, q, m, mo, ca, ct, po), P, H, k, tx, z, bs, bt, sn, sr)) (hch9 : 0 ≤ c ∧ c < 65536) : lc_Con l yX10_type cX10_type 2 (some .int) (lc_Rd 1) [.ref (1), .int (lc_i (c))] n σ (fun v n2 σ2 => v = some (.int (lc_i ((lc_type ((f, s, q, m, mo, ca, ct, po), P, H, k, tx, z, bs, bt, sn, sr) c).2))) ∧ n = n2 ∧ lc_CI σ2 ((lc_type ((f, s, q, m, mo, ca, ct, po), P, H, k, tx, z, bs, bt, sn, sr) c).1) ∧ ∀ i : Nat, 50 ≤ i ∨ i = 0 → σ2 i = σ i) := by
  obtain ⟨⟨hf9, hs9, hq9, hm9, hct9, hpo9, hkey9⟩, hwP, hwH, hk4, hz, htx⟩ := hw
  have hf : ∀ j : Int, 0 ≤ j → j < 36 → 0 ≤ f j ∧ f j ≤ 2 := hf9
  have hs : 1 ≤ s ∧ s ≤ 2 := hs9
  have hq : 0 ≤ q ∧ q ≤ 60 := hq9
  have hm : 4 ≤ m ∧ m ≤ 60 := hm9
  have hct : 1 ≤ ct ∧ ct ≤ 60 := hct9
  have hpo : ∀ i : Int, 0 ≤ i → i < ct → 0 ≤ po i ∧ po i < 450283905890997363 := hpo9
  have hkey : po (ct - 1) = lc_key f s 36 := hkey9
  have hpo4 : ∀ i : Int, 0 ≤ i → i < ct → 0 ≤ po i ∧ po i < 4611686018427387904 := fun i h1 h2 => ⟨(hpo i h1 h2).1, by have := (hpo i h1 h2).2; omega⟩
  obtain ⟨r, SN, BF, w, e1, e2, e3, u1, u2, ug, hc1, hc2, hc3, hc4, hc5, hc6, hc7, hc9, hc10, hLk, hN, hB, hS, hSN, hc30, hc31, hSl, hc48, hc49⟩ := hI
  have hb : 12 ≤ 19 := (by decide)
  obtain ⟨a1, a2, a3, ch, bf, d1, d2, d3, y1, y2, g1, x1, x2, g2, hk_8, hk_11, hk_12, hk_13, hk_14, hk_15, hk_16, hk_17⟩ := hLk
  obtain ⟨bF, bS, bQ, bM, bMO, bCA, bCT, bPO⟩ := BF
  obtain ⟨nF, nS, nQ, nM, nMO, nCA, nCT, nPO⟩ := SN
  obtain ⟨hN0, hN1, hN2, hN3⟩ := hN
  obtain ⟨hB0, hB1, hB2, hB3⟩ := hB
  obtain ⟨hS0, hS1, hS2, hS3⟩ := hS
  have hz_1 : σ (1) = some (.inr (10, [.ref (2), .ref (5), .ref (7), .ref (9), .ref (11), .ref (18), .ref (22), .ref (26), .ref (30), .ref (48), .int (lc_i (if bs = true then 1 else 0)), .int (lc_i (if bt = true then 1 else 0)), .int (lc_i (sn)), .int (lc_i (sr))]) : lc_Cel) := hc1
  have hz_2 : σ (2) = some (.inr (1, [.ref (3), .ref (4)]) : lc_Cel) := hc2
  have hz_3 : σ (3) = some (lc_aI 48 (lc_pt)) := hc3
  have hz_4 : σ (4) = some (lc_aI 72 (lc_sp)) := hc4
  have hz_5 : σ (5) = some (.inr (9, [.ref (2), .ref (6), .int (lc_i ((w).1)), .int (lc_i ((w).2.1)), .int (lc_i ((w).2.2.1)), .int (lc_i ((w).2.2.2))]) : lc_Cel) := hc5
  have hz_6 : σ (6) = some (.inr (8, [.ref (2), .int (lc_i (e1)), .int (lc_i (e2)), .int (lc_i (e3))]) : lc_Cel) := hc6
  have hz_7 : σ (7) = some (.inr (6, [.ref (2), .ref (8), .ref (5)]) : lc_Cel) := hc7
  have hz_9 : σ (9) = some (.inr (4, [.ref (10), .int (lc_i (u1)), .int (lc_i (u2))]) : lc_Cel) := hc9
  have hz_10 : σ (10) = some (lc_aI 364 (ug)) := hc10
  have hz_8 : σ (8) = some (.inr (8, [.ref (2), .int (lc_i (a1)), .int (lc_i (a2)), .int (lc_i (a3))]) : lc_Cel) := hk_8
  have hz_11 : σ (11) = some (.inr (3, [.ref (7), .ref (12), .ref (14), .ref (16), .int (lc_i (ch))]) : lc_Cel) := hk_11
  have hz_12 : σ (12) = some (.inr (0, [.ref (13), .int (lc_i (lc_cnt (bf) 1 36)), .int (lc_i (lc_cnt (bf) 2 36)), .int (lc_i (d1)), .int (lc_i (d2)), .int (lc_i (d3))]) : lc_Cel) := hk_12
  have hz_13 : σ (13) = some (lc_aI 36 (bf)) := hk_13
  have hz_14 : σ (14) = some (.inr (4, [.ref (15), .int (lc_i (y1)), .int (lc_i (y2))]) : lc_Cel) := hk_14
  have hz_15 : σ (15) = some (lc_aI 364 (g1)) := hk_15
  have hz_16 : σ (16) = some (.inr (4, [.ref (17), .int (lc_i (x1)), .int (lc_i (x2))]) : lc_Cel) := hk_16
  have hz_17 : σ (17) = some (lc_aI 364 (g2)) := hk_17
  have hz_30 : σ (30) = some (.inr (2, [.ref (31), .int (lc_i ((k : Int)))]) : lc_Cel) := hc30
  have hz_31 : σ (31) = some (lc_aS 4 (lc_h4 (r))) := hc31
  have hz_48 : σ (48) = some (.inr (5, [.ref (49), .int (lc_i (z))]) : lc_Cel) := hc48
  have hz_49 : σ (49) = some (lc_aC 80 (tx)) := hc49
  have hz_18 : σ (18) = some (.inr (7, [.ref (19), .int (lc_i (mo)), .int (lc_i (ca)), .ref (21), .int (lc_i (ct))]) : lc_Cel) := hN0
  have hz_19 : σ (19) = some (.inr (0, [.ref (20), .int (lc_i (lc_cnt (f) 1 36)), .int (lc_i (lc_cnt (f) 2 36)), .int (lc_i (s)), .int (lc_i (q)), .int (lc_i (m))]) : lc_Cel) := hN1
  have hz_20 : σ (20) = some (lc_aI 36 (f)) := hN2
  have hz_21 : σ (21) = some (lc_aJ 60 (fun i : Int => lc_j ((po) i))) := hN3
  have hz_22 : σ (22) = some (.inr (7, [.ref (23), .int (lc_i (bMO)), .int (lc_i (bCA)), .ref (25), .int (lc_i (bCT))]) : lc_Cel) := hB0
  have hz_23 : σ (23) = some (.inr (0, [.ref (24), .int (lc_i (lc_cnt (bF) 1 36)), .int (lc_i (lc_cnt (bF) 2 36)), .int (lc_i (bS)), .int (lc_i (bQ)), .int (lc_i (bM))]) : lc_Cel) := hB1
  have hz_24 : σ (24) = some (lc_aI 36 (bF)) := hB2
  have hz_25 : σ (25) = some (lc_aJ 60 (fun i : Int => lc_j ((bPO) i))) := hB3
  have hz_26 : σ (26) = some (.inr (7, [.ref (27), .int (lc_i (nMO)), .int (lc_i (nCA)), .ref (29), .int (lc_i (nCT))]) : lc_Cel) := hS0
  have hz_27 : σ (27) = some (.inr (0, [.ref (28), .int (lc_i (lc_cnt (nF) 1 36)), .int (lc_i (lc_cnt (nF) 2 36)), .int (lc_i (nS)), .int (lc_i (nQ)), .int (lc_i (nM))]) : lc_Cel) := hS1
  have hz_28 : σ (28) = some (lc_aI 36 (nF)) := hS2
  have hz_29 : σ (29) = some (lc_aJ 60 (fun i : Int => lc_j ((nPO) i))) := hS3
  refine lc_con RX10 false (by decide) rfl (fun h => absurd h (by decide)) (Nat.le_of_ble_eq_true rfl) ?_
  suffices H : ∀ Q : lc_QT, (∀ v n2 σ2, (fun v n2 σ2 => v = some (.int (lc_i ((lc_type ((f, s, q, m, mo, ca, ct, po), P, H, k, tx, z, bs, bt, sn, sr) c).2))) ∧ n = n2 ∧ lc_CI σ2 ((lc_type ((f, s, q, m, mo, ca, ct, po), P, H, k, tx, z, bs, bt, sn, sr) c).1) ∧ ∀ i : Nat, 50 ≤ i ∨ i = 0 → σ2 i = σ i : lc_QT) v n2 σ2 → Q v n2 σ2) → lc_V l RX10 cX10_type 2 (some .int) false (lc_Rd 1) (lc_G Q 0 0) lc_E0 0 0 n 0 [(0, .ref (1)), (1, .int (lc_i (c)))] [] σ from H _ (fun _ _ _ h => h)
  intro Q hQ
  refine lc_aload_n dX10_type_0 rfl 0 rfl ?_
  refine lc_get dX10_type_1 lc_fX10_73 hz_1 rfl ?_
  refine lc_iload_n dX10_type_4 rfl 1 rfl ?_
  refine lc_callV (As := [.int (lc_i (c))]) (stk := []) (b := 48) dX10_type_5 lc_mX10_136 lc_yX5_append hz_48 rfl (lc_cX5_append l n (tx) (z) (c) σ hz_48 hz_49 (hz) (hch9)) rfl ⟨Nat.le_of_ble_eq_true rfl, Nat.le_of_ble_eq_true rfl⟩ ⟨Nat.le_of_ble_eq_true rfl, Nat.le_of_ble_eq_true rfl⟩ rfl (Nat.le_of_ble_eq_true rfl) (fun v4 n5 σ6 q7 => ?_)
  obtain ⟨rfl, rfl, h2, h3, fr1⟩ := q7
  have h8 : σ6 (1) = some (.inr (10, [.ref (2), .ref (5), .ref (7), .ref (9), .ref (11), .ref (18), .ref (22), .ref (26), .ref (30), .ref (48), .int (lc_i (if bs = true then 1 else 0)), .int (lc_i (if bt = true then 1 else 0)), .int (lc_i (sn)), .int (lc_i (sr))]) : lc_Cel) := (fr1 _ (by omega) (by omega)).trans hz_1
  have h9 : σ6 (2) = some (.inr (1, [.ref (3), .ref (4)]) : lc_Cel) := (fr1 _ (by omega) (by omega)).trans hz_2
  have h10 : σ6 (3) = some (lc_aI 48 (lc_pt)) := (fr1 _ (by omega) (by omega)).trans hz_3
  have h11 : σ6 (4) = some (lc_aI 72 (lc_sp)) := (fr1 _ (by omega) (by omega)).trans hz_4
  have h12 : σ6 (5) = some (.inr (9, [.ref (2), .ref (6), .int (lc_i ((w).1)), .int (lc_i ((w).2.1)), .int (lc_i ((w).2.2.1)), .int (lc_i ((w).2.2.2))]) : lc_Cel) := (fr1 _ (by omega) (by omega)).trans hz_5
  have h13 : σ6 (6) = some (.inr (8, [.ref (2), .int (lc_i (e1)), .int (lc_i (e2)), .int (lc_i (e3))]) : lc_Cel) := (fr1 _ (by omega) (by omega)).trans hz_6
  have h14 : σ6 (7) = some (.inr (6, [.ref (2), .ref (8), .ref (5)]) : lc_Cel) := (fr1 _ (by omega) (by omega)).trans hz_7
  have h15 : σ6 (9) = some (.inr (4, [.ref (10), .int (lc_i (u1)), .int (lc_i (u2))]) : lc_Cel) := (fr1 _ (by omega) (by omega)).trans hz_9
  have h16 : σ6 (10) = some (lc_aI 364 (ug)) := (fr1 _ (by omega) (by omega)).trans hz_10
  have h17 : σ6 (8) = some (.inr (8, [.ref (2), .int (lc_i (a1)), .int (lc_i (a2)), .int (lc_i (a3))]) : lc_Cel) := (fr1 _ (by omega) (by omega)).trans hz_8
  have h18 : σ6 (11) = some (.inr (3, [.ref (7), .ref (12), .ref (14), .ref (16), .int (lc_i (ch))]) : lc_Cel) := (fr1 _ (by omega) (by omega)).trans hz_11
  have h19 : σ6 (12) = some (.inr (0, [.ref (13), .int (lc_i (lc_cnt (bf) 1 36)), .int (lc_i (lc_cnt (bf) 2 36)), .int (lc_i (d1)), .int (lc_i (d2)), .int (lc_i (d3))]) : lc_Cel) := (fr1 _ (by omega) (by omega)).trans hz_12
  have h20 : σ6 (13) = some (lc_aI 36 (bf)) := (fr1 _ (by omega) (by omega)).trans hz_13
  have h21 : σ6 (14) = some (.inr (4, [.ref (15), .int (lc_i (y1)), .int (lc_i (y2))]) : lc_Cel) := (fr1 _ (by omega) (by omega)).trans hz_14
  have h22 : σ6 (15) = some (lc_aI 364 (g1)) := (fr1 _ (by omega) (by omega)).trans hz_15
  have h23 : σ6 (16) = some (.inr (4, [.ref (17), .int (lc_i (x1)), .int (lc_i (x2))]) : lc_Cel) := (fr1 _ (by omega) (by omega)).trans hz_16
  have h24 : σ6 (17) = some (lc_aI 364 (g2)) := (fr1 _ (by omega) (by omega)).trans hz_17
  have h25 : σ6 (30) = some (.inr (2, [.ref (31), .int (lc_i ((k : Int)))]) : lc_Cel) := (fr1 _ (by omega) (by omega)).trans hz_30
  have h26 : σ6 (31) = some (lc_aS 4 (lc_h4 (r))) := (fr1 _ (by omega) (by omega)).trans hz_31
  have h27 : σ6 (18) = some (.inr (7, [.ref (19), .int (lc_i (mo)), .int (lc_i (ca)), .ref (21), .int (lc_i (ct))]) : lc_Cel) := (fr1 _ (by omega) (by omega)).trans hz_18
  have h28 : σ6 (19) = some (.inr (0, [.ref (20), .int (lc_i (lc_cnt (f) 1 36)), .int (lc_i (lc_cnt (f) 2 36)), .int (lc_i (s)), .int (lc_i (q)), .int (lc_i (m))]) : lc_Cel) := (fr1 _ (by omega) (by omega)).trans hz_19
  have h29 : σ6 (20) = some (lc_aI 36 (f)) := (fr1 _ (by omega) (by omega)).trans hz_20
  have h30 : σ6 (21) = some (lc_aJ 60 (fun i : Int => lc_j ((po) i))) := (fr1 _ (by omega) (by omega)).trans hz_21
  have h31 : σ6 (22) = some (.inr (7, [.ref (23), .int (lc_i (bMO)), .int (lc_i (bCA)), .ref (25), .int (lc_i (bCT))]) : lc_Cel) := (fr1 _ (by omega) (by omega)).trans hz_22
  have h32 : σ6 (23) = some (.inr (0, [.ref (24), .int (lc_i (lc_cnt (bF) 1 36)), .int (lc_i (lc_cnt (bF) 2 36)), .int (lc_i (bS)), .int (lc_i (bQ)), .int (lc_i (bM))]) : lc_Cel) := (fr1 _ (by omega) (by omega)).trans hz_23
  have h33 : σ6 (24) = some (lc_aI 36 (bF)) := (fr1 _ (by omega) (by omega)).trans hz_24
  have h34 : σ6 (25) = some (lc_aJ 60 (fun i : Int => lc_j ((bPO) i))) := (fr1 _ (by omega) (by omega)).trans hz_25
  have h35 : σ6 (26) = some (.inr (7, [.ref (27), .int (lc_i (nMO)), .int (lc_i (nCA)), .ref (29), .int (lc_i (nCT))]) : lc_Cel) := (fr1 _ (by omega) (by omega)).trans hz_26
  have h36 : σ6 (27) = some (.inr (0, [.ref (28), .int (lc_i (lc_cnt (nF) 1 36)), .int (lc_i (lc_cnt (nF) 2 36)), .int (lc_i (nS)), .int (lc_i (nQ)), .int (lc_i (nM))]) : lc_Cel) := (fr1 _ (by omega) (by omega)).trans hz_27
  have h37 : σ6 (28) = some (lc_aI 36 (nF)) := (fr1 _ (by omega) (by omega)).trans hz_28
  have h38 : σ6 (29) = some (lc_aJ 60 (fun i : Int => lc_j ((nPO) i))) := (fr1 _ (by omega) (by omega)).trans hz_29
  refine lc_if_eqB (tgt := 21) dX10_type_8 (by decide) (fun h_8_38 => ?_) (fun h_8_38 => ?_)
  · skip
    refine lc_bipush dX10_type_21 (by decide) ?_
    exact lc_iret dX10_type_23 rfl (Nat.le_of_ble_eq_true rfl) (Nat.le_of_ble_eq_true rfl) (hQ _ _ _ (by rw [lc_type, if_neg (show ¬ (z < 80) from by first | assumption | omega)]; exact ⟨rfl, rfl, lc_CI_mk (BF := (bF, bS, bQ, bM, bMO, bCA, bCT, bPO)) (SN := (nF, nS, nQ, nM, nMO, nCA, nCT, nPO)) h8 h9 h10 h11 h12 h13 h14 h15 h16 (lc_Lk_mk h17 h18 h19 h20 h21 h22 h23 h24) ⟨h27, h28, h29, h30⟩ ⟨h31, h32, h33, h34⟩ ⟨h35, h36, h37, h38⟩ (hSN) h25 h26 (lc_Sl_fr hSl (fun i _ _ => (fr1 i (by omega) (by omega)))) h2 h3, fun i _ => (fr1 i (by omega) (by omega))⟩))
  · skip
    refine lc_aload_n dX10_type_11 rfl 0 rfl ?_
    refine lc_get dX10_type_12 lc_fX10_73 h8 rfl ?_
    refine lc_callV (As := []) (stk := []) (b := 48) dX10_type_15 lc_mX10_140 lc_yX5_length h2 rfl (lc_cX5_length l n (lc_ta (tx) (z) (c)) (lc_tz (z)) σ6 h2) rfl ⟨Nat.le_of_ble_eq_true rfl, Nat.le_of_ble_eq_true rfl⟩ ⟨Nat.le_of_ble_eq_true rfl, Nat.le_of_ble_eq_true rfl⟩ rfl (Nat.le_of_ble_eq_true rfl) (fun v40 n41 σ42 q43 => ?_)
    obtain ⟨rfl, rfl, rfl⟩ := q43
    refine lc_goto (tgt := 23) dX10_type_18 (by decide) ?_
    exact lc_iret dX10_type_23 rfl (Nat.le_of_ble_eq_true rfl) (Nat.le_of_ble_eq_true rfl) (hQ _ _ _ (by rw [lc_type, if_pos (show z < 80 from by first | assumption | omega)]; exact ⟨rfl, rfl, lc_CI_mk (BF := (bF, bS, bQ, bM, bMO, bCA, bCT, bPO)) (SN := (nF, nS, nQ, nM, nMO, nCA, nCT, nPO)) h8 h9 h10 h11 h12 h13 h14 h15 h16 (lc_Lk_mk h17 h18 h19 h20 h21 h22 h23 h24) ⟨h27, h28, h29, h30⟩ ⟨h31, h32, h33, h34⟩ ⟨h35, h36, h37, h38⟩ (hSN) h25 h26 (lc_Sl_fr hSl (fun i _ _ => (fr1 i (by omega) (by omega)))) h2 h3, fun i _ => (fr1 i (by omega) (by omega))⟩))

def lc_clr : lc_Ab → lc_Ab × Int
  | (N, P, H, k, tx, z, bs, bt, sn, sr) => ((N, P, H, k, tx, 0, bs, bt, sn, sr), z)

set_option maxRecDepth 100000 in
set_option maxHeartbeats 600000 in
theorem lc_cX10_clearText (l : Launch) (n : Nat) (f : Int → Int) (s q m mo ca ct : Int) (po : Int → Int) (P : lc_St) (H : Nat → lc_St) (k : Nat) (tx : Int → Int) (z : Int) (bs bt : Bool) (sn sr : Int) (σ : lc_S)  (hI : lc_CI σ ((f, s, q, m, mo, ca, ct, po), P, H, k, tx, z, bs, bt, sn, sr)) (hw : lc_wf ((f, s, q, m, mo, ca, ct, po), P, H, k, tx, z, bs, bt, sn, sr)) : lc_Con l yX10_clearText cX10_clearText 2 (some .int) (lc_Rd 1) [.ref (1)] n σ (fun v n2 σ2 => v = some (.int (lc_i ((lc_clr ((f, s, q, m, mo, ca, ct, po), P, H, k, tx, z, bs, bt, sn, sr)).2))) ∧ n = n2 ∧ lc_CI σ2 ((lc_clr ((f, s, q, m, mo, ca, ct, po), P, H, k, tx, z, bs, bt, sn, sr)).1) ∧ ∀ i : Nat, 50 ≤ i ∨ i = 0 → σ2 i = σ i) := by
  obtain ⟨⟨hf9, hs9, hq9, hm9, hct9, hpo9, hkey9⟩, hwP, hwH, hk4, hz, htx⟩ := hw
  have hf : ∀ j : Int, 0 ≤ j → j < 36 → 0 ≤ f j ∧ f j ≤ 2 := hf9
  have hs : 1 ≤ s ∧ s ≤ 2 := hs9
  have hq : 0 ≤ q ∧ q ≤ 60 := hq9
  have hm : 4 ≤ m ∧ m ≤ 60 := hm9
  have hct : 1 ≤ ct ∧ ct ≤ 60 := hct9
  have hpo : ∀ i : Int, 0 ≤ i → i < ct → 0 ≤ po i ∧ po i < 450283905890997363 := hpo9
  have hkey : po (ct - 1) = lc_key f s 36 := hkey9
  have hpo4 : ∀ i : Int, 0 ≤ i → i < ct → 0 ≤ po i ∧ po i < 4611686018427387904 := fun i h1 h2 => ⟨(hpo i h1 h2).1, by have := (hpo i h1 h2).2; omega⟩
  obtain ⟨r, SN, BF, w, e1, e2, e3, u1, u2, ug, hc1, hc2, hc3, hc4, hc5, hc6, hc7, hc9, hc10, hLk, hN, hB, hS, hSN, hc30, hc31, hSl, hc48, hc49⟩ := hI
  have hb : 12 ≤ 19 := (by decide)
  obtain ⟨a1, a2, a3, ch, bf, d1, d2, d3, y1, y2, g1, x1, x2, g2, hk_8, hk_11, hk_12, hk_13, hk_14, hk_15, hk_16, hk_17⟩ := hLk
  obtain ⟨bF, bS, bQ, bM, bMO, bCA, bCT, bPO⟩ := BF
  obtain ⟨nF, nS, nQ, nM, nMO, nCA, nCT, nPO⟩ := SN
  obtain ⟨hN0, hN1, hN2, hN3⟩ := hN
  obtain ⟨hB0, hB1, hB2, hB3⟩ := hB
  obtain ⟨hS0, hS1, hS2, hS3⟩ := hS
  have hz_1 : σ (1) = some (.inr (10, [.ref (2), .ref (5), .ref (7), .ref (9), .ref (11), .ref (18), .ref (22), .ref (26), .ref (30), .ref (48), .int (lc_i (if bs = true then 1 else 0)), .int (lc_i (if bt = true then 1 else 0)), .int (lc_i (sn)), .int (lc_i (sr))]) : lc_Cel) := hc1
  have hz_2 : σ (2) = some (.inr (1, [.ref (3), .ref (4)]) : lc_Cel) := hc2
  have hz_3 : σ (3) = some (lc_aI 48 (lc_pt)) := hc3
  have hz_4 : σ (4) = some (lc_aI 72 (lc_sp)) := hc4
  have hz_5 : σ (5) = some (.inr (9, [.ref (2), .ref (6), .int (lc_i ((w).1)), .int (lc_i ((w).2.1)), .int (lc_i ((w).2.2.1)), .int (lc_i ((w).2.2.2))]) : lc_Cel) := hc5
  have hz_6 : σ (6) = some (.inr (8, [.ref (2), .int (lc_i (e1)), .int (lc_i (e2)), .int (lc_i (e3))]) : lc_Cel) := hc6
  have hz_7 : σ (7) = some (.inr (6, [.ref (2), .ref (8), .ref (5)]) : lc_Cel) := hc7
  have hz_9 : σ (9) = some (.inr (4, [.ref (10), .int (lc_i (u1)), .int (lc_i (u2))]) : lc_Cel) := hc9
  have hz_10 : σ (10) = some (lc_aI 364 (ug)) := hc10
  have hz_8 : σ (8) = some (.inr (8, [.ref (2), .int (lc_i (a1)), .int (lc_i (a2)), .int (lc_i (a3))]) : lc_Cel) := hk_8
  have hz_11 : σ (11) = some (.inr (3, [.ref (7), .ref (12), .ref (14), .ref (16), .int (lc_i (ch))]) : lc_Cel) := hk_11
  have hz_12 : σ (12) = some (.inr (0, [.ref (13), .int (lc_i (lc_cnt (bf) 1 36)), .int (lc_i (lc_cnt (bf) 2 36)), .int (lc_i (d1)), .int (lc_i (d2)), .int (lc_i (d3))]) : lc_Cel) := hk_12
  have hz_13 : σ (13) = some (lc_aI 36 (bf)) := hk_13
  have hz_14 : σ (14) = some (.inr (4, [.ref (15), .int (lc_i (y1)), .int (lc_i (y2))]) : lc_Cel) := hk_14
  have hz_15 : σ (15) = some (lc_aI 364 (g1)) := hk_15
  have hz_16 : σ (16) = some (.inr (4, [.ref (17), .int (lc_i (x1)), .int (lc_i (x2))]) : lc_Cel) := hk_16
  have hz_17 : σ (17) = some (lc_aI 364 (g2)) := hk_17
  have hz_30 : σ (30) = some (.inr (2, [.ref (31), .int (lc_i ((k : Int)))]) : lc_Cel) := hc30
  have hz_31 : σ (31) = some (lc_aS 4 (lc_h4 (r))) := hc31
  have hz_48 : σ (48) = some (.inr (5, [.ref (49), .int (lc_i (z))]) : lc_Cel) := hc48
  have hz_49 : σ (49) = some (lc_aC 80 (tx)) := hc49
  have hz_18 : σ (18) = some (.inr (7, [.ref (19), .int (lc_i (mo)), .int (lc_i (ca)), .ref (21), .int (lc_i (ct))]) : lc_Cel) := hN0
  have hz_19 : σ (19) = some (.inr (0, [.ref (20), .int (lc_i (lc_cnt (f) 1 36)), .int (lc_i (lc_cnt (f) 2 36)), .int (lc_i (s)), .int (lc_i (q)), .int (lc_i (m))]) : lc_Cel) := hN1
  have hz_20 : σ (20) = some (lc_aI 36 (f)) := hN2
  have hz_21 : σ (21) = some (lc_aJ 60 (fun i : Int => lc_j ((po) i))) := hN3
  have hz_22 : σ (22) = some (.inr (7, [.ref (23), .int (lc_i (bMO)), .int (lc_i (bCA)), .ref (25), .int (lc_i (bCT))]) : lc_Cel) := hB0
  have hz_23 : σ (23) = some (.inr (0, [.ref (24), .int (lc_i (lc_cnt (bF) 1 36)), .int (lc_i (lc_cnt (bF) 2 36)), .int (lc_i (bS)), .int (lc_i (bQ)), .int (lc_i (bM))]) : lc_Cel) := hB1
  have hz_24 : σ (24) = some (lc_aI 36 (bF)) := hB2
  have hz_25 : σ (25) = some (lc_aJ 60 (fun i : Int => lc_j ((bPO) i))) := hB3
  have hz_26 : σ (26) = some (.inr (7, [.ref (27), .int (lc_i (nMO)), .int (lc_i (nCA)), .ref (29), .int (lc_i (nCT))]) : lc_Cel) := hS0
  have hz_27 : σ (27) = some (.inr (0, [.ref (28), .int (lc_i (lc_cnt (nF) 1 36)), .int (lc_i (lc_cnt (nF) 2 36)), .int (lc_i (nS)), .int (lc_i (nQ)), .int (lc_i (nM))]) : lc_Cel) := hS1
  have hz_28 : σ (28) = some (lc_aI 36 (nF)) := hS2
  have hz_29 : σ (29) = some (lc_aJ 60 (fun i : Int => lc_j ((nPO) i))) := hS3
  refine lc_con RX10 false (by decide) rfl (fun h => absurd h (by decide)) (Nat.le_of_ble_eq_true rfl) ?_
  suffices H : ∀ Q : lc_QT, (∀ v n2 σ2, (fun v n2 σ2 => v = some (.int (lc_i ((lc_clr ((f, s, q, m, mo, ca, ct, po), P, H, k, tx, z, bs, bt, sn, sr)).2))) ∧ n = n2 ∧ lc_CI σ2 ((lc_clr ((f, s, q, m, mo, ca, ct, po), P, H, k, tx, z, bs, bt, sn, sr)).1) ∧ ∀ i : Nat, 50 ≤ i ∨ i = 0 → σ2 i = σ i : lc_QT) v n2 σ2 → Q v n2 σ2) → lc_V l RX10 cX10_clearText 2 (some .int) false (lc_Rd 1) (lc_G Q 0 0) lc_E0 0 0 n 0 [(0, .ref (1))] [] σ from H _ (fun _ _ _ h => h)
  intro Q hQ
  refine lc_aload_n dX10_clearText_0 rfl 0 rfl ?_
  refine lc_get dX10_clearText_1 lc_fX10_73 hz_1 rfl ?_
  refine lc_callV (As := []) (stk := []) (b := 48) dX10_clearText_4 lc_mX10_140 lc_yX5_length hz_48 rfl (lc_cX5_length l n (tx) (z) σ hz_48) rfl ⟨Nat.le_of_ble_eq_true rfl, Nat.le_of_ble_eq_true rfl⟩ ⟨Nat.le_of_ble_eq_true rfl, Nat.le_of_ble_eq_true rfl⟩ rfl (Nat.le_of_ble_eq_true rfl) (fun v1 n2 σ3 q4 => ?_)
  obtain ⟨rfl, rfl, rfl⟩ := q4
  refine lc_istore_n (lv' := [(0, .ref (1)), (1, .int (lc_i (z)))]) dX10_clearText_7 rfl (by decide) rfl ?_
  refine lc_aload_n dX10_clearText_8 rfl 0 rfl ?_
  refine lc_get dX10_clearText_9 lc_fX10_73 hz_1 rfl ?_
  refine lc_callV (As := []) (stk := []) (b := 48) dX10_clearText_12 lc_mX10_143 lc_yX5_empty hz_48 rfl (lc_cX5_empty l n (tx) (z) σ hz_48) rfl ⟨Nat.le_of_ble_eq_true rfl, Nat.le_of_ble_eq_true rfl⟩ ⟨Nat.le_of_ble_eq_true rfl, Nat.le_of_ble_eq_true rfl⟩ rfl (Nat.le_of_ble_eq_true rfl) (fun v7 n8 σ9 q10 => ?_)
  obtain ⟨rfl, rfl, h6, fr5⟩ := q10
  have h11 : σ9 (1) = some (.inr (10, [.ref (2), .ref (5), .ref (7), .ref (9), .ref (11), .ref (18), .ref (22), .ref (26), .ref (30), .ref (48), .int (lc_i (if bs = true then 1 else 0)), .int (lc_i (if bt = true then 1 else 0)), .int (lc_i (sn)), .int (lc_i (sr))]) : lc_Cel) := (fr5 _ (by omega)).trans hz_1
  have h12 : σ9 (2) = some (.inr (1, [.ref (3), .ref (4)]) : lc_Cel) := (fr5 _ (by omega)).trans hz_2
  have h13 : σ9 (3) = some (lc_aI 48 (lc_pt)) := (fr5 _ (by omega)).trans hz_3
  have h14 : σ9 (4) = some (lc_aI 72 (lc_sp)) := (fr5 _ (by omega)).trans hz_4
  have h15 : σ9 (5) = some (.inr (9, [.ref (2), .ref (6), .int (lc_i ((w).1)), .int (lc_i ((w).2.1)), .int (lc_i ((w).2.2.1)), .int (lc_i ((w).2.2.2))]) : lc_Cel) := (fr5 _ (by omega)).trans hz_5
  have h16 : σ9 (6) = some (.inr (8, [.ref (2), .int (lc_i (e1)), .int (lc_i (e2)), .int (lc_i (e3))]) : lc_Cel) := (fr5 _ (by omega)).trans hz_6
  have h17 : σ9 (7) = some (.inr (6, [.ref (2), .ref (8), .ref (5)]) : lc_Cel) := (fr5 _ (by omega)).trans hz_7
  have h18 : σ9 (9) = some (.inr (4, [.ref (10), .int (lc_i (u1)), .int (lc_i (u2))]) : lc_Cel) := (fr5 _ (by omega)).trans hz_9
  have h19 : σ9 (10) = some (lc_aI 364 (ug)) := (fr5 _ (by omega)).trans hz_10
  have h20 : σ9 (8) = some (.inr (8, [.ref (2), .int (lc_i (a1)), .int (lc_i (a2)), .int (lc_i (a3))]) : lc_Cel) := (fr5 _ (by omega)).trans hz_8
  have h21 : σ9 (11) = some (.inr (3, [.ref (7), .ref (12), .ref (14), .ref (16), .int (lc_i (ch))]) : lc_Cel) := (fr5 _ (by omega)).trans hz_11
  have h22 : σ9 (12) = some (.inr (0, [.ref (13), .int (lc_i (lc_cnt (bf) 1 36)), .int (lc_i (lc_cnt (bf) 2 36)), .int (lc_i (d1)), .int (lc_i (d2)), .int (lc_i (d3))]) : lc_Cel) := (fr5 _ (by omega)).trans hz_12
  have h23 : σ9 (13) = some (lc_aI 36 (bf)) := (fr5 _ (by omega)).trans hz_13
  have h24 : σ9 (14) = some (.inr (4, [.ref (15), .int (lc_i (y1)), .int (lc_i (y2))]) : lc_Cel) := (fr5 _ (by omega)).trans hz_14
  have h25 : σ9 (15) = some (lc_aI 364 (g1)) := (fr5 _ (by omega)).trans hz_15
  have h26 : σ9 (16) = some (.inr (4, [.ref (17), .int (lc_i (x1)), .int (lc_i (x2))]) : lc_Cel) := (fr5 _ (by omega)).trans hz_16
  have h27 : σ9 (17) = some (lc_aI 364 (g2)) := (fr5 _ (by omega)).trans hz_17
  have h28 : σ9 (30) = some (.inr (2, [.ref (31), .int (lc_i ((k : Int)))]) : lc_Cel) := (fr5 _ (by omega)).trans hz_30
  have h29 : σ9 (31) = some (lc_aS 4 (lc_h4 (r))) := (fr5 _ (by omega)).trans hz_31
  have h30 : σ9 (49) = some (lc_aC 80 (tx)) := (fr5 _ (by omega)).trans hz_49
  have h31 : σ9 (18) = some (.inr (7, [.ref (19), .int (lc_i (mo)), .int (lc_i (ca)), .ref (21), .int (lc_i (ct))]) : lc_Cel) := (fr5 _ (by omega)).trans hz_18
  have h32 : σ9 (19) = some (.inr (0, [.ref (20), .int (lc_i (lc_cnt (f) 1 36)), .int (lc_i (lc_cnt (f) 2 36)), .int (lc_i (s)), .int (lc_i (q)), .int (lc_i (m))]) : lc_Cel) := (fr5 _ (by omega)).trans hz_19
  have h33 : σ9 (20) = some (lc_aI 36 (f)) := (fr5 _ (by omega)).trans hz_20
  have h34 : σ9 (21) = some (lc_aJ 60 (fun i : Int => lc_j ((po) i))) := (fr5 _ (by omega)).trans hz_21
  have h35 : σ9 (22) = some (.inr (7, [.ref (23), .int (lc_i (bMO)), .int (lc_i (bCA)), .ref (25), .int (lc_i (bCT))]) : lc_Cel) := (fr5 _ (by omega)).trans hz_22
  have h36 : σ9 (23) = some (.inr (0, [.ref (24), .int (lc_i (lc_cnt (bF) 1 36)), .int (lc_i (lc_cnt (bF) 2 36)), .int (lc_i (bS)), .int (lc_i (bQ)), .int (lc_i (bM))]) : lc_Cel) := (fr5 _ (by omega)).trans hz_23
  have h37 : σ9 (24) = some (lc_aI 36 (bF)) := (fr5 _ (by omega)).trans hz_24
  have h38 : σ9 (25) = some (lc_aJ 60 (fun i : Int => lc_j ((bPO) i))) := (fr5 _ (by omega)).trans hz_25
  have h39 : σ9 (26) = some (.inr (7, [.ref (27), .int (lc_i (nMO)), .int (lc_i (nCA)), .ref (29), .int (lc_i (nCT))]) : lc_Cel) := (fr5 _ (by omega)).trans hz_26
  have h40 : σ9 (27) = some (.inr (0, [.ref (28), .int (lc_i (lc_cnt (nF) 1 36)), .int (lc_i (lc_cnt (nF) 2 36)), .int (lc_i (nS)), .int (lc_i (nQ)), .int (lc_i (nM))]) : lc_Cel) := (fr5 _ (by omega)).trans hz_27
  have h41 : σ9 (28) = some (lc_aI 36 (nF)) := (fr5 _ (by omega)).trans hz_28
  have h42 : σ9 (29) = some (lc_aJ 60 (fun i : Int => lc_j ((nPO) i))) := (fr5 _ (by omega)).trans hz_29
  refine lc_iload_n dX10_clearText_15 rfl 1 rfl ?_
  exact lc_iret dX10_clearText_16 rfl (Nat.le_of_ble_eq_true rfl) (Nat.le_of_ble_eq_true rfl) (hQ _ _ _ (by rw [lc_clr]; exact ⟨rfl, rfl, lc_CI_mk (BF := (bF, bS, bQ, bM, bMO, bCA, bCT, bPO)) (SN := (nF, nS, nQ, nM, nMO, nCA, nCT, nPO)) h11 h12 h13 h14 h15 h16 h17 h18 h19 (lc_Lk_mk h20 h21 h22 h23 h24 h25 h26 h27) ⟨h31, h32, h33, h34⟩ ⟨h35, h36, h37, h38⟩ ⟨h39, h40, h41, h42⟩ (hSN) h28 h29 (lc_Sl_fr hSl (fun i _ _ => (fr5 i (by omega)))) h6 h30, fun i _ => (fr5 i (by omega))⟩))

def lc_stop : lc_Ab → Int → lc_Ab × Int
  | (N, P, H, k, tx, z, bs, bt, sn, sr), x => ((N, P, H, k, tx, z, bs, bt, sn, sr), if x < 0 ∨ 1 < x then -102 else if ¬ bt = true then -105 else if x = 0 then sn else sr)

set_option maxRecDepth 100000 in
set_option maxHeartbeats 600000 in
theorem lc_cX10_stopped (l : Launch) (n : Nat) (f : Int → Int) (s q m mo ca ct : Int) (po : Int → Int) (P : lc_St) (H : Nat → lc_St) (k : Nat) (tx : Int → Int) (z : Int) (bs bt : Bool) (sn sr : Int) (x : Int) (σ : lc_S)  (hI : lc_CI σ ((f, s, q, m, mo, ca, ct, po), P, H, k, tx, z, bs, bt, sn, sr)) (hw : lc_wf ((f, s, q, m, mo, ca, ct, po), P, H, k, tx, z, bs, bt, sn, sr)) (hR_x : -2147483648 ≤ x ∧ x < 2147483648) : lc_Con l yX10_stopped cX10_stopped 2 (some .int) (lc_Rd 0) [.ref (1), .int (lc_i (x))] n σ (fun v n2 σ2 => v = some (.int (lc_i ((lc_stop ((f, s, q, m, mo, ca, ct, po), P, H, k, tx, z, bs, bt, sn, sr) x).2))) ∧ n = n2 ∧ lc_CI σ2 ((lc_stop ((f, s, q, m, mo, ca, ct, po), P, H, k, tx, z, bs, bt, sn, sr) x).1) ∧ ∀ i : Nat, 50 ≤ i ∨ i = 0 → σ2 i = σ i) := by
  obtain ⟨⟨hf9, hs9, hq9, hm9, hct9, hpo9, hkey9⟩, hwP, hwH, hk4, hz, htx⟩ := hw
  have hf : ∀ j : Int, 0 ≤ j → j < 36 → 0 ≤ f j ∧ f j ≤ 2 := hf9
  have hs : 1 ≤ s ∧ s ≤ 2 := hs9
  have hq : 0 ≤ q ∧ q ≤ 60 := hq9
  have hm : 4 ≤ m ∧ m ≤ 60 := hm9
  have hct : 1 ≤ ct ∧ ct ≤ 60 := hct9
  have hpo : ∀ i : Int, 0 ≤ i → i < ct → 0 ≤ po i ∧ po i < 450283905890997363 := hpo9
  have hkey : po (ct - 1) = lc_key f s 36 := hkey9
  have hpo4 : ∀ i : Int, 0 ≤ i → i < ct → 0 ≤ po i ∧ po i < 4611686018427387904 := fun i h1 h2 => ⟨(hpo i h1 h2).1, by have := (hpo i h1 h2).2; omega⟩
  obtain ⟨r, SN, BF, w, e1, e2, e3, u1, u2, ug, hc1, hc2, hc3, hc4, hc5, hc6, hc7, hc9, hc10, hLk, hN, hB, hS, hSN, hc30, hc31, hSl, hc48, hc49⟩ := hI
  have hb : 12 ≤ 19 := (by decide)
  obtain ⟨a1, a2, a3, ch, bf, d1, d2, d3, y1, y2, g1, x1, x2, g2, hk_8, hk_11, hk_12, hk_13, hk_14, hk_15, hk_16, hk_17⟩ := hLk
  obtain ⟨bF, bS, bQ, bM, bMO, bCA, bCT, bPO⟩ := BF
  obtain ⟨nF, nS, nQ, nM, nMO, nCA, nCT, nPO⟩ := SN
  obtain ⟨hN0, hN1, hN2, hN3⟩ := hN
  obtain ⟨hB0, hB1, hB2, hB3⟩ := hB
  obtain ⟨hS0, hS1, hS2, hS3⟩ := hS
  have hz_1 : σ (1) = some (.inr (10, [.ref (2), .ref (5), .ref (7), .ref (9), .ref (11), .ref (18), .ref (22), .ref (26), .ref (30), .ref (48), .int (lc_i (if bs = true then 1 else 0)), .int (lc_i (if bt = true then 1 else 0)), .int (lc_i (sn)), .int (lc_i (sr))]) : lc_Cel) := hc1
  have hz_2 : σ (2) = some (.inr (1, [.ref (3), .ref (4)]) : lc_Cel) := hc2
  have hz_3 : σ (3) = some (lc_aI 48 (lc_pt)) := hc3
  have hz_4 : σ (4) = some (lc_aI 72 (lc_sp)) := hc4
  have hz_5 : σ (5) = some (.inr (9, [.ref (2), .ref (6), .int (lc_i ((w).1)), .int (lc_i ((w).2.1)), .int (lc_i ((w).2.2.1)), .int (lc_i ((w).2.2.2))]) : lc_Cel) := hc5
  have hz_6 : σ (6) = some (.inr (8, [.ref (2), .int (lc_i (e1)), .int (lc_i (e2)), .int (lc_i (e3))]) : lc_Cel) := hc6
  have hz_7 : σ (7) = some (.inr (6, [.ref (2), .ref (8), .ref (5)]) : lc_Cel) := hc7
  have hz_9 : σ (9) = some (.inr (4, [.ref (10), .int (lc_i (u1)), .int (lc_i (u2))]) : lc_Cel) := hc9
  have hz_10 : σ (10) = some (lc_aI 364 (ug)) := hc10
  have hz_8 : σ (8) = some (.inr (8, [.ref (2), .int (lc_i (a1)), .int (lc_i (a2)), .int (lc_i (a3))]) : lc_Cel) := hk_8
  have hz_11 : σ (11) = some (.inr (3, [.ref (7), .ref (12), .ref (14), .ref (16), .int (lc_i (ch))]) : lc_Cel) := hk_11
  have hz_12 : σ (12) = some (.inr (0, [.ref (13), .int (lc_i (lc_cnt (bf) 1 36)), .int (lc_i (lc_cnt (bf) 2 36)), .int (lc_i (d1)), .int (lc_i (d2)), .int (lc_i (d3))]) : lc_Cel) := hk_12
  have hz_13 : σ (13) = some (lc_aI 36 (bf)) := hk_13
  have hz_14 : σ (14) = some (.inr (4, [.ref (15), .int (lc_i (y1)), .int (lc_i (y2))]) : lc_Cel) := hk_14
  have hz_15 : σ (15) = some (lc_aI 364 (g1)) := hk_15
  have hz_16 : σ (16) = some (.inr (4, [.ref (17), .int (lc_i (x1)), .int (lc_i (x2))]) : lc_Cel) := hk_16
  have hz_17 : σ (17) = some (lc_aI 364 (g2)) := hk_17
  have hz_30 : σ (30) = some (.inr (2, [.ref (31), .int (lc_i ((k : Int)))]) : lc_Cel) := hc30
  have hz_31 : σ (31) = some (lc_aS 4 (lc_h4 (r))) := hc31
  have hz_48 : σ (48) = some (.inr (5, [.ref (49), .int (lc_i (z))]) : lc_Cel) := hc48
  have hz_49 : σ (49) = some (lc_aC 80 (tx)) := hc49
  have hz_18 : σ (18) = some (.inr (7, [.ref (19), .int (lc_i (mo)), .int (lc_i (ca)), .ref (21), .int (lc_i (ct))]) : lc_Cel) := hN0
  have hz_19 : σ (19) = some (.inr (0, [.ref (20), .int (lc_i (lc_cnt (f) 1 36)), .int (lc_i (lc_cnt (f) 2 36)), .int (lc_i (s)), .int (lc_i (q)), .int (lc_i (m))]) : lc_Cel) := hN1
  have hz_20 : σ (20) = some (lc_aI 36 (f)) := hN2
  have hz_21 : σ (21) = some (lc_aJ 60 (fun i : Int => lc_j ((po) i))) := hN3
  have hz_22 : σ (22) = some (.inr (7, [.ref (23), .int (lc_i (bMO)), .int (lc_i (bCA)), .ref (25), .int (lc_i (bCT))]) : lc_Cel) := hB0
  have hz_23 : σ (23) = some (.inr (0, [.ref (24), .int (lc_i (lc_cnt (bF) 1 36)), .int (lc_i (lc_cnt (bF) 2 36)), .int (lc_i (bS)), .int (lc_i (bQ)), .int (lc_i (bM))]) : lc_Cel) := hB1
  have hz_24 : σ (24) = some (lc_aI 36 (bF)) := hB2
  have hz_25 : σ (25) = some (lc_aJ 60 (fun i : Int => lc_j ((bPO) i))) := hB3
  have hz_26 : σ (26) = some (.inr (7, [.ref (27), .int (lc_i (nMO)), .int (lc_i (nCA)), .ref (29), .int (lc_i (nCT))]) : lc_Cel) := hS0
  have hz_27 : σ (27) = some (.inr (0, [.ref (28), .int (lc_i (lc_cnt (nF) 1 36)), .int (lc_i (lc_cnt (nF) 2 36)), .int (lc_i (nS)), .int (lc_i (nQ)), .int (lc_i (nM))]) : lc_Cel) := hS1
  have hz_28 : σ (28) = some (lc_aI 36 (nF)) := hS2
  have hz_29 : σ (29) = some (lc_aJ 60 (fun i : Int => lc_j ((nPO) i))) := hS3
  refine lc_con RX10 false (by decide) rfl (fun h => absurd h (by decide)) (Nat.le_of_ble_eq_true rfl) ?_
  suffices H : ∀ Q : lc_QT, (∀ v n2 σ2, (fun v n2 σ2 => v = some (.int (lc_i ((lc_stop ((f, s, q, m, mo, ca, ct, po), P, H, k, tx, z, bs, bt, sn, sr) x).2))) ∧ n = n2 ∧ lc_CI σ2 ((lc_stop ((f, s, q, m, mo, ca, ct, po), P, H, k, tx, z, bs, bt, sn, sr) x).1) ∧ ∀ i : Nat, 50 ≤ i ∨ i = 0 → σ2 i = σ i : lc_QT) v n2 σ2 → Q v n2 σ2) → lc_V l RX10 cX10_stopped 2 (some .int) false (lc_Rd 0) (lc_G Q 0 0) lc_E0 0 0 n 0 [(0, .ref (1)), (1, .int (lc_i (x)))] [] σ from H _ (fun _ _ _ h => h)
  intro Q hQ
  refine lc_iload_n dX10_stopped_0 rfl 1 rfl ?_
  refine lc_if_lt (tgt := 9) dX10_stopped_1 (by decide) (by omega) (fun h_1_0 => ?_) (fun h_1_0 => ?_)
  · skip
    refine lc_bipush dX10_stopped_9 (by decide) ?_
    exact lc_iret dX10_stopped_11 rfl (Nat.le_of_ble_eq_true rfl) (Nat.le_of_ble_eq_true rfl) (hQ _ _ _ (by rw [lc_stop, if_pos (show x < 0 ∨ 1 < x from by omega)]; exact ⟨rfl, rfl, lc_CI_mk (BF := (bF, bS, bQ, bM, bMO, bCA, bCT, bPO)) (SN := (nF, nS, nQ, nM, nMO, nCA, nCT, nPO)) hz_1 hz_2 hz_3 hz_4 hz_5 hz_6 hz_7 hz_9 hz_10 (lc_Lk_mk hz_8 hz_11 hz_12 hz_13 hz_14 hz_15 hz_16 hz_17) ⟨hz_18, hz_19, hz_20, hz_21⟩ ⟨hz_22, hz_23, hz_24, hz_25⟩ ⟨hz_26, hz_27, hz_28, hz_29⟩ (hSN) hz_30 hz_31 (lc_Sl_fr hSl (fun i _ _ => rfl)) hz_48 hz_49, fun i _ => rfl⟩))
  · skip
    refine lc_iload_n dX10_stopped_4 rfl 1 rfl ?_
    refine lc_iconst dX10_stopped_5 ?_
    refine lc_icmp_le (tgt := 12) dX10_stopped_6 (by decide) (by omega) (fun h_6_1 => ?_) (fun h_6_1 => ?_)
    · skip
      refine lc_aload_n dX10_stopped_12 rfl 0 rfl ?_
      refine lc_get dX10_stopped_13 lc_fX10_167 hz_1 rfl ?_
      refine lc_if_neB (tgt := 22) dX10_stopped_16 (by decide) (fun h_16_2 => ?_) (fun h_16_2 => ?_)
      · skip
        refine lc_iload_n dX10_stopped_22 rfl 1 rfl ?_
        refine lc_if_ne (tgt := 33) dX10_stopped_23 (by decide) (by omega) (fun h_23_3 => ?_) (fun h_23_3 => ?_)
        · skip
          refine lc_aload_n dX10_stopped_33 rfl 0 rfl ?_
          refine lc_get dX10_stopped_34 lc_fX10_175 hz_1 rfl ?_
          exact lc_iret dX10_stopped_37 rfl (Nat.le_of_ble_eq_true rfl) (Nat.le_of_ble_eq_true rfl) (hQ _ _ _ (by rw [lc_stop, if_neg (show ¬ (x < 0 ∨ 1 < x) from by omega), if_neg (show ¬ (¬ bt = true) from fun q9 => q9 h_16_2), if_neg (show ¬ (x = 0) from by omega)]; exact ⟨rfl, rfl, lc_CI_mk (BF := (bF, bS, bQ, bM, bMO, bCA, bCT, bPO)) (SN := (nF, nS, nQ, nM, nMO, nCA, nCT, nPO)) hz_1 hz_2 hz_3 hz_4 hz_5 hz_6 hz_7 hz_9 hz_10 (lc_Lk_mk hz_8 hz_11 hz_12 hz_13 hz_14 hz_15 hz_16 hz_17) ⟨hz_18, hz_19, hz_20, hz_21⟩ ⟨hz_22, hz_23, hz_24, hz_25⟩ ⟨hz_26, hz_27, hz_28, hz_29⟩ (hSN) hz_30 hz_31 (lc_Sl_fr hSl (fun i _ _ => rfl)) hz_48 hz_49, fun i _ => rfl⟩))
        · skip
          refine lc_aload_n dX10_stopped_26 rfl 0 rfl ?_
          refine lc_get dX10_stopped_27 lc_fX10_171 hz_1 rfl ?_
          refine lc_goto (tgt := 37) dX10_stopped_30 (by decide) ?_
          exact lc_iret dX10_stopped_37 rfl (Nat.le_of_ble_eq_true rfl) (Nat.le_of_ble_eq_true rfl) (hQ _ _ _ (by rw [lc_stop, if_neg (show ¬ (x < 0 ∨ 1 < x) from by omega), if_neg (show ¬ (¬ bt = true) from fun q9 => q9 h_16_2), if_pos (show x = 0 from by omega)]; exact ⟨rfl, rfl, lc_CI_mk (BF := (bF, bS, bQ, bM, bMO, bCA, bCT, bPO)) (SN := (nF, nS, nQ, nM, nMO, nCA, nCT, nPO)) hz_1 hz_2 hz_3 hz_4 hz_5 hz_6 hz_7 hz_9 hz_10 (lc_Lk_mk hz_8 hz_11 hz_12 hz_13 hz_14 hz_15 hz_16 hz_17) ⟨hz_18, hz_19, hz_20, hz_21⟩ ⟨hz_22, hz_23, hz_24, hz_25⟩ ⟨hz_26, hz_27, hz_28, hz_29⟩ (hSN) hz_30 hz_31 (lc_Sl_fr hSl (fun i _ _ => rfl)) hz_48 hz_49, fun i _ => rfl⟩))
      · skip
        refine lc_bipush dX10_stopped_19 (by decide) ?_
        exact lc_iret dX10_stopped_21 rfl (Nat.le_of_ble_eq_true rfl) (Nat.le_of_ble_eq_true rfl) (hQ _ _ _ (by rw [lc_stop, if_neg (show ¬ (x < 0 ∨ 1 < x) from by omega), if_pos (show ¬ bt = true from h_16_2)]; exact ⟨rfl, rfl, lc_CI_mk (BF := (bF, bS, bQ, bM, bMO, bCA, bCT, bPO)) (SN := (nF, nS, nQ, nM, nMO, nCA, nCT, nPO)) hz_1 hz_2 hz_3 hz_4 hz_5 hz_6 hz_7 hz_9 hz_10 (lc_Lk_mk hz_8 hz_11 hz_12 hz_13 hz_14 hz_15 hz_16 hz_17) ⟨hz_18, hz_19, hz_20, hz_21⟩ ⟨hz_22, hz_23, hz_24, hz_25⟩ ⟨hz_26, hz_27, hz_28, hz_29⟩ (hSN) hz_30 hz_31 (lc_Sl_fr hSl (fun i _ _ => rfl)) hz_48 hz_49, fun i _ => rfl⟩))
    · skip
      refine lc_bipush dX10_stopped_9 (by decide) ?_
      exact lc_iret dX10_stopped_11 rfl (Nat.le_of_ble_eq_true rfl) (Nat.le_of_ble_eq_true rfl) (hQ _ _ _ (by rw [lc_stop, if_pos (show x < 0 ∨ 1 < x from by omega)]; exact ⟨rfl, rfl, lc_CI_mk (BF := (bF, bS, bQ, bM, bMO, bCA, bCT, bPO)) (SN := (nF, nS, nQ, nM, nMO, nCA, nCT, nPO)) hz_1 hz_2 hz_3 hz_4 hz_5 hz_6 hz_7 hz_9 hz_10 (lc_Lk_mk hz_8 hz_11 hz_12 hz_13 hz_14 hz_15 hz_16 hz_17) ⟨hz_18, hz_19, hz_20, hz_21⟩ ⟨hz_22, hz_23, hz_24, hz_25⟩ ⟨hz_26, hz_27, hz_28, hz_29⟩ (hSN) hz_30 hz_31 (lc_Sl_fr hSl (fun i _ _ => rfl)) hz_48 hz_49, fun i _ => rfl⟩))
