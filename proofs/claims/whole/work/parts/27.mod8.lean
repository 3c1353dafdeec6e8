/-! the reference: possible, count, perform -/
theorem lc_con_m {l : Launch} {y : MethodName} {cc : ByteArray} {nL : Nat} {ret : Option FieldType} {R : Room} {av : List Value} {n : Nat} {σ : lc_S} {Q Q' : lc_QT} (h : lc_Con l y cc nL ret R av n σ Q) (hq : ∀ (v : Option Value) (n2 : Nat) (σ2 : lc_S), Q v n2 σ2 → Q' v n2 σ2) : lc_Con l y cc nL ret R av n σ Q' := by
  intro b b0 D ar
  refine MetFree.mono (h b b0 D ar) (fun _ _ q => q) (fun _ _ _ _ _ q => q) (fun _ _ _ _ _ q => ?_)
  obtain ⟨⟨⟨v, n2, σ2, e1, e2, e3⟩, e4⟩, e5⟩ := q
  exact ⟨⟨⟨v, n2, σ2, e1, hq _ _ _ e2, e3⟩, e4⟩, e5⟩
theorem lc_fault_ff {tx : Int → Int} {z : Int} (hz : 0 ≤ z) (h : ¬ lc_fault tx z < 0) : ((lc_ff tx z.toNat 0 : Nat) : Int) = lc_fault tx z := by
  have hr := lc_ff_r tx z.toNat 0
  unfold lc_fault at h ⊢
  by_cases h1 : (lc_ff tx z.toNat 0 : Int) < z
  · rw [if_pos h1]
  · rw [if_neg h1] at h ⊢
    by_cases h2 : z % 6 = 5
    · rw [if_pos h2] at h; omega
    · rw [if_neg h2]; omega

theorem lc_cX11_possible_M (l : Launch) (n : Nat) (f : Int → Int) (s q m mo ca ct : Int) (po : Int → Int) (P : lc_St) (H : Nat → lc_St) (k : Nat) (tx : Int → Int) (z : Int) (bs bt : Bool) (sn sr : Int) (x : Int) (σ : lc_S) (hI : lc_MI σ ((f, s, q, m, mo, ca, ct, po), P, H, k, tx, z, bs, bt, sn, sr)) (hw : lc_wf ((f, s, q, m, mo, ca, ct, po), P, H, k, tx, z, bs, bt, sn, sr)) (hR_x : -2147483648 ≤ x ∧ x < 2147483648) : lc_Con l yX11_possible cX11_possible 8 (some .int) (lc_Rd 4) [.ref (50), .int (lc_i (x))] n σ (fun v n2 σ2 => v = some (.int (lc_i ((lc_poss ((f, s, q, m, mo, ca, ct, po), P, H, k, tx, z, bs, bt, sn, sr) x).2))) ∧ n = n2 ∧ lc_MI σ2 ((lc_poss ((f, s, q, m, mo, ca, ct, po), P, H, k, tx, z, bs, bt, sn, sr) x).1) ∧ ∀ i : Nat, i < 50 → σ2 i = σ i) := by
  obtain ⟨⟨hf9, hs9, hq9, hm9, hct9, hpo9, hkey9⟩, hwP, hwH, hk4, hz, htx⟩ := hw
  have hf : ∀ j : Int, 0 ≤ j → j < 36 → 0 ≤ f j ∧ f j ≤ 2 := hf9
  have hs : 1 ≤ s ∧ s ≤ 2 := hs9
  have hq : 0 ≤ q ∧ q ≤ 60 := hq9
  have hm : 4 ≤ m ∧ m ≤ 60 := hm9
  have hct : 1 ≤ ct ∧ ct ≤ 60 := hct9
  have hpo : ∀ i : Int, 0 ≤ i → i < ct → 0 ≤ po i ∧ po i < 450283905890997363 := hpo9
  have hkey : po (ct - 1) = lc_key f s 36 := hkey9
  obtain ⟨N1, N2, N3, N4, N5, N6, N7, at9, js, jr, w1, w2, w3, bw, hc50, hc51, hc52, hc53, hc54, hc55, hc56, hc57, hR, hRP, hP, hT, hjs, hjr⟩ := hI
  have hR : lc_RM N1 (f, s, q, m, mo, ca, ct, po) := hR
  have hH60 : ∀ j : Nat, j < k → (H j).2.2.2.2.2.2.1 ≤ 60 := fun j hj => (hwH j hj).2.2.2.2.1.2
  obtain ⟨h0R, h1R, h2R, h3R, h4R, h5R, h6R, h7R⟩ := id hR
  have h0R : N1 0 = s := h0R
  have h1R : N1 1 = q := h1R
  have h2R : N1 2 = mo := h2R
  have h3R : N1 3 = ca := h3R
  have h4R : N1 4 = m := h4R
  have h5R : N1 5 = ct := h5R
  have h6R : ∀ p : Int, 0 ≤ p → p < 36 → N1 (6 + p) = f p := h6R
  have hz_50 : σ (50) = some (.inr (11, [.ref (51), .ref (52), .ref (53), .ref (54), .ref (55), .int (lc_i ((k : Int))), .ref (56), .int (lc_i (if bs = true then 1 else 0)), .ref (57), .int (lc_i (z)), .int (lc_i (at9)), .int (lc_i (js)), .int (lc_i (jr)), .int (lc_i (w1)), .int (lc_i (w2)), .int (lc_i (w3)), .int (lc_i (bw))]) : lc_Cel) := hc50
  have hz_51 : σ (51) = some (lc_aI 222 (N1)) := hc51
  have hz_52 : σ (52) = some (lc_aI 222 (N2)) := hc52
  have hz_53 : σ (53) = some (lc_aI 222 (N3)) := hc53
  have hz_54 : σ (54) = some (lc_aI 222 (N4)) := hc54
  have hz_55 : σ (55) = some (lc_aI 888 (N5)) := hc55
  have hz_56 : σ (56) = some (lc_aI 222 (N6)) := hc56
  have hz_57 : σ (57) = some (lc_aI 80 (N7)) := hc57
  refine lc_con_m (lc_cX11_possible l n N1 f s q m mo ca ct po (k : Int) bs z at9 js jr w1 w2 w3 bw x σ hz_50 hz_51 hf hs (by omega) (by omega) hR hR_x) ?_
  rintro v n2 σ2 ⟨z1, z2, rfl, rfl, h50, hF⟩
  exact ⟨rfl, rfl, lc_MI_mk h50 ((hF 51 (by omega)).trans hz_51) ((hF 52 (by omega)).trans hz_52) ((hF 53 (by omega)).trans hz_53) ((hF 54 (by omega)).trans hz_54) ((hF 55 (by omega)).trans hz_55) ((hF 56 (by omega)).trans hz_56) ((hF 57 (by omega)).trans hz_57) hR hRP hP hT hjs hjr, fun i _ => hF i (by omega)⟩

set_option maxRecDepth 100000 in
set_option maxHeartbeats 600000 in
theorem lc_cX11_count (l : Launch) (n : Nat) (f : Int → Int) (s q m mo ca ct : Int) (po : Int → Int) (P : lc_St) (H : Nat → lc_St) (k : Nat) (tx : Int → Int) (z : Int) (bs bt : Bool) (sn sr : Int) (wv : Int) (σ : lc_S)  (hI : lc_MI σ ((f, s, q, m, mo, ca, ct, po), P, H, k, tx, z, bs, bt, sn, sr)) (hw : lc_wf ((f, s, q, m, mo, ca, ct, po), P, H, k, tx, z, bs, bt, sn, sr)) (hR_wv : -2147483648 ≤ wv ∧ wv < 2147483648) : lc_Con l yX11_count cX11_count 2 (some .int) (lc_Rd 5) [.ref (50), .int (lc_i (wv))] n σ (fun v n2 σ2 => v = some (.int (lc_i ((lc_cnts ((f, s, q, m, mo, ca, ct, po), P, H, k, tx, z, bs, bt, sn, sr) wv).2))) ∧ n = n2 ∧ lc_MI σ2 ((lc_cnts ((f, s, q, m, mo, ca, ct, po), P, H, k, tx, z, bs, bt, sn, sr) wv).1) ∧ ∀ i : Nat, i < 50 → σ2 i = σ i) := by
  obtain ⟨⟨hf9, hs9, hq9, hm9, hct9, hpo9, hkey9⟩, hwP, hwH, hk4, hz, htx⟩ := hw
  have hf : ∀ j : Int, 0 ≤ j → j < 36 → 0 ≤ f j ∧ f j ≤ 2 := hf9
  have hs : 1 ≤ s ∧ s ≤ 2 := hs9
  have hq : 0 ≤ q ∧ q ≤ 60 := hq9
  have hm : 4 ≤ m ∧ m ≤ 60 := hm9
  have hct : 1 ≤ ct ∧ ct ≤ 60 := hct9
  have hpo : ∀ i : Int, 0 ≤ i → i < ct → 0 ≤ po i ∧ po i < 450283905890997363 := hpo9
  have hkey : po (ct - 1) = lc_key f s 36 := hkey9
  obtain ⟨N1, N2, N3, N4, N5, N6, N7, at9, js, jr, w1, w2, w3, bw, hc50, hc51, hc52, hc53, hc54, hc55, hc56, hc57, hR, hRP, hP, hT, hjs, hjr⟩ := hI
  have hR : lc_RM N1 (f, s, q, m, mo, ca, ct, po) := hR
  have hH60 : ∀ j : Nat, j < k → (H j).2.2.2.2.2.2.1 ≤ 60 := fun j hj => (hwH j hj).2.2.2.2.1.2
  obtain ⟨h0R, h1R, h2R, h3R, h4R, h5R, h6R, h7R⟩ := id hR
  have h0R : N1 0 = s := h0R
  have h1R : N1 1 = q := h1R
  have h2R : N1 2 = mo := h2R
  have h3R : N1 3 = ca := h3R
  have h4R : N1 4 = m := h4R
  have h5R : N1 5 = ct := h5R
  have h6R : ∀ p : Int, 0 ≤ p → p < 36 → N1 (6 + p) = f p := h6R
  have hz_50 : σ (50) = some (.inr (11, [.ref (51), .ref (52), .ref (53), .ref (54), .ref (55), .int (lc_i ((k : Int))), .ref (56), .int (lc_i (if bs = true then 1 else 0)), .ref (57), .int (lc_i (z)), .int (lc_i (at9)), .int (lc_i (js)), .int (lc_i (jr)), .int (lc_i (w1)), .int (lc_i (w2)), .int (lc_i (w3)), .int (lc_i (bw))]) : lc_Cel) := hc50
  have hz_51 : σ (51) = some (lc_aI 222 (N1)) := hc51
  have hz_52 : σ (52) = some (lc_aI 222 (N2)) := hc52
  have hz_53 : σ (53) = some (lc_aI 222 (N3)) := hc53
  have hz_54 : σ (54) = some (lc_aI 222 (N4)) := hc54
  have hz_55 : σ (55) = some (lc_aI 888 (N5)) := hc55
  have hz_56 : σ (56) = some (lc_aI 222 (N6)) := hc56
  have hz_57 : σ (57) = some (lc_aI 80 (N7)) := hc57
  refine lc_con RX11 false (by decide) rfl (fun h => absurd h (by decide)) (Nat.le_of_ble_eq_true rfl) ?_
  suffices H : ∀ Q : lc_QT, (∀ v n2 σ2, (fun v n2 σ2 => v = some (.int (lc_i ((lc_cnts ((f, s, q, m, mo, ca, ct, po), P, H, k, tx, z, bs, bt, sn, sr) wv).2))) ∧ n = n2 ∧ lc_MI σ2 ((lc_cnts ((f, s, q, m, mo, ca, ct, po), P, H, k, tx, z, bs, bt, sn, sr) wv).1) ∧ ∀ i : Nat, i < 50 → σ2 i = σ i : lc_QT) v n2 σ2 → Q v n2 σ2) → lc_V l RX11 cX11_count 2 (some .int) false (lc_Rd 5) (lc_G Q 0 0) lc_E0 0 0 n 0 [(0, .ref (50)), (1, .int (lc_i (wv)))] [] σ from H _ (fun _ _ _ h => h)
  intro Q hQ
  refine lc_iload_n dX11_count_0 rfl 1 rfl ?_
  rcases (show wv = 0 ∨ wv = 1 ∨ wv = 2 ∨ wv = 3 ∨ wv = 4 ∨ wv = 5 ∨ wv = 6 ∨ wv = 7 ∨ wv = 8 ∨ wv = 9 ∨ wv = 10 ∨ wv = 11 ∨ wv = 12 ∨ wv = 13 ∨ (wv < 0 ∨ 13 < wv) by omega) with h_1_0 | h_1_0 | h_1_0 | h_1_0 | h_1_0 | h_1_0 | h_1_0 | h_1_0 | h_1_0 | h_1_0 | h_1_0 | h_1_0 | h_1_0 | h_1_0 | h_1_0
  · refine lc_swC (v := 0) (tgt := 72) dX11_count_1 h_1_0 (by decide) rfl (by decide) ?_
    refine lc_aload_n dX11_count_72 rfl 0 rfl ?_
    refine lc_get dX11_count_73 lc_fX11_7 hz_50 rfl ?_
    refine lc_iconst dX11_count_76 ?_
    refine lc_iald dX11_count_77 hz_51 (by omega) (by decide) ?_
    refine lc_top (congrArg (fun z => Value.int (lc_i z)) (show ((N1) (0) : Int) = s from h0R)) ?_
    exact lc_iret dX11_count_78 rfl (Nat.le_of_ble_eq_true rfl) (Nat.le_of_ble_eq_true rfl) (hQ _ _ _ (by rw [lc_cnts, lc_cou, if_pos (show wv = 0 from by omega)]; exact ⟨rfl, rfl, lc_MI_mk hz_50 hz_51 hz_52 hz_53 hz_54 hz_55 hz_56 hz_57 (hR) (hRP) (hP) (hT) (hjs) (hjr), (fun i _ => rfl)⟩))
  · refine lc_swC (v := 1) (tgt := 79) dX11_count_1 h_1_0 (by decide) rfl (by decide) ?_
    refine lc_aload_n dX11_count_79 rfl 0 rfl ?_
    refine lc_get dX11_count_80 lc_fX11_7 hz_50 rfl ?_
    refine lc_iload_n dX11_count_83 rfl 1 rfl ?_
    refine lc_callS (As := [.ref (51), .int (lc_i (wv))]) (stk := []) dX11_count_84 lc_mX11_52 lc_yX11_pieces (lc_cX11_pieces l n (51) (N1) (f) (s) (q) (m) (mo) (ca) (ct) (po) (wv) σ hz_51 (hf) (hR) (by omega)) rfl ⟨Nat.le_of_ble_eq_true rfl, Nat.le_of_ble_eq_true rfl⟩ ⟨Nat.le_of_ble_eq_true rfl, Nat.le_of_ble_eq_true rfl⟩ rfl (Nat.le_of_ble_eq_true rfl) (fun v2 n3 σ4 q5 => ?_)
    obtain ⟨rfl, rfl, rfl⟩ := q5
    exact lc_iret dX11_count_87 rfl (Nat.le_of_ble_eq_true rfl) (Nat.le_of_ble_eq_true rfl) (hQ _ _ _ (by rw [lc_cnts, lc_cou, if_neg (show ¬ wv = 0 from by omega), if_pos (show wv = 1 from by omega)]; exact ⟨lc_some (show lc_cnt f wv 36 = lc_cnt f 1 36 from by rw [show wv = 1 from by omega]), rfl, lc_MI_mk hz_50 hz_51 hz_52 hz_53 hz_54 hz_55 hz_56 hz_57 (hR) (hRP) (hP) (hT) (hjs) (hjr), (fun i _ => rfl)⟩))
  · refine lc_swC (v := 2) (tgt := 79) dX11_count_1 h_1_0 (by decide) rfl (by decide) ?_
    refine lc_aload_n dX11_count_79 rfl 0 rfl ?_
    refine lc_get dX11_count_80 lc_fX11_7 hz_50 rfl ?_
    refine lc_iload_n dX11_count_83 rfl 1 rfl ?_
    refine lc_callS (As := [.ref (51), .int (lc_i (wv))]) (stk := []) dX11_count_84 lc_mX11_52 lc_yX11_pieces (lc_cX11_pieces l n (51) (N1) (f) (s) (q) (m) (mo) (ca) (ct) (po) (wv) σ hz_51 (hf) (hR) (by omega)) rfl ⟨Nat.le_of_ble_eq_true rfl, Nat.le_of_ble_eq_true rfl⟩ ⟨Nat.le_of_ble_eq_true rfl, Nat.le_of_ble_eq_true rfl⟩ rfl (Nat.le_of_ble_eq_true rfl) (fun v6 n7 σ8 q9 => ?_)
    obtain ⟨rfl, rfl, rfl⟩ := q9
    exact lc_iret dX11_count_87 rfl (Nat.le_of_ble_eq_true rfl) (Nat.le_of_ble_eq_true rfl) (hQ _ _ _ (by rw [lc_cnts, lc_cou, if_neg (show ¬ wv = 0 from by omega), if_neg (show ¬ wv = 1 from by omega), if_pos (show wv = 2 from by omega)]; exact ⟨lc_some (show lc_cnt f wv 36 = lc_cnt f 2 36 from by rw [show wv = 2 from by omega]), rfl, lc_MI_mk hz_50 hz_51 hz_52 hz_53 hz_54 hz_55 hz_56 hz_57 (hR) (hRP) (hP) (hT) (hjs) (hjr), (fun i _ => rfl)⟩))
  · refine lc_swC (v := 3) (tgt := 88) dX11_count_1 h_1_0 (by decide) rfl (by decide) ?_
    refine lc_aload_n dX11_count_88 rfl 0 rfl ?_
    refine lc_get dX11_count_89 lc_fX11_7 hz_50 rfl ?_
    refine lc_iconst dX11_count_92 ?_
    refine lc_iald dX11_count_93 hz_51 (by omega) (by decide) ?_
    refine lc_top (congrArg (fun z => Value.int (lc_i z)) (show ((N1) (1) : Int) = q from h1R)) ?_
    exact lc_iret dX11_count_94 rfl (Nat.le_of_ble_eq_true rfl) (Nat.le_of_ble_eq_true rfl) (hQ _ _ _ (by rw [lc_cnts, lc_cou, if_neg (show ¬ wv = 0 from by omega), if_neg (show ¬ wv = 1 from by omega), if_neg (show ¬ wv = 2 from by omega), if_pos (show wv = 3 from by omega)]; exact ⟨rfl, rfl, lc_MI_mk hz_50 hz_51 hz_52 hz_53 hz_54 hz_55 hz_56 hz_57 (hR) (hRP) (hP) (hT) (hjs) (hjr), (fun i _ => rfl)⟩))
  · refine lc_swC (v := 4) (tgt := 95) dX11_count_1 h_1_0 (by decide) rfl (by decide) ?_
    refine lc_aload_n dX11_count_95 rfl 0 rfl ?_
    refine lc_get dX11_count_96 lc_fX11_7 hz_50 rfl ?_
    refine lc_callS (As := [.ref (51)]) (stk := []) dX11_count_99 lc_mX11_94 lc_yX11_result (lc_cX11_result l n (51) (N1) (f) (s) (q) (m) (mo) (ca) (ct) (po) σ hz_51 (hf) (hR) (by omega) (by omega)) rfl ⟨Nat.le_of_ble_eq_true rfl, Nat.le_of_ble_eq_true rfl⟩ ⟨Nat.le_of_ble_eq_true rfl, Nat.le_of_ble_eq_true rfl⟩ rfl (Nat.le_of_ble_eq_true rfl) (fun v10 n11 σ12 q13 => ?_)
    obtain ⟨rfl, rfl, rfl⟩ := q13
    exact lc_iret dX11_count_102 rfl (Nat.le_of_ble_eq_true rfl) (Nat.le_of_ble_eq_true rfl) (hQ _ _ _ (by rw [lc_cnts, lc_cou, if_neg (show ¬ wv = 0 from by omega), if_neg (show ¬ wv = 1 from by omega), if_neg (show ¬ wv = 2 from by omega), if_neg (show ¬ wv = 3 from by omega), if_pos (show wv = 4 from by omega)]; exact ⟨rfl, rfl, lc_MI_mk hz_50 hz_51 hz_52 hz_53 hz_54 hz_55 hz_56 hz_57 (hR) (hRP) (hP) (hT) (hjs) (hjr), (fun i _ => rfl)⟩))
  · refine lc_swC (v := 5) (tgt := 103) dX11_count_1 h_1_0 (by decide) rfl (by decide) ?_
    refine lc_aload_n dX11_count_103 rfl 0 rfl ?_
    refine lc_iload_n dX11_count_104 rfl 1 rfl ?_
    refine lc_iconst dX11_count_105 ?_
    refine lc_icmp_ne (tgt := 113) dX11_count_106 (by decide) (by omega) (fun h_106_13 => ?_) (fun h_106_13 => ?_)
    · omega
    · skip
      refine lc_iconst dX11_count_109 ?_
      refine lc_goto (tgt := 114) dX11_count_110 (by decide) ?_
      refine lc_callV (As := [.int (lc_i (1))]) (stk := []) (b := 50) dX11_count_114 lc_mX11_171 lc_yX11_many hz_50 rfl (lc_cX11_many l n (N1) (f) (s) (q) (m) (mo) (ca) (ct) (po) ((k : Int)) (bs) (z) (at9) (js) (jr) (w1) (w2) (w3) (bw) (true) σ hz_50 hz_51 (hf) (hs) (by omega) (by omega) (hR)) rfl ⟨Nat.le_of_ble_eq_true rfl, Nat.le_of_ble_eq_true rfl⟩ ⟨Nat.le_of_ble_eq_true rfl, Nat.le_of_ble_eq_true rfl⟩ rfl (Nat.le_of_ble_eq_true rfl) (fun v19 n20 σ21 q22 => ?_)
      obtain ⟨z15, z16, rfl, rfl, h18, fr17⟩ := q22
      have h23 : σ21 (51) = some (lc_aI 222 (N1)) := (fr17 _ (by omega)).trans hz_51
      have h24 : σ21 (52) = some (lc_aI 222 (N2)) := (fr17 _ (by omega)).trans hz_52
      have h25 : σ21 (53) = some (lc_aI 222 (N3)) := (fr17 _ (by omega)).trans hz_53
      have h26 : σ21 (54) = some (lc_aI 222 (N4)) := (fr17 _ (by omega)).trans hz_54
      have h27 : σ21 (55) = some (lc_aI 888 (N5)) := (fr17 _ (by omega)).trans hz_55
      have h28 : σ21 (56) = some (lc_aI 222 (N6)) := (fr17 _ (by omega)).trans hz_56
      have h29 : σ21 (57) = some (lc_aI 80 (N7)) := (fr17 _ (by omega)).trans hz_57
      exact lc_iret dX11_count_117 rfl (Nat.le_of_ble_eq_true rfl) (Nat.le_of_ble_eq_true rfl) (hQ _ _ _ (by rw [lc_cnts, lc_cou, if_neg (show ¬ wv = 0 from by omega), if_neg (show ¬ wv = 1 from by omega), if_neg (show ¬ wv = 2 from by omega), if_neg (show ¬ wv = 3 from by omega), if_neg (show ¬ wv = 4 from by omega), if_pos (show wv = 5 from by omega)]; exact ⟨lc_some (lc_mny_t f s q m), rfl, lc_MI_mk h18 h23 h24 h25 h26 h27 h28 h29 (hR) (hRP) (hP) (hT) (hjs) (hjr), (fun i _ => (fr17 i (by omega)))⟩))
  · refine lc_swC (v := 6) (tgt := 103) dX11_count_1 h_1_0 (by decide) rfl (by decide) ?_
    refine lc_aload_n dX11_count_103 rfl 0 rfl ?_
    refine lc_iload_n dX11_count_104 rfl 1 rfl ?_
    refine lc_iconst dX11_count_105 ?_
    refine lc_icmp_ne (tgt := 113) dX11_count_106 (by decide) (by omega) (fun h_106_29 => ?_) (fun h_106_29 => ?_)
    · skip
      refine lc_iconst dX11_count_113 ?_
      refine lc_callV (As := [.int (lc_i (0))]) (stk := []) (b := 50) dX11_count_114 lc_mX11_171 lc_yX11_many hz_50 rfl (lc_cX11_many l n (N1) (f) (s) (q) (m) (mo) (ca) (ct) (po) ((k : Int)) (bs) (z) (at9) (js) (jr) (w1) (w2) (w3) (bw) (false) σ hz_50 hz_51 (hf) (hs) (by omega) (by omega) (hR)) rfl ⟨Nat.le_of_ble_eq_true rfl, Nat.le_of_ble_eq_true rfl⟩ ⟨Nat.le_of_ble_eq_true rfl, Nat.le_of_ble_eq_true rfl⟩ rfl (Nat.le_of_ble_eq_true rfl) (fun v35 n36 σ37 q38 => ?_)
      obtain ⟨z31, z32, rfl, rfl, h34, fr33⟩ := q38
      have h39 : σ37 (51) = some (lc_aI 222 (N1)) := (fr33 _ (by omega)).trans hz_51
      have h40 : σ37 (52) = some (lc_aI 222 (N2)) := (fr33 _ (by omega)).trans hz_52
      have h41 : σ37 (53) = some (lc_aI 222 (N3)) := (fr33 _ (by omega)).trans hz_53
      have h42 : σ37 (54) = some (lc_aI 222 (N4)) := (fr33 _ (by omega)).trans hz_54
      have h43 : σ37 (55) = some (lc_aI 888 (N5)) := (fr33 _ (by omega)).trans hz_55
      have h44 : σ37 (56) = some (lc_aI 222 (N6)) := (fr33 _ (by omega)).trans hz_56
      have h45 : σ37 (57) = some (lc_aI 80 (N7)) := (fr33 _ (by omega)).trans hz_57
      exact lc_iret dX11_count_117 rfl (Nat.le_of_ble_eq_true rfl) (Nat.le_of_ble_eq_true rfl) (hQ _ _ _ (by rw [lc_cnts, lc_cou, if_neg (show ¬ wv = 0 from by omega), if_neg (show ¬ wv = 1 from by omega), if_neg (show ¬ wv = 2 from by omega), if_neg (show ¬ wv = 3 from by omega), if_neg (show ¬ wv = 4 from by omega), if_neg (show ¬ wv = 5 from by omega), if_pos (show wv = 6 from by omega)]; exact ⟨lc_some (lc_mny_f f s q m), rfl, lc_MI_mk h34 h39 h40 h41 h42 h43 h44 h45 (hR) (hRP) (hP) (hT) (hjs) (hjr), (fun i _ => (fr33 i (by omega)))⟩))
    · omega
  · refine lc_swC (v := 7) (tgt := 118) dX11_count_1 h_1_0 (by decide) rfl (by decide) ?_
    refine lc_aload_n dX11_count_118 rfl 0 rfl ?_
    refine lc_get dX11_count_119 lc_fX11_7 hz_50 rfl ?_
    refine lc_iconst dX11_count_122 ?_
    refine lc_iload_n dX11_count_123 rfl 1 rfl ?_
    refine lc_iadd dX11_count_124 ?_
    refine lc_bipush dX11_count_125 (by decide) ?_
    refine lc_isub dX11_count_127 ?_
    refine lc_iald dX11_count_128 hz_51 (by omega) (by decide) ?_
    refine lc_top (congrArg (fun z => Value.int (lc_i z)) (show ((N1) (((2) + (wv)) - (7)) : Int) = mo from by rw [show 2 + wv - 7 = 2 from by omega]; exact h2R)) ?_
    exact lc_iret dX11_count_129 rfl (Nat.le_of_ble_eq_true rfl) (Nat.le_of_ble_eq_true rfl) (hQ _ _ _ (by rw [lc_cnts, lc_cou, if_neg (show ¬ wv = 0 from by omega), if_neg (show ¬ wv = 1 from by omega), if_neg (show ¬ wv = 2 from by omega), if_neg (show ¬ wv = 3 from by omega), if_neg (show ¬ wv = 4 from by omega), if_neg (show ¬ wv = 5 from by omega), if_neg (show ¬ wv = 6 from by omega), if_pos (show wv = 7 from by omega)]; exact ⟨rfl, rfl, lc_MI_mk hz_50 hz_51 hz_52 hz_53 hz_54 hz_55 hz_56 hz_57 (hR) (hRP) (hP) (hT) (hjs) (hjr), (fun i _ => rfl)⟩))
  · refine lc_swC (v := 8) (tgt := 118) dX11_count_1 h_1_0 (by decide) rfl (by decide) ?_
    refine lc_aload_n dX11_count_118 rfl 0 rfl ?_
    refine lc_get dX11_count_119 lc_fX11_7 hz_50 rfl ?_
    refine lc_iconst dX11_count_122 ?_
    refine lc_iload_n dX11_count_123 rfl 1 rfl ?_
    refine lc_iadd dX11_count_124 ?_
    refine lc_bipush dX11_count_125 (by decide) ?_
    refine lc_isub dX11_count_127 ?_
    refine lc_iald dX11_count_128 hz_51 (by omega) (by decide) ?_
    refine lc_top (congrArg (fun z => Value.int (lc_i z)) (show ((N1) (((2) + (wv)) - (7)) : Int) = ca from by rw [show 2 + wv - 7 = 3 from by omega]; exact h3R)) ?_
    exact lc_iret dX11_count_129 rfl (Nat.le_of_ble_eq_true rfl) (Nat.le_of_ble_eq_true rfl) (hQ _ _ _ (by rw [lc_cnts, lc_cou, if_neg (show ¬ wv = 0 from by omega), if_neg (show ¬ wv = 1 from by omega), if_neg (show ¬ wv = 2 from by omega), if_neg (show ¬ wv = 3 from by omega), if_neg (show ¬ wv = 4 from by omega), if_neg (show ¬ wv = 5 from by omega), if_neg (show ¬ wv = 6 from by omega), if_neg (show ¬ wv = 7 from by omega), if_pos (show wv = 8 from by omega)]; exact ⟨rfl, rfl, lc_MI_mk hz_50 hz_51 hz_52 hz_53 hz_54 hz_55 hz_56 hz_57 (hR) (hRP) (hP) (hT) (hjs) (hjr), (fun i _ => rfl)⟩))
  · refine lc_swC (v := 9) (tgt := 130) dX11_count_1 h_1_0 (by decide) rfl (by decide) ?_
    refine lc_aload_n dX11_count_130 rfl 0 rfl ?_
    refine lc_callV (As := []) (stk := []) (b := 50) dX11_count_131 lc_mX11_175 lc_yX11_were hz_50 rfl (lc_cX11_were l n (N1) (f) (s) (q) (m) (mo) (ca) (ct) (po) ((k : Int)) (bs) (z) (at9) (js) (jr) (w1) (w2) (w3) (bw) σ hz_50 hz_51 (hf) (hs) (by omega) (hpo) (hkey) (hR)) rfl ⟨Nat.le_of_ble_eq_true rfl, Nat.le_of_ble_eq_true rfl⟩ ⟨Nat.le_of_ble_eq_true rfl, Nat.le_of_ble_eq_true rfl⟩ rfl (Nat.le_of_ble_eq_true rfl) (fun v46 n47 σ48 q49 => ?_)
    obtain ⟨rfl, rfl, rfl⟩ := q49
    exact lc_iret dX11_count_134 rfl (Nat.le_of_ble_eq_true rfl) (Nat.le_of_ble_eq_true rfl) (hQ _ _ _ (by rw [lc_cnts, lc_cou, if_neg (show ¬ wv = 0 from by omega), if_neg (show ¬ wv = 1 from by omega), if_neg (show ¬ wv = 2 from by omega), if_neg (show ¬ wv = 3 from by omega), if_neg (show ¬ wv = 4 from by omega), if_neg (show ¬ wv = 5 from by omega), if_neg (show ¬ wv = 6 from by omega), if_neg (show ¬ wv = 7 from by omega), if_neg (show ¬ wv = 8 from by omega), if_pos (show wv = 9 from by omega)]; exact ⟨rfl, rfl, lc_MI_mk hz_50 hz_51 hz_52 hz_53 hz_54 hz_55 hz_56 hz_57 (hR) (hRP) (hP) (hT) (hjs) (hjr), (fun i _ => rfl)⟩))
  · refine lc_swC (v := 10) (tgt := 135) dX11_count_1 h_1_0 (by decide) rfl (by decide) ?_
    refine lc_aload_n dX11_count_135 rfl 0 rfl ?_
    refine lc_get dX11_count_136 lc_fX11_7 hz_50 rfl ?_
    refine lc_iconst dX11_count_139 ?_
    refine lc_iald dX11_count_140 hz_51 (by omega) (by decide) ?_
    refine lc_top (congrArg (fun z => Value.int (lc_i z)) (show ((N1) (4) : Int) = m from h4R)) ?_
    exact lc_iret dX11_count_141 rfl (Nat.le_of_ble_eq_true rfl) (Nat.le_of_ble_eq_true rfl) (hQ _ _ _ (by rw [lc_cnts, lc_cou, if_neg (show ¬ wv = 0 from by omega), if_neg (show ¬ wv = 1 from by omega), if_neg (show ¬ wv = 2 from by omega), if_neg (show ¬ wv = 3 from by omega), if_neg (show ¬ wv = 4 from by omega), if_neg (show ¬ wv = 5 from by omega), if_neg (show ¬ wv = 6 from by omega), if_neg (show ¬ wv = 7 from by omega), if_neg (show ¬ wv = 8 from by omega), if_neg (show ¬ wv = 9 from by omega), if_pos (show wv = 10 from by omega)]; exact ⟨rfl, rfl, lc_MI_mk hz_50 hz_51 hz_52 hz_53 hz_54 hz_55 hz_56 hz_57 (hR) (hRP) (hP) (hT) (hjs) (hjr), (fun i _ => rfl)⟩))
  · refine lc_swC (v := 11) (tgt := 142) dX11_count_1 h_1_0 (by decide) rfl (by decide) ?_
    refine lc_aload_n dX11_count_142 rfl 0 rfl ?_
    refine lc_callV (As := []) (stk := []) (b := 50) dX11_count_143 lc_mX11_178 lc_yX11_threatened hz_50 rfl (lc_cX11_threatened l n (N1) (f) (s) (q) (m) (mo) (ca) (ct) (po) ((k : Int)) (bs) (z) (at9) (js) (jr) (w1) (w2) (w3) (bw) σ hz_50 hz_51 (hf) (hs) (hR)) rfl ⟨Nat.le_of_ble_eq_true rfl, Nat.le_of_ble_eq_true rfl⟩ ⟨Nat.le_of_ble_eq_true rfl, Nat.le_of_ble_eq_true rfl⟩ rfl (Nat.le_of_ble_eq_true rfl) (fun v54 n55 σ56 q57 => ?_)
    obtain ⟨z50, z51, rfl, rfl, h53, fr52⟩ := q57
    have h58 : σ56 (51) = some (lc_aI 222 (N1)) := (fr52 _ (by omega)).trans hz_51
    have h59 : σ56 (52) = some (lc_aI 222 (N2)) := (fr52 _ (by omega)).trans hz_52
    have h60 : σ56 (53) = some (lc_aI 222 (N3)) := (fr52 _ (by omega)).trans hz_53
    have h61 : σ56 (54) = some (lc_aI 222 (N4)) := (fr52 _ (by omega)).trans hz_54
    have h62 : σ56 (55) = some (lc_aI 888 (N5)) := (fr52 _ (by omega)).trans hz_55
    have h63 : σ56 (56) = some (lc_aI 222 (N6)) := (fr52 _ (by omega)).trans hz_56
    have h64 : σ56 (57) = some (lc_aI 80 (N7)) := (fr52 _ (by omega)).trans hz_57
    exact lc_iret dX11_count_146 rfl (Nat.le_of_ble_eq_true rfl) (Nat.le_of_ble_eq_true rfl) (hQ _ _ _ (by rw [lc_cnts, lc_cou, if_neg (show ¬ wv = 0 from by omega), if_neg (show ¬ wv = 1 from by omega), if_neg (show ¬ wv = 2 from by omega), if_neg (show ¬ wv = 3 from by omega), if_neg (show ¬ wv = 4 from by omega), if_neg (show ¬ wv = 5 from by omega), if_neg (show ¬ wv = 6 from by omega), if_neg (show ¬ wv = 7 from by omega), if_neg (show ¬ wv = 8 from by omega), if_neg (show ¬ wv = 9 from by omega), if_neg (show ¬ wv = 10 from by omega), if_pos (show wv = 11 from by omega)]; exact ⟨rfl, rfl, lc_MI_mk h53 h58 h59 h60 h61 h62 h63 h64 (hR) (hRP) (hP) (hT) (hjs) (hjr), (fun i _ => (fr52 i (by omega)))⟩))
  · refine lc_swC (v := 12) (tgt := 147) dX11_count_1 h_1_0 (by decide) rfl (by decide) ?_
    refine lc_aload_n dX11_count_147 rfl 0 rfl ?_
    refine lc_get dX11_count_148 lc_fX11_45 hz_50 rfl ?_
    exact lc_iret dX11_count_151 rfl (Nat.le_of_ble_eq_true rfl) (Nat.le_of_ble_eq_true rfl) (hQ _ _ _ (by rw [lc_cnts, lc_cou, if_neg (show ¬ wv = 0 from by omega), if_neg (show ¬ wv = 1 from by omega), if_neg (show ¬ wv = 2 from by omega), if_neg (show ¬ wv = 3 from by omega), if_neg (show ¬ wv = 4 from by omega), if_neg (show ¬ wv = 5 from by omega), if_neg (show ¬ wv = 6 from by omega), if_neg (show ¬ wv = 7 from by omega), if_neg (show ¬ wv = 8 from by omega), if_neg (show ¬ wv = 9 from by omega), if_neg (show ¬ wv = 10 from by omega), if_neg (show ¬ wv = 11 from by omega), if_pos (show wv = 12 from by omega)]; exact ⟨rfl, rfl, lc_MI_mk hz_50 hz_51 hz_52 hz_53 hz_54 hz_55 hz_56 hz_57 (hR) (hRP) (hP) (hT) (hjs) (hjr), (fun i _ => rfl)⟩))
  · refine lc_swC (v := 13) (tgt := 152) dX11_count_1 h_1_0 (by decide) rfl (by decide) ?_
    refine lc_aload_n dX11_count_152 rfl 0 rfl ?_
    refine lc_get dX11_count_153 lc_fX11_138 hz_50 rfl ?_
    exact lc_iret dX11_count_156 rfl (Nat.le_of_ble_eq_true rfl) (Nat.le_of_ble_eq_true rfl) (hQ _ _ _ (by rw [lc_cnts, lc_cou, if_neg (show ¬ wv = 0 from by omega), if_neg (show ¬ wv = 1 from by omega), if_neg (show ¬ wv = 2 from by omega), if_neg (show ¬ wv = 3 from by omega), if_neg (show ¬ wv = 4 from by omega), if_neg (show ¬ wv = 5 from by omega), if_neg (show ¬ wv = 6 from by omega), if_neg (show ¬ wv = 7 from by omega), if_neg (show ¬ wv = 8 from by omega), if_neg (show ¬ wv = 9 from by omega), if_neg (show ¬ wv = 10 from by omega), if_neg (show ¬ wv = 11 from by omega), if_neg (show ¬ wv = 12 from by omega), if_pos (show wv = 13 from by omega)]; exact ⟨rfl, rfl, lc_MI_mk hz_50 hz_51 hz_52 hz_53 hz_54 hz_55 hz_56 hz_57 (hR) (hRP) (hP) (hT) (hjs) (hjr), (fun i _ => rfl)⟩))
  · refine lc_swD (tgt := 157) dX11_count_1 (by omega) h_1_0 (by decide) ?_
    refine lc_bipush dX11_count_157 (by decide) ?_
    exact lc_iret dX11_count_159 rfl (Nat.le_of_ble_eq_true rfl) (Nat.le_of_ble_eq_true rfl) (hQ _ _ _ (by rw [lc_cnts, lc_cou, if_neg (show ¬ wv = 0 from by omega), if_neg (show ¬ wv = 1 from by omega), if_neg (show ¬ wv = 2 from by omega), if_neg (show ¬ wv = 3 from by omega), if_neg (show ¬ wv = 4 from by omega), if_neg (show ¬ wv = 5 from by omega), if_neg (show ¬ wv = 6 from by omega), if_neg (show ¬ wv = 7 from by omega), if_neg (show ¬ wv = 8 from by omega), if_neg (show ¬ wv = 9 from by omega), if_neg (show ¬ wv = 10 from by omega), if_neg (show ¬ wv = 11 from by omega), if_neg (show ¬ wv = 12 from by omega), if_neg (show ¬ wv = 13 from by omega)]; exact ⟨rfl, rfl, lc_MI_mk hz_50 hz_51 hz_52 hz_53 hz_54 hz_55 hz_56 hz_57 (hR) (hRP) (hP) (hT) (hjs) (hjr), (fun i _ => rfl)⟩))

set_option maxRecDepth 100000 in
set_option maxHeartbeats 600000 in
theorem lc_cX11_perform (l : Launch) (n : Nat) (f : Int → Int) (s q m mo ca ct : Int) (po : Int → Int) (P : lc_St) (H : Nat → lc_St) (k : Nat) (tx : Int → Int) (z : Int) (bs bt : Bool) (sn sr : Int) (σ : lc_S)  (hI : lc_MI σ ((f, s, q, m, mo, ca, ct, po), P, H, k, tx, z, bs, bt, sn, sr)) (hw : lc_wf ((f, s, q, m, mo, ca, ct, po), P, H, k, tx, z, bs, bt, sn, sr)) : lc_Con l yX11_perform cX11_perform 6 (some .int) (lc_Rd 4) [.ref (50)] n σ (fun v n2 σ2 => v = some (.int (lc_i ((lc_perf ((f, s, q, m, mo, ca, ct, po), P, H, k, tx, z, bs, bt, sn, sr)).2))) ∧ n = n2 ∧ lc_MI σ2 ((lc_perf ((f, s, q, m, mo, ca, ct, po), P, H, k, tx, z, bs, bt, sn, sr)).1) ∧ ∀ i : Nat, i < 50 → σ2 i = σ i) := by
  obtain ⟨⟨hf9, hs9, hq9, hm9, hct9, hpo9, hkey9⟩, hwP, hwH, hk4, hz, htx⟩ := hw
  have hf : ∀ j : Int, 0 ≤ j → j < 36 → 0 ≤ f j ∧ f j ≤ 2 := hf9
  have hs : 1 ≤ s ∧ s ≤ 2 := hs9
  have hq : 0 ≤ q ∧ q ≤ 60 := hq9
  have hm : 4 ≤ m ∧ m ≤ 60 := hm9
  have hct : 1 ≤ ct ∧ ct ≤ 60 := hct9
  have hpo : ∀ i : Int, 0 ≤ i → i < ct → 0 ≤ po i ∧ po i < 450283905890997363 := hpo9
  have hkey : po (ct - 1) = lc_key f s 36 := hkey9
  obtain ⟨N1, N2, N3, N4, N5, N6, N7, at9, js, jr, w1, w2, w3, bw, hc50, hc51, hc52, hc53, hc54, hc55, hc56, hc57, hR, hRP, hP, hT, hjs, hjr⟩ := hI
  have hR : lc_RM N1 (f, s, q, m, mo, ca, ct, po) := hR
  have hH60 : ∀ j : Nat, j < k → (H j).2.2.2.2.2.2.1 ≤ 60 := fun j hj => (hwH j hj).2.2.2.2.1.2
  obtain ⟨h0R, h1R, h2R, h3R, h4R, h5R, h6R, h7R⟩ := id hR
  have h0R : N1 0 = s := h0R
  have h1R : N1 1 = q := h1R
  have h2R : N1 2 = mo := h2R
  have h3R : N1 3 = ca := h3R
  have h4R : N1 4 = m := h4R
  have h5R : N1 5 = ct := h5R
  have h6R : ∀ p : Int, 0 ≤ p → p < 36 → N1 (6 + p) = f p := h6R
  have hz_50 : σ (50) = some (.inr (11, [.ref (51), .ref (52), .ref (53), .ref (54), .ref (55), .int (lc_i ((k : Int))), .ref (56), .int (lc_i (if bs = true then 1 else 0)), .ref (57), .int (lc_i (z)), .int (lc_i (at9)), .int (lc_i (js)), .int (lc_i (jr)), .int (lc_i (w1)), .int (lc_i (w2)), .int (lc_i (w3)), .int (lc_i (bw))]) : lc_Cel) := hc50
  have hz_51 : σ (51) = some (lc_aI 222 (N1)) := hc51
  have hz_52 : σ (52) = some (lc_aI 222 (N2)) := hc52
  have hz_53 : σ (53) = some (lc_aI 222 (N3)) := hc53
  have hz_54 : σ (54) = some (lc_aI 222 (N4)) := hc54
  have hz_55 : σ (55) = some (lc_aI 888 (N5)) := hc55
  have hz_56 : σ (56) = some (lc_aI 222 (N6)) := hc56
  have hz_57 : σ (57) = some (lc_aI 80 (N7)) := hc57
  refine lc_con RX11 false (by decide) rfl (fun h => absurd h (by decide)) (Nat.le_of_ble_eq_true rfl) ?_
  suffices H : ∀ Q : lc_QT, (∀ v n2 σ2, (fun v n2 σ2 => v = some (.int (lc_i ((lc_perf ((f, s, q, m, mo, ca, ct, po), P, H, k, tx, z, bs, bt, sn, sr)).2))) ∧ n = n2 ∧ lc_MI σ2 ((lc_perf ((f, s, q, m, mo, ca, ct, po), P, H, k, tx, z, bs, bt, sn, sr)).1) ∧ ∀ i : Nat, i < 50 → σ2 i = σ i : lc_QT) v n2 σ2 → Q v n2 σ2) → lc_V l RX11 cX11_perform 6 (some .int) false (lc_Rd 4) (lc_G Q 0 0) lc_E0 0 0 n 0 [(0, .ref (50))] [] σ from H _ (fun _ _ _ h => h)
  intro Q hQ
  refine lc_aload_n dX11_perform_0 rfl 0 rfl ?_
  refine lc_callV (As := []) (stk := []) (b := 50) dX11_perform_1 lc_mX11_147 lc_yX11_isText hz_50 rfl (lc_cX11_isText l n (tx) (N7) ((k : Int)) (bs) (z) (at9) (js) (jr) (w1) (w2) (w3) (bw) σ hz_50 hz_57 hz htx hT) rfl ⟨Nat.le_of_ble_eq_true rfl, Nat.le_of_ble_eq_true rfl⟩ ⟨Nat.le_of_ble_eq_true rfl, Nat.le_of_ble_eq_true rfl⟩ rfl (Nat.le_of_ble_eq_true rfl) (fun v3 n4 σ5 q6 => ?_)
  obtain ⟨rfl, rfl, h2, fr1⟩ := q6
  have h7 : σ5 (51) = some (lc_aI 222 (N1)) := (fr1 _ (by omega)).trans hz_51
  have h8 : σ5 (52) = some (lc_aI 222 (N2)) := (fr1 _ (by omega)).trans hz_52
  have h9 : σ5 (53) = some (lc_aI 222 (N3)) := (fr1 _ (by omega)).trans hz_53
  have h10 : σ5 (54) = some (lc_aI 222 (N4)) := (fr1 _ (by omega)).trans hz_54
  have h11 : σ5 (55) = some (lc_aI 888 (N5)) := (fr1 _ (by omega)).trans hz_55
  have h12 : σ5 (56) = some (lc_aI 222 (N6)) := (fr1 _ (by omega)).trans hz_56
  have h13 : σ5 (57) = some (lc_aI 80 (N7)) := (fr1 _ (by omega)).trans hz_57
  refine lc_if_neB (tgt := 16) dX11_perform_4 (by decide) (fun h_4_13 => ?_) (fun h_4_13 => ?_)
  · skip
    have hfr := lc_fault_r (tx := tx) hz.1
    have hfa := lc_fault_n hz.1 (by omega)
    refine lc_aload_n dX11_perform_16 rfl 0 rfl ?_
    refine lc_get dX11_perform_17 lc_fX11_7 h2 rfl ?_
    refine lc_iconst dX11_perform_20 ?_
    refine lc_aload_n dX11_perform_21 rfl 0 rfl ?_
    refine lc_get dX11_perform_22 lc_fX11_19 h2 rfl ?_
    refine lc_iconst dX11_perform_25 ?_
    refine lc_callS (As := [.ref (51), .int (lc_i (0)), .ref (54), .int (lc_i (0))]) (stk := []) dX11_perform_26 lc_mX11_48 lc_yX11_copies (lc_cX11_copies l n (51) (54) (222) (222) (N1) (N4) (0) (0) σ5 h7 h10 (by omega) (by omega) (by omega) (by omega)) rfl ⟨Nat.le_of_ble_eq_true rfl, Nat.le_of_ble_eq_true rfl⟩ ⟨Nat.le_of_ble_eq_true rfl, Nat.le_of_ble_eq_true rfl⟩ rfl (Nat.le_of_ble_eq_true rfl) (fun v17 n18 σ19 q20 => ?_)
    obtain ⟨rfl, rfl, h16, fr15⟩ := q20
    have h21 : σ19 (51) = some (lc_aI 222 (N1)) := (fr15 _ (by omega)).trans h7
    have h22 : σ19 (52) = some (lc_aI 222 (N2)) := (fr15 _ (by omega)).trans h8
    have h23 : σ19 (53) = some (lc_aI 222 (N3)) := (fr15 _ (by omega)).trans h9
    have h24 : σ19 (55) = some (lc_aI 888 (N5)) := (fr15 _ (by omega)).trans h11
    have h25 : σ19 (56) = some (lc_aI 222 (N6)) := (fr15 _ (by omega)).trans h12
    have h26 : σ19 (57) = some (lc_aI 80 (N7)) := (fr15 _ (by omega)).trans h13
    have h27 : σ19 (50) = some (.inr (11, [.ref (51), .ref (52), .ref (53), .ref (54), .ref (55), .int (lc_i ((k : Int))), .ref (56), .int (lc_i (if bs = true then 1 else 0)), .ref (57), .int (lc_i (z)), .int (lc_i (((lc_ff tx z.toNat 0 : Nat) : Int))), .int (lc_i (js)), .int (lc_i (jr)), .int (lc_i (w1)), .int (lc_i (w2)), .int (lc_i (w3)), .int (lc_i (bw))]) : lc_Cel) := (fr15 _ (by omega)).trans h2
    have hR28 := lc_RM_c (N' := N4) hR (show ct ≤ 60 from by omega)
    refine lc_aload_n dX11_perform_29 rfl 0 rfl ?_
    refine lc_get dX11_perform_30 lc_fX11_138 h27 rfl ?_
    refine lc_iconst dX11_perform_33 ?_
    refine lc_iadd dX11_perform_34 ?_
    refine lc_bipush dX11_perform_35 (by decide) ?_
    refine lc_idiv dX11_perform_37 (by omega) ?_
    refine lc_top (congrArg (fun z => Value.int (lc_i z)) (show (((z) + (1)) / (6) : Int) = (z + 1) / 6 from rfl)) ?_
    refine lc_istore_n (lv' := [(0, .ref (50)), (1, .int (lc_i ((z + 1) / 6)))]) dX11_perform_38 rfl (by decide) rfl ?_
    refine lc_iconst dX11_perform_39 ?_
    refine lc_istore_n (lv' := [(0, .ref (50)), (1, .int (lc_i ((z + 1) / 6))), (2, .int (lc_i (0)))]) dX11_perform_40 rfl (by decide) rfl ?_
    have loop30 : ∀ (N29 : Nat) (i : Int) (fi : Int → Int) (si : Int) (qi : Int) (mi : Int) (moi : Int) (cai : Int) (cti : Int) (poi : Int → Int) (g4 : Int → Int) (y1 : Int) (y2 : Int) (σ32 : lc_S), (σ32 (50) = some (.inr (11, [.ref (51), .ref (52), .ref (53), .ref (54), .ref (55), .int (lc_i ((k : Int))), .ref (56), .int (lc_i (if bs = true then 1 else 0)), .ref (57), .int (lc_i (z)), .int (lc_i (((lc_ff tx z.toNat 0 : Nat) : Int))), .int (lc_i (js)), .int (lc_i (jr)), .int (lc_i (y1)), .int (lc_i (y2)), .int (lc_i (w3)), .int (lc_i (bw))]) : lc_Cel)) → (σ32 (54) = some (lc_aI 222 (g4))) → (∀ i : Nat, i ≠ 50 → i ≠ 54 → σ32 i = σ19 i) → (0 ≤ i ∧ i ≤ (z + 1) / 6) → (lc_wz (fi, si, qi, mi, moi, cai, cti, poi)) → (lc_pr tx ((z + 1) / 6).toNat 0 (f, s, q, m, mo, ca, ct, po) = lc_pr tx ((z + 1) / 6 - i).toNat i (fi, si, qi, mi, moi, cai, cti, poi)) → (lc_RM g4 (fi, si, qi, mi, moi, cai, cti, poi)) → 100 - i < (N29 : Int) → lc_V l RX11 cX11_perform 6 (some .int) false (lc_Rd 4) (lc_G Q 0 0) lc_E0 0 0 n 41 [(0, .ref (50)), (1, .int (lc_i ((z + 1) / 6))), (2, .int (lc_i (i)))] [] σ32 := by
      intro N29
      induction N29 with
      | zero =>
        intro i fi si qi mi moi cai cti poi g4 y1 y2 σ32 h33 h34 fr35 hi hW hK hRi hm36
        exact absurd hm36 (by omega)
      | succ N29 ih31 =>
        intro i fi si qi mi moi cai cti poi g4 y1 y2 σ32 h33 h34 fr35 hi hW hK hRi hm36
        have h37 : σ32 (51) = some (lc_aI 222 (N1)) := (fr35 _ (by omega) (by omega)).trans h21
        have h38 : σ32 (52) = some (lc_aI 222 (N2)) := (fr35 _ (by omega) (by omega)).trans h22
        have h39 : σ32 (53) = some (lc_aI 222 (N3)) := (fr35 _ (by omega) (by omega)).trans h23
        have h40 : σ32 (55) = some (lc_aI 888 (N5)) := (fr35 _ (by omega) (by omega)).trans h24
        have h41 : σ32 (56) = some (lc_aI 222 (N6)) := (fr35 _ (by omega) (by omega)).trans h25
        have h42 : σ32 (57) = some (lc_aI 80 (N7)) := (fr35 _ (by omega) (by omega)).trans h26
        have hfi : ∀ j : Int, 0 ≤ j → j < 36 → 0 ≤ fi j ∧ fi j ≤ 2 := hW.1
        have hsi : 1 ≤ si ∧ si ≤ 2 := hW.2.1
        have hqi : 0 ≤ qi ∧ qi ≤ 60 := hW.2.2.1
        have hmi : 4 ≤ mi ∧ mi ≤ 60 := hW.2.2.2.1
        have hci : 1 ≤ cti ∧ cti ≤ 60 := hW.2.2.2.2.1
        refine lc_iload_n dX11_perform_41 rfl 2 rfl ?_
        refine lc_iload_n dX11_perform_42 rfl 1 rfl ?_
        refine lc_icmp_ge (tgt := 136) dX11_perform_43 (by decide) (by omega) (fun h_43_42 => ?_) (fun h_43_42 => ?_)
        · skip
          have hR9 : lc_pr tx ((z + 1) / 6).toNat 0 (f, s, q, m, mo, ca, ct, po) = ((fi, si, qi, mi, moi, cai, cti, poi), -1, 0) := (by rw [hK, show ((z + 1) / 6 - i).toNat = 0 from by omega]; rfl)
          refine lc_aload_n dX11_perform_136 rfl 0 rfl ?_
          refine lc_callV (As := []) (stk := []) (b := 50) dX11_perform_137 lc_mX11_64 lc_yX11_records h33 rfl (lc_cX11_records l n (N1) (f) (s) (q) (m) (mo) (ca) (ct) (po) (k) (bs) (z) (((lc_ff tx z.toNat 0 : Nat) : Int)) (js) (jr) (y1) (y2) (w3) (bw) (N5) (H) σ32 h33 h37 h40 (by omega) (by omega) (hR) (hP) (hH60)) rfl ⟨Nat.le_of_ble_eq_true rfl, Nat.le_of_ble_eq_true rfl⟩ ⟨Nat.le_of_ble_eq_true rfl, Nat.le_of_ble_eq_true rfl⟩ rfl (Nat.le_of_ble_eq_true rfl) (fun v49 n50 σ51 q52 => ?_)
          obtain ⟨g44, rfl, rfl, h47, h48, hP45, fr46⟩ := q52
          have h53 : σ51 (51) = some (lc_aI 222 (N1)) := (fr46 _ (by omega) (by omega)).trans h37
          have h54 : σ51 (52) = some (lc_aI 222 (N2)) := (fr46 _ (by omega) (by omega)).trans h38
          have h55 : σ51 (53) = some (lc_aI 222 (N3)) := (fr46 _ (by omega) (by omega)).trans h39
          have h56 : σ51 (56) = some (lc_aI 222 (N6)) := (fr46 _ (by omega) (by omega)).trans h41
          have h57 : σ51 (57) = some (lc_aI 80 (N7)) := (fr46 _ (by omega) (by omega)).trans h42
          have h58 : σ51 (54) = some (lc_aI 222 (g4)) := (fr46 _ (by omega) (by omega)).trans h34
          refine lc_aload_n dX11_perform_140 rfl 0 rfl ?_
          refine lc_get dX11_perform_141 lc_fX11_19 h47 rfl ?_
          refine lc_iconst dX11_perform_144 ?_
          refine lc_aload_n dX11_perform_145 rfl 0 rfl ?_
          refine lc_get dX11_perform_146 lc_fX11_7 h47 rfl ?_
          refine lc_iconst dX11_perform_149 ?_
          refine lc_callS (As := [.ref (54), .int (lc_i (0)), .ref (51), .int (lc_i (0))]) (stk := []) dX11_perform_150 lc_mX11_48 lc_yX11_copies (lc_cX11_copies l n (54) (51) (222) (222) (g4) (N1) (0) (0) σ51 h58 h53 (by omega) (by omega) (by omega) (by omega)) rfl ⟨Nat.le_of_ble_eq_true rfl, Nat.le_of_ble_eq_true rfl⟩ ⟨Nat.le_of_ble_eq_true rfl, Nat.le_of_ble_eq_true rfl⟩ rfl (Nat.le_of_ble_eq_true rfl) (fun v61 n62 σ63 q64 => ?_)
          obtain ⟨rfl, rfl, h60, fr59⟩ := q64
          have h65 : σ63 (52) = some (lc_aI 222 (N2)) := (fr59 _ (by omega)).trans h54
          have h66 : σ63 (53) = some (lc_aI 222 (N3)) := (fr59 _ (by omega)).trans h55
          have h67 : σ63 (56) = some (lc_aI 222 (N6)) := (fr59 _ (by omega)).trans h56
          have h68 : σ63 (57) = some (lc_aI 80 (N7)) := (fr59 _ (by omega)).trans h57
          have h69 : σ63 (54) = some (lc_aI 222 (g4)) := (fr59 _ (by omega)).trans h58
          have h70 : σ63 (50) = some (.inr (11, [.ref (51), .ref (52), .ref (53), .ref (54), .ref (55), .int (lc_i (((lc_hk k : Nat) : Int))), .ref (56), .int (lc_i (if bs = true then 1 else 0)), .ref (57), .int (lc_i (z)), .int (lc_i (((lc_ff tx z.toNat 0 : Nat) : Int))), .int (lc_i (js)), .int (lc_i (jr)), .int (lc_i (y1)), .int (lc_i (y2)), .int (lc_i (w3)), .int (lc_i (bw))]) : lc_Cel) := (fr59 _ (by omega)).trans h47
          have h71 : σ63 (55) = some (lc_aI 888 (g44)) := (fr59 _ (by omega)).trans h48
          have hR72 := lc_RM_c (N' := N1) hRi (show cti ≤ 60 from by omega)
          refine lc_iload_n dX11_perform_153 rfl 1 rfl ?_
          exact lc_iret dX11_perform_154 rfl (Nat.le_of_ble_eq_true rfl) (Nat.le_of_ble_eq_true rfl) (hQ _ _ _ (by rw [lc_perf, if_neg (show ¬ (0 ≤ lc_fault tx z) from by omega), hR9, if_neg (show ¬ 0 ≤ (-1 : Int) from by decide)]; exact ⟨rfl, rfl, lc_MI_mk h70 h60 h65 h66 h69 h71 h67 h68 (hR72) (hRP) (hP45) (hT) (hjs) (hjr), (fun i _ => ((fr59 i (by omega)).trans ((fr46 i (by omega) (by omega)).trans ((fr35 i (by omega) (by omega)).trans ((fr15 i (by omega)).trans (fr1 i (by omega)))))))⟩))
        · skip
          refine lc_aload_n dX11_perform_46 rfl 0 rfl ?_
          refine lc_bipush dX11_perform_47 (by decide) ?_
          refine lc_iload_n dX11_perform_49 rfl 2 rfl ?_
          refine lc_imul dX11_perform_50 ?_
          refine lc_callV (As := [.int (lc_i ((6) * (i)))]) (stk := []) (b := 50) dX11_perform_51 lc_mX11_151 lc_yX11_toldPoint h33 rfl (lc_cX11_toldPoint l n (tx) (N7) ((k : Int)) (bs) (z) (((lc_ff tx z.toNat 0 : Nat) : Int)) (js) (jr) (y1) (y2) (w3) (bw) ((6) * (i)) σ32 h33 h42 hz htx hT (by omega)) rfl ⟨Nat.le_of_ble_eq_true rfl, Nat.le_of_ble_eq_true rfl⟩ ⟨Nat.le_of_ble_eq_true rfl, Nat.le_of_ble_eq_true rfl⟩ rfl (Nat.le_of_ble_eq_true rfl) (fun v73 n74 σ75 q76 => ?_)
          obtain ⟨rfl, rfl, rfl⟩ := q76
          refine lc_top (congrArg (fun z => Value.int (lc_i z)) (show (lc_tp tx ((6) * (i)) : Int) = lc_tp tx (i * 6) from by rw [Int.mul_comm 6 i])) ?_
          refine lc_istore_n (lv' := [(0, .ref (50)), (1, .int (lc_i ((z + 1) / 6))), (2, .int (lc_i (i))), (3, .int (lc_i (lc_tp tx (i * 6))))]) dX11_perform_54 rfl (by decide) rfl ?_
          refine lc_aload_n dX11_perform_55 rfl 0 rfl ?_
          refine lc_bipush dX11_perform_56 (by decide) ?_
          refine lc_iload_n dX11_perform_58 rfl 2 rfl ?_
          refine lc_imul dX11_perform_59 ?_
          refine lc_iconst dX11_perform_60 ?_
          refine lc_iadd dX11_perform_61 ?_
          refine lc_callV (As := [.int (lc_i (((6) * (i)) + (3)))]) (stk := []) (b := 50) dX11_perform_62 lc_mX11_151 lc_yX11_toldPoint h33 rfl (lc_cX11_toldPoint l n (tx) (N7) ((k : Int)) (bs) (z) (((lc_ff tx z.toNat 0 : Nat) : Int)) (js) (jr) (y1) (y2) (w3) (bw) (((6) * (i)) + (3)) σ32 h33 h42 hz htx hT (by omega)) rfl ⟨Nat.le_of_ble_eq_true rfl, Nat.le_of_ble_eq_true rfl⟩ ⟨Nat.le_of_ble_eq_true rfl, Nat.le_of_ble_eq_true rfl⟩ rfl (Nat.le_of_ble_eq_true rfl) (fun v77 n78 σ79 q80 => ?_)
          obtain ⟨rfl, rfl, rfl⟩ := q80
          refine lc_top (congrArg (fun z => Value.int (lc_i z)) (show (lc_tp tx (((6) * (i)) + (3)) : Int) = lc_tp tx (i * 6 + 3) from by rw [Int.mul_comm 6 i])) ?_
          refine lc_istore (lv' := [(0, .ref (50)), (1, .int (lc_i ((z + 1) / 6))), (2, .int (lc_i (i))), (3, .int (lc_i (lc_tp tx (i * 6)))), (4, .int (lc_i (lc_tp tx (i * 6 + 3))))]) dX11_perform_65 (by decide) rfl ?_
          have htf := lc_tp_r (hfa.2 (i * 6) (by omega) (by omega)) (hfa.2 (i * 6 + 1) (by omega) (by omega)) (by omega)
          have htt := lc_tp_r (hfa.2 (i * 6 + 3) (by omega) (by omega)) (hfa.2 (i * 6 + 3 + 1) (by omega) (by omega)) (by omega)
          refine lc_aload_n dX11_perform_67 rfl 0 rfl ?_
          refine lc_aload_n dX11_perform_68 rfl 0 rfl ?_
          refine lc_get dX11_perform_69 lc_fX11_19 h33 rfl ?_
          refine lc_iload_n dX11_perform_72 rfl 3 rfl ?_
          refine lc_iload dX11_perform_73 4 rfl ?_
          refine lc_aload_n dX11_perform_75 rfl 0 rfl ?_
          refine lc_get dX11_perform_76 lc_fX11_28 h33 rfl ?_
          refine lc_bipush dX11_perform_79 (by decide) ?_
          refine lc_iload_n dX11_perform_81 rfl 2 rfl ?_
          refine lc_imul dX11_perform_82 ?_
          refine lc_iconst dX11_perform_83 ?_
          refine lc_iadd dX11_perform_84 ?_
          refine lc_iald dX11_perform_85 h42 (by omega) (by decide) ?_
          refine lc_top (congrArg (fun z => Value.int (lc_i z)) (show ((N7) (((6) * (i)) + (2)) : Int) = tx (i * 6 + 2) from by rw [Int.mul_comm 6 i]; exact hT _ (by omega) (by omega))) ?_
          have hx2 := htx (i * 6 + 2) (by omega) (by omega)
          refine lc_bipush dX11_perform_86 (by decide) ?_
          refine lc_icmp_ne (tgt := 95) dX11_perform_88 (by decide) (by omega) (fun h_88_80 => ?_) (fun h_88_80 => ?_)
          · skip
            refine lc_iconst dX11_perform_95 ?_
            refine lc_callV (As := [.ref (54), .int (lc_i (lc_tp tx (i * 6))), .int (lc_i (lc_tp tx (i * 6 + 3))), .int (lc_i (0))]) (stk := []) (b := 50) dX11_perform_96 lc_mX11_110 lc_yX11_why h33 rfl (lc_cX11_why l n (54) (g4) (fi) (si) (qi) (mi) (moi) (cai) (cti) (poi) ((k : Int)) (bs) (z) (((lc_ff tx z.toNat 0 : Nat) : Int)) (js) (jr) (y1) (y2) (w3) (bw) (lc_tp tx (i * 6)) (lc_tp tx (i * 6 + 3)) (false) σ32 h33 h34 (by omega) (hfi) (hsi) (by omega) (by omega) (hRi) (by omega) (by omega)) rfl ⟨Nat.le_of_ble_eq_true rfl, Nat.le_of_ble_eq_true rfl⟩ ⟨Nat.le_of_ble_eq_true rfl, Nat.le_of_ble_eq_true rfl⟩ rfl (Nat.le_of_ble_eq_true rfl) (fun v86 n87 σ88 q89 => ?_)
            obtain ⟨z82, z83, rfl, rfl, h85, fr84⟩ := q89
            have h90 : σ88 (51) = some (lc_aI 222 (N1)) := (fr84 _ (by omega)).trans h37
            have h91 : σ88 (52) = some (lc_aI 222 (N2)) := (fr84 _ (by omega)).trans h38
            have h92 : σ88 (53) = some (lc_aI 222 (N3)) := (fr84 _ (by omega)).trans h39
            have h93 : σ88 (55) = some (lc_aI 888 (N5)) := (fr84 _ (by omega)).trans h40
            have h94 : σ88 (56) = some (lc_aI 222 (N6)) := (fr84 _ (by omega)).trans h41
            have h95 : σ88 (57) = some (lc_aI 80 (N7)) := (fr84 _ (by omega)).trans h42
            have h96 : σ88 (54) = some (lc_aI 222 (g4)) := (fr84 _ (by omega)).trans h34
            refine lc_top (congrArg (fun z => Value.int (lc_i z)) (show (lc_why (fi) (si) (qi) (mi) (lc_tp tx (i * 6)) (lc_tp tx (i * 6 + 3)) (false) : Int) = lc_why fi si qi mi (lc_tp tx (i * 6)) (lc_tp tx (i * 6 + 3)) (decide (tx (i * 6 + 2) = 120)) from by rw [show decide (tx (i * 6 + 2) = 120) = false from decide_eq_false h_88_80])) ?_
            have hwr := lc_why_r fi si qi mi (lc_tp tx (i * 6)) (lc_tp tx (i * 6 + 3)) (decide (tx (i * 6 + 2) = 120))
            refine lc_istore (lv' := [(0, .ref (50)), (1, .int (lc_i ((z + 1) / 6))), (2, .int (lc_i (i))), (3, .int (lc_i (lc_tp tx (i * 6)))), (4, .int (lc_i (lc_tp tx (i * 6 + 3)))), (5, .int (lc_i (lc_why fi si qi mi (lc_tp tx (i * 6)) (lc_tp tx (i * 6 + 3)) (decide (tx (i * 6 + 2) = 120)))))]) dX11_perform_99 (by decide) rfl ?_
            refine lc_iload dX11_perform_101 5 rfl ?_
            refine lc_if_le (tgt := 120) dX11_perform_103 (by decide) (by omega) (fun h_103_96 => ?_) (fun h_103_96 => ?_)
            · skip
              have hwe : (lc_why fi si qi mi (lc_tp tx (i * 6)) (lc_tp tx (i * 6 + 3)) (decide (tx (i * 6 + 2) = 120))) = 0 := (by omega)
              refine lc_aload_n dX11_perform_120 rfl 0 rfl ?_
              refine lc_get dX11_perform_121 lc_fX11_19 h85 rfl ?_
              refine lc_iload_n dX11_perform_124 rfl 3 rfl ?_
              refine lc_iload dX11_perform_125 4 rfl ?_
              refine lc_callS (As := [.ref (54), .int (lc_i (lc_tp tx (i * 6))), .int (lc_i (lc_tp tx (i * 6 + 3)))]) (stk := []) dX11_perform_127 lc_mX11_113 lc_yX11_makes (lc_cX11_makes l n (54) (g4) (fi) (si) (qi) (mi) (moi) (cai) (cti) (poi) (lc_tp tx (i * 6)) (lc_tp tx (i * 6 + 3)) σ88 h96 (hfi) (hsi) (by omega) (hRi) (by omega) (by omega) ((lc_why0 hwe).2)) rfl ⟨Nat.le_of_ble_eq_true rfl, Nat.le_of_ble_eq_true rfl⟩ ⟨Nat.le_of_ble_eq_true rfl, Nat.le_of_ble_eq_true rfl⟩ rfl (Nat.le_of_ble_eq_true rfl) (fun v102 n103 σ104 q105 => ?_)
              obtain ⟨N100, rfl, rfl, h99, hR101, fr98⟩ := q105
              have h106 : σ104 (51) = some (lc_aI 222 (N1)) := (fr98 _ (by omega)).trans h90
              have h107 : σ104 (52) = some (lc_aI 222 (N2)) := (fr98 _ (by omega)).trans h91
              have h108 : σ104 (53) = some (lc_aI 222 (N3)) := (fr98 _ (by omega)).trans h92
              have h109 : σ104 (55) = some (lc_aI 888 (N5)) := (fr98 _ (by omega)).trans h93
              have h110 : σ104 (56) = some (lc_aI 222 (N6)) := (fr98 _ (by omega)).trans h94
              have h111 : σ104 (57) = some (lc_aI 80 (N7)) := (fr98 _ (by omega)).trans h95
              have h112 : σ104 (50) = some (.inr (11, [.ref (51), .ref (52), .ref (53), .ref (54), .ref (55), .int (lc_i ((k : Int))), .ref (56), .int (lc_i (if bs = true then 1 else 0)), .ref (57), .int (lc_i (z)), .int (lc_i (((lc_ff tx z.toNat 0 : Nat) : Int))), .int (lc_i (js)), .int (lc_i (jr)), .int (lc_i (z82)), .int (lc_i (z83)), .int (lc_i (w3)), .int (lc_i (bw))]) : lc_Cel) := (fr98 _ (by omega)).trans h85
              refine lc_iinc (lv' := [(0, .ref (50)), (1, .int (lc_i ((z + 1) / 6))), (2, .int (lc_i (i + 1))), (3, .int (lc_i (lc_tp tx (i * 6)))), (4, .int (lc_i (lc_tp tx (i * 6 + 3)))), (5, .int (lc_i (lc_why fi si qi mi (lc_tp tx (i * 6)) (lc_tp tx (i * 6 + 3)) (decide (tx (i * 6 + 2) = 120)))))]) dX11_perform_130 2 rfl (by decide) rfl ?_
              refine lc_goto (tgt := 41) dX11_perform_133 (by decide) ?_
              refine lc_pick (lv' := [(0, .ref (50)), (1, .int (lc_i ((z + 1) / 6))), (2, .int (lc_i (i + 1)))]) [0, 1, 2] rfl ?_
              exact ih31 (i + 1) (lc_mvf (fi) (si) (lc_tp tx (i * 6)) (lc_tp tx (i * 6 + 3))) (3 - (si)) (lc_mvq (fi) (qi) (lc_tp tx (i * 6 + 3))) (mi) ((moi) + 1) (lc_mvc (fi) (cai) (lc_tp tx (i * 6 + 3))) (lc_mvt (fi) (cti) (lc_tp tx (i * 6 + 3))) (lc_mvp (fi) (si) (lc_tp tx (i * 6)) (lc_tp tx (i * 6 + 3)) (cti) (poi)) (N100) (z82) (z83) σ104 h112 h99 (fun i _ _ => ((fr98 i (by omega)).trans ((fr84 i (by omega)).trans (fr35 i (by omega) (by omega))))) (by omega) (lc_wz_mv (c := (decide (tx (i * 6 + 2) = 120))) hW hwe) (by rw [hK, show ((z + 1) / 6 - i).toNat = ((z + 1) / 6 - (i + 1)).toNat + 1 from by omega]; exact lc_pr_y hwe) (hR101) (by omega)
            · skip
              have hR9 : lc_pr tx ((z + 1) / 6).toNat 0 (f, s, q, m, mo, ca, ct, po) = ((fi, si, qi, mi, moi, cai, cti, poi), i, (lc_why fi si qi mi (lc_tp tx (i * 6)) (lc_tp tx (i * 6 + 3)) (decide (tx (i * 6 + 2) = 120)))) := (by rw [hK, show ((z + 1) / 6 - i).toNat = ((z + 1) / 6 - (i + 1)).toNat + 1 from by omega]; exact lc_pr_n (show (lc_why fi si qi mi (lc_tp tx (i * 6)) (lc_tp tx (i * 6 + 3)) (decide (tx (i * 6 + 2) = 120))) ≠ 0 from by omega))
              refine lc_aload_n dX11_perform_106 rfl 0 rfl ?_
              refine lc_iload_n dX11_perform_107 rfl 2 rfl ?_
              refine lc_wI (vs' := [.ref (51), .ref (52), .ref (53), .ref (54), .ref (55), .int (lc_i ((k : Int))), .ref (56), .int (lc_i (if bs = true then 1 else 0)), .ref (57), .int (lc_i (z)), .int (lc_i (((lc_ff tx z.toNat 0 : Nat) : Int))), .int (lc_i (i)), .int (lc_i (jr)), .int (lc_i (z82)), .int (lc_i (z83)), .int (lc_i (w3)), .int (lc_i (bw))]) dX11_perform_108 lc_fX11_31 h85 (Nat.le_of_ble_eq_true rfl) rfl rfl rfl (fun σ113 h114 fr115 => ?_)
              have h116 : σ113 (51) = some (lc_aI 222 (N1)) := (fr115 _ (by omega)).trans h90
              have h117 : σ113 (52) = some (lc_aI 222 (N2)) := (fr115 _ (by omega)).trans h91
              have h118 : σ113 (53) = some (lc_aI 222 (N3)) := (fr115 _ (by omega)).trans h92
              have h119 : σ113 (55) = some (lc_aI 888 (N5)) := (fr115 _ (by omega)).trans h93
              have h120 : σ113 (56) = some (lc_aI 222 (N6)) := (fr115 _ (by omega)).trans h94
              have h121 : σ113 (57) = some (lc_aI 80 (N7)) := (fr115 _ (by omega)).trans h95
              have h122 : σ113 (54) = some (lc_aI 222 (g4)) := (fr115 _ (by omega)).trans h96
              refine lc_aload_n dX11_perform_111 rfl 0 rfl ?_
              refine lc_iload dX11_perform_112 5 rfl ?_
              refine lc_wI (vs' := [.ref (51), .ref (52), .ref (53), .ref (54), .ref (55), .int (lc_i ((k : Int))), .ref (56), .int (lc_i (if bs = true then 1 else 0)), .ref (57), .int (lc_i (z)), .int (lc_i (((lc_ff tx z.toNat 0 : Nat) : Int))), .int (lc_i (i)), .int (lc_i (lc_why fi si qi mi (lc_tp tx (i * 6)) (lc_tp tx (i * 6 + 3)) (decide (tx (i * 6 + 2) = 120)))), .int (lc_i (z82)), .int (lc_i (z83)), .int (lc_i (w3)), .int (lc_i (bw))]) dX11_perform_114 lc_fX11_35 h114 (Nat.le_of_ble_eq_true rfl) rfl rfl rfl (fun σ123 h124 fr125 => ?_)
              have h126 : σ123 (51) = some (lc_aI 222 (N1)) := (fr125 _ (by omega)).trans h116
              have h127 : σ123 (52) = some (lc_aI 222 (N2)) := (fr125 _ (by omega)).trans h117
              have h128 : σ123 (53) = some (lc_aI 222 (N3)) := (fr125 _ (by omega)).trans h118
              have h129 : σ123 (55) = some (lc_aI 888 (N5)) := (fr125 _ (by omega)).trans h119
              have h130 : σ123 (56) = some (lc_aI 222 (N6)) := (fr125 _ (by omega)).trans h120
              have h131 : σ123 (57) = some (lc_aI 80 (N7)) := (fr125 _ (by omega)).trans h121
              have h132 : σ123 (54) = some (lc_aI 222 (g4)) := (fr125 _ (by omega)).trans h122
              refine lc_bipush dX11_perform_117 (by decide) ?_
              exact lc_iret dX11_perform_119 rfl (Nat.le_of_ble_eq_true rfl) (Nat.le_of_ble_eq_true rfl) (hQ _ _ _ (by rw [lc_perf, if_neg (show ¬ (0 ≤ lc_fault tx z) from by omega), hR9, if_pos (show 0 ≤ i from by omega)]; exact ⟨rfl, rfl, lc_MI_mk h124 h126 h127 h128 h132 h129 h130 h131 (hR) (hRP) (hP) (hT) ((if_pos rfl).symm) ((if_pos rfl).symm), (fun i _ => ((fr125 i (by omega)).trans ((fr115 i (by omega)).trans ((fr84 i (by omega)).trans ((fr35 i (by omega) (by omega)).trans ((fr15 i (by omega)).trans (fr1 i (by omega))))))))⟩))
          · skip
            refine lc_iconst dX11_perform_91 ?_
            refine lc_goto (tgt := 96) dX11_perform_92 (by decide) ?_
            refine lc_callV (As := [.ref (54), .int (lc_i (lc_tp tx (i * 6))), .int (lc_i (lc_tp tx (i * 6 + 3))), .int (lc_i (1))]) (stk := []) (b := 50) dX11_perform_96 lc_mX11_110 lc_yX11_why h33 rfl (lc_cX11_why l n (54) (g4) (fi) (si) (qi) (mi) (moi) (cai) (cti) (poi) ((k : Int)) (bs) (z) (((lc_ff tx z.toNat 0 : Nat) : Int)) (js) (jr) (y1) (y2) (w3) (bw) (lc_tp tx (i * 6)) (lc_tp tx (i * 6 + 3)) (true) σ32 h33 h34 (by omega) (hfi) (hsi) (by omega) (by omega) (hRi) (by omega) (by omega)) rfl ⟨Nat.le_of_ble_eq_true rfl, Nat.le_of_ble_eq_true rfl⟩ ⟨Nat.le_of_ble_eq_true rfl, Nat.le_of_ble_eq_true rfl⟩ rfl (Nat.le_of_ble_eq_true rfl) (fun v137 n138 σ139 q140 => ?_)
            obtain ⟨z133, z134, rfl, rfl, h136, fr135⟩ := q140
            have h141 : σ139 (51) = some (lc_aI 222 (N1)) := (fr135 _ (by omega)).trans h37
            have h142 : σ139 (52) = some (lc_aI 222 (N2)) := (fr135 _ (by omega)).trans h38
            have h143 : σ139 (53) = some (lc_aI 222 (N3)) := (fr135 _ (by omega)).trans h39
            have h144 : σ139 (55) = some (lc_aI 888 (N5)) := (fr135 _ (by omega)).trans h40
            have h145 : σ139 (56) = some (lc_aI 222 (N6)) := (fr135 _ (by omega)).trans h41
            have h146 : σ139 (57) = some (lc_aI 80 (N7)) := (fr135 _ (by omega)).trans h42
            have h147 : σ139 (54) = some (lc_aI 222 (g4)) := (fr135 _ (by omega)).trans h34
            refine lc_top (congrArg (fun z => Value.int (lc_i z)) (show (lc_why (fi) (si) (qi) (mi) (lc_tp tx (i * 6)) (lc_tp tx (i * 6 + 3)) (true) : Int) = lc_why fi si qi mi (lc_tp tx (i * 6)) (lc_tp tx (i * 6 + 3)) (decide (tx (i * 6 + 2) = 120)) from by rw [show decide (tx (i * 6 + 2) = 120) = true from decide_eq_true h_88_80])) ?_
            have hwr := lc_why_r fi si qi mi (lc_tp tx (i * 6)) (lc_tp tx (i * 6 + 3)) (decide (tx (i * 6 + 2) = 120))
            refine lc_istore (lv' := [(0, .ref (50)), (1, .int (lc_i ((z + 1) / 6))), (2, .int (lc_i (i))), (3, .int (lc_i (lc_tp tx (i * 6)))), (4, .int (lc_i (lc_tp tx (i * 6 + 3)))), (5, .int (lc_i (lc_why fi si qi mi (lc_tp tx (i * 6)) (lc_tp tx (i * 6 + 3)) (decide (tx (i * 6 + 2) = 120)))))]) dX11_perform_99 (by decide) rfl ?_
            refine lc_iload dX11_perform_101 5 rfl ?_
            refine lc_if_le (tgt := 120) dX11_perform_103 (by decide) (by omega) (fun h_103_147 => ?_) (fun h_103_147 => ?_)
            · skip
              have hwe : (lc_why fi si qi mi (lc_tp tx (i * 6)) (lc_tp tx (i * 6 + 3)) (decide (tx (i * 6 + 2) = 120))) = 0 := (by omega)
              refine lc_aload_n dX11_perform_120 rfl 0 rfl ?_
              refine lc_get dX11_perform_121 lc_fX11_19 h136 rfl ?_
              refine lc_iload_n dX11_perform_124 rfl 3 rfl ?_
              refine lc_iload dX11_perform_125 4 rfl ?_
              refine lc_callS (As := [.ref (54), .int (lc_i (lc_tp tx (i * 6))), .int (lc_i (lc_tp tx (i * 6 + 3)))]) (stk := []) dX11_perform_127 lc_mX11_113 lc_yX11_makes (lc_cX11_makes l n (54) (g4) (fi) (si) (qi) (mi) (moi) (cai) (cti) (poi) (lc_tp tx (i * 6)) (lc_tp tx (i * 6 + 3)) σ139 h147 (hfi) (hsi) (by omega) (hRi) (by omega) (by omega) ((lc_why0 hwe).2)) rfl ⟨Nat.le_of_ble_eq_true rfl, Nat.le_of_ble_eq_true rfl⟩ ⟨Nat.le_of_ble_eq_true rfl, Nat.le_of_ble_eq_true rfl⟩ rfl (Nat.le_of_ble_eq_true rfl) (fun v153 n154 σ155 q156 => ?_)
              obtain ⟨N151, rfl, rfl, h150, hR152, fr149⟩ := q156
              have h157 : σ155 (51) = some (lc_aI 222 (N1)) := (fr149 _ (by omega)).trans h141
              have h158 : σ155 (52) = some (lc_aI 222 (N2)) := (fr149 _ (by omega)).trans h142
              have h159 : σ155 (53) = some (lc_aI 222 (N3)) := (fr149 _ (by omega)).trans h143
              have h160 : σ155 (55) = some (lc_aI 888 (N5)) := (fr149 _ (by omega)).trans h144
              have h161 : σ155 (56) = some (lc_aI 222 (N6)) := (fr149 _ (by omega)).trans h145
              have h162 : σ155 (57) = some (lc_aI 80 (N7)) := (fr149 _ (by omega)).trans h146
              have h163 : σ155 (50) = some (.inr (11, [.ref (51), .ref (52), .ref (53), .ref (54), .ref (55), .int (lc_i ((k : Int))), .ref (56), .int (lc_i (if bs = true then 1 else 0)), .ref (57), .int (lc_i (z)), .int (lc_i (((lc_ff tx z.toNat 0 : Nat) : Int))), .int (lc_i (js)), .int (lc_i (jr)), .int (lc_i (z133)), .int (lc_i (z134)), .int (lc_i (w3)), .int (lc_i (bw))]) : lc_Cel) := (fr149 _ (by omega)).trans h136
              refine lc_iinc (lv' := [(0, .ref (50)), (1, .int (lc_i ((z + 1) / 6))), (2, .int (lc_i (i + 1))), (3, .int (lc_i (lc_tp tx (i * 6)))), (4, .int (lc_i (lc_tp tx (i * 6 + 3)))), (5, .int (lc_i (lc_why fi si qi mi (lc_tp tx (i * 6)) (lc_tp tx (i * 6 + 3)) (decide (tx (i * 6 + 2) = 120)))))]) dX11_perform_130 2 rfl (by decide) rfl ?_
              refine lc_goto (tgt := 41) dX11_perform_133 (by decide) ?_
              refine lc_pick (lv' := [(0, .ref (50)), (1, .int (lc_i ((z + 1) / 6))), (2, .int (lc_i (i + 1)))]) [0, 1, 2] rfl ?_
              exact ih31 (i + 1) (lc_mvf (fi) (si) (lc_tp tx (i * 6)) (lc_tp tx (i * 6 + 3))) (3 - (si)) (lc_mvq (fi) (qi) (lc_tp tx (i * 6 + 3))) (mi) ((moi) + 1) (lc_mvc (fi) (cai) (lc_tp tx (i * 6 + 3))) (lc_mvt (fi) (cti) (lc_tp tx (i * 6 + 3))) (lc_mvp (fi) (si) (lc_tp tx (i * 6)) (lc_tp tx (i * 6 + 3)) (cti) (poi)) (N151) (z133) (z134) σ155 h163 h150 (fun i _ _ => ((fr149 i (by omega)).trans ((fr135 i (by omega)).trans (fr35 i (by omega) (by omega))))) (by omega) (lc_wz_mv (c := (decide (tx (i * 6 + 2) = 120))) hW hwe) (by rw [hK, show ((z + 1) / 6 - i).toNat = ((z + 1) / 6 - (i + 1)).toNat + 1 from by omega]; exact lc_pr_y hwe) (hR152) (by omega)
            · skip
              have hR9 : lc_pr tx ((z + 1) / 6).toNat 0 (f, s, q, m, mo, ca, ct, po) = ((fi, si, qi, mi, moi, cai, cti, poi), i, (lc_why fi si qi mi (lc_tp tx (i * 6)) (lc_tp tx (i * 6 + 3)) (decide (tx (i * 6 + 2) = 120)))) := (by rw [hK, show ((z + 1) / 6 - i).toNat = ((z + 1) / 6 - (i + 1)).toNat + 1 from by omega]; exact lc_pr_n (show (lc_why fi si qi mi (lc_tp tx (i * 6)) (lc_tp tx (i * 6 + 3)) (decide (tx (i * 6 + 2) = 120))) ≠ 0 from by omega))
              refine lc_aload_n dX11_perform_106 rfl 0 rfl ?_
              refine lc_iload_n dX11_perform_107 rfl 2 rfl ?_
              refine lc_wI (vs' := [.ref (51), .ref (52), .ref (53), .ref (54), .ref (55), .int (lc_i ((k : Int))), .ref (56), .int (lc_i (if bs = true then 1 else 0)), .ref (57), .int (lc_i (z)), .int (lc_i (((lc_ff tx z.toNat 0 : Nat) : Int))), .int (lc_i (i)), .int (lc_i (jr)), .int (lc_i (z133)), .int (lc_i (z134)), .int (lc_i (w3)), .int (lc_i (bw))]) dX11_perform_108 lc_fX11_31 h136 (Nat.le_of_ble_eq_true rfl) rfl rfl rfl (fun σ164 h165 fr166 => ?_)
              have h167 : σ164 (51) = some (lc_aI 222 (N1)) := (fr166 _ (by omega)).trans h141
              have h168 : σ164 (52) = some (lc_aI 222 (N2)) := (fr166 _ (by omega)).trans h142
              have h169 : σ164 (53) = some (lc_aI 222 (N3)) := (fr166 _ (by omega)).trans h143
              have h170 : σ164 (55) = some (lc_aI 888 (N5)) := (fr166 _ (by omega)).trans h144
              have h171 : σ164 (56) = some (lc_aI 222 (N6)) := (fr166 _ (by omega)).trans h145
              have h172 : σ164 (57) = some (lc_aI 80 (N7)) := (fr166 _ (by omega)).trans h146
              have h173 : σ164 (54) = some (lc_aI 222 (g4)) := (fr166 _ (by omega)).trans h147
              refine lc_aload_n dX11_perform_111 rfl 0 rfl ?_
              refine lc_iload dX11_perform_112 5 rfl ?_
              refine lc_wI (vs' := [.ref (51), .ref (52), .ref (53), .ref (54), .ref (55), .int (lc_i ((k : Int))), .ref (56), .int (lc_i (if bs = true then 1 else 0)), .ref (57), .int (lc_i (z)), .int (lc_i (((lc_ff tx z.toNat 0 : Nat) : Int))), .int (lc_i (i)), .int (lc_i (lc_why fi si qi mi (lc_tp tx (i * 6)) (lc_tp tx (i * 6 + 3)) (decide (tx (i * 6 + 2) = 120)))), .int (lc_i (z133)), .int (lc_i (z134)), .int (lc_i (w3)), .int (lc_i (bw))]) dX11_perform_114 lc_fX11_35 h165 (Nat.le_of_ble_eq_true rfl) rfl rfl rfl (fun σ174 h175 fr176 => ?_)
              have h177 : σ174 (51) = some (lc_aI 222 (N1)) := (fr176 _ (by omega)).trans h167
              have h178 : σ174 (52) = some (lc_aI 222 (N2)) := (fr176 _ (by omega)).trans h168
              have h179 : σ174 (53) = some (lc_aI 222 (N3)) := (fr176 _ (by omega)).trans h169
              have h180 : σ174 (55) = some (lc_aI 888 (N5)) := (fr176 _ (by omega)).trans h170
              have h181 : σ174 (56) = some (lc_aI 222 (N6)) := (fr176 _ (by omega)).trans h171
              have h182 : σ174 (57) = some (lc_aI 80 (N7)) := (fr176 _ (by omega)).trans h172
              have h183 : σ174 (54) = some (lc_aI 222 (g4)) := (fr176 _ (by omega)).trans h173
              refine lc_bipush dX11_perform_117 (by decide) ?_
              exact lc_iret dX11_perform_119 rfl (Nat.le_of_ble_eq_true rfl) (Nat.le_of_ble_eq_true rfl) (hQ _ _ _ (by rw [lc_perf, if_neg (show ¬ (0 ≤ lc_fault tx z) from by omega), hR9, if_pos (show 0 ≤ i from by omega)]; exact ⟨rfl, rfl, lc_MI_mk h175 h177 h178 h179 h183 h180 h181 h182 (hR) (hRP) (hP) (hT) ((if_pos rfl).symm) ((if_pos rfl).symm), (fun i _ => ((fr176 i (by omega)).trans ((fr166 i (by omega)).trans ((fr135 i (by omega)).trans ((fr35 i (by omega) (by omega)).trans ((fr15 i (by omega)).trans (fr1 i (by omega))))))))⟩))
    exact loop30 1000 (0) (f) (s) (q) (m) (mo) (ca) (ct) (po) (lc_cpy (N1) (0) (N4) (0)) (w1) (w2) σ19 h27 h16 (fun _ _ _ => rfl) (by omega) (⟨hf, hs, hq, hm, hct, hpo, hkey⟩) (by rw [show (z + 1) / 6 - 0 = (z + 1) / 6 from by omega]) (hR28) (by omega)
  · skip
    refine lc_sipush dX11_perform_7 (by decide) ?_
    refine lc_aload_n dX11_perform_10 rfl 0 rfl ?_
    refine lc_get dX11_perform_11 lc_fX11_141 h2 rfl ?_
    refine lc_isub dX11_perform_14 ?_
    exact lc_iret dX11_perform_15 rfl (Nat.le_of_ble_eq_true rfl) (Nat.le_of_ble_eq_true rfl) (hQ _ _ _ (by rw [lc_perf, if_pos (show 0 ≤ lc_fault tx z from by omega)]; exact ⟨lc_some (show -200 - ((lc_ff tx z.toNat 0 : Nat) : Int) = -200 - lc_fault tx z from by rw [lc_fault_ff hz.1 h_4_13]), rfl, lc_MI_mk h2 h7 h8 h9 h10 h11 h12 h13 (hR) (hRP) (hP) (hT) (hjs) (hjr), (fun i _ => (fr1 i (by omega)))⟩))
