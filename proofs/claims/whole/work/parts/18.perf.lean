/-! LoopCaptures.perform, count -/
def lc_pr (tx : Int → Int) : Nat → Int → lc_St → lc_St × Int × Int
  | 0, _, N => (N, -1, 0)
  | r + 1, i, N => if lc_why N.1 N.2.1 N.2.2.1 N.2.2.2.1 (lc_tp tx (i * 6)) (lc_tp tx (i * 6 + 3)) (decide (tx (i * 6 + 2) = 120)) ≠ 0 then (N, i, lc_why N.1 N.2.1 N.2.2.1 N.2.2.2.1 (lc_tp tx (i * 6)) (lc_tp tx (i * 6 + 3)) (decide (tx (i * 6 + 2) = 120))) else lc_pr tx r (i + 1) (lc_mvN N (lc_tp tx (i * 6)) (lc_tp tx (i * 6 + 3)))
theorem lc_pr_n {tx : Int → Int} {r : Nat} {i : Int} {N : lc_St} (h : lc_why N.1 N.2.1 N.2.2.1 N.2.2.2.1 (lc_tp tx (i * 6)) (lc_tp tx (i * 6 + 3)) (decide (tx (i * 6 + 2) = 120)) ≠ 0) : lc_pr tx (r + 1) i N = (N, i, lc_why N.1 N.2.1 N.2.2.1 N.2.2.2.1 (lc_tp tx (i * 6)) (lc_tp tx (i * 6 + 3)) (decide (tx (i * 6 + 2) = 120))) := if_pos h
theorem lc_pr_y {tx : Int → Int} {r : Nat} {i : Int} {N : lc_St} (h : lc_why N.1 N.2.1 N.2.2.1 N.2.2.2.1 (lc_tp tx (i * 6)) (lc_tp tx (i * 6 + 3)) (decide (tx (i * 6 + 2) = 120)) = 0) : lc_pr tx (r + 1) i N = lc_pr tx r (i + 1) (lc_mvN N (lc_tp tx (i * 6)) (lc_tp tx (i * 6 + 3))) := if_neg (fun h9 => h9 h)
theorem lc_rp_ok {po : Int → Int} {ct code : Int} (hct : 0 ≤ ct ∧ ct ≤ 60) (hpo : ∀ i : Int, 0 ≤ i → i < ct → 0 ≤ po i ∧ po i < 450283905890997363) (hc : 0 ≤ code ∧ code < 450283905890997363) : (1 ≤ lc_rc ct ∧ lc_rc ct ≤ 60) ∧ (∀ i : Int, 0 ≤ i → i < lc_rc ct → 0 ≤ lc_rp po ct code i ∧ lc_rp po ct code i < 450283905890997363) ∧ lc_rp po ct code (lc_rc ct - 1) = code := by
  refine ⟨lc_rc_r hct, ?_, ?_⟩
  · intro i h1 h2
    unfold lc_rc at h2
    unfold lc_rp
    by_cases e : ct = 60
    · rw [if_pos e] at h2 ⊢
      by_cases e2 : i = 59
      · rw [e2, lc_u_s]; exact hc
      · rw [lc_u_n _ _ e2]; exact hpo (i + 1) (by omega) (by omega)
    · rw [if_neg e] at h2 ⊢
      by_cases e2 : i = ct
      · rw [e2, lc_u_s]; exact hc
      · rw [lc_u_n _ _ e2]; exact hpo i h1 (by omega)
  · unfold lc_rc lc_rp
    by_cases e : ct = 60
    · rw [if_pos e, if_pos e]; exact lc_u_s _ _ _
    · rw [if_neg e, if_neg e, show ct + 1 - 1 = ct by omega]; exact lc_u_s _ _ _
theorem lc_key_c {f : Int → Int} {s : Int} (hf : ∀ j : Int, 0 ≤ j → j < 36 → 0 ≤ f j ∧ f j ≤ 2) (hs : 1 ≤ s ∧ s ≤ 2) : 0 ≤ lc_key f s 36 ∧ lc_key f s 36 < 450283905890997363 := by
  have h := lc_key_r hf hs 36 (Nat.le_refl _)
  have e : (3 : Int) * 3 ^ 36 = 450283905890997363 := by decide
  omega
theorem lc_why0 {f : Int → Int} {s q m x y : Int} {c : Bool} (h : lc_why f s q m x y c = 0) : lc_res (lc_cnt f 1 36) (lc_cnt f 2 36) q m = 0 ∧ f x = s := by
  unfold lc_why at h
  by_cases h1 : lc_res (lc_cnt f 1 36) (lc_cnt f 2 36) q m = 0
  · rw [if_neg (fun h9 => h9 h1)] at h
    by_cases h2 : f x = s
    · exact ⟨h1, h2⟩
    · rw [if_pos h2] at h; exact absurd h (by decide)
  · rw [if_pos h1] at h; exact absurd h (by decide)
theorem lc_res0 {o t q m : Int} (h : lc_res o t q m = 0) : q < m := by
  unfold lc_res at h
  by_cases h1 : m ≤ q
  · exfalso
    revert h
    rw [if_pos h1]
    (repeat' split) <;> intro h9 <;> exact absurd h9 (by decide)
  · omega
/-- a move that is possible keeps a state sound -/
theorem lc_wz_mvr {N : lc_St} {x y : Int} (h : lc_wz N) (hr : lc_res (lc_cnt N.1 1 36) (lc_cnt N.1 2 36) N.2.2.1 N.2.2.2.1 = 0) : lc_wz (lc_mvN N x y) := by
  obtain ⟨f, s, q, m, mo, ca, ct, po⟩ := N
  obtain ⟨hf, hs, hq, hm, hct, hpo, hkey⟩ := h
  have hq1 : q < m := lc_res0 hr
  have hf2 : ∀ j : Int, 0 ≤ j → j < 36 → 0 ≤ lc_mvf f s x y j ∧ lc_mvf f s x y j ≤ 2 := lc_mvf_ok hf hs
  have hs1 : 1 ≤ s ∧ s ≤ 2 := hs
  have hs2 : 1 ≤ 3 - s ∧ 3 - s ≤ 2 := by omega
  have hk := lc_key_c hf2 hs2
  have hq2 : 0 ≤ q ∧ q ≤ 60 := hq
  have hm2 : 4 ≤ m ∧ m ≤ 60 := hm
  have hct2 : 1 ≤ ct ∧ ct ≤ 60 := hct
  have hp1 := lc_rp_ok (po := po) (ct := ct) ⟨by omega, hct2.2⟩ hpo hk
  have hp2 := lc_rp_ok (po := po) (ct := 0) ⟨by omega, by omega⟩ (fun i h1 h2 => absurd h2 (by omega)) hk
  refine ⟨hf2, hs2, ?_, hm, ?_, ?_, ?_⟩
  · show 0 ≤ lc_mvq f q y ∧ lc_mvq f q y ≤ 60
    unfold lc_mvq
    split <;> omega
  · show 1 ≤ lc_mvt f ct y ∧ lc_mvt f ct y ≤ 60
    unfold lc_mvt
    split
    · exact hp1.1
    · exact hp2.1
  · show ∀ i : Int, 0 ≤ i → i < lc_mvt f ct y → 0 ≤ lc_mvp f s x y ct po i ∧ lc_mvp f s x y ct po i < 450283905890997363
    unfold lc_mvt lc_mvp
    by_cases e : f y = 0
    · rw [if_pos e, if_pos e]; exact hp1.2.1
    · rw [if_neg e, if_neg e]; exact hp2.2.1
  · show lc_mvp f s x y ct po (lc_mvt f ct y - 1) = lc_key (lc_mvf f s x y) (3 - s) 36
    unfold lc_mvt lc_mvp
    by_cases e : f y = 0
    · rw [if_pos e, if_pos e]; exact hp1.2.2
    · rw [if_neg e, if_neg e]; exact hp2.2.2
theorem lc_wz_mv {N : lc_St} {x y : Int} {c : Bool} (h : lc_wz N) (hw : lc_why N.1 N.2.1 N.2.2.1 N.2.2.2.1 x y c = 0) : lc_wz (lc_mvN N x y) := lc_wz_mvr h (lc_why0 hw).1
theorem lc_fault_n {tx : Int → Int} {z : Int} (hz : 0 ≤ z) (h : lc_fault tx z < 0) : z % 6 = 5 ∧ ∀ i : Int, 0 ≤ i → i < z → lc_alw (tx i) (i % 6) = true := by
  have hr := lc_ff_r tx z.toNat 0
  unfold lc_fault at h
  by_cases h1 : (lc_ff tx z.toNat 0 : Int) < z
  · rw [if_pos h1] at h; omega
  · rw [if_neg h1] at h
    by_cases h2 : z % 6 = 5
    · refine ⟨h2, fun i hi1 hi2 => ?_⟩
      have h3 := lc_ff_all tx z.toNat 0 i.toNat (by omega) (by omega)
      rwa [show ((i.toNat : Nat) : Int) = i by omega] at h3
    · rw [if_neg h2] at h; omega
theorem lc_fault_r {tx : Int → Int} {z : Int} (hz : 0 ≤ z) : -1 ≤ lc_fault tx z ∧ lc_fault tx z ≤ z := by
  have hr := lc_ff_r tx z.toNat 0
  unfold lc_fault
  (repeat' split) <;> omega
theorem lc_tp_r {tx : Int → Int} {i : Int} (h0 : lc_alw (tx i) (i % 6) = true) (h1 : lc_alw (tx (i + 1)) ((i + 1) % 6) = true) (hi : i % 6 = 0 ∨ i % 6 = 3) : 0 ≤ lc_tp tx i ∧ lc_tp tx i < 36 := by
  have h2 := lc_alw_iff.mp h0
  have h3 := lc_alw_iff.mp h1
  unfold lc_tp
  omega
theorem lc_b2d {P : Prop} [Decidable P] : Value.int (lc_i (if P then 1 else 0)) = Value.int (lc_i (if decide P = true then 1 else 0)) := by
  by_cases h : P
  · rw [if_pos h, if_pos (decide_eq_true h)]
  · rw [if_neg h, if_neg (fun q => h (of_decide_eq_true q))]

set_option maxRecDepth 100000 in
set_option maxHeartbeats 600000 in
theorem lc_cX10_noteStop (l : Launch) (n : Nat) (bs bt : Bool) (sn sr x y : Int) (σ : lc_S) (h0_0 : σ (1) = some (.inr (10, [.ref (2), .ref (5), .ref (7), .ref (9), .ref (11), .ref (18), .ref (22), .ref (26), .ref (30), .ref (48), .int (lc_i (if bs = true then 1 else 0)), .int (lc_i (if bt = true then 1 else 0)), .int (lc_i (sn)), .int (lc_i (sr))]) : lc_Cel))  : lc_Con l yX10_noteStop cX10_noteStop 3 none (lc_Rd 0) [.ref (1), .int (lc_i (x)), .int (lc_i (y))] n σ (fun v n2 σ2 => v = none ∧ n = n2 ∧ σ2 (1) = some (.inr (10, [.ref (2), .ref (5), .ref (7), .ref (9), .ref (11), .ref (18), .ref (22), .ref (26), .ref (30), .ref (48), .int (lc_i (if bs = true then 1 else 0)), .int (lc_i (if true = true then 1 else 0)), .int (lc_i (x)), .int (lc_i (y))]) : lc_Cel) ∧ ∀ i : Nat, i ≠ 1 → σ2 i = σ i) := by
  refine lc_con RX10 false (by decide) rfl (fun h => absurd h (by decide)) (Nat.le_of_ble_eq_true rfl) ?_
  suffices H : ∀ Q : lc_QT, (∀ v n2 σ2, (fun v n2 σ2 => v = none ∧ n = n2 ∧ σ2 (1) = some (.inr (10, [.ref (2), .ref (5), .ref (7), .ref (9), .ref (11), .ref (18), .ref (22), .ref (26), .ref (30), .ref (48), .int (lc_i (if bs = true then 1 else 0)), .int (lc_i (if true = true then 1 else 0)), .int (lc_i (x)), .int (lc_i (y))]) : lc_Cel) ∧ ∀ i : Nat, i ≠ 1 → σ2 i = σ i : lc_QT) v n2 σ2 → Q v n2 σ2) → lc_V l RX10 cX10_noteStop 3 none false (lc_Rd 0) (lc_G Q 0 0) lc_E0 0 0 n 0 [(0, .ref (1)), (1, .int (lc_i (x))), (2, .int (lc_i (y)))] [] σ from H _ (fun _ _ _ h => h)
  intro Q hQ
  refine lc_aload_n dX10_noteStop_0 rfl 0 rfl ?_
  refine lc_iconst dX10_noteStop_1 ?_
  refine lc_wI (vs' := [.ref (2), .ref (5), .ref (7), .ref (9), .ref (11), .ref (18), .ref (22), .ref (26), .ref (30), .ref (48), .int (lc_i (if bs = true then 1 else 0)), .int (lc_i (1)), .int (lc_i (sn)), .int (lc_i (sr))]) dX10_noteStop_2 lc_fX10_167 h0_0 (Nat.le_of_ble_eq_true rfl) rfl rfl rfl (fun σ1 h2 fr3 => ?_)
  refine lc_aload_n dX10_noteStop_5 rfl 0 rfl ?_
  refine lc_iload_n dX10_noteStop_6 rfl 1 rfl ?_
  refine lc_wI (vs' := [.ref (2), .ref (5), .ref (7), .ref (9), .ref (11), .ref (18), .ref (22), .ref (26), .ref (30), .ref (48), .int (lc_i (if bs = true then 1 else 0)), .int (lc_i (1)), .int (lc_i (x)), .int (lc_i (sr))]) dX10_noteStop_7 lc_fX10_171 h2 (Nat.le_of_ble_eq_true rfl) rfl rfl rfl (fun σ4 h5 fr6 => ?_)
  refine lc_aload_n dX10_noteStop_10 rfl 0 rfl ?_
  refine lc_iload_n dX10_noteStop_11 rfl 2 rfl ?_
  refine lc_wI (vs' := [.ref (2), .ref (5), .ref (7), .ref (9), .ref (11), .ref (18), .ref (22), .ref (26), .ref (30), .ref (48), .int (lc_i (if bs = true then 1 else 0)), .int (lc_i (1)), .int (lc_i (x)), .int (lc_i (y))]) dX10_noteStop_12 lc_fX10_175 h5 (Nat.le_of_ble_eq_true rfl) rfl rfl rfl (fun σ7 h8 fr9 => ?_)
  exact lc_vret dX10_noteStop_15 rfl (Nat.le_of_ble_eq_true rfl) (Nat.le_of_ble_eq_true rfl) (hQ _ _ _ ⟨rfl, rfl, h8, (fun i _ => ((fr9 i (by omega)).trans ((fr6 i (by omega)).trans (fr3 i (by omega)))))⟩)

set_option maxRecDepth 100000 in
set_option maxHeartbeats 600000 in
theorem lc_cX10_possibleMoves (l : Launch) (n : Nat) (bs bt : Bool) (sn sr a1 a2 a3 : Int) (f : Int → Int) (s q m mo ca ct u1 u2 : Int) (ug : Int → Int) (cb : Bool) (σ : lc_S) (h0_0 : σ (1) = some (.inr (10, [.ref (2), .ref (5), .ref (7), .ref (9), .ref (11), .ref (18), .ref (22), .ref (26), .ref (30), .ref (48), .int (lc_i (if bs = true then 1 else 0)), .int (lc_i (if bt = true then 1 else 0)), .int (lc_i (sn)), .int (lc_i (sr))]) : lc_Cel)) (h0_1 : σ (7) = some (.inr (6, [.ref (2), .ref (8), .ref (5)]) : lc_Cel)) (h0_2 : σ (2) = some (.inr (1, [.ref (3), .ref (4)]) : lc_Cel)) (h0_3 : σ (3) = some (lc_aI 48 (lc_pt))) (h0_4 : σ (4) = some (lc_aI 72 (lc_sp))) (h0_5 : σ (8) = some (.inr (8, [.ref (2), .int (lc_i (a1)), .int (lc_i (a2)), .int (lc_i (a3))]) : lc_Cel)) (h0_6 : σ (18) = some (.inr (7, [.ref (19), .int (lc_i (mo)), .int (lc_i (ca)), .ref (21), .int (lc_i (ct))]) : lc_Cel)) (h0_7 : σ (19) = some (.inr (0, [.ref (20), .int (lc_i (lc_cnt (f) 1 36)), .int (lc_i (lc_cnt (f) 2 36)), .int (lc_i (s)), .int (lc_i (q)), .int (lc_i (m))]) : lc_Cel)) (h0_8 : σ (20) = some (lc_aI 36 (f))) (h0_9 : σ (9) = some (.inr (4, [.ref (10), .int (lc_i (u1)), .int (lc_i (u2))]) : lc_Cel)) (h0_10 : σ (10) = some (lc_aI 364 (ug))) (hf : ∀ j : Int, 0 ≤ j → j < 36 → 0 ≤ f j ∧ f j ≤ 2) (hs : 1 ≤ s ∧ s ≤ 2) (hq : 0 ≤ q ∧ q ≤ 60) (hm : 4 ≤ m ∧ m ≤ 60) : lc_Con l yX10_possibleMoves cX10_possibleMoves 2 (some .int) (lc_Rd 4) [.ref (1), .int (lc_i (if cb = true then 1 else 0))] n σ (fun v n2 σ2 => ∃ (c1 c2 c3 z1 z2 : Int) (g3 : Int → Int), v = some (.int (lc_i (if cb = true then ((lc_caps f s q m).length : Int) else ((lc_mv f s q m).length : Int) - ((lc_caps f s q m).length : Int)))) ∧ n = n2 ∧ σ2 (8) = some (.inr (8, [.ref (2), .int (lc_i (c1)), .int (lc_i (c2)), .int (lc_i (c3))]) : lc_Cel) ∧ σ2 (9) = some (.inr (4, [.ref (10), .int (lc_i (z1)), .int (lc_i (z2))]) : lc_Cel) ∧ σ2 (10) = some (lc_aI 364 (g3)) ∧ ∀ i : Nat, i ≠ 8 → i ≠ 9 → i ≠ 10 → σ2 i = σ i) := by
  refine lc_con RX10 false (by decide) rfl (fun h => absurd h (by decide)) (Nat.le_of_ble_eq_true rfl) ?_
  suffices H : ∀ Q : lc_QT, (∀ v n2 σ2, (fun v n2 σ2 => ∃ (c1 c2 c3 z1 z2 : Int) (g3 : Int → Int), v = some (.int (lc_i (if cb = true then ((lc_caps f s q m).length : Int) else ((lc_mv f s q m).length : Int) - ((lc_caps f s q m).length : Int)))) ∧ n = n2 ∧ σ2 (8) = some (.inr (8, [.ref (2), .int (lc_i (c1)), .int (lc_i (c2)), .int (lc_i (c3))]) : lc_Cel) ∧ σ2 (9) = some (.inr (4, [.ref (10), .int (lc_i (z1)), .int (lc_i (z2))]) : lc_Cel) ∧ σ2 (10) = some (lc_aI 364 (g3)) ∧ ∀ i : Nat, i ≠ 8 → i ≠ 9 → i ≠ 10 → σ2 i = σ i : lc_QT) v n2 σ2 → Q v n2 σ2) → lc_V l RX10 cX10_possibleMoves 2 (some .int) false (lc_Rd 4) (lc_G Q 0 0) lc_E0 0 0 n 0 [(0, .ref (1)), (1, .int (lc_i (if cb = true then 1 else 0)))] [] σ from H _ (fun _ _ _ h => h)
  intro Q hQ
  refine lc_aload_n dX10_possibleMoves_0 rfl 0 rfl ?_
  refine lc_get dX10_possibleMoves_1 lc_fX10_30 h0_0 rfl ?_
  refine lc_aload_n dX10_possibleMoves_4 rfl 0 rfl ?_
  refine lc_get dX10_possibleMoves_5 lc_fX10_53 h0_0 rfl ?_
  refine lc_get dX10_possibleMoves_8 lc_fX10_81 h0_6 rfl ?_
  refine lc_aload_n dX10_possibleMoves_11 rfl 0 rfl ?_
  refine lc_get dX10_possibleMoves_12 lc_fX10_37 h0_0 rfl ?_
  refine lc_callV (As := [.ref (19), .ref (9)]) (stk := []) (b := 7) dX10_possibleMoves_15 lc_mX10_218 lc_yX6_listMoves h0_1 rfl (lc_cX6_listMoves l n (a1) (a2) (a3) (19) (f) (s) (q) (m) (9) (ug) (u1) (u2) σ h0_1 h0_2 h0_3 h0_4 h0_5 h0_7 h0_8 h0_9 h0_10 (hf) (by omega) (hs) (by omega) (by omega) (by omega)) rfl ⟨Nat.le_of_ble_eq_true rfl, Nat.le_of_ble_eq_true rfl⟩ ⟨Nat.le_of_ble_eq_true rfl, Nat.le_of_ble_eq_true rfl⟩ rfl (Nat.le_of_ble_eq_true rfl) (fun v10 n11 σ12 q13 => ?_)
  obtain ⟨c7, c8, c9, g6, rfl, rfl, h1, h2, h3, hl4, fr5⟩ := q13
  have h14 : σ12 (1) = some (.inr (10, [.ref (2), .ref (5), .ref (7), .ref (9), .ref (11), .ref (18), .ref (22), .ref (26), .ref (30), .ref (48), .int (lc_i (if bs = true then 1 else 0)), .int (lc_i (if bt = true then 1 else 0)), .int (lc_i (sn)), .int (lc_i (sr))]) : lc_Cel) := (fr5 _ (by omega) (by omega) (by omega)).trans h0_0
  have h15 : σ12 (7) = some (.inr (6, [.ref (2), .ref (8), .ref (5)]) : lc_Cel) := (fr5 _ (by omega) (by omega) (by omega)).trans h0_1
  have h16 : σ12 (2) = some (.inr (1, [.ref (3), .ref (4)]) : lc_Cel) := (fr5 _ (by omega) (by omega) (by omega)).trans h0_2
  have h17 : σ12 (3) = some (lc_aI 48 (lc_pt)) := (fr5 _ (by omega) (by omega) (by omega)).trans h0_3
  have h18 : σ12 (4) = some (lc_aI 72 (lc_sp)) := (fr5 _ (by omega) (by omega) (by omega)).trans h0_4
  have h19 : σ12 (18) = some (.inr (7, [.ref (19), .int (lc_i (mo)), .int (lc_i (ca)), .ref (21), .int (lc_i (ct))]) : lc_Cel) := (fr5 _ (by omega) (by omega) (by omega)).trans h0_6
  have h20 : σ12 (19) = some (.inr (0, [.ref (20), .int (lc_i (lc_cnt (f) 1 36)), .int (lc_i (lc_cnt (f) 2 36)), .int (lc_i (s)), .int (lc_i (q)), .int (lc_i (m))]) : lc_Cel) := (fr5 _ (by omega) (by omega) (by omega)).trans h0_7
  have h21 : σ12 (20) = some (lc_aI 36 (f)) := (fr5 _ (by omega) (by omega) (by omega)).trans h0_8
  refine lc_iload_n dX10_possibleMoves_18 rfl 1 rfl ?_
  refine lc_if_eqB (tgt := 32) dX10_possibleMoves_19 (by decide) (fun h_19_21 => ?_) (fun h_19_21 => ?_)
  · skip
    refine lc_aload_n dX10_possibleMoves_32 rfl 0 rfl ?_
    refine lc_get dX10_possibleMoves_33 lc_fX10_37 h14 rfl ?_
    refine lc_callV (As := []) (stk := []) (b := 9) dX10_possibleMoves_36 lc_mX10_222 lc_yX4_size h2 rfl (lc_cX4_size l n (9) (g6) (((lc_mv (f) (s) (q) (m)).length : Int)) (((lc_caps (f) (s) (q) (m)).length : Int)) σ12 h2) rfl ⟨Nat.le_of_ble_eq_true rfl, Nat.le_of_ble_eq_true rfl⟩ ⟨Nat.le_of_ble_eq_true rfl, Nat.le_of_ble_eq_true rfl⟩ rfl (Nat.le_of_ble_eq_true rfl) (fun v23 n24 σ25 q26 => ?_)
    obtain ⟨rfl, rfl, rfl⟩ := q26
    refine lc_aload_n dX10_possibleMoves_39 rfl 0 rfl ?_
    refine lc_get dX10_possibleMoves_40 lc_fX10_37 h14 rfl ?_
    refine lc_callV (As := []) (stk := [.int (lc_i (((lc_mv (f) (s) (q) (m)).length : Int)))]) (b := 9) dX10_possibleMoves_43 lc_mX10_248 lc_yX4_captures h2 rfl (lc_cX4_captures l n (9) (g6) (((lc_mv (f) (s) (q) (m)).length : Int)) (((lc_caps (f) (s) (q) (m)).length : Int)) σ12 h2) rfl ⟨Nat.le_of_ble_eq_true rfl, Nat.le_of_ble_eq_true rfl⟩ ⟨Nat.le_of_ble_eq_true rfl, Nat.le_of_ble_eq_true rfl⟩ rfl (Nat.le_of_ble_eq_true rfl) (fun v27 n28 σ29 q30 => ?_)
    obtain ⟨rfl, rfl, rfl⟩ := q30
    refine lc_isub dX10_possibleMoves_46 ?_
    exact lc_iret dX10_possibleMoves_47 rfl (Nat.le_of_ble_eq_true rfl) (Nat.le_of_ble_eq_true rfl) (hQ _ _ _ ⟨(c7), (c8), (c9), (((lc_mv (f) (s) (q) (m)).length : Int)), (((lc_caps (f) (s) (q) (m)).length : Int)), (g6), lc_some (by rw [if_neg h_19_21]), rfl, h1, h2, h3, (fun i _ _ _ => (fr5 i (by omega) (by omega) (by omega)))⟩)
  · skip
    refine lc_aload_n dX10_possibleMoves_22 rfl 0 rfl ?_
    refine lc_get dX10_possibleMoves_23 lc_fX10_37 h14 rfl ?_
    refine lc_callV (As := []) (stk := []) (b := 9) dX10_possibleMoves_26 lc_mX10_248 lc_yX4_captures h2 rfl (lc_cX4_captures l n (9) (g6) (((lc_mv (f) (s) (q) (m)).length : Int)) (((lc_caps (f) (s) (q) (m)).length : Int)) σ12 h2) rfl ⟨Nat.le_of_ble_eq_true rfl, Nat.le_of_ble_eq_true rfl⟩ ⟨Nat.le_of_ble_eq_true rfl, Nat.le_of_ble_eq_true rfl⟩ rfl (Nat.le_of_ble_eq_true rfl) (fun v31 n32 σ33 q34 => ?_)
    obtain ⟨rfl, rfl, rfl⟩ := q34
    refine lc_goto (tgt := 47) dX10_possibleMoves_29 (by decide) ?_
    exact lc_iret dX10_possibleMoves_47 rfl (Nat.le_of_ble_eq_true rfl) (Nat.le_of_ble_eq_true rfl) (hQ _ _ _ ⟨(c7), (c8), (c9), (((lc_mv (f) (s) (q) (m)).length : Int)), (((lc_caps (f) (s) (q) (m)).length : Int)), (g6), lc_some (by rw [if_pos h_19_21]), rfl, h1, h2, h3, (fun i _ _ _ => (fr5 i (by omega) (by omega) (by omega)))⟩)

def lc_cou (N : lc_St) (k : Nat) (z w : Int) : Int := if w = 0 then N.2.1 else if w = 1 then lc_cnt N.1 1 36 else if w = 2 then lc_cnt N.1 2 36 else if w = 3 then N.2.2.1 else if w = 4 then lc_res (lc_cnt N.1 1 36) (lc_cnt N.1 2 36) N.2.2.1 N.2.2.2.1 else if w = 5 then ((lc_caps N.1 N.2.1 N.2.2.1 N.2.2.2.1).length : Int) else if w = 6 then ((lc_mv N.1 N.2.1 N.2.2.1 N.2.2.2.1).length : Int) - ((lc_caps N.1 N.2.1 N.2.2.1 N.2.2.2.1).length : Int) else if w = 7 then N.2.2.2.2.1 else if w = 8 then N.2.2.2.2.2.1 else if w = 9 then lc_num (fun j : Int => decide (N.2.2.2.2.2.2.2 j = lc_key N.1 N.2.1 36)) N.2.2.2.2.2.2.1.toNat else if w = 10 then N.2.2.2.1 else if w = 11 then lc_num (fun j : Int => lc_thr N.1 N.2.1 j) 36 else if w = 12 then (k : Int) else if w = 13 then z else -102

def lc_cnts : lc_Ab → Int → lc_Ab × Int
  | (N, P, H, k, tx, z, bs, bt, sn, sr), w => ((N, P, H, k, tx, z, bs, bt, sn, sr), lc_cou N k z w)

set_option maxRecDepth 100000 in
set_option maxHeartbeats 600000 in
theorem lc_cX10_count (l : Launch) (n : Nat) (f : Int → Int) (s q m mo ca ct : Int) (po : Int → Int) (P : lc_St) (H : Nat → lc_St) (k : Nat) (tx : Int → Int) (z : Int) (bs bt : Bool) (sn sr : Int) (wv : Int) (σ : lc_S)  (hI : lc_CI σ ((f, s, q, m, mo, ca, ct, po), P, H, k, tx, z, bs, bt, sn, sr)) (hw : lc_wf ((f, s, q, m, mo, ca, ct, po), P, H, k, tx, z, bs, bt, sn, sr)) (hR_wv : -2147483648 ≤ wv ∧ wv < 2147483648) : lc_Con l yX10_count cX10_count 2 (some .int) (lc_Rd 7) [.ref (1), .int (lc_i (wv))] n σ (fun v n2 σ2 => v = some (.int (lc_i ((lc_cnts ((f, s, q, m, mo, ca, ct, po), P, H, k, tx, z, bs, bt, sn, sr) wv).2))) ∧ n = n2 ∧ lc_CI σ2 ((lc_cnts ((f, s, q, m, mo, ca, ct, po), P, H, k, tx, z, bs, bt, sn, sr) wv).1) ∧ ∀ i : Nat, 50 ≤ i ∨ i = 0 → σ2 i = σ i) := by
  obtain ⟨⟨hf9, hs9, hq9, hm9, hct9, hpo9, hkey9⟩, hwP, hwH, hk4, hz, htx⟩ := hw
  have hf : ∀ j : Int, 0 ≤ j → j < 36 → 0 ≤ f j ∧ f j ≤ 2 := hf9
  have hs : 1 ≤ s ∧ s ≤ 2 := hs9
  have hq : 0 ≤ q ∧ q ≤ 60 := hq9
  have hm : 4 ≤ m ∧ m ≤ 60 := hm9
  have hct : 1 ≤ ct ∧ ct ≤ 60 := hct9
  have hpo : ∀ i : Int, 0 ≤ i → i < ct → 0 ≤ po i ∧ po i < 450283905890997363 := hpo9
  have hkey : po (ct - 1) = lc_key f s 36 := hkey9
  have hpo4 : ∀ i : Int, 0 ≤ i → i < ct → 0 ≤ po i ∧ po i < 4611686018427387904 := fun i h1 h2 => ⟨(hpo i h1 h2).1, by have := (hpo i h1 h2).2; omega⟩
  obtain ⟨r, SN, BF, w, e1, e2, e3, u1, u2, ug, hc1, hc2, hc3, hc4, hc5, hc6, hc7, hc9, hc10, hLk, hN, hB, hS, hSN, hc30, hc31, hSl, hc48, hc49⟩ := hI
  have hb : 12 ≤ 19 := (by decide)
  obtain ⟨a1, a2, a3, ch, bf, d1, d2, d3, y1, y2, g1, x1, x2, g2, hk_8, hk_11, hk_12, hk_13, hk_14, hk_15, hk_16, hk_17⟩ := hLk
  obtain ⟨bF, bS, bQ, bM, bMO, bCA, bCT, bPO⟩ := BF
  obtain ⟨nF, nS, nQ, nM, nMO, nCA, nCT, nPO⟩ := SN
  obtain ⟨hN0, hN1, hN2, hN3⟩ := hN
  obtain ⟨hB0, hB1, hB2, hB3⟩ := hB
  obtain ⟨hS0, hS1, hS2, hS3⟩ := hS
  have hz_1 : σ (1) = some (.inr (10, [.ref (2), .ref (5), .ref (7), .ref (9), .ref (11), .ref (18), .ref (22), .ref (26), .ref (30), .ref (48), .int (lc_i (if bs = true then 1 else 0)), .int (lc_i (if bt = true then 1 else 0)), .int (lc_i (sn)), .int (lc_i (sr))]) : lc_Cel) := hc1
  have hz_2 : σ (2) = some (.inr (1, [.ref (3), .ref (4)]) : lc_Cel) := hc2
  have hz_3 : σ (3) = some (lc_aI 48 (lc_pt)) := hc3
  have hz_4 : σ (4) = some (lc_aI 72 (lc_sp)) := hc4
  have hz_5 : σ (5) = some (.inr (9, [.ref (2), .ref (6), .int (lc_i ((w).1)), .int (lc_i ((w).2.1)), .int (lc_i ((w).2.2.1)), .int (lc_i ((w).2.2.2))]) : lc_Cel) := hc5
  have hz_6 : σ (6) = some (.inr (8, [.ref (2), .int (lc_i (e1)), .int (lc_i (e2)), .int (lc_i (e3))]) : lc_Cel) := hc6
  have hz_7 : σ (7) = some (.inr (6, [.ref (2), .ref (8), .ref (5)]) : lc_Cel) := hc7
  have hz_9 : σ (9) = some (.inr (4, [.ref (10), .int (lc_i (u1)), .int (lc_i (u2))]) : lc_Cel) := hc9
  have hz_10 : σ (10) = some (lc_aI 364 (ug)) := hc10
  have hz_8 : σ (8) = some (.inr (8, [.ref (2), .int (lc_i (a1)), .int (lc_i (a2)), .int (lc_i (a3))]) : lc_Cel) := hk_8
  have hz_11 : σ (11) = some (.inr (3, [.ref (7), .ref (12), .ref (14), .ref (16), .int (lc_i (ch))]) : lc_Cel) := hk_11
  have hz_12 : σ (12) = some (.inr (0, [.ref (13), .int (lc_i (lc_cnt (bf) 1 36)), .int (lc_i (lc_cnt (bf) 2 36)), .int (lc_i (d1)), .int (lc_i (d2)), .int (lc_i (d3))]) : lc_Cel) := hk_12
  have hz_13 : σ (13) = some (lc_aI 36 (bf)) := hk_13
  have hz_14 : σ (14) = some (.inr (4, [.ref (15), .int (lc_i (y1)), .int (lc_i (y2))]) : lc_Cel) := hk_14
  have hz_15 : σ (15) = some (lc_aI 364 (g1)) := hk_15
  have hz_16 : σ (16) = some (.inr (4, [.ref (17), .int (lc_i (x1)), .int (lc_i (x2))]) : lc_Cel) := hk_16
  have hz_17 : σ (17) = some (lc_aI 364 (g2)) := hk_17
  have hz_30 : σ (30) = some (.inr (2, [.ref (31), .int (lc_i ((k : Int)))]) : lc_Cel) := hc30
  have hz_31 : σ (31) = some (lc_aS 4 (lc_h4 (r))) := hc31
  have hz_48 : σ (48) = some (.inr (5, [.ref (49), .int (lc_i (z))]) : lc_Cel) := hc48
  have hz_49 : σ (49) = some (lc_aC 80 (tx)) := hc49
  have hz_18 : σ (18) = some (.inr (7, [.ref (19), .int (lc_i (mo)), .int (lc_i (ca)), .ref (21), .int (lc_i (ct))]) : lc_Cel) := hN0
  have hz_19 : σ (19) = some (.inr (0, [.ref (20), .int (lc_i (lc_cnt (f) 1 36)), .int (lc_i (lc_cnt (f) 2 36)), .int (lc_i (s)), .int (lc_i (q)), .int (lc_i (m))]) : lc_Cel) := hN1
  have hz_20 : σ (20) = some (lc_aI 36 (f)) := hN2
  have hz_21 : σ (21) = some (lc_aJ 60 (fun i : Int => lc_j ((po) i))) := hN3
  have hz_22 : σ (22) = some (.inr (7, [.ref (23), .int (lc_i (bMO)), .int (lc_i (bCA)), .ref (25), .int (lc_i (bCT))]) : lc_Cel) := hB0
  have hz_23 : σ (23) = some (.inr (0, [.ref (24), .int (lc_i (lc_cnt (bF) 1 36)), .int (lc_i (lc_cnt (bF) 2 36)), .int (lc_i (bS)), .int (lc_i (bQ)), .int (lc_i (bM))]) : lc_Cel) := hB1
  have hz_24 : σ (24) = some (lc_aI 36 (bF)) := hB2
  have hz_25 : σ (25) = some (lc_aJ 60 (fun i : Int => lc_j ((bPO) i))) := hB3
  have hz_26 : σ (26) = some (.inr (7, [.ref (27), .int (lc_i (nMO)), .int (lc_i (nCA)), .ref (29), .int (lc_i (nCT))]) : lc_Cel) := hS0
  have hz_27 : σ (27) = some (.inr (0, [.ref (28), .int (lc_i (lc_cnt (nF) 1 36)), .int (lc_i (lc_cnt (nF) 2 36)), .int (lc_i (nS)), .int (lc_i (nQ)), .int (lc_i (nM))]) : lc_Cel) := hS1
  have hz_28 : σ (28) = some (lc_aI 36 (nF)) := hS2
  have hz_29 : σ (29) = some (lc_aJ 60 (fun i : Int => lc_j ((nPO) i))) := hS3
  refine lc_con RX10 false (by decide) rfl (fun h => absurd h (by decide)) (Nat.le_of_ble_eq_true rfl) ?_
  suffices H : ∀ Q : lc_QT, (∀ v n2 σ2, (fun v n2 σ2 => v = some (.int (lc_i ((lc_cnts ((f, s, q, m, mo, ca, ct, po), P, H, k, tx, z, bs, bt, sn, sr) wv).2))) ∧ n = n2 ∧ lc_CI σ2 ((lc_cnts ((f, s, q, m, mo, ca, ct, po), P, H, k, tx, z, bs, bt, sn, sr) wv).1) ∧ ∀ i : Nat, 50 ≤ i ∨ i = 0 → σ2 i = σ i : lc_QT) v n2 σ2 → Q v n2 σ2) → lc_V l RX10 cX10_count 2 (some .int) false (lc_Rd 7) (lc_G Q 0 0) lc_E0 0 0 n 0 [(0, .ref (1)), (1, .int (lc_i (wv)))] [] σ from H _ (fun _ _ _ h => h)
  intro Q hQ
  refine lc_iload_n dX10_count_0 rfl 1 rfl ?_
  rcases (show wv = 0 ∨ wv = 1 ∨ wv = 2 ∨ wv = 3 ∨ wv = 4 ∨ wv = 5 ∨ wv = 6 ∨ wv = 7 ∨ wv = 8 ∨ wv = 9 ∨ wv = 10 ∨ wv = 11 ∨ wv = 12 ∨ wv = 13 ∨ (wv < 0 ∨ 13 < wv) by omega) with h_1_0 | h_1_0 | h_1_0 | h_1_0 | h_1_0 | h_1_0 | h_1_0 | h_1_0 | h_1_0 | h_1_0 | h_1_0 | h_1_0 | h_1_0 | h_1_0 | h_1_0
  · refine lc_swC (v := 0) (tgt := 72) dX10_count_1 h_1_0 (by decide) rfl (by decide) ?_
    refine lc_aload_n dX10_count_72 rfl 0 rfl ?_
    refine lc_get dX10_count_73 lc_fX10_53 hz_1 rfl ?_
    refine lc_get dX10_count_76 lc_fX10_81 hz_18 rfl ?_
    refine lc_callV (As := []) (stk := []) (b := 19) dX10_count_79 lc_mX10_103 lc_yX0_sideToMove hz_19 rfl (lc_cX0_sideToMove l n (19) (f) (lc_cnt (f) 1 36) (lc_cnt (f) 2 36) (s) (q) (m) σ hz_19) rfl ⟨Nat.le_of_ble_eq_true rfl, Nat.le_of_ble_eq_true rfl⟩ ⟨Nat.le_of_ble_eq_true rfl, Nat.le_of_ble_eq_true rfl⟩ rfl (Nat.le_of_ble_eq_true rfl) (fun v2 n3 σ4 q5 => ?_)
    obtain ⟨rfl, rfl, rfl⟩ := q5
    exact lc_iret dX10_count_82 rfl (Nat.le_of_ble_eq_true rfl) (Nat.le_of_ble_eq_true rfl) (hQ _ _ _ (by rw [lc_cnts, lc_cou, if_pos (show wv = 0 from by omega)]; exact ⟨rfl, rfl, lc_CI_mk (BF := (bF, bS, bQ, bM, bMO, bCA, bCT, bPO)) (SN := (nF, nS, nQ, nM, nMO, nCA, nCT, nPO)) hz_1 hz_2 hz_3 hz_4 hz_5 hz_6 hz_7 hz_9 hz_10 (lc_Lk_mk hz_8 hz_11 hz_12 hz_13 hz_14 hz_15 hz_16 hz_17) ⟨hz_18, hz_19, hz_20, hz_21⟩ ⟨hz_22, hz_23, hz_24, hz_25⟩ ⟨hz_26, hz_27, hz_28, hz_29⟩ (hSN) hz_30 hz_31 (lc_Sl_fr hSl (fun i _ _ => rfl)) hz_48 hz_49, fun i _ => rfl⟩))
  · refine lc_swC (v := 1) (tgt := 83) dX10_count_1 h_1_0 (by decide) rfl (by decide) ?_
    refine lc_aload_n dX10_count_83 rfl 0 rfl ?_
    refine lc_get dX10_count_84 lc_fX10_53 hz_1 rfl ?_
    refine lc_get dX10_count_87 lc_fX10_81 hz_18 rfl ?_
    refine lc_iload_n dX10_count_90 rfl 1 rfl ?_
    refine lc_callV (As := [.int (lc_i (wv))]) (stk := []) (b := 19) dX10_count_91 lc_mX10_106 lc_yX0_piecesOf hz_19 rfl (lc_cX0_piecesOf l n (19) (f) (lc_cnt (f) 1 36) (lc_cnt (f) 2 36) (s) (q) (m) (wv) σ hz_19 (by omega)) rfl ⟨Nat.le_of_ble_eq_true rfl, Nat.le_of_ble_eq_true rfl⟩ ⟨Nat.le_of_ble_eq_true rfl, Nat.le_of_ble_eq_true rfl⟩ rfl (Nat.le_of_ble_eq_true rfl) (fun v6 n7 σ8 q9 => ?_)
    obtain ⟨rfl, rfl, rfl⟩ := q9
    exact lc_iret dX10_count_94 rfl (Nat.le_of_ble_eq_true rfl) (Nat.le_of_ble_eq_true rfl) (hQ _ _ _ (by rw [lc_cnts, lc_cou, if_neg (show ¬ wv = 0 from by omega), if_pos (show wv = 1 from by omega)]; exact ⟨lc_some (if_pos (show wv = 1 from by omega)), rfl, lc_CI_mk (BF := (bF, bS, bQ, bM, bMO, bCA, bCT, bPO)) (SN := (nF, nS, nQ, nM, nMO, nCA, nCT, nPO)) hz_1 hz_2 hz_3 hz_4 hz_5 hz_6 hz_7 hz_9 hz_10 (lc_Lk_mk hz_8 hz_11 hz_12 hz_13 hz_14 hz_15 hz_16 hz_17) ⟨hz_18, hz_19, hz_20, hz_21⟩ ⟨hz_22, hz_23, hz_24, hz_25⟩ ⟨hz_26, hz_27, hz_28, hz_29⟩ (hSN) hz_30 hz_31 (lc_Sl_fr hSl (fun i _ _ => rfl)) hz_48 hz_49, fun i _ => rfl⟩))
  · refine lc_swC (v := 2) (tgt := 83) dX10_count_1 h_1_0 (by decide) rfl (by decide) ?_
    refine lc_aload_n dX10_count_83 rfl 0 rfl ?_
    refine lc_get dX10_count_84 lc_fX10_53 hz_1 rfl ?_
    refine lc_get dX10_count_87 lc_fX10_81 hz_18 rfl ?_
    refine lc_iload_n dX10_count_90 rfl 1 rfl ?_
    refine lc_callV (As := [.int (lc_i (wv))]) (stk := []) (b := 19) dX10_count_91 lc_mX10_106 lc_yX0_piecesOf hz_19 rfl (lc_cX0_piecesOf l n (19) (f) (lc_cnt (f) 1 36) (lc_cnt (f) 2 36) (s) (q) (m) (wv) σ hz_19 (by omega)) rfl ⟨Nat.le_of_ble_eq_true rfl, Nat.le_of_ble_eq_true rfl⟩ ⟨Nat.le_of_ble_eq_true rfl, Nat.le_of_ble_eq_true rfl⟩ rfl (Nat.le_of_ble_eq_true rfl) (fun v10 n11 σ12 q13 => ?_)
    obtain ⟨rfl, rfl, rfl⟩ := q13
    exact lc_iret dX10_count_94 rfl (Nat.le_of_ble_eq_true rfl) (Nat.le_of_ble_eq_true rfl) (hQ _ _ _ (by rw [lc_cnts, lc_cou, if_neg (show ¬ wv = 0 from by omega), if_neg (show ¬ wv = 1 from by omega), if_pos (show wv = 2 from by omega)]; exact ⟨lc_some (if_neg (show ¬ wv = 1 from by omega)), rfl, lc_CI_mk (BF := (bF, bS, bQ, bM, bMO, bCA, bCT, bPO)) (SN := (nF, nS, nQ, nM, nMO, nCA, nCT, nPO)) hz_1 hz_2 hz_3 hz_4 hz_5 hz_6 hz_7 hz_9 hz_10 (lc_Lk_mk hz_8 hz_11 hz_12 hz_13 hz_14 hz_15 hz_16 hz_17) ⟨hz_18, hz_19, hz_20, hz_21⟩ ⟨hz_22, hz_23, hz_24, hz_25⟩ ⟨hz_26, hz_27, hz_28, hz_29⟩ (hSN) hz_30 hz_31 (lc_Sl_fr hSl (fun i _ _ => rfl)) hz_48 hz_49, fun i _ => rfl⟩))
  · refine lc_swC (v := 3) (tgt := 95) dX10_count_1 h_1_0 (by decide) rfl (by decide) ?_
    refine lc_aload_n dX10_count_95 rfl 0 rfl ?_
    refine lc_get dX10_count_96 lc_fX10_53 hz_1 rfl ?_
    refine lc_get dX10_count_99 lc_fX10_81 hz_18 rfl ?_
    refine lc_callV (As := []) (stk := []) (b := 19) dX10_count_102 lc_mX10_97 lc_yX0_quietMoves hz_19 rfl (lc_cX0_quietMoves l n (19) (f) (lc_cnt (f) 1 36) (lc_cnt (f) 2 36) (s) (q) (m) σ hz_19) rfl ⟨Nat.le_of_ble_eq_true rfl, Nat.le_of_ble_eq_true rfl⟩ ⟨Nat.le_of_ble_eq_true rfl, Nat.le_of_ble_eq_true rfl⟩ rfl (Nat.le_of_ble_eq_true rfl) (fun v14 n15 σ16 q17 => ?_)
    obtain ⟨rfl, rfl, rfl⟩ := q17
    exact lc_iret dX10_count_105 rfl (Nat.le_of_ble_eq_true rfl) (Nat.le_of_ble_eq_true rfl) (hQ _ _ _ (by rw [lc_cnts, lc_cou, if_neg (show ¬ wv = 0 from by omega), if_neg (show ¬ wv = 1 from by omega), if_neg (show ¬ wv = 2 from by omega), if_pos (show wv = 3 from by omega)]; exact ⟨rfl, rfl, lc_CI_mk (BF := (bF, bS, bQ, bM, bMO, bCA, bCT, bPO)) (SN := (nF, nS, nQ, nM, nMO, nCA, nCT, nPO)) hz_1 hz_2 hz_3 hz_4 hz_5 hz_6 hz_7 hz_9 hz_10 (lc_Lk_mk hz_8 hz_11 hz_12 hz_13 hz_14 hz_15 hz_16 hz_17) ⟨hz_18, hz_19, hz_20, hz_21⟩ ⟨hz_22, hz_23, hz_24, hz_25⟩ ⟨hz_26, hz_27, hz_28, hz_29⟩ (hSN) hz_30 hz_31 (lc_Sl_fr hSl (fun i _ _ => rfl)) hz_48 hz_49, fun i _ => rfl⟩))
  · refine lc_swC (v := 4) (tgt := 106) dX10_count_1 h_1_0 (by decide) rfl (by decide) ?_
    refine lc_aload_n dX10_count_106 rfl 0 rfl ?_
    refine lc_get dX10_count_107 lc_fX10_53 hz_1 rfl ?_
    refine lc_get dX10_count_110 lc_fX10_81 hz_18 rfl ?_
    refine lc_callV (As := []) (stk := []) (b := 19) dX10_count_113 lc_mX10_229 lc_yX0_result hz_19 rfl (lc_cX0_result l n (19) (f) (lc_cnt (f) 1 36) (lc_cnt (f) 2 36) (s) (q) (m) σ hz_19 (lc_cnt_r _ _ 36) (lc_cnt_r _ _ 36) (by omega) (by omega)) rfl ⟨Nat.le_of_ble_eq_true rfl, Nat.le_of_ble_eq_true rfl⟩ ⟨Nat.le_of_ble_eq_true rfl, Nat.le_of_ble_eq_true rfl⟩ rfl (Nat.le_of_ble_eq_true rfl) (fun v18 n19 σ20 q21 => ?_)
    obtain ⟨rfl, rfl, rfl⟩ := q21
    exact lc_iret dX10_count_116 rfl (Nat.le_of_ble_eq_true rfl) (Nat.le_of_ble_eq_true rfl) (hQ _ _ _ (by rw [lc_cnts, lc_cou, if_neg (show ¬ wv = 0 from by omega), if_neg (show ¬ wv = 1 from by omega), if_neg (show ¬ wv = 2 from by omega), if_neg (show ¬ wv = 3 from by omega), if_pos (show wv = 4 from by omega)]; exact ⟨rfl, rfl, lc_CI_mk (BF := (bF, bS, bQ, bM, bMO, bCA, bCT, bPO)) (SN := (nF, nS, nQ, nM, nMO, nCA, nCT, nPO)) hz_1 hz_2 hz_3 hz_4 hz_5 hz_6 hz_7 hz_9 hz_10 (lc_Lk_mk hz_8 hz_11 hz_12 hz_13 hz_14 hz_15 hz_16 hz_17) ⟨hz_18, hz_19, hz_20, hz_21⟩ ⟨hz_22, hz_23, hz_24, hz_25⟩ ⟨hz_26, hz_27, hz_28, hz_29⟩ (hSN) hz_30 hz_31 (lc_Sl_fr hSl (fun i _ _ => rfl)) hz_48 hz_49, fun i _ => rfl⟩))
  · refine lc_swC (v := 5) (tgt := 117) dX10_count_1 h_1_0 (by decide) rfl (by decide) ?_
    refine lc_aload_n dX10_count_117 rfl 0 rfl ?_
    refine lc_iconst dX10_count_118 ?_
    refine lc_callV (As := [.int (lc_i (1))]) (stk := []) (b := 1) dX10_count_119 lc_mX10_232 lc_yX10_possibleMoves hz_1 rfl (lc_cX10_possibleMoves l n (bs) (bt) (sn) (sr) (a1) (a2) (a3) (f) (s) (q) (m) (mo) (ca) (ct) (u1) (u2) (ug) (true) σ hz_1 hz_7 hz_2 hz_3 hz_4 hz_8 hz_18 hz_19 hz_20 hz_9 hz_10 hf hs hq hm) rfl ⟨Nat.le_of_ble_eq_true rfl, Nat.le_of_ble_eq_true rfl⟩ ⟨Nat.le_of_ble_eq_true rfl, Nat.le_of_ble_eq_true rfl⟩ rfl (Nat.le_of_ble_eq_true rfl) (fun v32 n33 σ34 q35 => ?_)
    obtain ⟨c22, c23, c24, z25, z26, g27, rfl, rfl, h29, h30, h31, fr28⟩ := q35
    have h36 : σ34 (1) = some (.inr (10, [.ref (2), .ref (5), .ref (7), .ref (9), .ref (11), .ref (18), .ref (22), .ref (26), .ref (30), .ref (48), .int (lc_i (if bs = true then 1 else 0)), .int (lc_i (if bt = true then 1 else 0)), .int (lc_i (sn)), .int (lc_i (sr))]) : lc_Cel) := (fr28 _ (by omega) (by omega) (by omega)).trans hz_1
    have h37 : σ34 (2) = some (.inr (1, [.ref (3), .ref (4)]) : lc_Cel) := (fr28 _ (by omega) (by omega) (by omega)).trans hz_2
    have h38 : σ34 (3) = some (lc_aI 48 (lc_pt)) := (fr28 _ (by omega) (by omega) (by omega)).trans hz_3
    have h39 : σ34 (4) = some (lc_aI 72 (lc_sp)) := (fr28 _ (by omega) (by omega) (by omega)).trans hz_4
    have h40 : σ34 (5) = some (.inr (9, [.ref (2), .ref (6), .int (lc_i ((w).1)), .int (lc_i ((w).2.1)), .int (lc_i ((w).2.2.1)), .int (lc_i ((w).2.2.2))]) : lc_Cel) := (fr28 _ (by omega) (by omega) (by omega)).trans hz_5
    have h41 : σ34 (6) = some (.inr (8, [.ref (2), .int (lc_i (e1)), .int (lc_i (e2)), .int (lc_i (e3))]) : lc_Cel) := (fr28 _ (by omega) (by omega) (by omega)).trans hz_6
    have h42 : σ34 (7) = some (.inr (6, [.ref (2), .ref (8), .ref (5)]) : lc_Cel) := (fr28 _ (by omega) (by omega) (by omega)).trans hz_7
    have h43 : σ34 (11) = some (.inr (3, [.ref (7), .ref (12), .ref (14), .ref (16), .int (lc_i (ch))]) : lc_Cel) := (fr28 _ (by omega) (by omega) (by omega)).trans hz_11
    have h44 : σ34 (12) = some (.inr (0, [.ref (13), .int (lc_i (lc_cnt (bf) 1 36)), .int (lc_i (lc_cnt (bf) 2 36)), .int (lc_i (d1)), .int (lc_i (d2)), .int (lc_i (d3))]) : lc_Cel) := (fr28 _ (by omega) (by omega) (by omega)).trans hz_12
    have h45 : σ34 (13) = some (lc_aI 36 (bf)) := (fr28 _ (by omega) (by omega) (by omega)).trans hz_13
    have h46 : σ34 (14) = some (.inr (4, [.ref (15), .int (lc_i (y1)), .int (lc_i (y2))]) : lc_Cel) := (fr28 _ (by omega) (by omega) (by omega)).trans hz_14
    have h47 : σ34 (15) = some (lc_aI 364 (g1)) := (fr28 _ (by omega) (by omega) (by omega)).trans hz_15
    have h48 : σ34 (16) = some (.inr (4, [.ref (17), .int (lc_i (x1)), .int (lc_i (x2))]) : lc_Cel) := (fr28 _ (by omega) (by omega) (by omega)).trans hz_16
    have h49 : σ34 (17) = some (lc_aI 364 (g2)) := (fr28 _ (by omega) (by omega) (by omega)).trans hz_17
    have h50 : σ34 (30) = some (.inr (2, [.ref (31), .int (lc_i ((k : Int)))]) : lc_Cel) := (fr28 _ (by omega) (by omega) (by omega)).trans hz_30
    have h51 : σ34 (31) = some (lc_aS 4 (lc_h4 (r))) := (fr28 _ (by omega) (by omega) (by omega)).trans hz_31
    have h52 : σ34 (48) = some (.inr (5, [.ref (49), .int (lc_i (z))]) : lc_Cel) := (fr28 _ (by omega) (by omega) (by omega)).trans hz_48
    have h53 : σ34 (49) = some (lc_aC 80 (tx)) := (fr28 _ (by omega) (by omega) (by omega)).trans hz_49
    have h54 : σ34 (18) = some (.inr (7, [.ref (19), .int (lc_i (mo)), .int (lc_i (ca)), .ref (21), .int (lc_i (ct))]) : lc_Cel) := (fr28 _ (by omega) (by omega) (by omega)).trans hz_18
    have h55 : σ34 (19) = some (.inr (0, [.ref (20), .int (lc_i (lc_cnt (f) 1 36)), .int (lc_i (lc_cnt (f) 2 36)), .int (lc_i (s)), .int (lc_i (q)), .int (lc_i (m))]) : lc_Cel) := (fr28 _ (by omega) (by omega) (by omega)).trans hz_19
    have h56 : σ34 (20) = some (lc_aI 36 (f)) := (fr28 _ (by omega) (by omega) (by omega)).trans hz_20
    have h57 : σ34 (21) = some (lc_aJ 60 (fun i : Int => lc_j ((po) i))) := (fr28 _ (by omega) (by omega) (by omega)).trans hz_21
    have h58 : σ34 (22) = some (.inr (7, [.ref (23), .int (lc_i (bMO)), .int (lc_i (bCA)), .ref (25), .int (lc_i (bCT))]) : lc_Cel) := (fr28 _ (by omega) (by omega) (by omega)).trans hz_22
    have h59 : σ34 (23) = some (.inr (0, [.ref (24), .int (lc_i (lc_cnt (bF) 1 36)), .int (lc_i (lc_cnt (bF) 2 36)), .int (lc_i (bS)), .int (lc_i (bQ)), .int (lc_i (bM))]) : lc_Cel) := (fr28 _ (by omega) (by omega) (by omega)).trans hz_23
    have h60 : σ34 (24) = some (lc_aI 36 (bF)) := (fr28 _ (by omega) (by omega) (by omega)).trans hz_24
    have h61 : σ34 (25) = some (lc_aJ 60 (fun i : Int => lc_j ((bPO) i))) := (fr28 _ (by omega) (by omega) (by omega)).trans hz_25
    have h62 : σ34 (26) = some (.inr (7, [.ref (27), .int (lc_i (nMO)), .int (lc_i (nCA)), .ref (29), .int (lc_i (nCT))]) : lc_Cel) := (fr28 _ (by omega) (by omega) (by omega)).trans hz_26
    have h63 : σ34 (27) = some (.inr (0, [.ref (28), .int (lc_i (lc_cnt (nF) 1 36)), .int (lc_i (lc_cnt (nF) 2 36)), .int (lc_i (nS)), .int (lc_i (nQ)), .int (lc_i (nM))]) : lc_Cel) := (fr28 _ (by omega) (by omega) (by omega)).trans hz_27
    have h64 : σ34 (28) = some (lc_aI 36 (nF)) := (fr28 _ (by omega) (by omega) (by omega)).trans hz_28
    have h65 : σ34 (29) = some (lc_aJ 60 (fun i : Int => lc_j ((nPO) i))) := (fr28 _ (by omega) (by omega) (by omega)).trans hz_29
    exact lc_iret dX10_count_122 rfl (Nat.le_of_ble_eq_true rfl) (Nat.le_of_ble_eq_true rfl) (hQ _ _ _ (by rw [lc_cnts, lc_cou, if_neg (show ¬ wv = 0 from by omega), if_neg (show ¬ wv = 1 from by omega), if_neg (show ¬ wv = 2 from by omega), if_neg (show ¬ wv = 3 from by omega), if_neg (show ¬ wv = 4 from by omega), if_pos (show wv = 5 from by omega)]; exact ⟨rfl, rfl, lc_CI_mk (BF := (bF, bS, bQ, bM, bMO, bCA, bCT, bPO)) (SN := (nF, nS, nQ, nM, nMO, nCA, nCT, nPO)) h36 h37 h38 h39 h40 h41 h42 h30 h31 (lc_Lk_mk h29 h43 h44 h45 h46 h47 h48 h49) ⟨h54, h55, h56, h57⟩ ⟨h58, h59, h60, h61⟩ ⟨h62, h63, h64, h65⟩ (hSN) h50 h51 (lc_Sl_fr hSl (fun i _ _ => (fr28 i (by omega) (by omega) (by omega)))) h52 h53, fun i _ => (fr28 i (by omega) (by omega) (by omega))⟩))
  · refine lc_swC (v := 6) (tgt := 123) dX10_count_1 h_1_0 (by decide) rfl (by decide) ?_
    refine lc_aload_n dX10_count_123 rfl 0 rfl ?_
    refine lc_iconst dX10_count_124 ?_
    refine lc_callV (As := [.int (lc_i (0))]) (stk := []) (b := 1) dX10_count_125 lc_mX10_232 lc_yX10_possibleMoves hz_1 rfl (lc_cX10_possibleMoves l n (bs) (bt) (sn) (sr) (a1) (a2) (a3) (f) (s) (q) (m) (mo) (ca) (ct) (u1) (u2) (ug) (false) σ hz_1 hz_7 hz_2 hz_3 hz_4 hz_8 hz_18 hz_19 hz_20 hz_9 hz_10 hf hs hq hm) rfl ⟨Nat.le_of_ble_eq_true rfl, Nat.le_of_ble_eq_true rfl⟩ ⟨Nat.le_of_ble_eq_true rfl, Nat.le_of_ble_eq_true rfl⟩ rfl (Nat.le_of_ble_eq_true rfl) (fun v76 n77 σ78 q79 => ?_)
    obtain ⟨c66, c67, c68, z69, z70, g71, rfl, rfl, h73, h74, h75, fr72⟩ := q79
    have h80 : σ78 (1) = some (.inr (10, [.ref (2), .ref (5), .ref (7), .ref (9), .ref (11), .ref (18), .ref (22), .ref (26), .ref (30), .ref (48), .int (lc_i (if bs = true then 1 else 0)), .int (lc_i (if bt = true then 1 else 0)), .int (lc_i (sn)), .int (lc_i (sr))]) : lc_Cel) := (fr72 _ (by omega) (by omega) (by omega)).trans hz_1
    have h81 : σ78 (2) = some (.inr (1, [.ref (3), .ref (4)]) : lc_Cel) := (fr72 _ (by omega) (by omega) (by omega)).trans hz_2
    have h82 : σ78 (3) = some (lc_aI 48 (lc_pt)) := (fr72 _ (by omega) (by omega) (by omega)).trans hz_3
    have h83 : σ78 (4) = some (lc_aI 72 (lc_sp)) := (fr72 _ (by omega) (by omega) (by omega)).trans hz_4
    have h84 : σ78 (5) = some (.inr (9, [.ref (2), .ref (6), .int (lc_i ((w).1)), .int (lc_i ((w).2.1)), .int (lc_i ((w).2.2.1)), .int (lc_i ((w).2.2.2))]) : lc_Cel) := (fr72 _ (by omega) (by omega) (by omega)).trans hz_5
    have h85 : σ78 (6) = some (.inr (8, [.ref (2), .int (lc_i (e1)), .int (lc_i (e2)), .int (lc_i (e3))]) : lc_Cel) := (fr72 _ (by omega) (by omega) (by omega)).trans hz_6
    have h86 : σ78 (7) = some (.inr (6, [.ref (2), .ref (8), .ref (5)]) : lc_Cel) := (fr72 _ (by omega) (by omega) (by omega)).trans hz_7
    have h87 : σ78 (11) = some (.inr (3, [.ref (7), .ref (12), .ref (14), .ref (16), .int (lc_i (ch))]) : lc_Cel) := (fr72 _ (by omega) (by omega) (by omega)).trans hz_11
    have h88 : σ78 (12) = some (.inr (0, [.ref (13), .int (lc_i (lc_cnt (bf) 1 36)), .int (lc_i (lc_cnt (bf) 2 36)), .int (lc_i (d1)), .int (lc_i (d2)), .int (lc_i (d3))]) : lc_Cel) := (fr72 _ (by omega) (by omega) (by omega)).trans hz_12
    have h89 : σ78 (13) = some (lc_aI 36 (bf)) := (fr72 _ (by omega) (by omega) (by omega)).trans hz_13
    have h90 : σ78 (14) = some (.inr (4, [.ref (15), .int (lc_i (y1)), .int (lc_i (y2))]) : lc_Cel) := (fr72 _ (by omega) (by omega) (by omega)).trans hz_14
    have h91 : σ78 (15) = some (lc_aI 364 (g1)) := (fr72 _ (by omega) (by omega) (by omega)).trans hz_15
    have h92 : σ78 (16) = some (.inr (4, [.ref (17), .int (lc_i (x1)), .int (lc_i (x2))]) : lc_Cel) := (fr72 _ (by omega) (by omega) (by omega)).trans hz_16
    have h93 : σ78 (17) = some (lc_aI 364 (g2)) := (fr72 _ (by omega) (by omega) (by omega)).trans hz_17
    have h94 : σ78 (30) = some (.inr (2, [.ref (31), .int (lc_i ((k : Int)))]) : lc_Cel) := (fr72 _ (by omega) (by omega) (by omega)).trans hz_30
    have h95 : σ78 (31) = some (lc_aS 4 (lc_h4 (r))) := (fr72 _ (by omega) (by omega) (by omega)).trans hz_31
    have h96 : σ78 (48) = some (.inr (5, [.ref (49), .int (lc_i (z))]) : lc_Cel) := (fr72 _ (by omega) (by omega) (by omega)).trans hz_48
    have h97 : σ78 (49) = some (lc_aC 80 (tx)) := (fr72 _ (by omega) (by omega) (by omega)).trans hz_49
    have h98 : σ78 (18) = some (.inr (7, [.ref (19), .int (lc_i (mo)), .int (lc_i (ca)), .ref (21), .int (lc_i (ct))]) : lc_Cel) := (fr72 _ (by omega) (by omega) (by omega)).trans hz_18
    have h99 : σ78 (19) = some (.inr (0, [.ref (20), .int (lc_i (lc_cnt (f) 1 36)), .int (lc_i (lc_cnt (f) 2 36)), .int (lc_i (s)), .int (lc_i (q)), .int (lc_i (m))]) : lc_Cel) := (fr72 _ (by omega) (by omega) (by omega)).trans hz_19
    have h100 : σ78 (20) = some (lc_aI 36 (f)) := (fr72 _ (by omega) (by omega) (by omega)).trans hz_20
    have h101 : σ78 (21) = some (lc_aJ 60 (fun i : Int => lc_j ((po) i))) := (fr72 _ (by omega) (by omega) (by omega)).trans hz_21
    have h102 : σ78 (22) = some (.inr (7, [.ref (23), .int (lc_i (bMO)), .int (lc_i (bCA)), .ref (25), .int (lc_i (bCT))]) : lc_Cel) := (fr72 _ (by omega) (by omega) (by omega)).trans hz_22
    have h103 : σ78 (23) = some (.inr (0, [.ref (24), .int (lc_i (lc_cnt (bF) 1 36)), .int (lc_i (lc_cnt (bF) 2 36)), .int (lc_i (bS)), .int (lc_i (bQ)), .int (lc_i (bM))]) : lc_Cel) := (fr72 _ (by omega) (by omega) (by omega)).trans hz_23
    have h104 : σ78 (24) = some (lc_aI 36 (bF)) := (fr72 _ (by omega) (by omega) (by omega)).trans hz_24
    have h105 : σ78 (25) = some (lc_aJ 60 (fun i : Int => lc_j ((bPO) i))) := (fr72 _ (by omega) (by omega) (by omega)).trans hz_25
    have h106 : σ78 (26) = some (.inr (7, [.ref (27), .int (lc_i (nMO)), .int (lc_i (nCA)), .ref (29), .int (lc_i (nCT))]) : lc_Cel) := (fr72 _ (by omega) (by omega) (by omega)).trans hz_26
    have h107 : σ78 (27) = some (.inr (0, [.ref (28), .int (lc_i (lc_cnt (nF) 1 36)), .int (lc_i (lc_cnt (nF) 2 36)), .int (lc_i (nS)), .int (lc_i (nQ)), .int (lc_i (nM))]) : lc_Cel) := (fr72 _ (by omega) (by omega) (by omega)).trans hz_27
    have h108 : σ78 (28) = some (lc_aI 36 (nF)) := (fr72 _ (by omega) (by omega) (by omega)).trans hz_28
    have h109 : σ78 (29) = some (lc_aJ 60 (fun i : Int => lc_j ((nPO) i))) := (fr72 _ (by omega) (by omega) (by omega)).trans hz_29
    exact lc_iret dX10_count_128 rfl (Nat.le_of_ble_eq_true rfl) (Nat.le_of_ble_eq_true rfl) (hQ _ _ _ (by rw [lc_cnts, lc_cou, if_neg (show ¬ wv = 0 from by omega), if_neg (show ¬ wv = 1 from by omega), if_neg (show ¬ wv = 2 from by omega), if_neg (show ¬ wv = 3 from by omega), if_neg (show ¬ wv = 4 from by omega), if_neg (show ¬ wv = 5 from by omega), if_pos (show wv = 6 from by omega)]; exact ⟨rfl, rfl, lc_CI_mk (BF := (bF, bS, bQ, bM, bMO, bCA, bCT, bPO)) (SN := (nF, nS, nQ, nM, nMO, nCA, nCT, nPO)) h80 h81 h82 h83 h84 h85 h86 h74 h75 (lc_Lk_mk h73 h87 h88 h89 h90 h91 h92 h93) ⟨h98, h99, h100, h101⟩ ⟨h102, h103, h104, h105⟩ ⟨h106, h107, h108, h109⟩ (hSN) h94 h95 (lc_Sl_fr hSl (fun i _ _ => (fr72 i (by omega) (by omega) (by omega)))) h96 h97, fun i _ => (fr72 i (by omega) (by omega) (by omega))⟩))
  · refine lc_swC (v := 7) (tgt := 129) dX10_count_1 h_1_0 (by decide) rfl (by decide) ?_
    refine lc_aload_n dX10_count_129 rfl 0 rfl ?_
    refine lc_get dX10_count_130 lc_fX10_53 hz_1 rfl ?_
    refine lc_get dX10_count_133 lc_fX10_236 hz_18 rfl ?_
    exact lc_iret dX10_count_136 rfl (Nat.le_of_ble_eq_true rfl) (Nat.le_of_ble_eq_true rfl) (hQ _ _ _ (by rw [lc_cnts, lc_cou, if_neg (show ¬ wv = 0 from by omega), if_neg (show ¬ wv = 1 from by omega), if_neg (show ¬ wv = 2 from by omega), if_neg (show ¬ wv = 3 from by omega), if_neg (show ¬ wv = 4 from by omega), if_neg (show ¬ wv = 5 from by omega), if_neg (show ¬ wv = 6 from by omega), if_pos (show wv = 7 from by omega)]; exact ⟨rfl, rfl, lc_CI_mk (BF := (bF, bS, bQ, bM, bMO, bCA, bCT, bPO)) (SN := (nF, nS, nQ, nM, nMO, nCA, nCT, nPO)) hz_1 hz_2 hz_3 hz_4 hz_5 hz_6 hz_7 hz_9 hz_10 (lc_Lk_mk hz_8 hz_11 hz_12 hz_13 hz_14 hz_15 hz_16 hz_17) ⟨hz_18, hz_19, hz_20, hz_21⟩ ⟨hz_22, hz_23, hz_24, hz_25⟩ ⟨hz_26, hz_27, hz_28, hz_29⟩ (hSN) hz_30 hz_31 (lc_Sl_fr hSl (fun i _ _ => rfl)) hz_48 hz_49, fun i _ => rfl⟩))
  · refine lc_swC (v := 8) (tgt := 137) dX10_count_1 h_1_0 (by decide) rfl (by decide) ?_
    refine lc_aload_n dX10_count_137 rfl 0 rfl ?_
    refine lc_get dX10_count_138 lc_fX10_53 hz_1 rfl ?_
    refine lc_get dX10_count_141 lc_fX10_238 hz_18 rfl ?_
    exact lc_iret dX10_count_144 rfl (Nat.le_of_ble_eq_true rfl) (Nat.le_of_ble_eq_true rfl) (hQ _ _ _ (by rw [lc_cnts, lc_cou, if_neg (show ¬ wv = 0 from by omega), if_neg (show ¬ wv = 1 from by omega), if_neg (show ¬ wv = 2 from by omega), if_neg (show ¬ wv = 3 from by omega), if_neg (show ¬ wv = 4 from by omega), if_neg (show ¬ wv = 5 from by omega), if_neg (show ¬ wv = 6 from by omega), if_neg (show ¬ wv = 7 from by omega), if_pos (show wv = 8 from by omega)]; exact ⟨rfl, rfl, lc_CI_mk (BF := (bF, bS, bQ, bM, bMO, bCA, bCT, bPO)) (SN := (nF, nS, nQ, nM, nMO, nCA, nCT, nPO)) hz_1 hz_2 hz_3 hz_4 hz_5 hz_6 hz_7 hz_9 hz_10 (lc_Lk_mk hz_8 hz_11 hz_12 hz_13 hz_14 hz_15 hz_16 hz_17) ⟨hz_18, hz_19, hz_20, hz_21⟩ ⟨hz_22, hz_23, hz_24, hz_25⟩ ⟨hz_26, hz_27, hz_28, hz_29⟩ (hSN) hz_30 hz_31 (lc_Sl_fr hSl (fun i _ _ => rfl)) hz_48 hz_49, fun i _ => rfl⟩))
  · refine lc_swC (v := 9) (tgt := 145) dX10_count_1 h_1_0 (by decide) rfl (by decide) ?_
    refine lc_aload_n dX10_count_145 rfl 0 rfl ?_
    refine lc_get dX10_count_146 lc_fX10_53 hz_1 rfl ?_
    refine lc_callV (As := []) (stk := []) (b := 18) dX10_count_149 lc_mX10_241 lc_yX7_timesSeen hz_18 rfl (lc_cX7_timesSeen l n (18) (f) (s) (q) (m) (mo) (ca) (ct) (po) σ hz_18 hz_19 hz_20 hz_21 (hf) (hs) (by omega) (hpo4)) rfl ⟨Nat.le_of_ble_eq_true rfl, Nat.le_of_ble_eq_true rfl⟩ ⟨Nat.le_of_ble_eq_true rfl, Nat.le_of_ble_eq_true rfl⟩ rfl (Nat.le_of_ble_eq_true rfl) (fun v110 n111 σ112 q113 => ?_)
    obtain ⟨rfl, rfl, rfl⟩ := q113
    exact lc_iret dX10_count_152 rfl (Nat.le_of_ble_eq_true rfl) (Nat.le_of_ble_eq_true rfl) (hQ _ _ _ (by rw [lc_cnts, lc_cou, if_neg (show ¬ wv = 0 from by omega), if_neg (show ¬ wv = 1 from by omega), if_neg (show ¬ wv = 2 from by omega), if_neg (show ¬ wv = 3 from by omega), if_neg (show ¬ wv = 4 from by omega), if_neg (show ¬ wv = 5 from by omega), if_neg (show ¬ wv = 6 from by omega), if_neg (show ¬ wv = 7 from by omega), if_neg (show ¬ wv = 8 from by omega), if_pos (show wv = 9 from by omega)]; exact ⟨rfl, rfl, lc_CI_mk (BF := (bF, bS, bQ, bM, bMO, bCA, bCT, bPO)) (SN := (nF, nS, nQ, nM, nMO, nCA, nCT, nPO)) hz_1 hz_2 hz_3 hz_4 hz_5 hz_6 hz_7 hz_9 hz_10 (lc_Lk_mk hz_8 hz_11 hz_12 hz_13 hz_14 hz_15 hz_16 hz_17) ⟨hz_18, hz_19, hz_20, hz_21⟩ ⟨hz_22, hz_23, hz_24, hz_25⟩ ⟨hz_26, hz_27, hz_28, hz_29⟩ (hSN) hz_30 hz_31 (lc_Sl_fr hSl (fun i _ _ => rfl)) hz_48 hz_49, fun i _ => rfl⟩))
  · refine lc_swC (v := 10) (tgt := 153) dX10_count_1 h_1_0 (by decide) rfl (by decide) ?_
    refine lc_aload_n dX10_count_153 rfl 0 rfl ?_
    refine lc_get dX10_count_154 lc_fX10_53 hz_1 rfl ?_
    refine lc_get dX10_count_157 lc_fX10_81 hz_18 rfl ?_
    refine lc_callV (As := []) (stk := []) (b := 19) dX10_count_160 lc_mX10_129 lc_yX0_limit hz_19 rfl (lc_cX0_limit l n (19) (f) (lc_cnt (f) 1 36) (lc_cnt (f) 2 36) (s) (q) (m) σ hz_19) rfl ⟨Nat.le_of_ble_eq_true rfl, Nat.le_of_ble_eq_true rfl⟩ ⟨Nat.le_of_ble_eq_true rfl, Nat.le_of_ble_eq_true rfl⟩ rfl (Nat.le_of_ble_eq_true rfl) (fun v114 n115 σ116 q117 => ?_)
    obtain ⟨rfl, rfl, rfl⟩ := q117
    exact lc_iret dX10_count_163 rfl (Nat.le_of_ble_eq_true rfl) (Nat.le_of_ble_eq_true rfl) (hQ _ _ _ (by rw [lc_cnts, lc_cou, if_neg (show ¬ wv = 0 from by omega), if_neg (show ¬ wv = 1 from by omega), if_neg (show ¬ wv = 2 from by omega), if_neg (show ¬ wv = 3 from by omega), if_neg (show ¬ wv = 4 from by omega), if_neg (show ¬ wv = 5 from by omega), if_neg (show ¬ wv = 6 from by omega), if_neg (show ¬ wv = 7 from by omega), if_neg (show ¬ wv = 8 from by omega), if_neg (show ¬ wv = 9 from by omega), if_pos (show wv = 10 from by omega)]; exact ⟨rfl, rfl, lc_CI_mk (BF := (bF, bS, bQ, bM, bMO, bCA, bCT, bPO)) (SN := (nF, nS, nQ, nM, nMO, nCA, nCT, nPO)) hz_1 hz_2 hz_3 hz_4 hz_5 hz_6 hz_7 hz_9 hz_10 (lc_Lk_mk hz_8 hz_11 hz_12 hz_13 hz_14 hz_15 hz_16 hz_17) ⟨hz_18, hz_19, hz_20, hz_21⟩ ⟨hz_22, hz_23, hz_24, hz_25⟩ ⟨hz_26, hz_27, hz_28, hz_29⟩ (hSN) hz_30 hz_31 (lc_Sl_fr hSl (fun i _ _ => rfl)) hz_48 hz_49, fun i _ => rfl⟩))
  · refine lc_swC (v := 11) (tgt := 164) dX10_count_1 h_1_0 (by decide) rfl (by decide) ?_
    refine lc_aload_n dX10_count_164 rfl 0 rfl ?_
    refine lc_get dX10_count_165 lc_fX10_30 hz_1 rfl ?_
    refine lc_aload_n dX10_count_168 rfl 0 rfl ?_
    refine lc_get dX10_count_169 lc_fX10_53 hz_1 rfl ?_
    refine lc_get dX10_count_172 lc_fX10_81 hz_18 rfl ?_
    refine lc_callV (As := [.ref (19)]) (stk := []) (b := 7) dX10_count_175 lc_mX10_244 lc_yX6_threatened hz_7 rfl (lc_cX6_threatened l n (e1) (e2) (e3) (w) (19) (f) (lc_cnt (f) 1 36) (lc_cnt (f) 2 36) (s) (q) (m) σ hz_7 hz_5 hz_6 hz_2 hz_3 hz_4 hz_19 hz_20 (hf) (hb) (hs)) rfl ⟨Nat.le_of_ble_eq_true rfl, Nat.le_of_ble_eq_true rfl⟩ ⟨Nat.le_of_ble_eq_true rfl, Nat.le_of_ble_eq_true rfl⟩ rfl (Nat.le_of_ble_eq_true rfl) (fun v125 n126 σ127 q128 => ?_)
    obtain ⟨wk121, c122, c123, c124, rfl, rfl, h119, h120, fr118⟩ := q128
    have h129 : σ127 (1) = some (.inr (10, [.ref (2), .ref (5), .ref (7), .ref (9), .ref (11), .ref (18), .ref (22), .ref (26), .ref (30), .ref (48), .int (lc_i (if bs = true then 1 else 0)), .int (lc_i (if bt = true then 1 else 0)), .int (lc_i (sn)), .int (lc_i (sr))]) : lc_Cel) := (fr118 _ (by omega) (by omega)).trans hz_1
    have h130 : σ127 (2) = some (.inr (1, [.ref (3), .ref (4)]) : lc_Cel) := (fr118 _ (by omega) (by omega)).trans hz_2
    have h131 : σ127 (3) = some (lc_aI 48 (lc_pt)) := (fr118 _ (by omega) (by omega)).trans hz_3
    have h132 : σ127 (4) = some (lc_aI 72 (lc_sp)) := (fr118 _ (by omega) (by omega)).trans hz_4
    have h133 : σ127 (7) = some (.inr (6, [.ref (2), .ref (8), .ref (5)]) : lc_Cel) := (fr118 _ (by omega) (by omega)).trans hz_7
    have h134 : σ127 (9) = some (.inr (4, [.ref (10), .int (lc_i (u1)), .int (lc_i (u2))]) : lc_Cel) := (fr118 _ (by omega) (by omega)).trans hz_9
    have h135 : σ127 (10) = some (lc_aI 364 (ug)) := (fr118 _ (by omega) (by omega)).trans hz_10
    have h136 : σ127 (8) = some (.inr (8, [.ref (2), .int (lc_i (a1)), .int (lc_i (a2)), .int (lc_i (a3))]) : lc_Cel) := (fr118 _ (by omega) (by omega)).trans hz_8
    have h137 : σ127 (11) = some (.inr (3, [.ref (7), .ref (12), .ref (14), .ref (16), .int (lc_i (ch))]) : lc_Cel) := (fr118 _ (by omega) (by omega)).trans hz_11
    have h138 : σ127 (12) = some (.inr (0, [.ref (13), .int (lc_i (lc_cnt (bf) 1 36)), .int (lc_i (lc_cnt (bf) 2 36)), .int (lc_i (d1)), .int (lc_i (d2)), .int (lc_i (d3))]) : lc_Cel) := (fr118 _ (by omega) (by omega)).trans hz_12
    have h139 : σ127 (13) = some (lc_aI 36 (bf)) := (fr118 _ (by omega) (by omega)).trans hz_13
    have h140 : σ127 (14) = some (.inr (4, [.ref (15), .int (lc_i (y1)), .int (lc_i (y2))]) : lc_Cel) := (fr118 _ (by omega) (by omega)).trans hz_14
    have h141 : σ127 (15) = some (lc_aI 364 (g1)) := (fr118 _ (by omega) (by omega)).trans hz_15
    have h142 : σ127 (16) = some (.inr (4, [.ref (17), .int (lc_i (x1)), .int (lc_i (x2))]) : lc_Cel) := (fr118 _ (by omega) (by omega)).trans hz_16
    have h143 : σ127 (17) = some (lc_aI 364 (g2)) := (fr118 _ (by omega) (by omega)).trans hz_17
    have h144 : σ127 (30) = some (.inr (2, [.ref (31), .int (lc_i ((k : Int)))]) : lc_Cel) := (fr118 _ (by omega) (by omega)).trans hz_30
    have h145 : σ127 (31) = some (lc_aS 4 (lc_h4 (r))) := (fr118 _ (by omega) (by omega)).trans hz_31
    have h146 : σ127 (48) = some (.inr (5, [.ref (49), .int (lc_i (z))]) : lc_Cel) := (fr118 _ (by omega) (by omega)).trans hz_48
    have h147 : σ127 (49) = some (lc_aC 80 (tx)) := (fr118 _ (by omega) (by omega)).trans hz_49
    have h148 : σ127 (18) = some (.inr (7, [.ref (19), .int (lc_i (mo)), .int (lc_i (ca)), .ref (21), .int (lc_i (ct))]) : lc_Cel) := (fr118 _ (by omega) (by omega)).trans hz_18
    have h149 : σ127 (19) = some (.inr (0, [.ref (20), .int (lc_i (lc_cnt (f) 1 36)), .int (lc_i (lc_cnt (f) 2 36)), .int (lc_i (s)), .int (lc_i (q)), .int (lc_i (m))]) : lc_Cel) := (fr118 _ (by omega) (by omega)).trans hz_19
    have h150 : σ127 (20) = some (lc_aI 36 (f)) := (fr118 _ (by omega) (by omega)).trans hz_20
    have h151 : σ127 (21) = some (lc_aJ 60 (fun i : Int => lc_j ((po) i))) := (fr118 _ (by omega) (by omega)).trans hz_21
    have h152 : σ127 (22) = some (.inr (7, [.ref (23), .int (lc_i (bMO)), .int (lc_i (bCA)), .ref (25), .int (lc_i (bCT))]) : lc_Cel) := (fr118 _ (by omega) (by omega)).trans hz_22
    have h153 : σ127 (23) = some (.inr (0, [.ref (24), .int (lc_i (lc_cnt (bF) 1 36)), .int (lc_i (lc_cnt (bF) 2 36)), .int (lc_i (bS)), .int (lc_i (bQ)), .int (lc_i (bM))]) : lc_Cel) := (fr118 _ (by omega) (by omega)).trans hz_23
    have h154 : σ127 (24) = some (lc_aI 36 (bF)) := (fr118 _ (by omega) (by omega)).trans hz_24
    have h155 : σ127 (25) = some (lc_aJ 60 (fun i : Int => lc_j ((bPO) i))) := (fr118 _ (by omega) (by omega)).trans hz_25
    have h156 : σ127 (26) = some (.inr (7, [.ref (27), .int (lc_i (nMO)), .int (lc_i (nCA)), .ref (29), .int (lc_i (nCT))]) : lc_Cel) := (fr118 _ (by omega) (by omega)).trans hz_26
    have h157 : σ127 (27) = some (.inr (0, [.ref (28), .int (lc_i (lc_cnt (nF) 1 36)), .int (lc_i (lc_cnt (nF) 2 36)), .int (lc_i (nS)), .int (lc_i (nQ)), .int (lc_i (nM))]) : lc_Cel) := (fr118 _ (by omega) (by omega)).trans hz_27
    have h158 : σ127 (28) = some (lc_aI 36 (nF)) := (fr118 _ (by omega) (by omega)).trans hz_28
    have h159 : σ127 (29) = some (lc_aJ 60 (fun i : Int => lc_j ((nPO) i))) := (fr118 _ (by omega) (by omega)).trans hz_29
    exact lc_iret dX10_count_178 rfl (Nat.le_of_ble_eq_true rfl) (Nat.le_of_ble_eq_true rfl) (hQ _ _ _ (by rw [lc_cnts, lc_cou, if_neg (show ¬ wv = 0 from by omega), if_neg (show ¬ wv = 1 from by omega), if_neg (show ¬ wv = 2 from by omega), if_neg (show ¬ wv = 3 from by omega), if_neg (show ¬ wv = 4 from by omega), if_neg (show ¬ wv = 5 from by omega), if_neg (show ¬ wv = 6 from by omega), if_neg (show ¬ wv = 7 from by omega), if_neg (show ¬ wv = 8 from by omega), if_neg (show ¬ wv = 9 from by omega), if_neg (show ¬ wv = 10 from by omega), if_pos (show wv = 11 from by omega)]; exact ⟨rfl, rfl, lc_CI_mk (BF := (bF, bS, bQ, bM, bMO, bCA, bCT, bPO)) (SN := (nF, nS, nQ, nM, nMO, nCA, nCT, nPO)) h129 h130 h131 h132 h119 h120 h133 h134 h135 (lc_Lk_mk h136 h137 h138 h139 h140 h141 h142 h143) ⟨h148, h149, h150, h151⟩ ⟨h152, h153, h154, h155⟩ ⟨h156, h157, h158, h159⟩ (hSN) h144 h145 (lc_Sl_fr hSl (fun i _ _ => (fr118 i (by omega) (by omega)))) h146 h147, fun i _ => (fr118 i (by omega) (by omega))⟩))
  · refine lc_swC (v := 12) (tgt := 179) dX10_count_1 h_1_0 (by decide) rfl (by decide) ?_
    refine lc_aload_n dX10_count_179 rfl 0 rfl ?_
    refine lc_get dX10_count_180 lc_fX10_66 hz_1 rfl ?_
    refine lc_callV (As := []) (stk := []) (b := 30) dX10_count_183 lc_mX10_178 lc_yX2_size hz_30 rfl (lc_cX2_size l n ((k : Int)) σ hz_30) rfl ⟨Nat.le_of_ble_eq_true rfl, Nat.le_of_ble_eq_true rfl⟩ ⟨Nat.le_of_ble_eq_true rfl, Nat.le_of_ble_eq_true rfl⟩ rfl (Nat.le_of_ble_eq_true rfl) (fun v160 n161 σ162 q163 => ?_)
    obtain ⟨rfl, rfl, rfl⟩ := q163
    exact lc_iret dX10_count_186 rfl (Nat.le_of_ble_eq_true rfl) (Nat.le_of_ble_eq_true rfl) (hQ _ _ _ (by rw [lc_cnts, lc_cou, if_neg (show ¬ wv = 0 from by omega), if_neg (show ¬ wv = 1 from by omega), if_neg (show ¬ wv = 2 from by omega), if_neg (show ¬ wv = 3 from by omega), if_neg (show ¬ wv = 4 from by omega), if_neg (show ¬ wv = 5 from by omega), if_neg (show ¬ wv = 6 from by omega), if_neg (show ¬ wv = 7 from by omega), if_neg (show ¬ wv = 8 from by omega), if_neg (show ¬ wv = 9 from by omega), if_neg (show ¬ wv = 10 from by omega), if_neg (show ¬ wv = 11 from by omega), if_pos (show wv = 12 from by omega)]; exact ⟨rfl, rfl, lc_CI_mk (BF := (bF, bS, bQ, bM, bMO, bCA, bCT, bPO)) (SN := (nF, nS, nQ, nM, nMO, nCA, nCT, nPO)) hz_1 hz_2 hz_3 hz_4 hz_5 hz_6 hz_7 hz_9 hz_10 (lc_Lk_mk hz_8 hz_11 hz_12 hz_13 hz_14 hz_15 hz_16 hz_17) ⟨hz_18, hz_19, hz_20, hz_21⟩ ⟨hz_22, hz_23, hz_24, hz_25⟩ ⟨hz_26, hz_27, hz_28, hz_29⟩ (hSN) hz_30 hz_31 (lc_Sl_fr hSl (fun i _ _ => rfl)) hz_48 hz_49, fun i _ => rfl⟩))
  · refine lc_swC (v := 13) (tgt := 187) dX10_count_1 h_1_0 (by decide) rfl (by decide) ?_
    refine lc_aload_n dX10_count_187 rfl 0 rfl ?_
    refine lc_get dX10_count_188 lc_fX10_73 hz_1 rfl ?_
    refine lc_callV (As := []) (stk := []) (b := 48) dX10_count_191 lc_mX10_140 lc_yX5_length hz_48 rfl (lc_cX5_length l n (tx) (z) σ hz_48) rfl ⟨Nat.le_of_ble_eq_true rfl, Nat.le_of_ble_eq_true rfl⟩ ⟨Nat.le_of_ble_eq_true rfl, Nat.le_of_ble_eq_true rfl⟩ rfl (Nat.le_of_ble_eq_true rfl) (fun v164 n165 σ166 q167 => ?_)
    obtain ⟨rfl, rfl, rfl⟩ := q167
    exact lc_iret dX10_count_194 rfl (Nat.le_of_ble_eq_true rfl) (Nat.le_of_ble_eq_true rfl) (hQ _ _ _ (by rw [lc_cnts, lc_cou, if_neg (show ¬ wv = 0 from by omega), if_neg (show ¬ wv = 1 from by omega), if_neg (show ¬ wv = 2 from by omega), if_neg (show ¬ wv = 3 from by omega), if_neg (show ¬ wv = 4 from by omega), if_neg (show ¬ wv = 5 from by omega), if_neg (show ¬ wv = 6 from by omega), if_neg (show ¬ wv = 7 from by omega), if_neg (show ¬ wv = 8 from by omega), if_neg (show ¬ wv = 9 from by omega), if_neg (show ¬ wv = 10 from by omega), if_neg (show ¬ wv = 11 from by omega), if_neg (show ¬ wv = 12 from by omega), if_pos (show wv = 13 from by omega)]; exact ⟨rfl, rfl, lc_CI_mk (BF := (bF, bS, bQ, bM, bMO, bCA, bCT, bPO)) (SN := (nF, nS, nQ, nM, nMO, nCA, nCT, nPO)) hz_1 hz_2 hz_3 hz_4 hz_5 hz_6 hz_7 hz_9 hz_10 (lc_Lk_mk hz_8 hz_11 hz_12 hz_13 hz_14 hz_15 hz_16 hz_17) ⟨hz_18, hz_19, hz_20, hz_21⟩ ⟨hz_22, hz_23, hz_24, hz_25⟩ ⟨hz_26, hz_27, hz_28, hz_29⟩ (hSN) hz_30 hz_31 (lc_Sl_fr hSl (fun i _ _ => rfl)) hz_48 hz_49, fun i _ => rfl⟩))
  · refine lc_swD (tgt := 195) dX10_count_1 (by omega) h_1_0 (by decide) ?_
    refine lc_bipush dX10_count_195 (by decide) ?_
    exact lc_iret dX10_count_197 rfl (Nat.le_of_ble_eq_true rfl) (Nat.le_of_ble_eq_true rfl) (hQ _ _ _ (by rw [lc_cnts, lc_cou, if_neg (show ¬ wv = 0 from by omega), if_neg (show ¬ wv = 1 from by omega), if_neg (show ¬ wv = 2 from by omega), if_neg (show ¬ wv = 3 from by omega), if_neg (show ¬ wv = 4 from by omega), if_neg (show ¬ wv = 5 from by omega), if_neg (show ¬ wv = 6 from by omega), if_neg (show ¬ wv = 7 from by omega), if_neg (show ¬ wv = 8 from by omega), if_neg (show ¬ wv = 9 from by omega), if_neg (show ¬ wv = 10 from by omega), if_neg (show ¬ wv = 11 from by omega), if_neg (show ¬ wv = 12 from by omega), if_neg (show ¬ wv = 13 from by omega)]; exact ⟨rfl, rfl, lc_CI_mk (BF := (bF, bS, bQ, bM, bMO, bCA, bCT, bPO)) (SN := (nF, nS, nQ, nM, nMO, nCA, nCT, nPO)) hz_1 hz_2 hz_3 hz_4 hz_5 hz_6 hz_7 hz_9 hz_10 (lc_Lk_mk hz_8 hz_11 hz_12 hz_13 hz_14 hz_15 hz_16 hz_17) ⟨hz_18, hz_19, hz_20, hz_21⟩ ⟨hz_22, hz_23, hz_24, hz_25⟩ ⟨hz_26, hz_27, hz_28, hz_29⟩ (hSN) hz_30 hz_31 (lc_Sl_fr hSl (fun i _ _ => rfl)) hz_48 hz_49, fun i _ => rfl⟩))

def lc_perf : lc_Ab → lc_Ab × Int
  | (N, P, H, k, tx, z, bs, bt, sn, sr) => if 0 ≤ lc_fault tx z then ((N, P, H, k, tx, z, bs, bt, sn, sr), -200 - lc_fault tx z) else if 0 ≤ (lc_pr tx ((z + 1) / 6).toNat 0 N).2.1 then ((N, P, H, k, tx, z, bs, true, (lc_pr tx ((z + 1) / 6).toNat 0 N).2.1, (lc_pr tx ((z + 1) / 6).toNat 0 N).2.2), -104) else (((lc_pr tx ((z + 1) / 6).toNat 0 N).1, P, lc_pu H k N, lc_hk k, tx, z, bs, bt, sn, sr), (z + 1) / 6)

set_option maxRecDepth 100000 in
set_option maxHeartbeats 600000 in
theorem lc_cX10_perform (l : Launch) (n : Nat) (f : Int → Int) (s q m mo ca ct : Int) (po : Int → Int) (P : lc_St) (H : Nat → lc_St) (k : Nat) (tx : Int → Int) (z : Int) (bs bt : Bool) (sn sr : Int) (σ : lc_S)  (hI : lc_CI σ ((f, s, q, m, mo, ca, ct, po), P, H, k, tx, z, bs, bt, sn, sr)) (hw : lc_wf ((f, s, q, m, mo, ca, ct, po), P, H, k, tx, z, bs, bt, sn, sr)) : lc_Con l yX10_perform cX10_perform 7 (some .int) (lc_Rd 6) [.ref (1)] n σ (fun v n2 σ2 => v = some (.int (lc_i ((lc_perf ((f, s, q, m, mo, ca, ct, po), P, H, k, tx, z, bs, bt, sn, sr)).2))) ∧ n = n2 ∧ lc_CI σ2 ((lc_perf ((f, s, q, m, mo, ca, ct, po), P, H, k, tx, z, bs, bt, sn, sr)).1) ∧ ∀ i : Nat, 50 ≤ i ∨ i = 0 → σ2 i = σ i) := by
  obtain ⟨⟨hf9, hs9, hq9, hm9, hct9, hpo9, hkey9⟩, hwP, hwH, hk4, hz, htx⟩ := hw
  have hf : ∀ j : Int, 0 ≤ j → j < 36 → 0 ≤ f j ∧ f j ≤ 2 := hf9
  have hs : 1 ≤ s ∧ s ≤ 2 := hs9
  have hq : 0 ≤ q ∧ q ≤ 60 := hq9
  have hm : 4 ≤ m ∧ m ≤ 60 := hm9
  have hct : 1 ≤ ct ∧ ct ≤ 60 := hct9
  have hpo : ∀ i : Int, 0 ≤ i → i < ct → 0 ≤ po i ∧ po i < 450283905890997363 := hpo9
  have hkey : po (ct - 1) = lc_key f s 36 := hkey9
  have hpo4 : ∀ i : Int, 0 ≤ i → i < ct → 0 ≤ po i ∧ po i < 4611686018427387904 := fun i h1 h2 => ⟨(hpo i h1 h2).1, by have := (hpo i h1 h2).2; omega⟩
  obtain ⟨r, SN, BF, w, e1, e2, e3, u1, u2, ug, hc1, hc2, hc3, hc4, hc5, hc6, hc7, hc9, hc10, hLk, hN, hB, hS, hSN, hc30, hc31, hSl, hc48, hc49⟩ := hI
  have hb : 12 ≤ 19 := (by decide)
  obtain ⟨a1, a2, a3, ch, bf, d1, d2, d3, y1, y2, g1, x1, x2, g2, hk_8, hk_11, hk_12, hk_13, hk_14, hk_15, hk_16, hk_17⟩ := hLk
  obtain ⟨bF, bS, bQ, bM, bMO, bCA, bCT, bPO⟩ := BF
  obtain ⟨nF, nS, nQ, nM, nMO, nCA, nCT, nPO⟩ := SN
  obtain ⟨hN0, hN1, hN2, hN3⟩ := hN
  obtain ⟨hB0, hB1, hB2, hB3⟩ := hB
  obtain ⟨hS0, hS1, hS2, hS3⟩ := hS
  have hz_1 : σ (1) = some (.inr (10, [.ref (2), .ref (5), .ref (7), .ref (9), .ref (11), .ref (18), .ref (22), .ref (26), .ref (30), .ref (48), .int (lc_i (if bs = true then 1 else 0)), .int (lc_i (if bt = true then 1 else 0)), .int (lc_i (sn)), .int (lc_i (sr))]) : lc_Cel) := hc1
  have hz_2 : σ (2) = some (.inr (1, [.ref (3), .ref (4)]) : lc_Cel) := hc2
  have hz_3 : σ (3) = some (lc_aI 48 (lc_pt)) := hc3
  have hz_4 : σ (4) = some (lc_aI 72 (lc_sp)) := hc4
  have hz_5 : σ (5) = some (.inr (9, [.ref (2), .ref (6), .int (lc_i ((w).1)), .int (lc_i ((w).2.1)), .int (lc_i ((w).2.2.1)), .int (lc_i ((w).2.2.2))]) : lc_Cel) := hc5
  have hz_6 : σ (6) = some (.inr (8, [.ref (2), .int (lc_i (e1)), .int (lc_i (e2)), .int (lc_i (e3))]) : lc_Cel) := hc6
  have hz_7 : σ (7) = some (.inr (6, [.ref (2), .ref (8), .ref (5)]) : lc_Cel) := hc7
  have hz_9 : σ (9) = some (.inr (4, [.ref (10), .int (lc_i (u1)), .int (lc_i (u2))]) : lc_Cel) := hc9
  have hz_10 : σ (10) = some (lc_aI 364 (ug)) := hc10
  have hz_8 : σ (8) = some (.inr (8, [.ref (2), .int (lc_i (a1)), .int (lc_i (a2)), .int (lc_i (a3))]) : lc_Cel) := hk_8
  have hz_11 : σ (11) = some (.inr (3, [.ref (7), .ref (12), .ref (14), .ref (16), .int (lc_i (ch))]) : lc_Cel) := hk_11
  have hz_12 : σ (12) = some (.inr (0, [.ref (13), .int (lc_i (lc_cnt (bf) 1 36)), .int (lc_i (lc_cnt (bf) 2 36)), .int (lc_i (d1)), .int (lc_i (d2)), .int (lc_i (d3))]) : lc_Cel) := hk_12
  have hz_13 : σ (13) = some (lc_aI 36 (bf)) := hk_13
  have hz_14 : σ (14) = some (.inr (4, [.ref (15), .int (lc_i (y1)), .int (lc_i (y2))]) : lc_Cel) := hk_14
  have hz_15 : σ (15) = some (lc_aI 364 (g1)) := hk_15
  have hz_16 : σ (16) = some (.inr (4, [.ref (17), .int (lc_i (x1)), .int (lc_i (x2))]) : lc_Cel) := hk_16
  have hz_17 : σ (17) = some (lc_aI 364 (g2)) := hk_17
  have hz_30 : σ (30) = some (.inr (2, [.ref (31), .int (lc_i ((k : Int)))]) : lc_Cel) := hc30
  have hz_31 : σ (31) = some (lc_aS 4 (lc_h4 (r))) := hc31
  have hz_48 : σ (48) = some (.inr (5, [.ref (49), .int (lc_i (z))]) : lc_Cel) := hc48
  have hz_49 : σ (49) = some (lc_aC 80 (tx)) := hc49
  have hz_18 : σ (18) = some (.inr (7, [.ref (19), .int (lc_i (mo)), .int (lc_i (ca)), .ref (21), .int (lc_i (ct))]) : lc_Cel) := hN0
  have hz_19 : σ (19) = some (.inr (0, [.ref (20), .int (lc_i (lc_cnt (f) 1 36)), .int (lc_i (lc_cnt (f) 2 36)), .int (lc_i (s)), .int (lc_i (q)), .int (lc_i (m))]) : lc_Cel) := hN1
  have hz_20 : σ (20) = some (lc_aI 36 (f)) := hN2
  have hz_21 : σ (21) = some (lc_aJ 60 (fun i : Int => lc_j ((po) i))) := hN3
  have hz_22 : σ (22) = some (.inr (7, [.ref (23), .int (lc_i (bMO)), .int (lc_i (bCA)), .ref (25), .int (lc_i (bCT))]) : lc_Cel) := hB0
  have hz_23 : σ (23) = some (.inr (0, [.ref (24), .int (lc_i (lc_cnt (bF) 1 36)), .int (lc_i (lc_cnt (bF) 2 36)), .int (lc_i (bS)), .int (lc_i (bQ)), .int (lc_i (bM))]) : lc_Cel) := hB1
  have hz_24 : σ (24) = some (lc_aI 36 (bF)) := hB2
  have hz_25 : σ (25) = some (lc_aJ 60 (fun i : Int => lc_j ((bPO) i))) := hB3
  have hz_26 : σ (26) = some (.inr (7, [.ref (27), .int (lc_i (nMO)), .int (lc_i (nCA)), .ref (29), .int (lc_i (nCT))]) : lc_Cel) := hS0
  have hz_27 : σ (27) = some (.inr (0, [.ref (28), .int (lc_i (lc_cnt (nF) 1 36)), .int (lc_i (lc_cnt (nF) 2 36)), .int (lc_i (nS)), .int (lc_i (nQ)), .int (lc_i (nM))]) : lc_Cel) := hS1
  have hz_28 : σ (28) = some (lc_aI 36 (nF)) := hS2
  have hz_29 : σ (29) = some (lc_aJ 60 (fun i : Int => lc_j ((nPO) i))) := hS3
  obtain ⟨t, ht⟩ : ∃ t : Nat, t = 32 + 4 * ((r + k) % 4) := ⟨_, rfl⟩
  obtain ⟨⟨f3, s3, q3, m3, mo3, ca3, ct3, po3⟩, hT0, hT1, hT2, hT3⟩ := lc_Sl_at hSl ht
  have hz_t : σ (t) = some (.inr (7, [.ref (t + 1), .int (lc_i (mo3)), .int (lc_i (ca3)), .ref (t + 3), .int (lc_i (ct3))]) : lc_Cel) := hT0
  have hz_t_1 : σ (t + 1) = some (.inr (0, [.ref (t + 2), .int (lc_i (lc_cnt (f3) 1 36)), .int (lc_i (lc_cnt (f3) 2 36)), .int (lc_i (s3)), .int (lc_i (q3)), .int (lc_i (m3))]) : lc_Cel) := hT1
  have hz_t_2 : σ (t + 2) = some (lc_aI 36 (f3)) := hT2
  have hz_t_3 : σ (t + 3) = some (lc_aJ 60 (fun i : Int => lc_j ((po3) i))) := hT3
  refine lc_con RX10 false (by decide) rfl (fun h => absurd h (by decide)) (Nat.le_of_ble_eq_true rfl) ?_
  suffices H : ∀ Q : lc_QT, (∀ v n2 σ2, (fun v n2 σ2 => v = some (.int (lc_i ((lc_perf ((f, s, q, m, mo, ca, ct, po), P, H, k, tx, z, bs, bt, sn, sr)).2))) ∧ n = n2 ∧ lc_CI σ2 ((lc_perf ((f, s, q, m, mo, ca, ct, po), P, H, k, tx, z, bs, bt, sn, sr)).1) ∧ ∀ i : Nat, 50 ≤ i ∨ i = 0 → σ2 i = σ i : lc_QT) v n2 σ2 → Q v n2 σ2) → lc_V l RX10 cX10_perform 7 (some .int) false (lc_Rd 6) (lc_G Q 0 0) lc_E0 0 0 n 0 [(0, .ref (1))] [] σ from H _ (fun _ _ _ h => h)
  intro Q hQ
  refine lc_aload_n dX10_perform_0 rfl 0 rfl ?_
  refine lc_get dX10_perform_1 lc_fX10_73 hz_1 rfl ?_
  refine lc_callV (As := []) (stk := []) (b := 48) dX10_perform_4 lc_mX10_146 lc_yX5_fault hz_48 rfl (lc_cX5_fault l n (tx) (z) σ hz_48 hz_49 (hz) (htx)) rfl ⟨Nat.le_of_ble_eq_true rfl, Nat.le_of_ble_eq_true rfl⟩ ⟨Nat.le_of_ble_eq_true rfl, Nat.le_of_ble_eq_true rfl⟩ rfl (Nat.le_of_ble_eq_true rfl) (fun v1 n2 σ3 q4 => ?_)
  obtain ⟨rfl, rfl, rfl⟩ := q4
  refine lc_istore_n (lv' := [(0, .ref (1)), (1, .int (lc_i (lc_fault (tx) (z))))]) dX10_perform_7 rfl (by decide) rfl ?_
  have hfr := lc_fault_r (tx := tx) hz.1
  refine lc_iload_n dX10_perform_8 rfl 1 rfl ?_
  refine lc_if_lt (tgt := 18) dX10_perform_9 (by decide) (by omega) (fun h_9_4 => ?_) (fun h_9_4 => ?_)
  · skip
    have hfa := lc_fault_n hz.1 (by omega)
    refine lc_aload_n dX10_perform_18 rfl 0 rfl ?_
    refine lc_get dX10_perform_19 lc_fX10_57 hz_1 rfl ?_
    refine lc_aload_n dX10_perform_22 rfl 0 rfl ?_
    refine lc_get dX10_perform_23 lc_fX10_53 hz_1 rfl ?_
    refine lc_callV (As := [.ref (18)]) (stk := []) (b := 22) dX10_perform_26 lc_mX10_149 lc_yX7_copyFrom hz_22 rfl (lc_cX7_copyFrom l n (22) (bF) (bS) (bQ) (bM) (bMO) (bCA) (bCT) (bPO) (18) (f) (s) (q) (m) (mo) (ca) (ct) (po) σ hz_22 hz_23 hz_24 hz_25 hz_18 hz_19 hz_20 hz_21 (by omega)) rfl ⟨Nat.le_of_ble_eq_true rfl, Nat.le_of_ble_eq_true rfl⟩ ⟨Nat.le_of_ble_eq_true rfl, Nat.le_of_ble_eq_true rfl⟩ rfl (Nat.le_of_ble_eq_true rfl) (fun v11 n12 σ13 q14 => ?_)
    obtain ⟨rfl, rfl, h7, h8, h9, h10, fr6⟩ := q14
    have h15 : σ13 (1) = some (.inr (10, [.ref (2), .ref (5), .ref (7), .ref (9), .ref (11), .ref (18), .ref (22), .ref (26), .ref (30), .ref (48), .int (lc_i (if bs = true then 1 else 0)), .int (lc_i (if bt = true then 1 else 0)), .int (lc_i (sn)), .int (lc_i (sr))]) : lc_Cel) := (fr6 _ (by omega) (by omega) (by omega) (by omega)).trans hz_1
    have h16 : σ13 (2) = some (.inr (1, [.ref (3), .ref (4)]) : lc_Cel) := (fr6 _ (by omega) (by omega) (by omega) (by omega)).trans hz_2
    have h17 : σ13 (3) = some (lc_aI 48 (lc_pt)) := (fr6 _ (by omega) (by omega) (by omega) (by omega)).trans hz_3
    have h18 : σ13 (4) = some (lc_aI 72 (lc_sp)) := (fr6 _ (by omega) (by omega) (by omega) (by omega)).trans hz_4
    have h19 : σ13 (5) = some (.inr (9, [.ref (2), .ref (6), .int (lc_i ((w).1)), .int (lc_i ((w).2.1)), .int (lc_i ((w).2.2.1)), .int (lc_i ((w).2.2.2))]) : lc_Cel) := (fr6 _ (by omega) (by omega) (by omega) (by omega)).trans hz_5
    have h20 : σ13 (6) = some (.inr (8, [.ref (2), .int (lc_i (e1)), .int (lc_i (e2)), .int (lc_i (e3))]) : lc_Cel) := (fr6 _ (by omega) (by omega) (by omega) (by omega)).trans hz_6
    have h21 : σ13 (7) = some (.inr (6, [.ref (2), .ref (8), .ref (5)]) : lc_Cel) := (fr6 _ (by omega) (by omega) (by omega) (by omega)).trans hz_7
    have h22 : σ13 (9) = some (.inr (4, [.ref (10), .int (lc_i (u1)), .int (lc_i (u2))]) : lc_Cel) := (fr6 _ (by omega) (by omega) (by omega) (by omega)).trans hz_9
    have h23 : σ13 (10) = some (lc_aI 364 (ug)) := (fr6 _ (by omega) (by omega) (by omega) (by omega)).trans hz_10
    have h24 : σ13 (8) = some (.inr (8, [.ref (2), .int (lc_i (a1)), .int (lc_i (a2)), .int (lc_i (a3))]) : lc_Cel) := (fr6 _ (by omega) (by omega) (by omega) (by omega)).trans hz_8
    have h25 : σ13 (11) = some (.inr (3, [.ref (7), .ref (12), .ref (14), .ref (16), .int (lc_i (ch))]) : lc_Cel) := (fr6 _ (by omega) (by omega) (by omega) (by omega)).trans hz_11
    have h26 : σ13 (12) = some (.inr (0, [.ref (13), .int (lc_i (lc_cnt (bf) 1 36)), .int (lc_i (lc_cnt (bf) 2 36)), .int (lc_i (d1)), .int (lc_i (d2)), .int (lc_i (d3))]) : lc_Cel) := (fr6 _ (by omega) (by omega) (by omega) (by omega)).trans hz_12
    have h27 : σ13 (13) = some (lc_aI 36 (bf)) := (fr6 _ (by omega) (by omega) (by omega) (by omega)).trans hz_13
    have h28 : σ13 (14) = some (.inr (4, [.ref (15), .int (lc_i (y1)), .int (lc_i (y2))]) : lc_Cel) := (fr6 _ (by omega) (by omega) (by omega) (by omega)).trans hz_14
    have h29 : σ13 (15) = some (lc_aI 364 (g1)) := (fr6 _ (by omega) (by omega) (by omega) (by omega)).trans hz_15
    have h30 : σ13 (16) = some (.inr (4, [.ref (17), .int (lc_i (x1)), .int (lc_i (x2))]) : lc_Cel) := (fr6 _ (by omega) (by omega) (by omega) (by omega)).trans hz_16
    have h31 : σ13 (17) = some (lc_aI 364 (g2)) := (fr6 _ (by omega) (by omega) (by omega) (by omega)).trans hz_17
    have h32 : σ13 (30) = some (.inr (2, [.ref (31), .int (lc_i ((k : Int)))]) : lc_Cel) := (fr6 _ (by omega) (by omega) (by omega) (by omega)).trans hz_30
    have h33 : σ13 (31) = some (lc_aS 4 (lc_h4 (r))) := (fr6 _ (by omega) (by omega) (by omega) (by omega)).trans hz_31
    have h34 : σ13 (48) = some (.inr (5, [.ref (49), .int (lc_i (z))]) : lc_Cel) := (fr6 _ (by omega) (by omega) (by omega) (by omega)).trans hz_48
    have h35 : σ13 (49) = some (lc_aC 80 (tx)) := (fr6 _ (by omega) (by omega) (by omega) (by omega)).trans hz_49
    have h36 : σ13 (18) = some (.inr (7, [.ref (19), .int (lc_i (mo)), .int (lc_i (ca)), .ref (21), .int (lc_i (ct))]) : lc_Cel) := (fr6 _ (by omega) (by omega) (by omega) (by omega)).trans hz_18
    have h37 : σ13 (19) = some (.inr (0, [.ref (20), .int (lc_i (lc_cnt (f) 1 36)), .int (lc_i (lc_cnt (f) 2 36)), .int (lc_i (s)), .int (lc_i (q)), .int (lc_i (m))]) : lc_Cel) := (fr6 _ (by omega) (by omega) (by omega) (by omega)).trans hz_19
    have h38 : σ13 (20) = some (lc_aI 36 (f)) := (fr6 _ (by omega) (by omega) (by omega) (by omega)).trans hz_20
    have h39 : σ13 (21) = some (lc_aJ 60 (fun i : Int => lc_j ((po) i))) := (fr6 _ (by omega) (by omega) (by omega) (by omega)).trans hz_21
    have h40 : σ13 (26) = some (.inr (7, [.ref (27), .int (lc_i (nMO)), .int (lc_i (nCA)), .ref (29), .int (lc_i (nCT))]) : lc_Cel) := (fr6 _ (by omega) (by omega) (by omega) (by omega)).trans hz_26
    have h41 : σ13 (27) = some (.inr (0, [.ref (28), .int (lc_i (lc_cnt (nF) 1 36)), .int (lc_i (lc_cnt (nF) 2 36)), .int (lc_i (nS)), .int (lc_i (nQ)), .int (lc_i (nM))]) : lc_Cel) := (fr6 _ (by omega) (by omega) (by omega) (by omega)).trans hz_27
    have h42 : σ13 (28) = some (lc_aI 36 (nF)) := (fr6 _ (by omega) (by omega) (by omega) (by omega)).trans hz_28
    have h43 : σ13 (29) = some (lc_aJ 60 (fun i : Int => lc_j ((nPO) i))) := (fr6 _ (by omega) (by omega) (by omega) (by omega)).trans hz_29
    have h44 : σ13 (t) = some (.inr (7, [.ref (t + 1), .int (lc_i (mo3)), .int (lc_i (ca3)), .ref (t + 3), .int (lc_i (ct3))]) : lc_Cel) := (fr6 _ (by omega) (by omega) (by omega) (by omega)).trans hz_t
    have h45 : σ13 (t + 1) = some (.inr (0, [.ref (t + 2), .int (lc_i (lc_cnt (f3) 1 36)), .int (lc_i (lc_cnt (f3) 2 36)), .int (lc_i (s3)), .int (lc_i (q3)), .int (lc_i (m3))]) : lc_Cel) := (fr6 _ (by omega) (by omega) (by omega) (by omega)).trans hz_t_1
    have h46 : σ13 (t + 2) = some (lc_aI 36 (f3)) := (fr6 _ (by omega) (by omega) (by omega) (by omega)).trans hz_t_2
    have h47 : σ13 (t + 3) = some (lc_aJ 60 (fun i : Int => lc_j ((po3) i))) := (fr6 _ (by omega) (by omega) (by omega) (by omega)).trans hz_t_3
    refine lc_aload_n dX10_perform_29 rfl 0 rfl ?_
    refine lc_get dX10_perform_30 lc_fX10_73 h15 rfl ?_
    refine lc_callV (As := []) (stk := []) (b := 48) dX10_perform_33 lc_mX10_152 lc_yX5_moves h34 rfl (lc_cX5_moves l n (tx) (z) σ13 h34 (hz)) rfl ⟨Nat.le_of_ble_eq_true rfl, Nat.le_of_ble_eq_true rfl⟩ ⟨Nat.le_of_ble_eq_true rfl, Nat.le_of_ble_eq_true rfl⟩ rfl (Nat.le_of_ble_eq_true rfl) (fun v48 n49 σ50 q51 => ?_)
    obtain ⟨rfl, rfl, rfl⟩ := q51
    refine lc_istore_n (lv' := [(0, .ref (1)), (1, .int (lc_i (lc_fault (tx) (z)))), (2, .int (lc_i (((z) + 1) / 6)))]) dX10_perform_36 rfl (by decide) rfl ?_
    refine lc_iconst dX10_perform_37 ?_
    refine lc_istore_n (lv' := [(0, .ref (1)), (1, .int (lc_i (lc_fault (tx) (z)))), (2, .int (lc_i (((z) + 1) / 6))), (3, .int (lc_i (0)))]) dX10_perform_38 rfl (by decide) rfl ?_
    have loop53 : ∀ (N52 : Nat) (i : Int) (fi : Int → Int) (si : Int) (qi : Int) (mi : Int) (moi : Int) (cai : Int) (cti : Int) (poi : Int → Int) (wi : Int × Int × Int × Int) (j1 : Int) (j2 : Int) (j3 : Int) (σ55 : lc_S), (σ55 (5) = some (.inr (9, [.ref (2), .ref (6), .int (lc_i ((wi).1)), .int (lc_i ((wi).2.1)), .int (lc_i ((wi).2.2.1)), .int (lc_i ((wi).2.2.2))]) : lc_Cel)) → (σ55 (6) = some (.inr (8, [.ref (2), .int (lc_i (j1)), .int (lc_i (j2)), .int (lc_i (j3))]) : lc_Cel)) → (σ55 (18) = some (.inr (7, [.ref (19), .int (lc_i (moi)), .int (lc_i (cai)), .ref (21), .int (lc_i (cti))]) : lc_Cel)) → (σ55 (19) = some (.inr (0, [.ref (20), .int (lc_i (lc_cnt (fi) 1 36)), .int (lc_i (lc_cnt (fi) 2 36)), .int (lc_i (si)), .int (lc_i (qi)), .int (lc_i (mi))]) : lc_Cel)) → (σ55 (20) = some (lc_aI 36 (fi))) → (σ55 (21) = some (lc_aJ 60 (fun i : Int => lc_j ((poi) i)))) → (∀ i : Nat, i ≠ 5 → i ≠ 6 → i ≠ 18 → i ≠ 19 → i ≠ 20 → i ≠ 21 → σ55 i = σ13 i) → (0 ≤ i ∧ i ≤ (z + 1) / 6) → (lc_wz (fi, si, qi, mi, moi, cai, cti, poi)) → (lc_pr tx ((z + 1) / 6).toNat 0 (f, s, q, m, mo, ca, ct, po) = lc_pr tx ((z + 1) / 6 - i).toNat i (fi, si, qi, mi, moi, cai, cti, poi)) → 100 - i < (N52 : Int) → lc_V l RX10 cX10_perform 7 (some .int) false (lc_Rd 6) (lc_G Q 0 0) lc_E0 0 0 n 39 [(0, .ref (1)), (1, .int (lc_i (lc_fault (tx) (z)))), (2, .int (lc_i (((z) + 1) / 6))), (3, .int (lc_i (i)))] [] σ55 := by
      intro N52
      induction N52 with
      | zero =>
        intro i fi si qi mi moi cai cti poi wi j1 j2 j3 σ55 h56 h57 h58 h59 h60 h61 fr62 hi hW hK hm63
        exact absurd hm63 (by omega)
      | succ N52 ih54 =>
        intro i fi si qi mi moi cai cti poi wi j1 j2 j3 σ55 h56 h57 h58 h59 h60 h61 fr62 hi hW hK hm63
        have h64 : σ55 (1) = some (.inr (10, [.ref (2), .ref (5), .ref (7), .ref (9), .ref (11), .ref (18), .ref (22), .ref (26), .ref (30), .ref (48), .int (lc_i (if bs = true then 1 else 0)), .int (lc_i (if bt = true then 1 else 0)), .int (lc_i (sn)), .int (lc_i (sr))]) : lc_Cel) := (fr62 _ (by omega) (by omega) (by omega) (by omega) (by omega) (by omega)).trans h15
        have h65 : σ55 (2) = some (.inr (1, [.ref (3), .ref (4)]) : lc_Cel) := (fr62 _ (by omega) (by omega) (by omega) (by omega) (by omega) (by omega)).trans h16
        have h66 : σ55 (3) = some (lc_aI 48 (lc_pt)) := (fr62 _ (by omega) (by omega) (by omega) (by omega) (by omega) (by omega)).trans h17
        have h67 : σ55 (4) = some (lc_aI 72 (lc_sp)) := (fr62 _ (by omega) (by omega) (by omega) (by omega) (by omega) (by omega)).trans h18
        have h68 : σ55 (7) = some (.inr (6, [.ref (2), .ref (8), .ref (5)]) : lc_Cel) := (fr62 _ (by omega) (by omega) (by omega) (by omega) (by omega) (by omega)).trans h21
        have h69 : σ55 (9) = some (.inr (4, [.ref (10), .int (lc_i (u1)), .int (lc_i (u2))]) : lc_Cel) := (fr62 _ (by omega) (by omega) (by omega) (by omega) (by omega) (by omega)).trans h22
        have h70 : σ55 (10) = some (lc_aI 364 (ug)) := (fr62 _ (by omega) (by omega) (by omega) (by omega) (by omega) (by omega)).trans h23
        have h71 : σ55 (8) = some (.inr (8, [.ref (2), .int (lc_i (a1)), .int (lc_i (a2)), .int (lc_i (a3))]) : lc_Cel) := (fr62 _ (by omega) (by omega) (by omega) (by omega) (by omega) (by omega)).trans h24
        have h72 : σ55 (11) = some (.inr (3, [.ref (7), .ref (12), .ref (14), .ref (16), .int (lc_i (ch))]) : lc_Cel) := (fr62 _ (by omega) (by omega) (by omega) (by omega) (by omega) (by omega)).trans h25
        have h73 : σ55 (12) = some (.inr (0, [.ref (13), .int (lc_i (lc_cnt (bf) 1 36)), .int (lc_i (lc_cnt (bf) 2 36)), .int (lc_i (d1)), .int (lc_i (d2)), .int (lc_i (d3))]) : lc_Cel) := (fr62 _ (by omega) (by omega) (by omega) (by omega) (by omega) (by omega)).trans h26
        have h74 : σ55 (13) = some (lc_aI 36 (bf)) := (fr62 _ (by omega) (by omega) (by omega) (by omega) (by omega) (by omega)).trans h27
        have h75 : σ55 (14) = some (.inr (4, [.ref (15), .int (lc_i (y1)), .int (lc_i (y2))]) : lc_Cel) := (fr62 _ (by omega) (by omega) (by omega) (by omega) (by omega) (by omega)).trans h28
        have h76 : σ55 (15) = some (lc_aI 364 (g1)) := (fr62 _ (by omega) (by omega) (by omega) (by omega) (by omega) (by omega)).trans h29
        have h77 : σ55 (16) = some (.inr (4, [.ref (17), .int (lc_i (x1)), .int (lc_i (x2))]) : lc_Cel) := (fr62 _ (by omega) (by omega) (by omega) (by omega) (by omega) (by omega)).trans h30
        have h78 : σ55 (17) = some (lc_aI 364 (g2)) := (fr62 _ (by omega) (by omega) (by omega) (by omega) (by omega) (by omega)).trans h31
        have h79 : σ55 (30) = some (.inr (2, [.ref (31), .int (lc_i ((k : Int)))]) : lc_Cel) := (fr62 _ (by omega) (by omega) (by omega) (by omega) (by omega) (by omega)).trans h32
        have h80 : σ55 (31) = some (lc_aS 4 (lc_h4 (r))) := (fr62 _ (by omega) (by omega) (by omega) (by omega) (by omega) (by omega)).trans h33
        have h81 : σ55 (48) = some (.inr (5, [.ref (49), .int (lc_i (z))]) : lc_Cel) := (fr62 _ (by omega) (by omega) (by omega) (by omega) (by omega) (by omega)).trans h34
        have h82 : σ55 (49) = some (lc_aC 80 (tx)) := (fr62 _ (by omega) (by omega) (by omega) (by omega) (by omega) (by omega)).trans h35
        have h83 : σ55 (26) = some (.inr (7, [.ref (27), .int (lc_i (nMO)), .int (lc_i (nCA)), .ref (29), .int (lc_i (nCT))]) : lc_Cel) := (fr62 _ (by omega) (by omega) (by omega) (by omega) (by omega) (by omega)).trans h40
        have h84 : σ55 (27) = some (.inr (0, [.ref (28), .int (lc_i (lc_cnt (nF) 1 36)), .int (lc_i (lc_cnt (nF) 2 36)), .int (lc_i (nS)), .int (lc_i (nQ)), .int (lc_i (nM))]) : lc_Cel) := (fr62 _ (by omega) (by omega) (by omega) (by omega) (by omega) (by omega)).trans h41
        have h85 : σ55 (28) = some (lc_aI 36 (nF)) := (fr62 _ (by omega) (by omega) (by omega) (by omega) (by omega) (by omega)).trans h42
        have h86 : σ55 (29) = some (lc_aJ 60 (fun i : Int => lc_j ((nPO) i))) := (fr62 _ (by omega) (by omega) (by omega) (by omega) (by omega) (by omega)).trans h43
        have h87 : σ55 (t) = some (.inr (7, [.ref (t + 1), .int (lc_i (mo3)), .int (lc_i (ca3)), .ref (t + 3), .int (lc_i (ct3))]) : lc_Cel) := (fr62 _ (by omega) (by omega) (by omega) (by omega) (by omega) (by omega)).trans h44
        have h88 : σ55 (t + 1) = some (.inr (0, [.ref (t + 2), .int (lc_i (lc_cnt (f3) 1 36)), .int (lc_i (lc_cnt (f3) 2 36)), .int (lc_i (s3)), .int (lc_i (q3)), .int (lc_i (m3))]) : lc_Cel) := (fr62 _ (by omega) (by omega) (by omega) (by omega) (by omega) (by omega)).trans h45
        have h89 : σ55 (t + 2) = some (lc_aI 36 (f3)) := (fr62 _ (by omega) (by omega) (by omega) (by omega) (by omega) (by omega)).trans h46
        have h90 : σ55 (t + 3) = some (lc_aJ 60 (fun i : Int => lc_j ((po3) i))) := (fr62 _ (by omega) (by omega) (by omega) (by omega) (by omega) (by omega)).trans h47
        have h91 : σ55 (22) = some (.inr (7, [.ref (23), .int (lc_i (mo)), .int (lc_i (ca)), .ref (25), .int (lc_i (ct))]) : lc_Cel) := (fr62 _ (by omega) (by omega) (by omega) (by omega) (by omega) (by omega)).trans h7
        have h92 : σ55 (23) = some (.inr (0, [.ref (24), .int (lc_i (lc_cnt (f) 1 36)), .int (lc_i (lc_cnt (f) 2 36)), .int (lc_i (s)), .int (lc_i (q)), .int (lc_i (m))]) : lc_Cel) := (fr62 _ (by omega) (by omega) (by omega) (by omega) (by omega) (by omega)).trans h8
        have h93 : σ55 (24) = some (lc_aI 36 (f)) := (fr62 _ (by omega) (by omega) (by omega) (by omega) (by omega) (by omega)).trans h9
        have h94 : σ55 (25) = some (lc_aJ 60 (fun i : Int => lc_j ((po) i))) := (fr62 _ (by omega) (by omega) (by omega) (by omega) (by omega) (by omega)).trans h10
        have hfi : ∀ j : Int, 0 ≤ j → j < 36 → 0 ≤ fi j ∧ fi j ≤ 2 := hW.1
        have hsi : 1 ≤ si ∧ si ≤ 2 := hW.2.1
        have hqi : 0 ≤ qi ∧ qi ≤ 60 := hW.2.2.1
        have hmi : 4 ≤ mi ∧ mi ≤ 60 := hW.2.2.2.1
        have hci : 1 ≤ cti ∧ cti ≤ 60 := hW.2.2.2.2.1
        refine lc_iload_n dX10_perform_39 rfl 3 rfl ?_
        refine lc_iload_n dX10_perform_40 rfl 2 rfl ?_
        refine lc_icmp_ge (tgt := 135) dX10_perform_41 (by decide) (by omega) (fun h_41_94 => ?_) (fun h_41_94 => ?_)
        · skip
          have hR : lc_pr tx ((z + 1) / 6).toNat 0 (f, s, q, m, mo, ca, ct, po) = ((fi, si, qi, mi, moi, cai, cti, poi), -1, 0) := (by rw [hK, show ((z + 1) / 6 - i).toNat = 0 from by omega]; rfl)
          refine lc_aload_n dX10_perform_135 rfl 0 rfl ?_
          refine lc_get dX10_perform_136 lc_fX10_66 h64 rfl ?_
          refine lc_aload_n dX10_perform_139 rfl 0 rfl ?_
          refine lc_get dX10_perform_140 lc_fX10_57 h64 rfl ?_
          refine lc_callV (As := [.ref (22)]) (stk := []) (b := 30) dX10_perform_143 lc_mX10_89 lc_yX2_push h79 rfl (lc_cX2_push l n (r) (k) (22) (f) (s) (q) (m) (mo) (ca) (ct) (po) (t) (f3) (s3) (q3) (m3) (mo3) (ca3) (ct3) (po3) σ55 h79 h80 h91 h92 h93 h94 h87 h88 h89 h90 (hk4) (ht) (by omega) (lc_Sl_st (lc_Sl_fr hSl (fun i _ _ => ((fr62 i (by omega) (by omega) (by omega) (by omega) (by omega) (by omega)).trans (fr6 i (by omega) (by omega) (by omega) (by omega))))))) rfl ⟨Nat.le_of_ble_eq_true rfl, Nat.le_of_ble_eq_true rfl⟩ ⟨Nat.le_of_ble_eq_true rfl, Nat.le_of_ble_eq_true rfl⟩ rfl (Nat.le_of_ble_eq_true rfl) (fun v103 n104 σ105 q106 => ?_)
          obtain ⟨rfl, rfl, h97, h98, h99, h100, h101, h102, fr96⟩ := q106
          have h107 : σ105 (1) = some (.inr (10, [.ref (2), .ref (5), .ref (7), .ref (9), .ref (11), .ref (18), .ref (22), .ref (26), .ref (30), .ref (48), .int (lc_i (if bs = true then 1 else 0)), .int (lc_i (if bt = true then 1 else 0)), .int (lc_i (sn)), .int (lc_i (sr))]) : lc_Cel) := (fr96 _ (by omega) (by omega) (by omega) (by omega) (by omega) (by omega)).trans h64
          have h108 : σ105 (2) = some (.inr (1, [.ref (3), .ref (4)]) : lc_Cel) := (fr96 _ (by omega) (by omega) (by omega) (by omega) (by omega) (by omega)).trans h65
          have h109 : σ105 (3) = some (lc_aI 48 (lc_pt)) := (fr96 _ (by omega) (by omega) (by omega) (by omega) (by omega) (by omega)).trans h66
          have h110 : σ105 (4) = some (lc_aI 72 (lc_sp)) := (fr96 _ (by omega) (by omega) (by omega) (by omega) (by omega) (by omega)).trans h67
          have h111 : σ105 (7) = some (.inr (6, [.ref (2), .ref (8), .ref (5)]) : lc_Cel) := (fr96 _ (by omega) (by omega) (by omega) (by omega) (by omega) (by omega)).trans h68
          have h112 : σ105 (9) = some (.inr (4, [.ref (10), .int (lc_i (u1)), .int (lc_i (u2))]) : lc_Cel) := (fr96 _ (by omega) (by omega) (by omega) (by omega) (by omega) (by omega)).trans h69
          have h113 : σ105 (10) = some (lc_aI 364 (ug)) := (fr96 _ (by omega) (by omega) (by omega) (by omega) (by omega) (by omega)).trans h70
          have h114 : σ105 (8) = some (.inr (8, [.ref (2), .int (lc_i (a1)), .int (lc_i (a2)), .int (lc_i (a3))]) : lc_Cel) := (fr96 _ (by omega) (by omega) (by omega) (by omega) (by omega) (by omega)).trans h71
          have h115 : σ105 (11) = some (.inr (3, [.ref (7), .ref (12), .ref (14), .ref (16), .int (lc_i (ch))]) : lc_Cel) := (fr96 _ (by omega) (by omega) (by omega) (by omega) (by omega) (by omega)).trans h72
          have h116 : σ105 (12) = some (.inr (0, [.ref (13), .int (lc_i (lc_cnt (bf) 1 36)), .int (lc_i (lc_cnt (bf) 2 36)), .int (lc_i (d1)), .int (lc_i (d2)), .int (lc_i (d3))]) : lc_Cel) := (fr96 _ (by omega) (by omega) (by omega) (by omega) (by omega) (by omega)).trans h73
          have h117 : σ105 (13) = some (lc_aI 36 (bf)) := (fr96 _ (by omega) (by omega) (by omega) (by omega) (by omega) (by omega)).trans h74
          have h118 : σ105 (14) = some (.inr (4, [.ref (15), .int (lc_i (y1)), .int (lc_i (y2))]) : lc_Cel) := (fr96 _ (by omega) (by omega) (by omega) (by omega) (by omega) (by omega)).trans h75
          have h119 : σ105 (15) = some (lc_aI 364 (g1)) := (fr96 _ (by omega) (by omega) (by omega) (by omega) (by omega) (by omega)).trans h76
          have h120 : σ105 (16) = some (.inr (4, [.ref (17), .int (lc_i (x1)), .int (lc_i (x2))]) : lc_Cel) := (fr96 _ (by omega) (by omega) (by omega) (by omega) (by omega) (by omega)).trans h77
          have h121 : σ105 (17) = some (lc_aI 364 (g2)) := (fr96 _ (by omega) (by omega) (by omega) (by omega) (by omega) (by omega)).trans h78
          have h122 : σ105 (48) = some (.inr (5, [.ref (49), .int (lc_i (z))]) : lc_Cel) := (fr96 _ (by omega) (by omega) (by omega) (by omega) (by omega) (by omega)).trans h81
          have h123 : σ105 (49) = some (lc_aC 80 (tx)) := (fr96 _ (by omega) (by omega) (by omega) (by omega) (by omega) (by omega)).trans h82
          have h124 : σ105 (26) = some (.inr (7, [.ref (27), .int (lc_i (nMO)), .int (lc_i (nCA)), .ref (29), .int (lc_i (nCT))]) : lc_Cel) := (fr96 _ (by omega) (by omega) (by omega) (by omega) (by omega) (by omega)).trans h83
          have h125 : σ105 (27) = some (.inr (0, [.ref (28), .int (lc_i (lc_cnt (nF) 1 36)), .int (lc_i (lc_cnt (nF) 2 36)), .int (lc_i (nS)), .int (lc_i (nQ)), .int (lc_i (nM))]) : lc_Cel) := (fr96 _ (by omega) (by omega) (by omega) (by omega) (by omega) (by omega)).trans h84
          have h126 : σ105 (28) = some (lc_aI 36 (nF)) := (fr96 _ (by omega) (by omega) (by omega) (by omega) (by omega) (by omega)).trans h85
          have h127 : σ105 (29) = some (lc_aJ 60 (fun i : Int => lc_j ((nPO) i))) := (fr96 _ (by omega) (by omega) (by omega) (by omega) (by omega) (by omega)).trans h86
          have h128 : σ105 (22) = some (.inr (7, [.ref (23), .int (lc_i (mo)), .int (lc_i (ca)), .ref (25), .int (lc_i (ct))]) : lc_Cel) := (fr96 _ (by omega) (by omega) (by omega) (by omega) (by omega) (by omega)).trans h91
          have h129 : σ105 (23) = some (.inr (0, [.ref (24), .int (lc_i (lc_cnt (f) 1 36)), .int (lc_i (lc_cnt (f) 2 36)), .int (lc_i (s)), .int (lc_i (q)), .int (lc_i (m))]) : lc_Cel) := (fr96 _ (by omega) (by omega) (by omega) (by omega) (by omega) (by omega)).trans h92
          have h130 : σ105 (24) = some (lc_aI 36 (f)) := (fr96 _ (by omega) (by omega) (by omega) (by omega) (by omega) (by omega)).trans h93
          have h131 : σ105 (25) = some (lc_aJ 60 (fun i : Int => lc_j ((po) i))) := (fr96 _ (by omega) (by omega) (by omega) (by omega) (by omega) (by omega)).trans h94
          have h132 : σ105 (5) = some (.inr (9, [.ref (2), .ref (6), .int (lc_i ((wi).1)), .int (lc_i ((wi).2.1)), .int (lc_i ((wi).2.2.1)), .int (lc_i ((wi).2.2.2))]) : lc_Cel) := (fr96 _ (by omega) (by omega) (by omega) (by omega) (by omega) (by omega)).trans h56
          have h133 : σ105 (6) = some (.inr (8, [.ref (2), .int (lc_i (j1)), .int (lc_i (j2)), .int (lc_i (j3))]) : lc_Cel) := (fr96 _ (by omega) (by omega) (by omega) (by omega) (by omega) (by omega)).trans h57
          have h134 : σ105 (18) = some (.inr (7, [.ref (19), .int (lc_i (moi)), .int (lc_i (cai)), .ref (21), .int (lc_i (cti))]) : lc_Cel) := (fr96 _ (by omega) (by omega) (by omega) (by omega) (by omega) (by omega)).trans h58
          have h135 : σ105 (19) = some (.inr (0, [.ref (20), .int (lc_i (lc_cnt (fi) 1 36)), .int (lc_i (lc_cnt (fi) 2 36)), .int (lc_i (si)), .int (lc_i (qi)), .int (lc_i (mi))]) : lc_Cel) := (fr96 _ (by omega) (by omega) (by omega) (by omega) (by omega) (by omega)).trans h59
          have h136 : σ105 (20) = some (lc_aI 36 (fi)) := (fr96 _ (by omega) (by omega) (by omega) (by omega) (by omega) (by omega)).trans h60
          have h137 : σ105 (21) = some (lc_aJ 60 (fun i : Int => lc_j ((poi) i))) := (fr96 _ (by omega) (by omega) (by omega) (by omega) (by omega) (by omega)).trans h61
          refine lc_iload_n dX10_perform_146 rfl 2 rfl ?_
          exact lc_iret dX10_perform_147 rfl (Nat.le_of_ble_eq_true rfl) (Nat.le_of_ble_eq_true rfl) (hQ _ _ _ (by rw [lc_perf, if_neg (show ¬ (0 ≤ lc_fault tx z) from by omega), hR, if_neg (show ¬ 0 ≤ (-1 : Int) from by decide)]; exact ⟨rfl, rfl, lc_CI_mk (BF := (f, s, q, m, mo, ca, ct, po)) (SN := (nF, nS, nQ, nM, nMO, nCA, nCT, nPO)) h107 h108 h109 h110 h132 h133 h111 h112 h113 (lc_Lk_mk h114 h115 h116 h117 h118 h119 h120 h121) ⟨h134, h135, h136, h137⟩ ⟨h128, h129, h130, h131⟩ ⟨h124, h125, h126, h127⟩ (hSN) h97 h98 (lc_Sl_push (N := (f, s, q, m, mo, ca, ct, po)) hSl hk4 ht (fun i _ _ _ _ _ _ => ((fr96 i (by omega) (by omega) (by omega) (by omega) (by omega) (by omega)).trans ((fr62 i (by omega) (by omega) (by omega) (by omega) (by omega) (by omega)).trans (fr6 i (by omega) (by omega) (by omega) (by omega))))) ⟨h99, h100, h101, h102⟩) h122 h123, fun i _ => ((fr96 i (by omega) (by omega) (by omega) (by omega) (by omega) (by omega)).trans ((fr62 i (by omega) (by omega) (by omega) (by omega) (by omega) (by omega)).trans (fr6 i (by omega) (by omega) (by omega) (by omega))))⟩))
        · skip
          have htf := lc_tp_r (hfa.2 (i * 6) (by omega) (by omega)) (hfa.2 (i * 6 + 1) (by omega) (by omega)) (by omega)
          have htt := lc_tp_r (hfa.2 (i * 6 + 3) (by omega) (by omega)) (hfa.2 (i * 6 + 3 + 1) (by omega) (by omega)) (by omega)
          refine lc_aload_n dX10_perform_44 rfl 0 rfl ?_
          refine lc_get dX10_perform_45 lc_fX10_73 h64 rfl ?_
          refine lc_iload_n dX10_perform_48 rfl 3 rfl ?_
          refine lc_callV (As := [.int (lc_i (i))]) (stk := []) (b := 48) dX10_perform_49 lc_mX10_155 lc_yX5_fromOf h81 rfl (lc_cX5_fromOf l n (tx) (z) (i) σ55 h81 h82 (hz) (htx) (by omega)) rfl ⟨Nat.le_of_ble_eq_true rfl, Nat.le_of_ble_eq_true rfl⟩ ⟨Nat.le_of_ble_eq_true rfl, Nat.le_of_ble_eq_true rfl⟩ rfl (Nat.le_of_ble_eq_true rfl) (fun v138 n139 σ140 q141 => ?_)
          obtain ⟨rfl, rfl, rfl⟩ := q141
          refine lc_istore (lv' := [(0, .ref (1)), (1, .int (lc_i (lc_fault (tx) (z)))), (2, .int (lc_i (((z) + 1) / 6))), (3, .int (lc_i (i))), (4, .int (lc_i (lc_tp (tx) ((i) * 6))))]) dX10_perform_52 (by decide) rfl ?_
          refine lc_aload_n dX10_perform_54 rfl 0 rfl ?_
          refine lc_get dX10_perform_55 lc_fX10_73 h64 rfl ?_
          refine lc_iload_n dX10_perform_58 rfl 3 rfl ?_
          refine lc_callV (As := [.int (lc_i (i))]) (stk := []) (b := 48) dX10_perform_59 lc_mX10_158 lc_yX5_toOf h81 rfl (lc_cX5_toOf l n (tx) (z) (i) σ55 h81 h82 (hz) (htx) (by omega)) rfl ⟨Nat.le_of_ble_eq_true rfl, Nat.le_of_ble_eq_true rfl⟩ ⟨Nat.le_of_ble_eq_true rfl, Nat.le_of_ble_eq_true rfl⟩ rfl (Nat.le_of_ble_eq_true rfl) (fun v142 n143 σ144 q145 => ?_)
          obtain ⟨rfl, rfl, rfl⟩ := q145
          refine lc_istore (lv' := [(0, .ref (1)), (1, .int (lc_i (lc_fault (tx) (z)))), (2, .int (lc_i (((z) + 1) / 6))), (3, .int (lc_i (i))), (4, .int (lc_i (lc_tp (tx) ((i) * 6)))), (5, .int (lc_i (lc_tp (tx) ((i) * 6 + 3))))]) dX10_perform_62 (by decide) rfl ?_
          refine lc_aload_n dX10_perform_64 rfl 0 rfl ?_
          refine lc_get dX10_perform_65 lc_fX10_30 h64 rfl ?_
          refine lc_aload_n dX10_perform_68 rfl 0 rfl ?_
          refine lc_get dX10_perform_69 lc_fX10_53 h64 rfl ?_
          refine lc_get dX10_perform_72 lc_fX10_81 h58 rfl ?_
          refine lc_iload dX10_perform_75 4 rfl ?_
          refine lc_iload dX10_perform_77 5 rfl ?_
          refine lc_aload_n dX10_perform_79 rfl 0 rfl ?_
          refine lc_get dX10_perform_80 lc_fX10_73 h64 rfl ?_
          refine lc_iload_n dX10_perform_83 rfl 3 rfl ?_
          refine lc_callV (As := [.int (lc_i (i))]) (stk := [.int (lc_i (lc_tp (tx) ((i) * 6 + 3))), .int (lc_i (lc_tp (tx) ((i) * 6))), .ref (19), .ref (7)]) (b := 48) dX10_perform_84 lc_mX10_161 lc_yX5_isCapture h81 rfl (lc_cX5_isCapture l n (tx) (z) (i) σ55 h81 h82 (hz) (htx) (by omega)) rfl ⟨Nat.le_of_ble_eq_true rfl, Nat.le_of_ble_eq_true rfl⟩ ⟨Nat.le_of_ble_eq_true rfl, Nat.le_of_ble_eq_true rfl⟩ rfl (Nat.le_of_ble_eq_true rfl) (fun v146 n147 σ148 q149 => ?_)
          obtain ⟨rfl, rfl, rfl⟩ := q149
          refine lc_top (show (Value.int (lc_i (if (tx ((i) * 6 + 2) = 120) then 1 else 0)) : Value) = Value.int (lc_i (if decide (tx (i * 6 + 2) = 120) = true then 1 else 0)) from lc_b2d) ?_
          refine lc_callV (As := [.ref (19), .int (lc_i (lc_tp (tx) ((i) * 6))), .int (lc_i (lc_tp (tx) ((i) * 6 + 3))), .int (lc_i (if decide (tx (i * 6 + 2) = 120) = true then 1 else 0))]) (stk := []) (b := 7) dX10_perform_87 lc_mX10_85 lc_yX6_whyNot h68 rfl (lc_cX6_whyNot l n (j1) (j2) (j3) (wi) (19) (fi) (si) (qi) (mi) (lc_tp (tx) ((i) * 6)) (lc_tp (tx) ((i) * 6 + 3)) (decide (tx (i * 6 + 2) = 120)) σ55 h68 h56 h57 h65 h66 h67 h59 h60 (hfi) (by omega) (hsi) (by omega) (by omega) (by omega) (by omega)) rfl ⟨Nat.le_of_ble_eq_true rfl, Nat.le_of_ble_eq_true rfl⟩ ⟨Nat.le_of_ble_eq_true rfl, Nat.le_of_ble_eq_true rfl⟩ rfl (Nat.le_of_ble_eq_true rfl) (fun v157 n158 σ159 q160 => ?_)
          obtain ⟨wk153, c154, c155, c156, rfl, rfl, h151, h152, fr150⟩ := q160
          have h161 : σ159 (1) = some (.inr (10, [.ref (2), .ref (5), .ref (7), .ref (9), .ref (11), .ref (18), .ref (22), .ref (26), .ref (30), .ref (48), .int (lc_i (if bs = true then 1 else 0)), .int (lc_i (if bt = true then 1 else 0)), .int (lc_i (sn)), .int (lc_i (sr))]) : lc_Cel) := (fr150 _ (by omega) (by omega)).trans h64
          have h162 : σ159 (2) = some (.inr (1, [.ref (3), .ref (4)]) : lc_Cel) := (fr150 _ (by omega) (by omega)).trans h65
          have h163 : σ159 (3) = some (lc_aI 48 (lc_pt)) := (fr150 _ (by omega) (by omega)).trans h66
          have h164 : σ159 (4) = some (lc_aI 72 (lc_sp)) := (fr150 _ (by omega) (by omega)).trans h67
          have h165 : σ159 (7) = some (.inr (6, [.ref (2), .ref (8), .ref (5)]) : lc_Cel) := (fr150 _ (by omega) (by omega)).trans h68
          have h166 : σ159 (9) = some (.inr (4, [.ref (10), .int (lc_i (u1)), .int (lc_i (u2))]) : lc_Cel) := (fr150 _ (by omega) (by omega)).trans h69
          have h167 : σ159 (10) = some (lc_aI 364 (ug)) := (fr150 _ (by omega) (by omega)).trans h70
          have h168 : σ159 (8) = some (.inr (8, [.ref (2), .int (lc_i (a1)), .int (lc_i (a2)), .int (lc_i (a3))]) : lc_Cel) := (fr150 _ (by omega) (by omega)).trans h71
          have h169 : σ159 (11) = some (.inr (3, [.ref (7), .ref (12), .ref (14), .ref (16), .int (lc_i (ch))]) : lc_Cel) := (fr150 _ (by omega) (by omega)).trans h72
          have h170 : σ159 (12) = some (.inr (0, [.ref (13), .int (lc_i (lc_cnt (bf) 1 36)), .int (lc_i (lc_cnt (bf) 2 36)), .int (lc_i (d1)), .int (lc_i (d2)), .int (lc_i (d3))]) : lc_Cel) := (fr150 _ (by omega) (by omega)).trans h73
          have h171 : σ159 (13) = some (lc_aI 36 (bf)) := (fr150 _ (by omega) (by omega)).trans h74
          have h172 : σ159 (14) = some (.inr (4, [.ref (15), .int (lc_i (y1)), .int (lc_i (y2))]) : lc_Cel) := (fr150 _ (by omega) (by omega)).trans h75
          have h173 : σ159 (15) = some (lc_aI 364 (g1)) := (fr150 _ (by omega) (by omega)).trans h76
          have h174 : σ159 (16) = some (.inr (4, [.ref (17), .int (lc_i (x1)), .int (lc_i (x2))]) : lc_Cel) := (fr150 _ (by omega) (by omega)).trans h77
          have h175 : σ159 (17) = some (lc_aI 364 (g2)) := (fr150 _ (by omega) (by omega)).trans h78
          have h176 : σ159 (30) = some (.inr (2, [.ref (31), .int (lc_i ((k : Int)))]) : lc_Cel) := (fr150 _ (by omega) (by omega)).trans h79
          have h177 : σ159 (31) = some (lc_aS 4 (lc_h4 (r))) := (fr150 _ (by omega) (by omega)).trans h80
          have h178 : σ159 (48) = some (.inr (5, [.ref (49), .int (lc_i (z))]) : lc_Cel) := (fr150 _ (by omega) (by omega)).trans h81
          have h179 : σ159 (49) = some (lc_aC 80 (tx)) := (fr150 _ (by omega) (by omega)).trans h82
          have h180 : σ159 (26) = some (.inr (7, [.ref (27), .int (lc_i (nMO)), .int (lc_i (nCA)), .ref (29), .int (lc_i (nCT))]) : lc_Cel) := (fr150 _ (by omega) (by omega)).trans h83
          have h181 : σ159 (27) = some (.inr (0, [.ref (28), .int (lc_i (lc_cnt (nF) 1 36)), .int (lc_i (lc_cnt (nF) 2 36)), .int (lc_i (nS)), .int (lc_i (nQ)), .int (lc_i (nM))]) : lc_Cel) := (fr150 _ (by omega) (by omega)).trans h84
          have h182 : σ159 (28) = some (lc_aI 36 (nF)) := (fr150 _ (by omega) (by omega)).trans h85
          have h183 : σ159 (29) = some (lc_aJ 60 (fun i : Int => lc_j ((nPO) i))) := (fr150 _ (by omega) (by omega)).trans h86
          have h184 : σ159 (t) = some (.inr (7, [.ref (t + 1), .int (lc_i (mo3)), .int (lc_i (ca3)), .ref (t + 3), .int (lc_i (ct3))]) : lc_Cel) := (fr150 _ (by omega) (by omega)).trans h87
          have h185 : σ159 (t + 1) = some (.inr (0, [.ref (t + 2), .int (lc_i (lc_cnt (f3) 1 36)), .int (lc_i (lc_cnt (f3) 2 36)), .int (lc_i (s3)), .int (lc_i (q3)), .int (lc_i (m3))]) : lc_Cel) := (fr150 _ (by omega) (by omega)).trans h88
          have h186 : σ159 (t + 2) = some (lc_aI 36 (f3)) := (fr150 _ (by omega) (by omega)).trans h89
          have h187 : σ159 (t + 3) = some (lc_aJ 60 (fun i : Int => lc_j ((po3) i))) := (fr150 _ (by omega) (by omega)).trans h90
          have h188 : σ159 (22) = some (.inr (7, [.ref (23), .int (lc_i (mo)), .int (lc_i (ca)), .ref (25), .int (lc_i (ct))]) : lc_Cel) := (fr150 _ (by omega) (by omega)).trans h91
          have h189 : σ159 (23) = some (.inr (0, [.ref (24), .int (lc_i (lc_cnt (f) 1 36)), .int (lc_i (lc_cnt (f) 2 36)), .int (lc_i (s)), .int (lc_i (q)), .int (lc_i (m))]) : lc_Cel) := (fr150 _ (by omega) (by omega)).trans h92
          have h190 : σ159 (24) = some (lc_aI 36 (f)) := (fr150 _ (by omega) (by omega)).trans h93
          have h191 : σ159 (25) = some (lc_aJ 60 (fun i : Int => lc_j ((po) i))) := (fr150 _ (by omega) (by omega)).trans h94
          have h192 : σ159 (18) = some (.inr (7, [.ref (19), .int (lc_i (moi)), .int (lc_i (cai)), .ref (21), .int (lc_i (cti))]) : lc_Cel) := (fr150 _ (by omega) (by omega)).trans h58
          have h193 : σ159 (19) = some (.inr (0, [.ref (20), .int (lc_i (lc_cnt (fi) 1 36)), .int (lc_i (lc_cnt (fi) 2 36)), .int (lc_i (si)), .int (lc_i (qi)), .int (lc_i (mi))]) : lc_Cel) := (fr150 _ (by omega) (by omega)).trans h59
          have h194 : σ159 (20) = some (lc_aI 36 (fi)) := (fr150 _ (by omega) (by omega)).trans h60
          have h195 : σ159 (21) = some (lc_aJ 60 (fun i : Int => lc_j ((poi) i))) := (fr150 _ (by omega) (by omega)).trans h61
          refine lc_istore (lv' := [(0, .ref (1)), (1, .int (lc_i (lc_fault (tx) (z)))), (2, .int (lc_i (((z) + 1) / 6))), (3, .int (lc_i (i))), (4, .int (lc_i (lc_tp (tx) ((i) * 6)))), (5, .int (lc_i (lc_tp (tx) ((i) * 6 + 3)))), (6, .int (lc_i (lc_why (fi) (si) (qi) (mi) (lc_tp (tx) ((i) * 6)) (lc_tp (tx) ((i) * 6 + 3)) (decide (tx (i * 6 + 2) = 120)))))]) dX10_perform_90 (by decide) rfl ?_
          have hwr := lc_why_r fi si qi mi (lc_tp tx (i * 6)) (lc_tp tx (i * 6 + 3)) (decide (tx (i * 6 + 2) = 120))
          refine lc_iload dX10_perform_92 6 rfl ?_
          refine lc_if_eq (tgt := 118) dX10_perform_94 (by decide) (by omega) (fun h_94_195 => ?_) (fun h_94_195 => ?_)
          · skip
            have hwe : (lc_why fi si qi mi (lc_tp tx (i * 6)) (lc_tp tx (i * 6 + 3)) (decide (tx (i * 6 + 2) = 120))) = 0 := (by omega)
            refine lc_aload_n dX10_perform_118 rfl 0 rfl ?_
            refine lc_get dX10_perform_119 lc_fX10_53 h161 rfl ?_
            refine lc_iload dX10_perform_122 4 rfl ?_
            refine lc_iload dX10_perform_124 5 rfl ?_
            refine lc_callV (As := [.int (lc_i (lc_tp (tx) ((i) * 6))), .int (lc_i (lc_tp (tx) ((i) * 6 + 3)))]) (stk := []) (b := 18) dX10_perform_126 lc_mX10_93 lc_yX7_makeMove h192 rfl (lc_cX7_makeMove l n (18) (fi) (si) (qi) (mi) (moi) (cai) (cti) (poi) (lc_tp (tx) ((i) * 6)) (lc_tp (tx) ((i) * 6 + 3)) σ159 h192 h193 h194 h195 (hfi) (hsi) (by omega) (by omega)) rfl ⟨Nat.le_of_ble_eq_true rfl, Nat.le_of_ble_eq_true rfl⟩ ⟨Nat.le_of_ble_eq_true rfl, Nat.le_of_ble_eq_true rfl⟩ rfl (Nat.le_of_ble_eq_true rfl) (fun v202 n203 σ204 q205 => ?_)
            obtain ⟨rfl, rfl, h198, h199, h200, h201, fr197⟩ := q205
            have h206 : σ204 (1) = some (.inr (10, [.ref (2), .ref (5), .ref (7), .ref (9), .ref (11), .ref (18), .ref (22), .ref (26), .ref (30), .ref (48), .int (lc_i (if bs = true then 1 else 0)), .int (lc_i (if bt = true then 1 else 0)), .int (lc_i (sn)), .int (lc_i (sr))]) : lc_Cel) := (fr197 _ (by omega) (by omega) (by omega) (by omega)).trans h161
            have h207 : σ204 (2) = some (.inr (1, [.ref (3), .ref (4)]) : lc_Cel) := (fr197 _ (by omega) (by omega) (by omega) (by omega)).trans h162
            have h208 : σ204 (3) = some (lc_aI 48 (lc_pt)) := (fr197 _ (by omega) (by omega) (by omega) (by omega)).trans h163
            have h209 : σ204 (4) = some (lc_aI 72 (lc_sp)) := (fr197 _ (by omega) (by omega) (by omega) (by omega)).trans h164
            have h210 : σ204 (7) = some (.inr (6, [.ref (2), .ref (8), .ref (5)]) : lc_Cel) := (fr197 _ (by omega) (by omega) (by omega) (by omega)).trans h165
            have h211 : σ204 (9) = some (.inr (4, [.ref (10), .int (lc_i (u1)), .int (lc_i (u2))]) : lc_Cel) := (fr197 _ (by omega) (by omega) (by omega) (by omega)).trans h166
            have h212 : σ204 (10) = some (lc_aI 364 (ug)) := (fr197 _ (by omega) (by omega) (by omega) (by omega)).trans h167
            have h213 : σ204 (8) = some (.inr (8, [.ref (2), .int (lc_i (a1)), .int (lc_i (a2)), .int (lc_i (a3))]) : lc_Cel) := (fr197 _ (by omega) (by omega) (by omega) (by omega)).trans h168
            have h214 : σ204 (11) = some (.inr (3, [.ref (7), .ref (12), .ref (14), .ref (16), .int (lc_i (ch))]) : lc_Cel) := (fr197 _ (by omega) (by omega) (by omega) (by omega)).trans h169
            have h215 : σ204 (12) = some (.inr (0, [.ref (13), .int (lc_i (lc_cnt (bf) 1 36)), .int (lc_i (lc_cnt (bf) 2 36)), .int (lc_i (d1)), .int (lc_i (d2)), .int (lc_i (d3))]) : lc_Cel) := (fr197 _ (by omega) (by omega) (by omega) (by omega)).trans h170
            have h216 : σ204 (13) = some (lc_aI 36 (bf)) := (fr197 _ (by omega) (by omega) (by omega) (by omega)).trans h171
            have h217 : σ204 (14) = some (.inr (4, [.ref (15), .int (lc_i (y1)), .int (lc_i (y2))]) : lc_Cel) := (fr197 _ (by omega) (by omega) (by omega) (by omega)).trans h172
            have h218 : σ204 (15) = some (lc_aI 364 (g1)) := (fr197 _ (by omega) (by omega) (by omega) (by omega)).trans h173
            have h219 : σ204 (16) = some (.inr (4, [.ref (17), .int (lc_i (x1)), .int (lc_i (x2))]) : lc_Cel) := (fr197 _ (by omega) (by omega) (by omega) (by omega)).trans h174
            have h220 : σ204 (17) = some (lc_aI 364 (g2)) := (fr197 _ (by omega) (by omega) (by omega) (by omega)).trans h175
            have h221 : σ204 (30) = some (.inr (2, [.ref (31), .int (lc_i ((k : Int)))]) : lc_Cel) := (fr197 _ (by omega) (by omega) (by omega) (by omega)).trans h176
            have h222 : σ204 (31) = some (lc_aS 4 (lc_h4 (r))) := (fr197 _ (by omega) (by omega) (by omega) (by omega)).trans h177
            have h223 : σ204 (48) = some (.inr (5, [.ref (49), .int (lc_i (z))]) : lc_Cel) := (fr197 _ (by omega) (by omega) (by omega) (by omega)).trans h178
            have h224 : σ204 (49) = some (lc_aC 80 (tx)) := (fr197 _ (by omega) (by omega) (by omega) (by omega)).trans h179
            have h225 : σ204 (26) = some (.inr (7, [.ref (27), .int (lc_i (nMO)), .int (lc_i (nCA)), .ref (29), .int (lc_i (nCT))]) : lc_Cel) := (fr197 _ (by omega) (by omega) (by omega) (by omega)).trans h180
            have h226 : σ204 (27) = some (.inr (0, [.ref (28), .int (lc_i (lc_cnt (nF) 1 36)), .int (lc_i (lc_cnt (nF) 2 36)), .int (lc_i (nS)), .int (lc_i (nQ)), .int (lc_i (nM))]) : lc_Cel) := (fr197 _ (by omega) (by omega) (by omega) (by omega)).trans h181
            have h227 : σ204 (28) = some (lc_aI 36 (nF)) := (fr197 _ (by omega) (by omega) (by omega) (by omega)).trans h182
            have h228 : σ204 (29) = some (lc_aJ 60 (fun i : Int => lc_j ((nPO) i))) := (fr197 _ (by omega) (by omega) (by omega) (by omega)).trans h183
            have h229 : σ204 (t) = some (.inr (7, [.ref (t + 1), .int (lc_i (mo3)), .int (lc_i (ca3)), .ref (t + 3), .int (lc_i (ct3))]) : lc_Cel) := (fr197 _ (by omega) (by omega) (by omega) (by omega)).trans h184
            have h230 : σ204 (t + 1) = some (.inr (0, [.ref (t + 2), .int (lc_i (lc_cnt (f3) 1 36)), .int (lc_i (lc_cnt (f3) 2 36)), .int (lc_i (s3)), .int (lc_i (q3)), .int (lc_i (m3))]) : lc_Cel) := (fr197 _ (by omega) (by omega) (by omega) (by omega)).trans h185
            have h231 : σ204 (t + 2) = some (lc_aI 36 (f3)) := (fr197 _ (by omega) (by omega) (by omega) (by omega)).trans h186
            have h232 : σ204 (t + 3) = some (lc_aJ 60 (fun i : Int => lc_j ((po3) i))) := (fr197 _ (by omega) (by omega) (by omega) (by omega)).trans h187
            have h233 : σ204 (22) = some (.inr (7, [.ref (23), .int (lc_i (mo)), .int (lc_i (ca)), .ref (25), .int (lc_i (ct))]) : lc_Cel) := (fr197 _ (by omega) (by omega) (by omega) (by omega)).trans h188
            have h234 : σ204 (23) = some (.inr (0, [.ref (24), .int (lc_i (lc_cnt (f) 1 36)), .int (lc_i (lc_cnt (f) 2 36)), .int (lc_i (s)), .int (lc_i (q)), .int (lc_i (m))]) : lc_Cel) := (fr197 _ (by omega) (by omega) (by omega) (by omega)).trans h189
            have h235 : σ204 (24) = some (lc_aI 36 (f)) := (fr197 _ (by omega) (by omega) (by omega) (by omega)).trans h190
            have h236 : σ204 (25) = some (lc_aJ 60 (fun i : Int => lc_j ((po) i))) := (fr197 _ (by omega) (by omega) (by omega) (by omega)).trans h191
            have h237 : σ204 (5) = some (.inr (9, [.ref (2), .ref (6), .int (lc_i ((wk153).1)), .int (lc_i ((wk153).2.1)), .int (lc_i ((wk153).2.2.1)), .int (lc_i ((wk153).2.2.2))]) : lc_Cel) := (fr197 _ (by omega) (by omega) (by omega) (by omega)).trans h151
            have h238 : σ204 (6) = some (.inr (8, [.ref (2), .int (lc_i (c154)), .int (lc_i (c155)), .int (lc_i (c156))]) : lc_Cel) := (fr197 _ (by omega) (by omega) (by omega) (by omega)).trans h152
            refine lc_iinc (lv' := [(0, .ref (1)), (1, .int (lc_i (lc_fault (tx) (z)))), (2, .int (lc_i (((z) + 1) / 6))), (3, .int (lc_i (i + 1))), (4, .int (lc_i (lc_tp (tx) ((i) * 6)))), (5, .int (lc_i (lc_tp (tx) ((i) * 6 + 3)))), (6, .int (lc_i (lc_why (fi) (si) (qi) (mi) (lc_tp (tx) ((i) * 6)) (lc_tp (tx) ((i) * 6 + 3)) (decide (tx (i * 6 + 2) = 120)))))]) dX10_perform_129 3 rfl (by decide) rfl ?_
            refine lc_goto (tgt := 39) dX10_perform_132 (by decide) ?_
            refine lc_pick (lv' := [(0, .ref (1)), (1, .int (lc_i (lc_fault (tx) (z)))), (2, .int (lc_i (((z) + 1) / 6))), (3, .int (lc_i (i + 1)))]) [0, 1, 2, 3] rfl ?_
            exact ih54 (i + 1) (lc_mvf (fi) (si) (lc_tp (tx) ((i) * 6)) (lc_tp (tx) ((i) * 6 + 3))) (3 - (si)) (lc_mvq (fi) (qi) (lc_tp (tx) ((i) * 6 + 3))) (mi) (moi + 1) (lc_mvc (fi) (cai) (lc_tp (tx) ((i) * 6 + 3))) (lc_mvt (fi) (cti) (lc_tp (tx) ((i) * 6 + 3))) (lc_mvp (fi) (si) (lc_tp (tx) ((i) * 6)) (lc_tp (tx) ((i) * 6 + 3)) (cti) (poi)) (wk153) (c154) (c155) (c156) σ204 h237 h238 h198 h199 h200 h201 (fun i _ _ _ _ _ _ => ((fr197 i (by omega) (by omega) (by omega) (by omega)).trans ((fr150 i (by omega) (by omega)).trans (fr62 i (by omega) (by omega) (by omega) (by omega) (by omega) (by omega))))) (by omega) (lc_wz_mv (c := (decide (tx (i * 6 + 2) = 120))) hW hwe) (by rw [hK, show ((z + 1) / 6 - i).toNat = ((z + 1) / 6 - (i + 1)).toNat + 1 from by omega]; exact lc_pr_y hwe) (by omega)
          · skip
            have hR : lc_pr tx ((z + 1) / 6).toNat 0 (f, s, q, m, mo, ca, ct, po) = ((fi, si, qi, mi, moi, cai, cti, poi), i, (lc_why fi si qi mi (lc_tp tx (i * 6)) (lc_tp tx (i * 6 + 3)) (decide (tx (i * 6 + 2) = 120)))) := (by rw [hK, show ((z + 1) / 6 - i).toNat = ((z + 1) / 6 - (i + 1)).toNat + 1 from by omega]; exact lc_pr_n (show (lc_why fi si qi mi (lc_tp tx (i * 6)) (lc_tp tx (i * 6 + 3)) (decide (tx (i * 6 + 2) = 120))) ≠ 0 from by omega))
            refine lc_aload_n dX10_perform_97 rfl 0 rfl ?_
            refine lc_iload_n dX10_perform_98 rfl 3 rfl ?_
            refine lc_iload dX10_perform_99 6 rfl ?_
            refine lc_callV (As := [.int (lc_i (i)), .int (lc_i (lc_why (fi) (si) (qi) (mi) (lc_tp (tx) ((i) * 6)) (lc_tp (tx) ((i) * 6 + 3)) (decide (tx (i * 6 + 2) = 120))))]) (stk := []) (b := 1) dX10_perform_101 lc_mX10_164 lc_yX10_noteStop h161 rfl (lc_cX10_noteStop l n (bs) (bt) (sn) (sr) (i) (lc_why (fi) (si) (qi) (mi) (lc_tp (tx) ((i) * 6)) (lc_tp (tx) ((i) * 6 + 3)) (decide (tx (i * 6 + 2) = 120))) σ159 h161) rfl ⟨Nat.le_of_ble_eq_true rfl, Nat.le_of_ble_eq_true rfl⟩ ⟨Nat.le_of_ble_eq_true rfl, Nat.le_of_ble_eq_true rfl⟩ rfl (Nat.le_of_ble_eq_true rfl) (fun v241 n242 σ243 q244 => ?_)
            obtain ⟨rfl, rfl, h240, fr239⟩ := q244
            have h245 : σ243 (2) = some (.inr (1, [.ref (3), .ref (4)]) : lc_Cel) := (fr239 _ (by omega)).trans h162
            have h246 : σ243 (3) = some (lc_aI 48 (lc_pt)) := (fr239 _ (by omega)).trans h163
            have h247 : σ243 (4) = some (lc_aI 72 (lc_sp)) := (fr239 _ (by omega)).trans h164
            have h248 : σ243 (7) = some (.inr (6, [.ref (2), .ref (8), .ref (5)]) : lc_Cel) := (fr239 _ (by omega)).trans h165
            have h249 : σ243 (9) = some (.inr (4, [.ref (10), .int (lc_i (u1)), .int (lc_i (u2))]) : lc_Cel) := (fr239 _ (by omega)).trans h166
            have h250 : σ243 (10) = some (lc_aI 364 (ug)) := (fr239 _ (by omega)).trans h167
            have h251 : σ243 (8) = some (.inr (8, [.ref (2), .int (lc_i (a1)), .int (lc_i (a2)), .int (lc_i (a3))]) : lc_Cel) := (fr239 _ (by omega)).trans h168
            have h252 : σ243 (11) = some (.inr (3, [.ref (7), .ref (12), .ref (14), .ref (16), .int (lc_i (ch))]) : lc_Cel) := (fr239 _ (by omega)).trans h169
            have h253 : σ243 (12) = some (.inr (0, [.ref (13), .int (lc_i (lc_cnt (bf) 1 36)), .int (lc_i (lc_cnt (bf) 2 36)), .int (lc_i (d1)), .int (lc_i (d2)), .int (lc_i (d3))]) : lc_Cel) := (fr239 _ (by omega)).trans h170
            have h254 : σ243 (13) = some (lc_aI 36 (bf)) := (fr239 _ (by omega)).trans h171
            have h255 : σ243 (14) = some (.inr (4, [.ref (15), .int (lc_i (y1)), .int (lc_i (y2))]) : lc_Cel) := (fr239 _ (by omega)).trans h172
            have h256 : σ243 (15) = some (lc_aI 364 (g1)) := (fr239 _ (by omega)).trans h173
            have h257 : σ243 (16) = some (.inr (4, [.ref (17), .int (lc_i (x1)), .int (lc_i (x2))]) : lc_Cel) := (fr239 _ (by omega)).trans h174
            have h258 : σ243 (17) = some (lc_aI 364 (g2)) := (fr239 _ (by omega)).trans h175
            have h259 : σ243 (30) = some (.inr (2, [.ref (31), .int (lc_i ((k : Int)))]) : lc_Cel) := (fr239 _ (by omega)).trans h176
            have h260 : σ243 (31) = some (lc_aS 4 (lc_h4 (r))) := (fr239 _ (by omega)).trans h177
            have h261 : σ243 (48) = some (.inr (5, [.ref (49), .int (lc_i (z))]) : lc_Cel) := (fr239 _ (by omega)).trans h178
            have h262 : σ243 (49) = some (lc_aC 80 (tx)) := (fr239 _ (by omega)).trans h179
            have h263 : σ243 (26) = some (.inr (7, [.ref (27), .int (lc_i (nMO)), .int (lc_i (nCA)), .ref (29), .int (lc_i (nCT))]) : lc_Cel) := (fr239 _ (by omega)).trans h180
            have h264 : σ243 (27) = some (.inr (0, [.ref (28), .int (lc_i (lc_cnt (nF) 1 36)), .int (lc_i (lc_cnt (nF) 2 36)), .int (lc_i (nS)), .int (lc_i (nQ)), .int (lc_i (nM))]) : lc_Cel) := (fr239 _ (by omega)).trans h181
            have h265 : σ243 (28) = some (lc_aI 36 (nF)) := (fr239 _ (by omega)).trans h182
            have h266 : σ243 (29) = some (lc_aJ 60 (fun i : Int => lc_j ((nPO) i))) := (fr239 _ (by omega)).trans h183
            have h267 : σ243 (t) = some (.inr (7, [.ref (t + 1), .int (lc_i (mo3)), .int (lc_i (ca3)), .ref (t + 3), .int (lc_i (ct3))]) : lc_Cel) := (fr239 _ (by omega)).trans h184
            have h268 : σ243 (t + 1) = some (.inr (0, [.ref (t + 2), .int (lc_i (lc_cnt (f3) 1 36)), .int (lc_i (lc_cnt (f3) 2 36)), .int (lc_i (s3)), .int (lc_i (q3)), .int (lc_i (m3))]) : lc_Cel) := (fr239 _ (by omega)).trans h185
            have h269 : σ243 (t + 2) = some (lc_aI 36 (f3)) := (fr239 _ (by omega)).trans h186
            have h270 : σ243 (t + 3) = some (lc_aJ 60 (fun i : Int => lc_j ((po3) i))) := (fr239 _ (by omega)).trans h187
            have h271 : σ243 (22) = some (.inr (7, [.ref (23), .int (lc_i (mo)), .int (lc_i (ca)), .ref (25), .int (lc_i (ct))]) : lc_Cel) := (fr239 _ (by omega)).trans h188
            have h272 : σ243 (23) = some (.inr (0, [.ref (24), .int (lc_i (lc_cnt (f) 1 36)), .int (lc_i (lc_cnt (f) 2 36)), .int (lc_i (s)), .int (lc_i (q)), .int (lc_i (m))]) : lc_Cel) := (fr239 _ (by omega)).trans h189
            have h273 : σ243 (24) = some (lc_aI 36 (f)) := (fr239 _ (by omega)).trans h190
            have h274 : σ243 (25) = some (lc_aJ 60 (fun i : Int => lc_j ((po) i))) := (fr239 _ (by omega)).trans h191
            have h275 : σ243 (18) = some (.inr (7, [.ref (19), .int (lc_i (moi)), .int (lc_i (cai)), .ref (21), .int (lc_i (cti))]) : lc_Cel) := (fr239 _ (by omega)).trans h192
            have h276 : σ243 (19) = some (.inr (0, [.ref (20), .int (lc_i (lc_cnt (fi) 1 36)), .int (lc_i (lc_cnt (fi) 2 36)), .int (lc_i (si)), .int (lc_i (qi)), .int (lc_i (mi))]) : lc_Cel) := (fr239 _ (by omega)).trans h193
            have h277 : σ243 (20) = some (lc_aI 36 (fi)) := (fr239 _ (by omega)).trans h194
            have h278 : σ243 (21) = some (lc_aJ 60 (fun i : Int => lc_j ((poi) i))) := (fr239 _ (by omega)).trans h195
            have h279 : σ243 (5) = some (.inr (9, [.ref (2), .ref (6), .int (lc_i ((wk153).1)), .int (lc_i ((wk153).2.1)), .int (lc_i ((wk153).2.2.1)), .int (lc_i ((wk153).2.2.2))]) : lc_Cel) := (fr239 _ (by omega)).trans h151
            have h280 : σ243 (6) = some (.inr (8, [.ref (2), .int (lc_i (c154)), .int (lc_i (c155)), .int (lc_i (c156))]) : lc_Cel) := (fr239 _ (by omega)).trans h152
            refine lc_aload_n dX10_perform_104 rfl 0 rfl ?_
            refine lc_get dX10_perform_105 lc_fX10_53 h240 rfl ?_
            refine lc_aload_n dX10_perform_108 rfl 0 rfl ?_
            refine lc_get dX10_perform_109 lc_fX10_57 h240 rfl ?_
            refine lc_callV (As := [.ref (22)]) (stk := []) (b := 18) dX10_perform_112 lc_mX10_149 lc_yX7_copyFrom h275 rfl (lc_cX7_copyFrom l n (18) (fi) (si) (qi) (mi) (moi) (cai) (cti) (poi) (22) (f) (s) (q) (m) (mo) (ca) (ct) (po) σ243 h275 h276 h277 h278 h271 h272 h273 h274 (by omega)) rfl ⟨Nat.le_of_ble_eq_true rfl, Nat.le_of_ble_eq_true rfl⟩ ⟨Nat.le_of_ble_eq_true rfl, Nat.le_of_ble_eq_true rfl⟩ rfl (Nat.le_of_ble_eq_true rfl) (fun v286 n287 σ288 q289 => ?_)
            obtain ⟨rfl, rfl, h282, h283, h284, h285, fr281⟩ := q289
            have h290 : σ288 (2) = some (.inr (1, [.ref (3), .ref (4)]) : lc_Cel) := (fr281 _ (by omega) (by omega) (by omega) (by omega)).trans h245
            have h291 : σ288 (3) = some (lc_aI 48 (lc_pt)) := (fr281 _ (by omega) (by omega) (by omega) (by omega)).trans h246
            have h292 : σ288 (4) = some (lc_aI 72 (lc_sp)) := (fr281 _ (by omega) (by omega) (by omega) (by omega)).trans h247
            have h293 : σ288 (7) = some (.inr (6, [.ref (2), .ref (8), .ref (5)]) : lc_Cel) := (fr281 _ (by omega) (by omega) (by omega) (by omega)).trans h248
            have h294 : σ288 (9) = some (.inr (4, [.ref (10), .int (lc_i (u1)), .int (lc_i (u2))]) : lc_Cel) := (fr281 _ (by omega) (by omega) (by omega) (by omega)).trans h249
            have h295 : σ288 (10) = some (lc_aI 364 (ug)) := (fr281 _ (by omega) (by omega) (by omega) (by omega)).trans h250
            have h296 : σ288 (8) = some (.inr (8, [.ref (2), .int (lc_i (a1)), .int (lc_i (a2)), .int (lc_i (a3))]) : lc_Cel) := (fr281 _ (by omega) (by omega) (by omega) (by omega)).trans h251
            have h297 : σ288 (11) = some (.inr (3, [.ref (7), .ref (12), .ref (14), .ref (16), .int (lc_i (ch))]) : lc_Cel) := (fr281 _ (by omega) (by omega) (by omega) (by omega)).trans h252
            have h298 : σ288 (12) = some (.inr (0, [.ref (13), .int (lc_i (lc_cnt (bf) 1 36)), .int (lc_i (lc_cnt (bf) 2 36)), .int (lc_i (d1)), .int (lc_i (d2)), .int (lc_i (d3))]) : lc_Cel) := (fr281 _ (by omega) (by omega) (by omega) (by omega)).trans h253
            have h299 : σ288 (13) = some (lc_aI 36 (bf)) := (fr281 _ (by omega) (by omega) (by omega) (by omega)).trans h254
            have h300 : σ288 (14) = some (.inr (4, [.ref (15), .int (lc_i (y1)), .int (lc_i (y2))]) : lc_Cel) := (fr281 _ (by omega) (by omega) (by omega) (by omega)).trans h255
            have h301 : σ288 (15) = some (lc_aI 364 (g1)) := (fr281 _ (by omega) (by omega) (by omega) (by omega)).trans h256
            have h302 : σ288 (16) = some (.inr (4, [.ref (17), .int (lc_i (x1)), .int (lc_i (x2))]) : lc_Cel) := (fr281 _ (by omega) (by omega) (by omega) (by omega)).trans h257
            have h303 : σ288 (17) = some (lc_aI 364 (g2)) := (fr281 _ (by omega) (by omega) (by omega) (by omega)).trans h258
            have h304 : σ288 (30) = some (.inr (2, [.ref (31), .int (lc_i ((k : Int)))]) : lc_Cel) := (fr281 _ (by omega) (by omega) (by omega) (by omega)).trans h259
            have h305 : σ288 (31) = some (lc_aS 4 (lc_h4 (r))) := (fr281 _ (by omega) (by omega) (by omega) (by omega)).trans h260
            have h306 : σ288 (48) = some (.inr (5, [.ref (49), .int (lc_i (z))]) : lc_Cel) := (fr281 _ (by omega) (by omega) (by omega) (by omega)).trans h261
            have h307 : σ288 (49) = some (lc_aC 80 (tx)) := (fr281 _ (by omega) (by omega) (by omega) (by omega)).trans h262
            have h308 : σ288 (26) = some (.inr (7, [.ref (27), .int (lc_i (nMO)), .int (lc_i (nCA)), .ref (29), .int (lc_i (nCT))]) : lc_Cel) := (fr281 _ (by omega) (by omega) (by omega) (by omega)).trans h263
            have h309 : σ288 (27) = some (.inr (0, [.ref (28), .int (lc_i (lc_cnt (nF) 1 36)), .int (lc_i (lc_cnt (nF) 2 36)), .int (lc_i (nS)), .int (lc_i (nQ)), .int (lc_i (nM))]) : lc_Cel) := (fr281 _ (by omega) (by omega) (by omega) (by omega)).trans h264
            have h310 : σ288 (28) = some (lc_aI 36 (nF)) := (fr281 _ (by omega) (by omega) (by omega) (by omega)).trans h265
            have h311 : σ288 (29) = some (lc_aJ 60 (fun i : Int => lc_j ((nPO) i))) := (fr281 _ (by omega) (by omega) (by omega) (by omega)).trans h266
            have h312 : σ288 (t) = some (.inr (7, [.ref (t + 1), .int (lc_i (mo3)), .int (lc_i (ca3)), .ref (t + 3), .int (lc_i (ct3))]) : lc_Cel) := (fr281 _ (by omega) (by omega) (by omega) (by omega)).trans h267
            have h313 : σ288 (t + 1) = some (.inr (0, [.ref (t + 2), .int (lc_i (lc_cnt (f3) 1 36)), .int (lc_i (lc_cnt (f3) 2 36)), .int (lc_i (s3)), .int (lc_i (q3)), .int (lc_i (m3))]) : lc_Cel) := (fr281 _ (by omega) (by omega) (by omega) (by omega)).trans h268
            have h314 : σ288 (t + 2) = some (lc_aI 36 (f3)) := (fr281 _ (by omega) (by omega) (by omega) (by omega)).trans h269
            have h315 : σ288 (t + 3) = some (lc_aJ 60 (fun i : Int => lc_j ((po3) i))) := (fr281 _ (by omega) (by omega) (by omega) (by omega)).trans h270
            have h316 : σ288 (22) = some (.inr (7, [.ref (23), .int (lc_i (mo)), .int (lc_i (ca)), .ref (25), .int (lc_i (ct))]) : lc_Cel) := (fr281 _ (by omega) (by omega) (by omega) (by omega)).trans h271
            have h317 : σ288 (23) = some (.inr (0, [.ref (24), .int (lc_i (lc_cnt (f) 1 36)), .int (lc_i (lc_cnt (f) 2 36)), .int (lc_i (s)), .int (lc_i (q)), .int (lc_i (m))]) : lc_Cel) := (fr281 _ (by omega) (by omega) (by omega) (by omega)).trans h272
            have h318 : σ288 (24) = some (lc_aI 36 (f)) := (fr281 _ (by omega) (by omega) (by omega) (by omega)).trans h273
            have h319 : σ288 (25) = some (lc_aJ 60 (fun i : Int => lc_j ((po) i))) := (fr281 _ (by omega) (by omega) (by omega) (by omega)).trans h274
            have h320 : σ288 (5) = some (.inr (9, [.ref (2), .ref (6), .int (lc_i ((wk153).1)), .int (lc_i ((wk153).2.1)), .int (lc_i ((wk153).2.2.1)), .int (lc_i ((wk153).2.2.2))]) : lc_Cel) := (fr281 _ (by omega) (by omega) (by omega) (by omega)).trans h279
            have h321 : σ288 (6) = some (.inr (8, [.ref (2), .int (lc_i (c154)), .int (lc_i (c155)), .int (lc_i (c156))]) : lc_Cel) := (fr281 _ (by omega) (by omega) (by omega) (by omega)).trans h280
            have h322 : σ288 (1) = some (.inr (10, [.ref (2), .ref (5), .ref (7), .ref (9), .ref (11), .ref (18), .ref (22), .ref (26), .ref (30), .ref (48), .int (lc_i (if bs = true then 1 else 0)), .int (lc_i (if true = true then 1 else 0)), .int (lc_i (i)), .int (lc_i (lc_why (fi) (si) (qi) (mi) (lc_tp (tx) ((i) * 6)) (lc_tp (tx) ((i) * 6 + 3)) (decide (tx (i * 6 + 2) = 120))))]) : lc_Cel) := (fr281 _ (by omega) (by omega) (by omega) (by omega)).trans h240
            refine lc_bipush dX10_perform_115 (by decide) ?_
            exact lc_iret dX10_perform_117 rfl (Nat.le_of_ble_eq_true rfl) (Nat.le_of_ble_eq_true rfl) (hQ _ _ _ (by rw [lc_perf, if_neg (show ¬ (0 ≤ lc_fault tx z) from by omega), hR, if_pos (show 0 ≤ i from by omega)]; exact ⟨rfl, rfl, lc_CI_mk (BF := (f, s, q, m, mo, ca, ct, po)) (SN := (nF, nS, nQ, nM, nMO, nCA, nCT, nPO)) h322 h290 h291 h292 h320 h321 h293 h294 h295 (lc_Lk_mk h296 h297 h298 h299 h300 h301 h302 h303) ⟨h282, h283, h284, h285⟩ ⟨h316, h317, h318, h319⟩ ⟨h308, h309, h310, h311⟩ (hSN) h304 h305 (lc_Sl_fr hSl (fun i _ _ => ((fr281 i (by omega) (by omega) (by omega) (by omega)).trans ((fr239 i (by omega)).trans ((fr150 i (by omega) (by omega)).trans ((fr62 i (by omega) (by omega) (by omega) (by omega) (by omega) (by omega)).trans (fr6 i (by omega) (by omega) (by omega) (by omega)))))))) h306 h307, fun i _ => ((fr281 i (by omega) (by omega) (by omega) (by omega)).trans ((fr239 i (by omega)).trans ((fr150 i (by omega) (by omega)).trans ((fr62 i (by omega) (by omega) (by omega) (by omega) (by omega) (by omega)).trans (fr6 i (by omega) (by omega) (by omega) (by omega))))))⟩))
    exact loop53 1000 (0) (f) (s) (q) (m) (mo) (ca) (ct) (po) (w) (e1) (e2) (e3) σ13 h19 h20 h36 h37 h38 h39 (fun _ _ _ _ _ _ _ => rfl) (by omega) (⟨hf, hs, hq, hm, hct, hpo, hkey⟩) (by rw [show (z + 1) / 6 - 0 = (z + 1) / 6 from by omega]) (by omega)
  · skip
    refine lc_sipush dX10_perform_12 (by decide) ?_
    refine lc_iload_n dX10_perform_15 rfl 1 rfl ?_
    refine lc_isub dX10_perform_16 ?_
    exact lc_iret dX10_perform_17 rfl (Nat.le_of_ble_eq_true rfl) (Nat.le_of_ble_eq_true rfl) (hQ _ _ _ (by rw [lc_perf, if_pos (show 0 ≤ lc_fault tx z from by omega)]; exact ⟨rfl, rfl, lc_CI_mk (BF := (bF, bS, bQ, bM, bMO, bCA, bCT, bPO)) (SN := (nF, nS, nQ, nM, nMO, nCA, nCT, nPO)) hz_1 hz_2 hz_3 hz_4 hz_5 hz_6 hz_7 hz_9 hz_10 (lc_Lk_mk hz_8 hz_11 hz_12 hz_13 hz_14 hz_15 hz_16 hz_17) ⟨hz_18, hz_19, hz_20, hz_21⟩ ⟨hz_22, hz_23, hz_24, hz_25⟩ ⟨hz_26, hz_27, hz_28, hz_29⟩ (hSN) hz_30 hz_31 (lc_Sl_fr hSl (fun i _ _ => rfl)) hz_48 hz_49, fun i _ => rfl⟩))
