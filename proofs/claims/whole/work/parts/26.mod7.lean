/-! the reference's calls against the steps -/
theorem lc_fnd_c {a : Int × Int} (h : -1 ≤ a.2) : (a.2 < 0 ∧ lc_fnd a = -105) ∨ (0 ≤ a.2 ∧ lc_fnd a = a.2) := by
  unfold lc_fnd
  split <;> omega
theorem lc_sv_w {m : Int} {d : Nat} {f : Int → Int} {s q : Int} (hd : 1 ≤ d) (h : (lc_sv m d f s q).2 = -1) : (lc_sv m d f s q).1 = lc_wth f s := by
  cases d with
  | zero => omega
  | succ d =>
    have h2 : ((lc_mv f s q m).foldl (lc_st (fun f s q => (lc_sv m d f s q).1) f s q) (-1000, -1)).2 = -1 := h
    exact if_pos h2
theorem lc_RM_s {N f : Int → Int} {s q m mo ca c v : Int} {po : Int → Int} (hR : lc_RM N (f, s, q, m, mo, ca, c, po)) : lc_RM (lc_u N 0 v) (f, v, q, m, mo, ca, c, po) := by
  obtain ⟨h0, h1, h2, h3, h4, h5, h6, h7⟩ := hR
  refine ⟨lc_u_s _ _ _, ?_, ?_, ?_, ?_, ?_, ?_, ?_⟩
  · rw [lc_u_n _ _ (by omega)]; exact h1
  · rw [lc_u_n _ _ (by omega)]; exact h2
  · rw [lc_u_n _ _ (by omega)]; exact h3
  · rw [lc_u_n _ _ (by omega)]; exact h4
  · rw [lc_u_n _ _ (by omega)]; exact h5
  · intro p h8 h9
    rw [lc_u_n _ _ (by omega)]; exact h6 p h8 h9
  · intro i h8 h9
    obtain ⟨a1, a2, a3⟩ := h7 i h8 h9
    exact ⟨by rw [lc_u_n _ _ (by omega)]; exact a1, by rw [lc_u_n _ _ (by omega)]; exact a2, by rw [lc_u_n _ _ (by omega)]; exact a3⟩
theorem lc_RM_u {N5 N1 : Int → Int} {j : Int} {a : lc_St} (hP : lc_RM (fun i => N5 (222 * j + i)) a) (hc : a.2.2.2.2.2.2.1 ≤ 60) : lc_RM (lc_cpy N5 (222 * j) N1 0) a := lc_RM_e hP hc (fun i h1 h2 => by
  unfold lc_cpy
  rw [if_pos (by omega)]
  congr 1
  omega)
theorem lc_pv0 {f : Int → Int} {x w : Int} (h0 : f x = 0) (hw : 1 ≤ w ∧ w ≤ 4) : f x = if w = 1 then lc_num (fun j : Int => lc_cap f j x) 36 else if w = 2 then (if f x = 0 then 0 else lc_num (fun j : Int => lc_cov f x j) 36) else if w = 3 then lc_num (fun j : Int => lc_cap f x j) 36 else if w = 4 then (if f x = 0 then 0 else lc_num (fun j : Int => lc_step f x j) 36) else -102 := by
  have e1 : lc_num (fun j : Int => lc_cap f j x) 36 = 0 := lc_num_z 36 (fun i _ _ q => (lc_cap_iff.mp q).1.1.2 h0)
  have e3 : lc_num (fun j : Int => lc_cap f x j) 36 = 0 := lc_num_z 36 (fun i _ _ q => (lc_cap_iff.mp q).1.1.1 h0)
  rw [e1, e3, if_pos h0, if_pos h0, h0]
  (repeat' split) <;> omega
theorem lc_bF_c {w : Int × Int × Int × Int} (h : lc_wok w) : (w.1 = 0 ∧ lc_bF w = -105) ∨ (0 < w.1 ∧ lc_bL w = w.1 ∧ lc_bP w = w.2.1 ∧ lc_bF w / 48 = w.2.2.1 / 24 ∧ lc_bF w / 2 % 24 = w.2.2.1 % 24 ∧ 1 - lc_bF w % 2 = (if 0 < w.2.2.2 then 1 else 0) ∧ 0 ≤ lc_bF w ∧ lc_bF w < 96) := by
  obtain ⟨h1, h2⟩ := h
  unfold lc_bF lc_bL lc_bP
  by_cases e : w.1 = 0
  · rw [if_pos e]; exact Or.inl ⟨e, rfl⟩
  · have h3 := h2 e
    rw [if_neg e, if_neg e, if_neg e]
    refine Or.inr ⟨by omega, rfl, rfl, ?_⟩
    rcases h3.2.2 with e2 | e2
    · rw [e2, if_pos rfl, if_pos (by decide)]; omega
    · rw [e2, if_neg (by decide), if_neg (by decide)]; omega
theorem lc_pt_cp {c p : Int} (hp : 0 ≤ p ∧ p < 24) : lc_pa c p = lc_pt (c * 24 + p) := by
  unfold lc_pt
  rw [show (c * 24 + p) / 24 = c by omega, show (c * 24 + p) % 24 = p by omega]

def lc_MI (σ : lc_S) : lc_Ab → Prop
  | (N, P, H, k, tx, z, bs, bt, sn, sr) => ∃ (N1 N2 N3 N4 N5 N6 N7 : Int → Int) (at9 js jr w1 w2 w3 bw : Int), (σ (50) = some (.inr (11, [.ref (51), .ref (52), .ref (53), .ref (54), .ref (55), .int (lc_i ((k : Int))), .ref (56), .int (lc_i (if bs = true then 1 else 0)), .ref (57), .int (lc_i (z)), .int (lc_i (at9)), .int (lc_i (js)), .int (lc_i (jr)), .int (lc_i (w1)), .int (lc_i (w2)), .int (lc_i (w3)), .int (lc_i (bw))]) : lc_Cel)) ∧ (σ (51) = some (lc_aI 222 (N1))) ∧ (σ (52) = some (lc_aI 222 (N2))) ∧ (σ (53) = some (lc_aI 222 (N3))) ∧ (σ (54) = some (lc_aI 222 (N4))) ∧ (σ (55) = some (lc_aI 888 (N5))) ∧ (σ (56) = some (lc_aI 222 (N6))) ∧ (σ (57) = some (lc_aI 80 (N7))) ∧ (lc_RM N1 N) ∧ (bs = true → lc_RM N6 P) ∧ (∀ j : Nat, j < k → lc_RM (fun i => N5 (222 * (j : Int) + i)) (H j)) ∧ (∀ i : Int, 0 ≤ i → i < z → N7 i = tx i) ∧ (js = if bt = true then sn else -105) ∧ (jr = if bt = true then sr else -105)

theorem lc_MI_mk {σ : lc_S} {N P : lc_St} {H : Nat → lc_St} {k : Nat} {tx : Int → Int} {z : Int} {bs bt : Bool} {sn sr : Int} {N1 N2 N3 N4 N5 N6 N7 : Int → Int} {at9 js jr w1 w2 w3 bw : Int} (hc50 : σ (50) = some (.inr (11, [.ref (51), .ref (52), .ref (53), .ref (54), .ref (55), .int (lc_i ((k : Int))), .ref (56), .int (lc_i (if bs = true then 1 else 0)), .ref (57), .int (lc_i (z)), .int (lc_i (at9)), .int (lc_i (js)), .int (lc_i (jr)), .int (lc_i (w1)), .int (lc_i (w2)), .int (lc_i (w3)), .int (lc_i (bw))]) : lc_Cel)) (hc51 : σ (51) = some (lc_aI 222 (N1))) (hc52 : σ (52) = some (lc_aI 222 (N2))) (hc53 : σ (53) = some (lc_aI 222 (N3))) (hc54 : σ (54) = some (lc_aI 222 (N4))) (hc55 : σ (55) = some (lc_aI 888 (N5))) (hc56 : σ (56) = some (lc_aI 222 (N6))) (hc57 : σ (57) = some (lc_aI 80 (N7))) (hR : lc_RM N1 N) (hRP : bs = true → lc_RM N6 P) (hP : ∀ j : Nat, j < k → lc_RM (fun i => N5 (222 * (j : Int) + i)) (H j)) (hT : ∀ i : Int, 0 ≤ i → i < z → N7 i = tx i) (hjs : js = if bt = true then sn else -105) (hjr : jr = if bt = true then sr else -105) : lc_MI σ (N, P, H, k, tx, z, bs, bt, sn, sr) := ⟨N1, N2, N3, N4, N5, N6, N7, at9, js, jr, w1, w2, w3, bw, hc50, hc51, hc52, hc53, hc54, hc55, hc56, hc57, hR, hRP, hP, hT, hjs, hjr⟩

set_option maxRecDepth 100000 in
set_option maxHeartbeats 600000 in
theorem lc_cX11_moves_0 (l : Launch) (n : Nat) (f : Int → Int) (s q m mo ca ct : Int) (po : Int → Int) (P : lc_St) (H : Nat → lc_St) (k : Nat) (tx : Int → Int) (z : Int) (bs bt : Bool) (sn sr : Int) (x y : Int) (σ : lc_S)  (hI : lc_MI σ ((f, s, q, m, mo, ca, ct, po), P, H, k, tx, z, bs, bt, sn, sr)) (hw : lc_wf ((f, s, q, m, mo, ca, ct, po), P, H, k, tx, z, bs, bt, sn, sr)) (hR_x : -2147483648 ≤ x ∧ x < 2147483648) (hR_y : -2147483648 ≤ y ∧ y < 2147483648) : lc_Con l yX11_moves cX11_moves 5 (some .int) (lc_Rd 4) [.ref (50), .int (lc_i (x)), .int (lc_i (y)), .int (lc_i (0))] n σ (fun v n2 σ2 => v = some (.int (lc_i ((lc_move ((f, s, q, m, mo, ca, ct, po), P, H, k, tx, z, bs, bt, sn, sr) x y).2))) ∧ n = n2 ∧ lc_MI σ2 ((lc_move ((f, s, q, m, mo, ca, ct, po), P, H, k, tx, z, bs, bt, sn, sr) x y).1) ∧ ∀ i : Nat, i < 50 → σ2 i = σ i) := by
  obtain ⟨⟨hf9, hs9, hq9, hm9, hct9, hpo9, hkey9⟩, hwP, hwH, hk4, hz, htx⟩ := hw
  have hf : ∀ j : Int, 0 ≤ j → j < 36 → 0 ≤ f j ∧ f j ≤ 2 := hf9
  have hs : 1 ≤ s ∧ s ≤ 2 := hs9
  have hq : 0 ≤ q ∧ q ≤ 60 := hq9
  have hm : 4 ≤ m ∧ m ≤ 60 := hm9
  have hct : 1 ≤ ct ∧ ct ≤ 60 := hct9
  have hpo : ∀ i : Int, 0 ≤ i → i < ct → 0 ≤ po i ∧ po i < 450283905890997363 := hpo9
  have hkey : po (ct - 1) = lc_key f s 36 := hkey9
  obtain ⟨N1, N2, N3, N4, N5, N6, N7, at9, js, jr, w1, w2, w3, bw, hc50, hc51, hc52, hc53, hc54, hc55, hc56, hc57, hR, hRP, hP, hT, hjs, hjr⟩ := hI
  have hR : lc_RM N1 (f, s, q, m, mo, ca, ct, po) := hR
  have hH60 : ∀ j : Nat, j < k → (H j).2.2.2.2.2.2.1 ≤ 60 := fun j hj => (hwH j hj).2.2.2.2.1.2
  obtain ⟨h0R, h1R, h2R, h3R, h4R, h5R, h6R, h7R⟩ := id hR
  have h0R : N1 0 = s := h0R
  have h1R : N1 1 = q := h1R
  have h2R : N1 2 = mo := h2R
  have h3R : N1 3 = ca := h3R
  have h4R : N1 4 = m := h4R
  have h5R : N1 5 = ct := h5R
  have h6R : ∀ p : Int, 0 ≤ p → p < 36 → N1 (6 + p) = f p := h6R
  have hz_50 : σ (50) = some (.inr (11, [.ref (51), .ref (52), .ref (53), .ref (54), .ref (55), .int (lc_i ((k : Int))), .ref (56), .int (lc_i (if bs = true then 1 else 0)), .ref (57), .int (lc_i (z)), .int (lc_i (at9)), .int (lc_i (js)), .int (lc_i (jr)), .int (lc_i (w1)), .int (lc_i (w2)), .int (lc_i (w3)), .int (lc_i (bw))]) : lc_Cel) := hc50
  have hz_51 : σ (51) = some (lc_aI 222 (N1)) := hc51
  have hz_52 : σ (52) = some (lc_aI 222 (N2)) := hc52
  have hz_53 : σ (53) = some (lc_aI 222 (N3)) := hc53
  have hz_54 : σ (54) = some (lc_aI 222 (N4)) := hc54
  have hz_55 : σ (55) = some (lc_aI 888 (N5)) := hc55
  have hz_56 : σ (56) = some (lc_aI 222 (N6)) := hc56
  have hz_57 : σ (57) = some (lc_aI 80 (N7)) := hc57
  refine lc_con RX11 false (by decide) rfl (fun h => absurd h (by decide)) (Nat.le_of_ble_eq_true rfl) ?_
  suffices H : ∀ Q : lc_QT, (∀ v n2 σ2, (fun v n2 σ2 => v = some (.int (lc_i ((lc_move ((f, s, q, m, mo, ca, ct, po), P, H, k, tx, z, bs, bt, sn, sr) x y).2))) ∧ n = n2 ∧ lc_MI σ2 ((lc_move ((f, s, q, m, mo, ca, ct, po), P, H, k, tx, z, bs, bt, sn, sr) x y).1) ∧ ∀ i : Nat, i < 50 → σ2 i = σ i : lc_QT) v n2 σ2 → Q v n2 σ2) → lc_V l RX11 cX11_moves 5 (some .int) false (lc_Rd 4) (lc_G Q 0 0) lc_E0 0 0 n 0 [(0, .ref (50)), (1, .int (lc_i (x))), (2, .int (lc_i (y))), (3, .int (lc_i (0)))] [] σ from H _ (fun _ _ _ h => h)
  intro Q hQ
  refine lc_iload_n dX11_moves_0 rfl 1 rfl ?_
  refine lc_callS (As := [.int (lc_i (x))]) (stk := []) dX11_moves_1 lc_mX11_106 lc_yX11_isPoint (lc_cX11_isPoint l n (x) σ (by omega)) rfl ⟨Nat.le_of_ble_eq_true rfl, Nat.le_of_ble_eq_true rfl⟩ ⟨Nat.le_of_ble_eq_true rfl, Nat.le_of_ble_eq_true rfl⟩ rfl (Nat.le_of_ble_eq_true rfl) (fun v1 n2 σ3 q4 => ?_)
  obtain ⟨rfl, rfl, rfl⟩ := q4
  refine lc_if_eqB (tgt := 14) dX11_moves_4 (by decide) (fun h_4_4 => ?_) (fun h_4_4 => ?_)
  · skip
    refine lc_bipush dX11_moves_14 (by decide) ?_
    exact lc_iret dX11_moves_16 rfl (Nat.le_of_ble_eq_true rfl) (Nat.le_of_ble_eq_true rfl) (hQ _ _ _ (by rw [lc_move, if_pos (show ¬ ((0 ≤ x ∧ x < 36) ∧ (0 ≤ y ∧ y < 36)) from by omega)]; exact ⟨rfl, rfl, lc_MI_mk hz_50 hz_51 hz_52 hz_53 hz_54 hz_55 hz_56 hz_57 (hR) (hRP) (hP) (hT) (hjs) (hjr), (fun i _ => rfl)⟩))
  · skip
    refine lc_iload_n dX11_moves_7 rfl 2 rfl ?_
    refine lc_callS (As := [.int (lc_i (y))]) (stk := []) dX11_moves_8 lc_mX11_106 lc_yX11_isPoint (lc_cX11_isPoint l n (y) σ (by omega)) rfl ⟨Nat.le_of_ble_eq_true rfl, Nat.le_of_ble_eq_true rfl⟩ ⟨Nat.le_of_ble_eq_true rfl, Nat.le_of_ble_eq_true rfl⟩ rfl (Nat.le_of_ble_eq_true rfl) (fun v6 n7 σ8 q9 => ?_)
    obtain ⟨rfl, rfl, rfl⟩ := q9
    refine lc_if_neB (tgt := 17) dX11_moves_11 (by decide) (fun h_11_9 => ?_) (fun h_11_9 => ?_)
    · skip
      refine lc_aload_n dX11_moves_17 rfl 0 rfl ?_
      refine lc_aload_n dX11_moves_18 rfl 0 rfl ?_
      refine lc_get dX11_moves_19 lc_fX11_7 hz_50 rfl ?_
      refine lc_iload_n dX11_moves_22 rfl 1 rfl ?_
      refine lc_iload_n dX11_moves_23 rfl 2 rfl ?_
      refine lc_iload_n dX11_moves_24 rfl 3 rfl ?_
      refine lc_callV (As := [.ref (51), .int (lc_i (x)), .int (lc_i (y)), .int (lc_i (0))]) (stk := []) (b := 50) dX11_moves_25 lc_mX11_110 lc_yX11_why hz_50 rfl (lc_cX11_why l n (51) (N1) (f) (s) (q) (m) (mo) (ca) (ct) (po) ((k : Int)) (bs) (z) (at9) (js) (jr) (w1) (w2) (w3) (bw) (x) (y) (false) σ hz_50 hz_51 (by omega) (hf) (hs) (by omega) (by omega) (hR) (by omega) (by omega)) rfl ⟨Nat.le_of_ble_eq_true rfl, Nat.le_of_ble_eq_true rfl⟩ ⟨Nat.le_of_ble_eq_true rfl, Nat.le_of_ble_eq_true rfl⟩ rfl (Nat.le_of_ble_eq_true rfl) (fun v15 n16 σ17 q18 => ?_)
      obtain ⟨z11, z12, rfl, rfl, h14, fr13⟩ := q18
      have h19 : σ17 (51) = some (lc_aI 222 (N1)) := (fr13 _ (by omega)).trans hz_51
      have h20 : σ17 (52) = some (lc_aI 222 (N2)) := (fr13 _ (by omega)).trans hz_52
      have h21 : σ17 (53) = some (lc_aI 222 (N3)) := (fr13 _ (by omega)).trans hz_53
      have h22 : σ17 (54) = some (lc_aI 222 (N4)) := (fr13 _ (by omega)).trans hz_54
      have h23 : σ17 (55) = some (lc_aI 888 (N5)) := (fr13 _ (by omega)).trans hz_55
      have h24 : σ17 (56) = some (lc_aI 222 (N6)) := (fr13 _ (by omega)).trans hz_56
      have h25 : σ17 (57) = some (lc_aI 80 (N7)) := (fr13 _ (by omega)).trans hz_57
      refine lc_istore (lv' := [(0, .ref (50)), (1, .int (lc_i (x))), (2, .int (lc_i (y))), (3, .int (lc_i (0))), (4, .int (lc_i (lc_why (f) (s) (q) (m) (x) (y) (false))))]) dX11_moves_28 (by decide) rfl ?_
      have hwr := lc_why_r f s q m x y false
      refine lc_iload dX11_moves_30 4 rfl ?_
      refine lc_if_le (tgt := 41) dX11_moves_32 (by decide) (by omega) (fun h_32_25 => ?_) (fun h_32_25 => ?_)
      · skip
        have hw0 := lc_why0 (show lc_why f s q m x y false = 0 from by omega)
        refine lc_aload_n dX11_moves_41 rfl 0 rfl ?_
        refine lc_callV (As := []) (stk := []) (b := 50) dX11_moves_42 lc_mX11_64 lc_yX11_records h14 rfl (lc_cX11_records l n (N1) (f) (s) (q) (m) (mo) (ca) (ct) (po) (k) (bs) (z) (at9) (js) (jr) (z11) (z12) (w3) (bw) (N5) (H) σ17 h14 h19 h23 (by omega) (by omega) (hR) (hP) (hH60)) rfl ⟨Nat.le_of_ble_eq_true rfl, Nat.le_of_ble_eq_true rfl⟩ ⟨Nat.le_of_ble_eq_true rfl, Nat.le_of_ble_eq_true rfl⟩ rfl (Nat.le_of_ble_eq_true rfl) (fun v32 n33 σ34 q35 => ?_)
        obtain ⟨g27, rfl, rfl, h30, h31, hP28, fr29⟩ := q35
        have h36 : σ34 (51) = some (lc_aI 222 (N1)) := (fr29 _ (by omega) (by omega)).trans h19
        have h37 : σ34 (52) = some (lc_aI 222 (N2)) := (fr29 _ (by omega) (by omega)).trans h20
        have h38 : σ34 (53) = some (lc_aI 222 (N3)) := (fr29 _ (by omega) (by omega)).trans h21
        have h39 : σ34 (54) = some (lc_aI 222 (N4)) := (fr29 _ (by omega) (by omega)).trans h22
        have h40 : σ34 (56) = some (lc_aI 222 (N6)) := (fr29 _ (by omega) (by omega)).trans h24
        have h41 : σ34 (57) = some (lc_aI 80 (N7)) := (fr29 _ (by omega) (by omega)).trans h25
        refine lc_aload_n dX11_moves_45 rfl 0 rfl ?_
        refine lc_get dX11_moves_46 lc_fX11_7 h30 rfl ?_
        refine lc_iload_n dX11_moves_49 rfl 1 rfl ?_
        refine lc_iload_n dX11_moves_50 rfl 2 rfl ?_
        refine lc_callS (As := [.ref (51), .int (lc_i (x)), .int (lc_i (y))]) (stk := []) dX11_moves_51 lc_mX11_113 lc_yX11_makes (lc_cX11_makes l n (51) (N1) (f) (s) (q) (m) (mo) (ca) (ct) (po) (x) (y) σ34 h36 (hf) (hs) (by omega) (hR) (by omega) (by omega) (hw0.2)) rfl ⟨Nat.le_of_ble_eq_true rfl, Nat.le_of_ble_eq_true rfl⟩ ⟨Nat.le_of_ble_eq_true rfl, Nat.le_of_ble_eq_true rfl⟩ rfl (Nat.le_of_ble_eq_true rfl) (fun v46 n47 σ48 q49 => ?_)
        obtain ⟨N44, rfl, rfl, h43, hR45, fr42⟩ := q49
        have h50 : σ48 (52) = some (lc_aI 222 (N2)) := (fr42 _ (by omega)).trans h37
        have h51 : σ48 (53) = some (lc_aI 222 (N3)) := (fr42 _ (by omega)).trans h38
        have h52 : σ48 (54) = some (lc_aI 222 (N4)) := (fr42 _ (by omega)).trans h39
        have h53 : σ48 (56) = some (lc_aI 222 (N6)) := (fr42 _ (by omega)).trans h40
        have h54 : σ48 (57) = some (lc_aI 80 (N7)) := (fr42 _ (by omega)).trans h41
        have h55 : σ48 (50) = some (.inr (11, [.ref (51), .ref (52), .ref (53), .ref (54), .ref (55), .int (lc_i (((lc_hk k : Nat) : Int))), .ref (56), .int (lc_i (if bs = true then 1 else 0)), .ref (57), .int (lc_i (z)), .int (lc_i (at9)), .int (lc_i (js)), .int (lc_i (jr)), .int (lc_i (z11)), .int (lc_i (z12)), .int (lc_i (w3)), .int (lc_i (bw))]) : lc_Cel) := (fr42 _ (by omega)).trans h30
        have h56 : σ48 (55) = some (lc_aI 888 (g27)) := (fr42 _ (by omega)).trans h31
        refine lc_iload_n dX11_moves_54 rfl 3 rfl ?_
        refine lc_if_eq (tgt := 74) dX11_moves_55 (by decide) (by omega) (fun h_55_56 => ?_) (fun h_55_56 => ?_)
        · skip
          refine lc_aload_n dX11_moves_74 rfl 0 rfl ?_
          refine lc_get dX11_moves_75 lc_fX11_7 h55 rfl ?_
          refine lc_iconst dX11_moves_78 ?_
          refine lc_iald dX11_moves_79 h43 (by omega) (by decide) ?_
          refine lc_top (congrArg (fun z => Value.int (lc_i z)) (show ((N44) (1) : Int) = lc_mvq f q y from hR45.2.1)) ?_
          exact lc_iret dX11_moves_80 rfl (Nat.le_of_ble_eq_true rfl) (Nat.le_of_ble_eq_true rfl) (hQ _ _ _ (by rw [lc_move, if_neg (show ¬ (¬ ((0 ≤ x ∧ x < 36) ∧ (0 ≤ y ∧ y < 36))) from by omega), if_neg (show ¬ (lc_why f s q m x y false ≠ 0) from by omega)]; exact ⟨rfl, rfl, lc_MI_mk h55 h43 h50 h51 h52 h56 h53 h54 (hR45) (hRP) (hP28) (hT) (hjs) (hjr), (fun i _ => ((fr42 i (by omega)).trans ((fr29 i (by omega) (by omega)).trans (fr13 i (by omega)))))⟩))
        · exact absurd rfl h_55_56
      · skip
        refine lc_bipush dX11_moves_35 (by decide) ?_
        refine lc_iload dX11_moves_37 4 rfl ?_
        refine lc_isub dX11_moves_39 ?_
        exact lc_iret dX11_moves_40 rfl (Nat.le_of_ble_eq_true rfl) (Nat.le_of_ble_eq_true rfl) (hQ _ _ _ (by rw [lc_move, if_neg (show ¬ (¬ ((0 ≤ x ∧ x < 36) ∧ (0 ≤ y ∧ y < 36))) from by omega), if_pos (show lc_why f s q m x y false ≠ 0 from by omega)]; exact ⟨rfl, rfl, lc_MI_mk h14 h19 h20 h21 h22 h23 h24 h25 (hR) (hRP) (hP) (hT) (hjs) (hjr), (fun i _ => (fr13 i (by omega)))⟩))
    · skip
      refine lc_bipush dX11_moves_14 (by decide) ?_
      exact lc_iret dX11_moves_16 rfl (Nat.le_of_ble_eq_true rfl) (Nat.le_of_ble_eq_true rfl) (hQ _ _ _ (by rw [lc_move, if_pos (show ¬ ((0 ≤ x ∧ x < 36) ∧ (0 ≤ y ∧ y < 36)) from by omega)]; exact ⟨rfl, rfl, lc_MI_mk hz_50 hz_51 hz_52 hz_53 hz_54 hz_55 hz_56 hz_57 (hR) (hRP) (hP) (hT) (hjs) (hjr), (fun i _ => rfl)⟩))

set_option maxRecDepth 100000 in
set_option maxHeartbeats 600000 in
theorem lc_cX11_moves_1 (l : Launch) (n : Nat) (f : Int → Int) (s q m mo ca ct : Int) (po : Int → Int) (P : lc_St) (H : Nat → lc_St) (k : Nat) (tx : Int → Int) (z : Int) (bs bt : Bool) (sn sr : Int) (x y : Int) (σ : lc_S)  (hI : lc_MI σ ((f, s, q, m, mo, ca, ct, po), P, H, k, tx, z, bs, bt, sn, sr)) (hw : lc_wf ((f, s, q, m, mo, ca, ct, po), P, H, k, tx, z, bs, bt, sn, sr)) (hR_x : -2147483648 ≤ x ∧ x < 2147483648) (hR_y : -2147483648 ≤ y ∧ y < 2147483648) : lc_Con l yX11_moves cX11_moves 5 (some .int) (lc_Rd 4) [.ref (50), .int (lc_i (x)), .int (lc_i (y)), .int (lc_i (1))] n σ (fun v n2 σ2 => v = some (.int (lc_i ((lc_capt ((f, s, q, m, mo, ca, ct, po), P, H, k, tx, z, bs, bt, sn, sr) x y).2))) ∧ n = n2 ∧ lc_MI σ2 ((lc_capt ((f, s, q, m, mo, ca, ct, po), P, H, k, tx, z, bs, bt, sn, sr) x y).1) ∧ ∀ i : Nat, i < 50 → σ2 i = σ i) := by
  obtain ⟨⟨hf9, hs9, hq9, hm9, hct9, hpo9, hkey9⟩, hwP, hwH, hk4, hz, htx⟩ := hw
  have hf : ∀ j : Int, 0 ≤ j → j < 36 → 0 ≤ f j ∧ f j ≤ 2 := hf9
  have hs : 1 ≤ s ∧ s ≤ 2 := hs9
  have hq : 0 ≤ q ∧ q ≤ 60 := hq9
  have hm : 4 ≤ m ∧ m ≤ 60 := hm9
  have hct : 1 ≤ ct ∧ ct ≤ 60 := hct9
  have hpo : ∀ i : Int, 0 ≤ i → i < ct → 0 ≤ po i ∧ po i < 450283905890997363 := hpo9
  have hkey : po (ct - 1) = lc_key f s 36 := hkey9
  obtain ⟨N1, N2, N3, N4, N5, N6, N7, at9, js, jr, w1, w2, w3, bw, hc50, hc51, hc52, hc53, hc54, hc55, hc56, hc57, hR, hRP, hP, hT, hjs, hjr⟩ := hI
  have hR : lc_RM N1 (f, s, q, m, mo, ca, ct, po) := hR
  have hH60 : ∀ j : Nat, j < k → (H j).2.2.2.2.2.2.1 ≤ 60 := fun j hj => (hwH j hj).2.2.2.2.1.2
  obtain ⟨h0R, h1R, h2R, h3R, h4R, h5R, h6R, h7R⟩ := id hR
  have h0R : N1 0 = s := h0R
  have h1R : N1 1 = q := h1R
  have h2R : N1 2 = mo := h2R
  have h3R : N1 3 = ca := h3R
  have h4R : N1 4 = m := h4R
  have h5R : N1 5 = ct := h5R
  have h6R : ∀ p : Int, 0 ≤ p → p < 36 → N1 (6 + p) = f p := h6R
  have hz_50 : σ (50) = some (.inr (11, [.ref (51), .ref (52), .ref (53), .ref (54), .ref (55), .int (lc_i ((k : Int))), .ref (56), .int (lc_i (if bs = true then 1 else 0)), .ref (57), .int (lc_i (z)), .int (lc_i (at9)), .int (lc_i (js)), .int (lc_i (jr)), .int (lc_i (w1)), .int (lc_i (w2)), .int (lc_i (w3)), .int (lc_i (bw))]) : lc_Cel) := hc50
  have hz_51 : σ (51) = some (lc_aI 222 (N1)) := hc51
  have hz_52 : σ (52) = some (lc_aI 222 (N2)) := hc52
  have hz_53 : σ (53) = some (lc_aI 222 (N3)) := hc53
  have hz_54 : σ (54) = some (lc_aI 222 (N4)) := hc54
  have hz_55 : σ (55) = some (lc_aI 888 (N5)) := hc55
  have hz_56 : σ (56) = some (lc_aI 222 (N6)) := hc56
  have hz_57 : σ (57) = some (lc_aI 80 (N7)) := hc57
  refine lc_con RX11 false (by decide) rfl (fun h => absurd h (by decide)) (Nat.le_of_ble_eq_true rfl) ?_
  suffices H : ∀ Q : lc_QT, (∀ v n2 σ2, (fun v n2 σ2 => v = some (.int (lc_i ((lc_capt ((f, s, q, m, mo, ca, ct, po), P, H, k, tx, z, bs, bt, sn, sr) x y).2))) ∧ n = n2 ∧ lc_MI σ2 ((lc_capt ((f, s, q, m, mo, ca, ct, po), P, H, k, tx, z, bs, bt, sn, sr) x y).1) ∧ ∀ i : Nat, i < 50 → σ2 i = σ i : lc_QT) v n2 σ2 → Q v n2 σ2) → lc_V l RX11 cX11_moves 5 (some .int) false (lc_Rd 4) (lc_G Q 0 0) lc_E0 0 0 n 0 [(0, .ref (50)), (1, .int (lc_i (x))), (2, .int (lc_i (y))), (3, .int (lc_i (1)))] [] σ from H _ (fun _ _ _ h => h)
  intro Q hQ
  refine lc_iload_n dX11_moves_0 rfl 1 rfl ?_
  refine lc_callS (As := [.int (lc_i (x))]) (stk := []) dX11_moves_1 lc_mX11_106 lc_yX11_isPoint (lc_cX11_isPoint l n (x) σ (by omega)) rfl ⟨Nat.le_of_ble_eq_true rfl, Nat.le_of_ble_eq_true rfl⟩ ⟨Nat.le_of_ble_eq_true rfl, Nat.le_of_ble_eq_true rfl⟩ rfl (Nat.le_of_ble_eq_true rfl) (fun v1 n2 σ3 q4 => ?_)
  obtain ⟨rfl, rfl, rfl⟩ := q4
  refine lc_if_eqB (tgt := 14) dX11_moves_4 (by decide) (fun h_4_4 => ?_) (fun h_4_4 => ?_)
  · skip
    refine lc_bipush dX11_moves_14 (by decide) ?_
    exact lc_iret dX11_moves_16 rfl (Nat.le_of_ble_eq_true rfl) (Nat.le_of_ble_eq_true rfl) (hQ _ _ _ (by rw [lc_capt, if_pos (show ¬ ((0 ≤ x ∧ x < 36) ∧ (0 ≤ y ∧ y < 36)) from by omega)]; exact ⟨rfl, rfl, lc_MI_mk hz_50 hz_51 hz_52 hz_53 hz_54 hz_55 hz_56 hz_57 (hR) (hRP) (hP) (hT) (hjs) (hjr), (fun i _ => rfl)⟩))
  · skip
    refine lc_iload_n dX11_moves_7 rfl 2 rfl ?_
    refine lc_callS (As := [.int (lc_i (y))]) (stk := []) dX11_moves_8 lc_mX11_106 lc_yX11_isPoint (lc_cX11_isPoint l n (y) σ (by omega)) rfl ⟨Nat.le_of_ble_eq_true rfl, Nat.le_of_ble_eq_true rfl⟩ ⟨Nat.le_of_ble_eq_true rfl, Nat.le_of_ble_eq_true rfl⟩ rfl (Nat.le_of_ble_eq_true rfl) (fun v6 n7 σ8 q9 => ?_)
    obtain ⟨rfl, rfl, rfl⟩ := q9
    refine lc_if_neB (tgt := 17) dX11_moves_11 (by decide) (fun h_11_9 => ?_) (fun h_11_9 => ?_)
    · skip
      refine lc_aload_n dX11_moves_17 rfl 0 rfl ?_
      refine lc_aload_n dX11_moves_18 rfl 0 rfl ?_
      refine lc_get dX11_moves_19 lc_fX11_7 hz_50 rfl ?_
      refine lc_iload_n dX11_moves_22 rfl 1 rfl ?_
      refine lc_iload_n dX11_moves_23 rfl 2 rfl ?_
      refine lc_iload_n dX11_moves_24 rfl 3 rfl ?_
      refine lc_callV (As := [.ref (51), .int (lc_i (x)), .int (lc_i (y)), .int (lc_i (1))]) (stk := []) (b := 50) dX11_moves_25 lc_mX11_110 lc_yX11_why hz_50 rfl (lc_cX11_why l n (51) (N1) (f) (s) (q) (m) (mo) (ca) (ct) (po) ((k : Int)) (bs) (z) (at9) (js) (jr) (w1) (w2) (w3) (bw) (x) (y) (true) σ hz_50 hz_51 (by omega) (hf) (hs) (by omega) (by omega) (hR) (by omega) (by omega)) rfl ⟨Nat.le_of_ble_eq_true rfl, Nat.le_of_ble_eq_true rfl⟩ ⟨Nat.le_of_ble_eq_true rfl, Nat.le_of_ble_eq_true rfl⟩ rfl (Nat.le_of_ble_eq_true rfl) (fun v15 n16 σ17 q18 => ?_)
      obtain ⟨z11, z12, rfl, rfl, h14, fr13⟩ := q18
      have h19 : σ17 (51) = some (lc_aI 222 (N1)) := (fr13 _ (by omega)).trans hz_51
      have h20 : σ17 (52) = some (lc_aI 222 (N2)) := (fr13 _ (by omega)).trans hz_52
      have h21 : σ17 (53) = some (lc_aI 222 (N3)) := (fr13 _ (by omega)).trans hz_53
      have h22 : σ17 (54) = some (lc_aI 222 (N4)) := (fr13 _ (by omega)).trans hz_54
      have h23 : σ17 (55) = some (lc_aI 888 (N5)) := (fr13 _ (by omega)).trans hz_55
      have h24 : σ17 (56) = some (lc_aI 222 (N6)) := (fr13 _ (by omega)).trans hz_56
      have h25 : σ17 (57) = some (lc_aI 80 (N7)) := (fr13 _ (by omega)).trans hz_57
      refine lc_istore (lv' := [(0, .ref (50)), (1, .int (lc_i (x))), (2, .int (lc_i (y))), (3, .int (lc_i (1))), (4, .int (lc_i (lc_why (f) (s) (q) (m) (x) (y) (true))))]) dX11_moves_28 (by decide) rfl ?_
      have hwr := lc_why_r f s q m x y true
      refine lc_iload dX11_moves_30 4 rfl ?_
      refine lc_if_le (tgt := 41) dX11_moves_32 (by decide) (by omega) (fun h_32_25 => ?_) (fun h_32_25 => ?_)
      · skip
        have hw0 := lc_why0 (show lc_why f s q m x y true = 0 from by omega)
        refine lc_aload_n dX11_moves_41 rfl 0 rfl ?_
        refine lc_callV (As := []) (stk := []) (b := 50) dX11_moves_42 lc_mX11_64 lc_yX11_records h14 rfl (lc_cX11_records l n (N1) (f) (s) (q) (m) (mo) (ca) (ct) (po) (k) (bs) (z) (at9) (js) (jr) (z11) (z12) (w3) (bw) (N5) (H) σ17 h14 h19 h23 (by omega) (by omega) (hR) (hP) (hH60)) rfl ⟨Nat.le_of_ble_eq_true rfl, Nat.le_of_ble_eq_true rfl⟩ ⟨Nat.le_of_ble_eq_true rfl, Nat.le_of_ble_eq_true rfl⟩ rfl (Nat.le_of_ble_eq_true rfl) (fun v32 n33 σ34 q35 => ?_)
        obtain ⟨g27, rfl, rfl, h30, h31, hP28, fr29⟩ := q35
        have h36 : σ34 (51) = some (lc_aI 222 (N1)) := (fr29 _ (by omega) (by omega)).trans h19
        have h37 : σ34 (52) = some (lc_aI 222 (N2)) := (fr29 _ (by omega) (by omega)).trans h20
        have h38 : σ34 (53) = some (lc_aI 222 (N3)) := (fr29 _ (by omega) (by omega)).trans h21
        have h39 : σ34 (54) = some (lc_aI 222 (N4)) := (fr29 _ (by omega) (by omega)).trans h22
        have h40 : σ34 (56) = some (lc_aI 222 (N6)) := (fr29 _ (by omega) (by omega)).trans h24
        have h41 : σ34 (57) = some (lc_aI 80 (N7)) := (fr29 _ (by omega) (by omega)).trans h25
        refine lc_aload_n dX11_moves_45 rfl 0 rfl ?_
        refine lc_get dX11_moves_46 lc_fX11_7 h30 rfl ?_
        refine lc_iload_n dX11_moves_49 rfl 1 rfl ?_
        refine lc_iload_n dX11_moves_50 rfl 2 rfl ?_
        refine lc_callS (As := [.ref (51), .int (lc_i (x)), .int (lc_i (y))]) (stk := []) dX11_moves_51 lc_mX11_113 lc_yX11_makes (lc_cX11_makes l n (51) (N1) (f) (s) (q) (m) (mo) (ca) (ct) (po) (x) (y) σ34 h36 (hf) (hs) (by omega) (hR) (by omega) (by omega) (hw0.2)) rfl ⟨Nat.le_of_ble_eq_true rfl, Nat.le_of_ble_eq_true rfl⟩ ⟨Nat.le_of_ble_eq_true rfl, Nat.le_of_ble_eq_true rfl⟩ rfl (Nat.le_of_ble_eq_true rfl) (fun v46 n47 σ48 q49 => ?_)
        obtain ⟨N44, rfl, rfl, h43, hR45, fr42⟩ := q49
        have h50 : σ48 (52) = some (lc_aI 222 (N2)) := (fr42 _ (by omega)).trans h37
        have h51 : σ48 (53) = some (lc_aI 222 (N3)) := (fr42 _ (by omega)).trans h38
        have h52 : σ48 (54) = some (lc_aI 222 (N4)) := (fr42 _ (by omega)).trans h39
        have h53 : σ48 (56) = some (lc_aI 222 (N6)) := (fr42 _ (by omega)).trans h40
        have h54 : σ48 (57) = some (lc_aI 80 (N7)) := (fr42 _ (by omega)).trans h41
        have h55 : σ48 (50) = some (.inr (11, [.ref (51), .ref (52), .ref (53), .ref (54), .ref (55), .int (lc_i (((lc_hk k : Nat) : Int))), .ref (56), .int (lc_i (if bs = true then 1 else 0)), .ref (57), .int (lc_i (z)), .int (lc_i (at9)), .int (lc_i (js)), .int (lc_i (jr)), .int (lc_i (z11)), .int (lc_i (z12)), .int (lc_i (w3)), .int (lc_i (bw))]) : lc_Cel) := (fr42 _ (by omega)).trans h30
        have h56 : σ48 (55) = some (lc_aI 888 (g27)) := (fr42 _ (by omega)).trans h31
        refine lc_iload_n dX11_moves_54 rfl 3 rfl ?_
        refine lc_if_eq (tgt := 74) dX11_moves_55 (by decide) (by omega) (fun h_55_56 => ?_) (fun h_55_56 => ?_)
        · exact absurd h_55_56 (by decide)
        · skip
          have hfm := lc_mvf_ok (x := x) (y := y) hf hs
          refine lc_aload_n dX11_moves_58 rfl 0 rfl ?_
          refine lc_get dX11_moves_59 lc_fX11_7 h55 rfl ?_
          refine lc_aload_n dX11_moves_62 rfl 0 rfl ?_
          refine lc_get dX11_moves_63 lc_fX11_7 h55 rfl ?_
          refine lc_iconst dX11_moves_66 ?_
          refine lc_iald dX11_moves_67 h43 (by omega) (by decide) ?_
          refine lc_top (congrArg (fun z => Value.int (lc_i z)) (show ((N44) (0) : Int) = 3 - s from hR45.1)) ?_
          refine lc_callS (As := [.ref (51), .int (lc_i (3 - s))]) (stk := []) dX11_moves_68 lc_mX11_52 lc_yX11_pieces (lc_cX11_pieces l n (51) (N44) (lc_mvf (f) (s) (x) (y)) (3 - (s)) (lc_mvq (f) (q) (y)) (m) ((mo) + 1) (lc_mvc (f) (ca) (y)) (lc_mvt (f) (ct) (y)) (lc_mvp (f) (s) (x) (y) (ct) (po)) (3 - s) σ48 h43 (hfm) (hR45) (by omega)) rfl ⟨Nat.le_of_ble_eq_true rfl, Nat.le_of_ble_eq_true rfl⟩ ⟨Nat.le_of_ble_eq_true rfl, Nat.le_of_ble_eq_true rfl⟩ rfl (Nat.le_of_ble_eq_true rfl) (fun v58 n59 σ60 q61 => ?_)
          obtain ⟨rfl, rfl, rfl⟩ := q61
          refine lc_goto (tgt := 80) dX11_moves_71 (by decide) ?_
          exact lc_iret dX11_moves_80 rfl (Nat.le_of_ble_eq_true rfl) (Nat.le_of_ble_eq_true rfl) (hQ _ _ _ (by rw [lc_capt, if_neg (show ¬ (¬ ((0 ≤ x ∧ x < 36) ∧ (0 ≤ y ∧ y < 36))) from by omega), if_neg (show ¬ (lc_why f s q m x y true ≠ 0) from by omega)]; exact ⟨lc_some (show lc_cnt (lc_mvf f s x y) (3 - s) 36 = if 3 - s = 1 then lc_cnt (lc_mvf f s x y) 1 36 else lc_cnt (lc_mvf f s x y) 2 36 from by split; (rename_i e9; rw [e9]); (rw [show 3 - s = 2 from by omega])), rfl, lc_MI_mk h55 h43 h50 h51 h52 h56 h53 h54 (hR45) (hRP) (hP28) (hT) (hjs) (hjr), (fun i _ => ((fr42 i (by omega)).trans ((fr29 i (by omega) (by omega)).trans (fr13 i (by omega)))))⟩))
      · skip
        refine lc_bipush dX11_moves_35 (by decide) ?_
        refine lc_iload dX11_moves_37 4 rfl ?_
        refine lc_isub dX11_moves_39 ?_
        exact lc_iret dX11_moves_40 rfl (Nat.le_of_ble_eq_true rfl) (Nat.le_of_ble_eq_true rfl) (hQ _ _ _ (by rw [lc_capt, if_neg (show ¬ (¬ ((0 ≤ x ∧ x < 36) ∧ (0 ≤ y ∧ y < 36))) from by omega), if_pos (show lc_why f s q m x y true ≠ 0 from by omega)]; exact ⟨rfl, rfl, lc_MI_mk h14 h19 h20 h21 h22 h23 h24 h25 (hR) (hRP) (hP) (hT) (hjs) (hjr), (fun i _ => (fr13 i (by omega)))⟩))
    · skip
      refine lc_bipush dX11_moves_14 (by decide) ?_
      exact lc_iret dX11_moves_16 rfl (Nat.le_of_ble_eq_true rfl) (Nat.le_of_ble_eq_true rfl) (hQ _ _ _ (by rw [lc_capt, if_pos (show ¬ ((0 ≤ x ∧ x < 36) ∧ (0 ≤ y ∧ y < 36)) from by omega)]; exact ⟨rfl, rfl, lc_MI_mk hz_50 hz_51 hz_52 hz_53 hz_54 hz_55 hz_56 hz_57 (hR) (hRP) (hP) (hT) (hjs) (hjr), (fun i _ => rfl)⟩))

set_option maxRecDepth 100000 in
set_option maxHeartbeats 600000 in
theorem lc_cX11_move (l : Launch) (n : Nat) (f : Int → Int) (s q m mo ca ct : Int) (po : Int → Int) (P : lc_St) (H : Nat → lc_St) (k : Nat) (tx : Int → Int) (z : Int) (bs bt : Bool) (sn sr : Int) (x y : Int) (σ : lc_S)  (hI : lc_MI σ ((f, s, q, m, mo, ca, ct, po), P, H, k, tx, z, bs, bt, sn, sr)) (hw : lc_wf ((f, s, q, m, mo, ca, ct, po), P, H, k, tx, z, bs, bt, sn, sr)) (hR_x : -2147483648 ≤ x ∧ x < 2147483648) (hR_y : -2147483648 ≤ y ∧ y < 2147483648) : lc_Con l yX11_move cX11_move 3 (some .int) (lc_Rd 5) [.ref (50), .int (lc_i (x)), .int (lc_i (y))] n σ (fun v n2 σ2 => v = some (.int (lc_i ((lc_move ((f, s, q, m, mo, ca, ct, po), P, H, k, tx, z, bs, bt, sn, sr) x y).2))) ∧ n = n2 ∧ lc_MI σ2 ((lc_move ((f, s, q, m, mo, ca, ct, po), P, H, k, tx, z, bs, bt, sn, sr) x y).1) ∧ ∀ i : Nat, i < 50 → σ2 i = σ i) := by
  have hI0 := hI
  have hw0 := hw
  obtain ⟨⟨hf9, hs9, hq9, hm9, hct9, hpo9, hkey9⟩, hwP, hwH, hk4, hz, htx⟩ := hw
  have hf : ∀ j : Int, 0 ≤ j → j < 36 → 0 ≤ f j ∧ f j ≤ 2 := hf9
  have hs : 1 ≤ s ∧ s ≤ 2 := hs9
  have hq : 0 ≤ q ∧ q ≤ 60 := hq9
  have hm : 4 ≤ m ∧ m ≤ 60 := hm9
  have hct : 1 ≤ ct ∧ ct ≤ 60 := hct9
  have hpo : ∀ i : Int, 0 ≤ i → i < ct → 0 ≤ po i ∧ po i < 450283905890997363 := hpo9
  have hkey : po (ct - 1) = lc_key f s 36 := hkey9
  obtain ⟨N1, N2, N3, N4, N5, N6, N7, at9, js, jr, w1, w2, w3, bw, hc50, hc51, hc52, hc53, hc54, hc55, hc56, hc57, hR, hRP, hP, hT, hjs, hjr⟩ := hI
  have hR : lc_RM N1 (f, s, q, m, mo, ca, ct, po) := hR
  have hH60 : ∀ j : Nat, j < k → (H j).2.2.2.2.2.2.1 ≤ 60 := fun j hj => (hwH j hj).2.2.2.2.1.2
  obtain ⟨h0R, h1R, h2R, h3R, h4R, h5R, h6R, h7R⟩ := id hR
  have h0R : N1 0 = s := h0R
  have h1R : N1 1 = q := h1R
  have h2R : N1 2 = mo := h2R
  have h3R : N1 3 = ca := h3R
  have h4R : N1 4 = m := h4R
  have h5R : N1 5 = ct := h5R
  have h6R : ∀ p : Int, 0 ≤ p → p < 36 → N1 (6 + p) = f p := h6R
  have hz_50 : σ (50) = some (.inr (11, [.ref (51), .ref (52), .ref (53), .ref (54), .ref (55), .int (lc_i ((k : Int))), .ref (56), .int (lc_i (if bs = true then 1 else 0)), .ref (57), .int (lc_i (z)), .int (lc_i (at9)), .int (lc_i (js)), .int (lc_i (jr)), .int (lc_i (w1)), .int (lc_i (w2)), .int (lc_i (w3)), .int (lc_i (bw))]) : lc_Cel) := hc50
  have hz_51 : σ (51) = some (lc_aI 222 (N1)) := hc51
  have hz_52 : σ (52) = some (lc_aI 222 (N2)) := hc52
  have hz_53 : σ (53) = some (lc_aI 222 (N3)) := hc53
  have hz_54 : σ (54) = some (lc_aI 222 (N4)) := hc54
  have hz_55 : σ (55) = some (lc_aI 888 (N5)) := hc55
  have hz_56 : σ (56) = some (lc_aI 222 (N6)) := hc56
  have hz_57 : σ (57) = some (lc_aI 80 (N7)) := hc57
  refine lc_con RX11 false (by decide) rfl (fun h => absurd h (by decide)) (Nat.le_of_ble_eq_true rfl) ?_
  suffices H : ∀ Q : lc_QT, (∀ v n2 σ2, (fun v n2 σ2 => v = some (.int (lc_i ((lc_move ((f, s, q, m, mo, ca, ct, po), P, H, k, tx, z, bs, bt, sn, sr) x y).2))) ∧ n = n2 ∧ lc_MI σ2 ((lc_move ((f, s, q, m, mo, ca, ct, po), P, H, k, tx, z, bs, bt, sn, sr) x y).1) ∧ ∀ i : Nat, i < 50 → σ2 i = σ i : lc_QT) v n2 σ2 → Q v n2 σ2) → lc_V l RX11 cX11_move 3 (some .int) false (lc_Rd 5) (lc_G Q 0 0) lc_E0 0 0 n 0 [(0, .ref (50)), (1, .int (lc_i (x))), (2, .int (lc_i (y)))] [] σ from H _ (fun _ _ _ h => h)
  intro Q hQ
  refine lc_aload_n dX11_move_0 rfl 0 rfl ?_
  refine lc_iload_n dX11_move_1 rfl 1 rfl ?_
  refine lc_iload_n dX11_move_2 rfl 2 rfl ?_
  refine lc_iconst dX11_move_3 ?_
  refine lc_callV (As := [.int (lc_i (x)), .int (lc_i (y)), .int (lc_i (0))]) (stk := []) (b := 50) dX11_move_4 lc_mX11_117 lc_yX11_moves hz_50 rfl (lc_cX11_moves_0 l n f s q m mo ca ct po P H k tx z bs bt sn sr x y σ hI0 hw0 hR_x hR_y) rfl ⟨Nat.le_of_ble_eq_true rfl, Nat.le_of_ble_eq_true rfl⟩ ⟨Nat.le_of_ble_eq_true rfl, Nat.le_of_ble_eq_true rfl⟩ rfl (Nat.le_of_ble_eq_true rfl) (fun v3 n4 σ5 q6 => ?_)
  obtain ⟨rfl, rfl, hM2, fr1⟩ := q6
  exact lc_iret dX11_move_7 rfl (Nat.le_of_ble_eq_true rfl) (Nat.le_of_ble_eq_true rfl) (hQ _ _ _ ⟨rfl, rfl, hM2, fr1⟩)

set_option maxRecDepth 100000 in
set_option maxHeartbeats 600000 in
theorem lc_cX11_capture (l : Launch) (n : Nat) (f : Int → Int) (s q m mo ca ct : Int) (po : Int → Int) (P : lc_St) (H : Nat → lc_St) (k : Nat) (tx : Int → Int) (z : Int) (bs bt : Bool) (sn sr : Int) (x y : Int) (σ : lc_S)  (hI : lc_MI σ ((f, s, q, m, mo, ca, ct, po), P, H, k, tx, z, bs, bt, sn, sr)) (hw : lc_wf ((f, s, q, m, mo, ca, ct, po), P, H, k, tx, z, bs, bt, sn, sr)) (hR_x : -2147483648 ≤ x ∧ x < 2147483648) (hR_y : -2147483648 ≤ y ∧ y < 2147483648) : lc_Con l yX11_capture cX11_capture 3 (some .int) (lc_Rd 5) [.ref (50), .int (lc_i (x)), .int (lc_i (y))] n σ (fun v n2 σ2 => v = some (.int (lc_i ((lc_capt ((f, s, q, m, mo, ca, ct, po), P, H, k, tx, z, bs, bt, sn, sr) x y).2))) ∧ n = n2 ∧ lc_MI σ2 ((lc_capt ((f, s, q, m, mo, ca, ct, po), P, H, k, tx, z, bs, bt, sn, sr) x y).1) ∧ ∀ i : Nat, i < 50 → σ2 i = σ i) := by
  have hI0 := hI
  have hw0 := hw
  obtain ⟨⟨hf9, hs9, hq9, hm9, hct9, hpo9, hkey9⟩, hwP, hwH, hk4, hz, htx⟩ := hw
  have hf : ∀ j : Int, 0 ≤ j → j < 36 → 0 ≤ f j ∧ f j ≤ 2 := hf9
  have hs : 1 ≤ s ∧ s ≤ 2 := hs9
  have hq : 0 ≤ q ∧ q ≤ 60 := hq9
  have hm : 4 ≤ m ∧ m ≤ 60 := hm9
  have hct : 1 ≤ ct ∧ ct ≤ 60 := hct9
  have hpo : ∀ i : Int, 0 ≤ i → i < ct → 0 ≤ po i ∧ po i < 450283905890997363 := hpo9
  have hkey : po (ct - 1) = lc_key f s 36 := hkey9
  obtain ⟨N1, N2, N3, N4, N5, N6, N7, at9, js, jr, w1, w2, w3, bw, hc50, hc51, hc52, hc53, hc54, hc55, hc56, hc57, hR, hRP, hP, hT, hjs, hjr⟩ := hI
  have hR : lc_RM N1 (f, s, q, m, mo, ca, ct, po) := hR
  have hH60 : ∀ j : Nat, j < k → (H j).2.2.2.2.2.2.1 ≤ 60 := fun j hj => (hwH j hj).2.2.2.2.1.2
  obtain ⟨h0R, h1R, h2R, h3R, h4R, h5R, h6R, h7R⟩ := id hR
  have h0R : N1 0 = s := h0R
  have h1R : N1 1 = q := h1R
  have h2R : N1 2 = mo := h2R
  have h3R : N1 3 = ca := h3R
  have h4R : N1 4 = m := h4R
  have h5R : N1 5 = ct := h5R
  have h6R : ∀ p : Int, 0 ≤ p → p < 36 → N1 (6 + p) = f p := h6R
  have hz_50 : σ (50) = some (.inr (11, [.ref (51), .ref (52), .ref (53), .ref (54), .ref (55), .int (lc_i ((k : Int))), .ref (56), .int (lc_i (if bs = true then 1 else 0)), .ref (57), .int (lc_i (z)), .int (lc_i (at9)), .int (lc_i (js)), .int (lc_i (jr)), .int (lc_i (w1)), .int (lc_i (w2)), .int (lc_i (w3)), .int (lc_i (bw))]) : lc_Cel) := hc50
  have hz_51 : σ (51) = some (lc_aI 222 (N1)) := hc51
  have hz_52 : σ (52) = some (lc_aI 222 (N2)) := hc52
  have hz_53 : σ (53) = some (lc_aI 222 (N3)) := hc53
  have hz_54 : σ (54) = some (lc_aI 222 (N4)) := hc54
  have hz_55 : σ (55) = some (lc_aI 888 (N5)) := hc55
  have hz_56 : σ (56) = some (lc_aI 222 (N6)) := hc56
  have hz_57 : σ (57) = some (lc_aI 80 (N7)) := hc57
  refine lc_con RX11 false (by decide) rfl (fun h => absurd h (by decide)) (Nat.le_of_ble_eq_true rfl) ?_
  suffices H : ∀ Q : lc_QT, (∀ v n2 σ2, (fun v n2 σ2 => v = some (.int (lc_i ((lc_capt ((f, s, q, m, mo, ca, ct, po), P, H, k, tx, z, bs, bt, sn, sr) x y).2))) ∧ n = n2 ∧ lc_MI σ2 ((lc_capt ((f, s, q, m, mo, ca, ct, po), P, H, k, tx, z, bs, bt, sn, sr) x y).1) ∧ ∀ i : Nat, i < 50 → σ2 i = σ i : lc_QT) v n2 σ2 → Q v n2 σ2) → lc_V l RX11 cX11_capture 3 (some .int) false (lc_Rd 5) (lc_G Q 0 0) lc_E0 0 0 n 0 [(0, .ref (50)), (1, .int (lc_i (x))), (2, .int (lc_i (y)))] [] σ from H _ (fun _ _ _ h => h)
  intro Q hQ
  refine lc_aload_n dX11_capture_0 rfl 0 rfl ?_
  refine lc_iload_n dX11_capture_1 rfl 1 rfl ?_
  refine lc_iload_n dX11_capture_2 rfl 2 rfl ?_
  refine lc_iconst dX11_capture_3 ?_
  refine lc_callV (As := [.int (lc_i (x)), .int (lc_i (y)), .int (lc_i (1))]) (stk := []) (b := 50) dX11_capture_4 lc_mX11_117 lc_yX11_moves hz_50 rfl (lc_cX11_moves_1 l n f s q m mo ca ct po P H k tx z bs bt sn sr x y σ hI0 hw0 hR_x hR_y) rfl ⟨Nat.le_of_ble_eq_true rfl, Nat.le_of_ble_eq_true rfl⟩ ⟨Nat.le_of_ble_eq_true rfl, Nat.le_of_ble_eq_true rfl⟩ rfl (Nat.le_of_ble_eq_true rfl) (fun v3 n4 σ5 q6 => ?_)
  obtain ⟨rfl, rfl, hM2, fr1⟩ := q6
  exact lc_iret dX11_capture_7 rfl (Nat.le_of_ble_eq_true rfl) (Nat.le_of_ble_eq_true rfl) (hQ _ _ _ ⟨rfl, rfl, hM2, fr1⟩)

set_option maxRecDepth 100000 in
set_option maxHeartbeats 600000 in
theorem lc_cX11_play (l : Launch) (n : Nat) (f : Int → Int) (s q m mo ca ct : Int) (po : Int → Int) (P : lc_St) (H : Nat → lc_St) (k : Nat) (tx : Int → Int) (z : Int) (bs bt : Bool) (sn sr : Int) (d : Int) (σ : lc_S)  (hI : lc_MI σ ((f, s, q, m, mo, ca, ct, po), P, H, k, tx, z, bs, bt, sn, sr)) (hw : lc_wf ((f, s, q, m, mo, ca, ct, po), P, H, k, tx, z, bs, bt, sn, sr)) (hR_d : -2147483648 ≤ d ∧ d < 2147483648) : lc_Con l yX11_play cX11_play 3 (some .int) (lc_Rd 6) [.ref (50), .int (lc_i (d))] n σ (fun v n2 σ2 => v = some (.int (lc_i ((lc_play ((f, s, q, m, mo, ca, ct, po), P, H, k, tx, z, bs, bt, sn, sr) d).2))) ∧ n = n2 ∧ lc_MI σ2 ((lc_play ((f, s, q, m, mo, ca, ct, po), P, H, k, tx, z, bs, bt, sn, sr) d).1) ∧ ∀ i : Nat, i < 50 → σ2 i = σ i) := by
  obtain ⟨⟨hf9, hs9, hq9, hm9, hct9, hpo9, hkey9⟩, hwP, hwH, hk4, hz, htx⟩ := hw
  have hf : ∀ j : Int, 0 ≤ j → j < 36 → 0 ≤ f j ∧ f j ≤ 2 := hf9
  have hs : 1 ≤ s ∧ s ≤ 2 := hs9
  have hq : 0 ≤ q ∧ q ≤ 60 := hq9
  have hm : 4 ≤ m ∧ m ≤ 60 := hm9
  have hct : 1 ≤ ct ∧ ct ≤ 60 := hct9
  have hpo : ∀ i : Int, 0 ≤ i → i < ct → 0 ≤ po i ∧ po i < 450283905890997363 := hpo9
  have hkey : po (ct - 1) = lc_key f s 36 := hkey9
  obtain ⟨N1, N2, N3, N4, N5, N6, N7, at9, js, jr, w1, w2, w3, bw, hc50, hc51, hc52, hc53, hc54, hc55, hc56, hc57, hR, hRP, hP, hT, hjs, hjr⟩ := hI
  have hR : lc_RM N1 (f, s, q, m, mo, ca, ct, po) := hR
  have hH60 : ∀ j : Nat, j < k → (H j).2.2.2.2.2.2.1 ≤ 60 := fun j hj => (hwH j hj).2.2.2.2.1.2
  obtain ⟨h0R, h1R, h2R, h3R, h4R, h5R, h6R, h7R⟩ := id hR
  have h0R : N1 0 = s := h0R
  have h1R : N1 1 = q := h1R
  have h2R : N1 2 = mo := h2R
  have h3R : N1 3 = ca := h3R
  have h4R : N1 4 = m := h4R
  have h5R : N1 5 = ct := h5R
  have h6R : ∀ p : Int, 0 ≤ p → p < 36 → N1 (6 + p) = f p := h6R
  have hz_50 : σ (50) = some (.inr (11, [.ref (51), .ref (52), .ref (53), .ref (54), .ref (55), .int (lc_i ((k : Int))), .ref (56), .int (lc_i (if bs = true then 1 else 0)), .ref (57), .int (lc_i (z)), .int (lc_i (at9)), .int (lc_i (js)), .int (lc_i (jr)), .int (lc_i (w1)), .int (lc_i (w2)), .int (lc_i (w3)), .int (lc_i (bw))]) : lc_Cel) := hc50
  have hz_51 : σ (51) = some (lc_aI 222 (N1)) := hc51
  have hz_52 : σ (52) = some (lc_aI 222 (N2)) := hc52
  have hz_53 : σ (53) = some (lc_aI 222 (N3)) := hc53
  have hz_54 : σ (54) = some (lc_aI 222 (N4)) := hc54
  have hz_55 : σ (55) = some (lc_aI 888 (N5)) := hc55
  have hz_56 : σ (56) = some (lc_aI 222 (N6)) := hc56
  have hz_57 : σ (57) = some (lc_aI 80 (N7)) := hc57
  refine lc_con RX11 false (by decide) rfl (fun h => absurd h (by decide)) (Nat.le_of_ble_eq_true rfl) ?_
  suffices H : ∀ Q : lc_QT, (∀ v n2 σ2, (fun v n2 σ2 => v = some (.int (lc_i ((lc_play ((f, s, q, m, mo, ca, ct, po), P, H, k, tx, z, bs, bt, sn, sr) d).2))) ∧ n = n2 ∧ lc_MI σ2 ((lc_play ((f, s, q, m, mo, ca, ct, po), P, H, k, tx, z, bs, bt, sn, sr) d).1) ∧ ∀ i : Nat, i < 50 → σ2 i = σ i : lc_QT) v n2 σ2 → Q v n2 σ2) → lc_V l RX11 cX11_play 3 (some .int) false (lc_Rd 6) (lc_G Q 0 0) lc_E0 0 0 n 0 [(0, .ref (50)), (1, .int (lc_i (d)))] [] σ from H _ (fun _ _ _ h => h)
  intro Q hQ
  refine lc_iload_n dX11_play_0 rfl 1 rfl ?_
  refine lc_iconst dX11_play_1 ?_
  refine lc_iconst dX11_play_2 ?_
  refine lc_callS (As := [.int (lc_i (d)), .int (lc_i (1)), .int (lc_i (2))]) (stk := []) dX11_play_3 lc_mX11_41 lc_yX11_in (lc_cX11_in l n (d) (1) (2) σ (by omega) (by omega) (by omega)) rfl ⟨Nat.le_of_ble_eq_true rfl, Nat.le_of_ble_eq_true rfl⟩ ⟨Nat.le_of_ble_eq_true rfl, Nat.le_of_ble_eq_true rfl⟩ rfl (Nat.le_of_ble_eq_true rfl) (fun v1 n2 σ3 q4 => ?_)
  obtain ⟨rfl, rfl, rfl⟩ := q4
  refine lc_if_neB (tgt := 12) dX11_play_6 (by decide) (fun h_6_4 => ?_) (fun h_6_4 => ?_)
  · skip
    refine lc_aload_n dX11_play_12 rfl 0 rfl ?_
    refine lc_iload_n dX11_play_13 rfl 1 rfl ?_
    refine lc_callV (As := [.int (lc_i (d))]) (stk := []) (b := 50) dX11_play_14 lc_mX11_134 lc_yX11_bestOf hz_50 rfl (lc_cX11_bestOf l n (N1) (f) (s) (q) (m) (mo) (ca) (ct) (po) ((k : Int)) (bs) (z) (at9) (js) (jr) (w1) (w2) (w3) (bw) (N2) (d) σ hz_50 hz_51 hz_52 (hf) (hs) (by omega) (hq) (by omega) (hR) (by omega)) rfl ⟨Nat.le_of_ble_eq_true rfl, Nat.le_of_ble_eq_true rfl⟩ ⟨Nat.le_of_ble_eq_true rfl, Nat.le_of_ble_eq_true rfl⟩ rfl (Nat.le_of_ble_eq_true rfl) (fun v12 n13 σ14 q15 => ?_)
    obtain ⟨z6, z7, g8, rfl, rfl, h10, h11, fr9⟩ := q15
    have h16 : σ14 (51) = some (lc_aI 222 (N1)) := (fr9 _ (by omega) (by omega)).trans hz_51
    have h17 : σ14 (53) = some (lc_aI 222 (N3)) := (fr9 _ (by omega) (by omega)).trans hz_53
    have h18 : σ14 (54) = some (lc_aI 222 (N4)) := (fr9 _ (by omega) (by omega)).trans hz_54
    have h19 : σ14 (55) = some (lc_aI 888 (N5)) := (fr9 _ (by omega) (by omega)).trans hz_55
    have h20 : σ14 (56) = some (lc_aI 222 (N6)) := (fr9 _ (by omega) (by omega)).trans hz_56
    have h21 : σ14 (57) = some (lc_aI 80 (N7)) := (fr9 _ (by omega) (by omega)).trans hz_57
    have hsc := lc_sv_c (m := m) (d := d.toNat) (f := f) (q := q) hs
    have hfn := lc_fnd_c (a := (lc_sv m d.toNat f s q)) hsc.1
    refine lc_istore_n (lv' := [(0, .ref (50)), (1, .int (lc_i (d))), (2, .int (lc_i (lc_fnd (lc_sv (m) (d).toNat (f) (s) (q)))))]) dX11_play_17 rfl (by decide) rfl ?_
    refine lc_iload_n dX11_play_18 rfl 2 rfl ?_
    refine lc_bipush dX11_play_19 (by decide) ?_
    refine lc_icmp_ne (tgt := 27) dX11_play_21 (by decide) (by omega) (fun h_21_21 => ?_) (fun h_21_21 => ?_)
    · skip
      have hsc2 := hsc.2.2 (by omega)
      have hfx := (lc_mv_mem hs.1 ((lc_sv_m m d.toNat f s q).resolve_left (by omega))).2.1
      refine lc_aload_n dX11_play_27 rfl 0 rfl ?_
      refine lc_callV (As := []) (stk := []) (b := 50) dX11_play_28 lc_mX11_64 lc_yX11_records h10 rfl (lc_cX11_records l n (N1) (f) (s) (q) (m) (mo) (ca) (ct) (po) (k) (bs) (z) (at9) (js) (jr) (z6) (z7) (w3) ((lc_sv (m) (d).toNat (f) (s) (q)).1) (N5) (H) σ14 h10 h16 h19 (by omega) (by omega) (hR) (hP) (hH60)) rfl ⟨Nat.le_of_ble_eq_true rfl, Nat.le_of_ble_eq_true rfl⟩ ⟨Nat.le_of_ble_eq_true rfl, Nat.le_of_ble_eq_true rfl⟩ rfl (Nat.le_of_ble_eq_true rfl) (fun v28 n29 σ30 q31 => ?_)
      obtain ⟨g23, rfl, rfl, h26, h27, hP24, fr25⟩ := q31
      have h32 : σ30 (51) = some (lc_aI 222 (N1)) := (fr25 _ (by omega) (by omega)).trans h16
      have h33 : σ30 (53) = some (lc_aI 222 (N3)) := (fr25 _ (by omega) (by omega)).trans h17
      have h34 : σ30 (54) = some (lc_aI 222 (N4)) := (fr25 _ (by omega) (by omega)).trans h18
      have h35 : σ30 (56) = some (lc_aI 222 (N6)) := (fr25 _ (by omega) (by omega)).trans h20
      have h36 : σ30 (57) = some (lc_aI 80 (N7)) := (fr25 _ (by omega) (by omega)).trans h21
      have h37 : σ30 (52) = some (lc_aI 222 (g8)) := (fr25 _ (by omega) (by omega)).trans h11
      refine lc_aload_n dX11_play_31 rfl 0 rfl ?_
      refine lc_get dX11_play_32 lc_fX11_7 h26 rfl ?_
      refine lc_iload_n dX11_play_35 rfl 2 rfl ?_
      refine lc_bipush dX11_play_36 (by decide) ?_
      refine lc_idiv dX11_play_38 (by omega) ?_
      refine lc_top (congrArg (fun z => Value.int (lc_i z)) (show ((lc_fnd (lc_sv (m) (d).toNat (f) (s) (q))) / (100) : Int) = (lc_sv m d.toNat f s q).2 / 100 from by rw [show lc_fnd (lc_sv m d.toNat f s q) = (lc_sv m d.toNat f s q).2 from by omega])) ?_
      refine lc_iload_n dX11_play_39 rfl 2 rfl ?_
      refine lc_bipush dX11_play_40 (by decide) ?_
      refine lc_irem dX11_play_42 (by omega) ?_
      refine lc_top (congrArg (fun z => Value.int (lc_i z)) (show ((lc_fnd (lc_sv (m) (d).toNat (f) (s) (q))) % (100) : Int) = (lc_sv m d.toNat f s q).2 % 100 from by rw [show lc_fnd (lc_sv m d.toNat f s q) = (lc_sv m d.toNat f s q).2 from by omega])) ?_
      refine lc_callS (As := [.ref (51), .int (lc_i ((lc_sv m d.toNat f s q).2 / 100)), .int (lc_i ((lc_sv m d.toNat f s q).2 % 100))]) (stk := []) dX11_play_43 lc_mX11_113 lc_yX11_makes (lc_cX11_makes l n (51) (N1) (f) (s) (q) (m) (mo) (ca) (ct) (po) ((lc_sv m d.toNat f s q).2 / 100) ((lc_sv m d.toNat f s q).2 % 100) σ30 h32 (hf) (hs) (by omega) (hR) (by omega) (by omega) (hfx)) rfl ⟨Nat.le_of_ble_eq_true rfl, Nat.le_of_ble_eq_true rfl⟩ ⟨Nat.le_of_ble_eq_true rfl, Nat.le_of_ble_eq_true rfl⟩ rfl (Nat.le_of_ble_eq_true rfl) (fun v42 n43 σ44 q45 => ?_)
      obtain ⟨N40, rfl, rfl, h39, hR41, fr38⟩ := q45
      have h46 : σ44 (53) = some (lc_aI 222 (N3)) := (fr38 _ (by omega)).trans h33
      have h47 : σ44 (54) = some (lc_aI 222 (N4)) := (fr38 _ (by omega)).trans h34
      have h48 : σ44 (56) = some (lc_aI 222 (N6)) := (fr38 _ (by omega)).trans h35
      have h49 : σ44 (57) = some (lc_aI 80 (N7)) := (fr38 _ (by omega)).trans h36
      have h50 : σ44 (52) = some (lc_aI 222 (g8)) := (fr38 _ (by omega)).trans h37
      have h51 : σ44 (50) = some (.inr (11, [.ref (51), .ref (52), .ref (53), .ref (54), .ref (55), .int (lc_i (((lc_hk k : Nat) : Int))), .ref (56), .int (lc_i (if bs = true then 1 else 0)), .ref (57), .int (lc_i (z)), .int (lc_i (at9)), .int (lc_i (js)), .int (lc_i (jr)), .int (lc_i (z6)), .int (lc_i (z7)), .int (lc_i (w3)), .int (lc_i ((lc_sv (m) (d).toNat (f) (s) (q)).1))]) : lc_Cel) := (fr38 _ (by omega)).trans h26
      have h52 : σ44 (55) = some (lc_aI 888 (g23)) := (fr38 _ (by omega)).trans h27
      refine lc_iload_n dX11_play_46 rfl 2 rfl ?_
      exact lc_iret dX11_play_47 rfl (Nat.le_of_ble_eq_true rfl) (Nat.le_of_ble_eq_true rfl) (hQ _ _ _ (by rw [lc_play, if_neg (show ¬ (d < 1 ∨ 2 < d) from by omega), if_neg (show ¬ ((lc_sv m d.toNat f s q).2 < 0) from by omega)]; exact ⟨lc_some (show lc_fnd (lc_sv m d.toNat f s q) = (lc_sv m d.toNat f s q).2 from by omega), rfl, lc_MI_mk h51 h39 h50 h46 h47 h52 h48 h49 (hR41) (hRP) (hP24) (hT) (hjs) (hjr), (fun i _ => ((fr38 i (by omega)).trans ((fr25 i (by omega) (by omega)).trans (fr9 i (by omega) (by omega)))))⟩))
    · skip
      refine lc_bipush dX11_play_24 (by decide) ?_
      exact lc_iret dX11_play_26 rfl (Nat.le_of_ble_eq_true rfl) (Nat.le_of_ble_eq_true rfl) (hQ _ _ _ (by rw [lc_play, if_neg (show ¬ (d < 1 ∨ 2 < d) from by omega), if_pos (show (lc_sv m d.toNat f s q).2 < 0 from by omega)]; exact ⟨rfl, rfl, lc_MI_mk h10 h16 h11 h17 h18 h19 h20 h21 (hR) (hRP) (hP) (hT) (hjs) (hjr), (fun i _ => (fr9 i (by omega) (by omega)))⟩))
  · skip
    refine lc_bipush dX11_play_9 (by decide) ?_
    exact lc_iret dX11_play_11 rfl (Nat.le_of_ble_eq_true rfl) (Nat.le_of_ble_eq_true rfl) (hQ _ _ _ (by rw [lc_play, if_pos (show d < 1 ∨ 2 < d from by omega)]; exact ⟨rfl, rfl, lc_MI_mk hz_50 hz_51 hz_52 hz_53 hz_54 hz_55 hz_56 hz_57 (hR) (hRP) (hP) (hT) (hjs) (hjr), (fun i _ => rfl)⟩))

set_option maxRecDepth 100000 in
set_option maxHeartbeats 600000 in
theorem lc_cX11_setUp (l : Launch) (n : Nat) (f : Int → Int) (s q m mo ca ct : Int) (po : Int → Int) (P : lc_St) (H : Nat → lc_St) (k : Nat) (tx : Int → Int) (z : Int) (bs bt : Bool) (sn sr : Int) (x wv : Int) (σ : lc_S)  (hI : lc_MI σ ((f, s, q, m, mo, ca, ct, po), P, H, k, tx, z, bs, bt, sn, sr)) (hw : lc_wf ((f, s, q, m, mo, ca, ct, po), P, H, k, tx, z, bs, bt, sn, sr)) (hR_x : -2147483648 ≤ x ∧ x < 2147483648) (hR_wv : -2147483648 ≤ wv ∧ wv < 2147483648) : lc_Con l yX11_setUp cX11_setUp 4 (some .int) (lc_Rd 3) [.ref (50), .int (lc_i (x)), .int (lc_i (wv))] n σ (fun v n2 σ2 => v = some (.int (lc_i ((lc_zSet ((f, s, q, m, mo, ca, ct, po), P, H, k, tx, z, bs, bt, sn, sr) x wv).2))) ∧ n = n2 ∧ lc_MI σ2 ((lc_zSet ((f, s, q, m, mo, ca, ct, po), P, H, k, tx, z, bs, bt, sn, sr) x wv).1) ∧ ∀ i : Nat, i < 50 → σ2 i = σ i) := by
  obtain ⟨⟨hf9, hs9, hq9, hm9, hct9, hpo9, hkey9⟩, hwP, hwH, hk4, hz, htx⟩ := hw
  have hf : ∀ j : Int, 0 ≤ j → j < 36 → 0 ≤ f j ∧ f j ≤ 2 := hf9
  have hs : 1 ≤ s ∧ s ≤ 2 := hs9
  have hq : 0 ≤ q ∧ q ≤ 60 := hq9
  have hm : 4 ≤ m ∧ m ≤ 60 := hm9
  have hct : 1 ≤ ct ∧ ct ≤ 60 := hct9
  have hpo : ∀ i : Int, 0 ≤ i → i < ct → 0 ≤ po i ∧ po i < 450283905890997363 := hpo9
  have hkey : po (ct - 1) = lc_key f s 36 := hkey9
  obtain ⟨N1, N2, N3, N4, N5, N6, N7, at9, js, jr, w1, w2, w3, bw, hc50, hc51, hc52, hc53, hc54, hc55, hc56, hc57, hR, hRP, hP, hT, hjs, hjr⟩ := hI
  have hR : lc_RM N1 (f, s, q, m, mo, ca, ct, po) := hR
  have hH60 : ∀ j : Nat, j < k → (H j).2.2.2.2.2.2.1 ≤ 60 := fun j hj => (hwH j hj).2.2.2.2.1.2
  obtain ⟨h0R, h1R, h2R, h3R, h4R, h5R, h6R, h7R⟩ := id hR
  have h0R : N1 0 = s := h0R
  have h1R : N1 1 = q := h1R
  have h2R : N1 2 = mo := h2R
  have h3R : N1 3 = ca := h3R
  have h4R : N1 4 = m := h4R
  have h5R : N1 5 = ct := h5R
  have h6R : ∀ p : Int, 0 ≤ p → p < 36 → N1 (6 + p) = f p := h6R
  have hz_50 : σ (50) = some (.inr (11, [.ref (51), .ref (52), .ref (53), .ref (54), .ref (55), .int (lc_i ((k : Int))), .ref (56), .int (lc_i (if bs = true then 1 else 0)), .ref (57), .int (lc_i (z)), .int (lc_i (at9)), .int (lc_i (js)), .int (lc_i (jr)), .int (lc_i (w1)), .int (lc_i (w2)), .int (lc_i (w3)), .int (lc_i (bw))]) : lc_Cel) := hc50
  have hz_51 : σ (51) = some (lc_aI 222 (N1)) := hc51
  have hz_52 : σ (52) = some (lc_aI 222 (N2)) := hc52
  have hz_53 : σ (53) = some (lc_aI 222 (N3)) := hc53
  have hz_54 : σ (54) = some (lc_aI 222 (N4)) := hc54
  have hz_55 : σ (55) = some (lc_aI 888 (N5)) := hc55
  have hz_56 : σ (56) = some (lc_aI 222 (N6)) := hc56
  have hz_57 : σ (57) = some (lc_aI 80 (N7)) := hc57
  refine lc_con RX11 false (by decide) rfl (fun h => absurd h (by decide)) (Nat.le_of_ble_eq_true rfl) ?_
  suffices H : ∀ Q : lc_QT, (∀ v n2 σ2, (fun v n2 σ2 => v = some (.int (lc_i ((lc_zSet ((f, s, q, m, mo, ca, ct, po), P, H, k, tx, z, bs, bt, sn, sr) x wv).2))) ∧ n = n2 ∧ lc_MI σ2 ((lc_zSet ((f, s, q, m, mo, ca, ct, po), P, H, k, tx, z, bs, bt, sn, sr) x wv).1) ∧ ∀ i : Nat, i < 50 → σ2 i = σ i : lc_QT) v n2 σ2 → Q v n2 σ2) → lc_V l RX11 cX11_setUp 4 (some .int) false (lc_Rd 3) (lc_G Q 0 0) lc_E0 0 0 n 0 [(0, .ref (50)), (1, .int (lc_i (x))), (2, .int (lc_i (wv)))] [] σ from H _ (fun _ _ _ h => h)
  intro Q hQ
  refine lc_iload_n dX11_setUp_0 rfl 1 rfl ?_
  refine lc_callS (As := [.int (lc_i (x))]) (stk := []) dX11_setUp_1 lc_mX11_106 lc_yX11_isPoint (lc_cX11_isPoint l n (x) σ (by omega)) rfl ⟨Nat.le_of_ble_eq_true rfl, Nat.le_of_ble_eq_true rfl⟩ ⟨Nat.le_of_ble_eq_true rfl, Nat.le_of_ble_eq_true rfl⟩ rfl (Nat.le_of_ble_eq_true rfl) (fun v1 n2 σ3 q4 => ?_)
  obtain ⟨rfl, rfl, rfl⟩ := q4
  refine lc_if_neB (tgt := 10) dX11_setUp_4 (by decide) (fun h_4_4 => ?_) (fun h_4_4 => ?_)
  · skip
    refine lc_iload_n dX11_setUp_10 rfl 2 rfl ?_
    refine lc_iconst dX11_setUp_11 ?_
    refine lc_iconst dX11_setUp_12 ?_
    refine lc_callS (As := [.int (lc_i (wv)), .int (lc_i (0)), .int (lc_i (2))]) (stk := []) dX11_setUp_13 lc_mX11_41 lc_yX11_in (lc_cX11_in l n (wv) (0) (2) σ (by omega) (by omega) (by omega)) rfl ⟨Nat.le_of_ble_eq_true rfl, Nat.le_of_ble_eq_true rfl⟩ ⟨Nat.le_of_ble_eq_true rfl, Nat.le_of_ble_eq_true rfl⟩ rfl (Nat.le_of_ble_eq_true rfl) (fun v6 n7 σ8 q9 => ?_)
    obtain ⟨rfl, rfl, rfl⟩ := q9
    refine lc_if_neB (tgt := 22) dX11_setUp_16 (by decide) (fun h_16_9 => ?_) (fun h_16_9 => ?_)
    · skip
      refine lc_aload_n dX11_setUp_22 rfl 0 rfl ?_
      refine lc_get dX11_setUp_23 lc_fX11_7 hz_50 rfl ?_
      refine lc_bipush dX11_setUp_26 (by decide) ?_
      refine lc_iload_n dX11_setUp_28 rfl 1 rfl ?_
      refine lc_iadd dX11_setUp_29 ?_
      refine lc_iald dX11_setUp_30 hz_51 (by omega) (by decide) ?_
      refine lc_top (congrArg (fun z => Value.int (lc_i z)) (show ((N1) ((6) + (x)) : Int) = f x from h6R x (by omega) (by omega))) ?_
      refine lc_istore_n (lv' := [(0, .ref (50)), (1, .int (lc_i (x))), (2, .int (lc_i (wv))), (3, .int (lc_i (f x)))]) dX11_setUp_31 rfl (by decide) rfl ?_
      have hfx := hf x (by omega) (by omega)
      refine lc_iload_n dX11_setUp_32 rfl 3 rfl ?_
      refine lc_iload_n dX11_setUp_33 rfl 2 rfl ?_
      refine lc_icmp_ne (tgt := 40) dX11_setUp_34 (by decide) (by omega) (fun h_34_10 => ?_) (fun h_34_10 => ?_)
      · skip
        refine lc_aload_n dX11_setUp_40 rfl 0 rfl ?_
        refine lc_callV (As := []) (stk := []) (b := 50) dX11_setUp_41 lc_mX11_64 lc_yX11_records hz_50 rfl (lc_cX11_records l n (N1) (f) (s) (q) (m) (mo) (ca) (ct) (po) (k) (bs) (z) (at9) (js) (jr) (w1) (w2) (w3) (bw) (N5) (H) σ hz_50 hz_51 hz_55 (by omega) (by omega) (hR) (hP) (hH60)) rfl ⟨Nat.le_of_ble_eq_true rfl, Nat.le_of_ble_eq_true rfl⟩ ⟨Nat.le_of_ble_eq_true rfl, Nat.le_of_ble_eq_true rfl⟩ rfl (Nat.le_of_ble_eq_true rfl) (fun v17 n18 σ19 q20 => ?_)
        obtain ⟨g12, rfl, rfl, h15, h16, hP13, fr14⟩ := q20
        have h21 : σ19 (51) = some (lc_aI 222 (N1)) := (fr14 _ (by omega) (by omega)).trans hz_51
        have h22 : σ19 (52) = some (lc_aI 222 (N2)) := (fr14 _ (by omega) (by omega)).trans hz_52
        have h23 : σ19 (53) = some (lc_aI 222 (N3)) := (fr14 _ (by omega) (by omega)).trans hz_53
        have h24 : σ19 (54) = some (lc_aI 222 (N4)) := (fr14 _ (by omega) (by omega)).trans hz_54
        have h25 : σ19 (56) = some (lc_aI 222 (N6)) := (fr14 _ (by omega) (by omega)).trans hz_56
        have h26 : σ19 (57) = some (lc_aI 80 (N7)) := (fr14 _ (by omega) (by omega)).trans hz_57
        refine lc_aload_n dX11_setUp_44 rfl 0 rfl ?_
        refine lc_get dX11_setUp_45 lc_fX11_7 h15 rfl ?_
        refine lc_bipush dX11_setUp_48 (by decide) ?_
        refine lc_iload_n dX11_setUp_50 rfl 1 rfl ?_
        refine lc_iadd dX11_setUp_51 ?_
        refine lc_iload_n dX11_setUp_52 rfl 2 rfl ?_
        refine lc_sI dX11_setUp_53 h21 (by omega) (by decide) (fun σ27 h28 fr29 => ?_)
        have h30 : σ27 (52) = some (lc_aI 222 (N2)) := (fr29 _ (by omega)).trans h22
        have h31 : σ27 (53) = some (lc_aI 222 (N3)) := (fr29 _ (by omega)).trans h23
        have h32 : σ27 (54) = some (lc_aI 222 (N4)) := (fr29 _ (by omega)).trans h24
        have h33 : σ27 (56) = some (lc_aI 222 (N6)) := (fr29 _ (by omega)).trans h25
        have h34 : σ27 (57) = some (lc_aI 80 (N7)) := (fr29 _ (by omega)).trans h26
        have h35 : σ27 (50) = some (.inr (11, [.ref (51), .ref (52), .ref (53), .ref (54), .ref (55), .int (lc_i (((lc_hk k : Nat) : Int))), .ref (56), .int (lc_i (if bs = true then 1 else 0)), .ref (57), .int (lc_i (z)), .int (lc_i (at9)), .int (lc_i (js)), .int (lc_i (jr)), .int (lc_i (w1)), .int (lc_i (w2)), .int (lc_i (w3)), .int (lc_i (bw))]) : lc_Cel) := (fr29 _ (by omega)).trans h15
        have h36 : σ27 (55) = some (lc_aI 888 (g12)) := (fr29 _ (by omega)).trans h16
        have hR37 := lc_RM_p (p := x) (w := wv) hR (by omega)
        have hfu := lc_uf_ok (p := x) (w := wv) hf (by omega)
        refine lc_aload_n dX11_setUp_54 rfl 0 rfl ?_
        refine lc_get dX11_setUp_55 lc_fX11_7 h35 rfl ?_
        refine lc_callS (As := [.ref (51)]) (stk := []) dX11_setUp_58 lc_mX11_74 lc_yX11_forgets (lc_cX11_forgets l n (51) (lc_u (N1) ((6) + (x)) (wv)) (lc_u f x wv) (s) (q) (m) (mo) (ca) (ct) (po) σ27 h28 (hfu) (hs) (hR37)) rfl ⟨Nat.le_of_ble_eq_true rfl, Nat.le_of_ble_eq_true rfl⟩ ⟨Nat.le_of_ble_eq_true rfl, Nat.le_of_ble_eq_true rfl⟩ rfl (Nat.le_of_ble_eq_true rfl) (fun v42 n43 σ44 q45 => ?_)
        obtain ⟨N40, rfl, rfl, h39, hR41, fr38⟩ := q45
        have h46 : σ44 (52) = some (lc_aI 222 (N2)) := (fr38 _ (by omega)).trans h30
        have h47 : σ44 (53) = some (lc_aI 222 (N3)) := (fr38 _ (by omega)).trans h31
        have h48 : σ44 (54) = some (lc_aI 222 (N4)) := (fr38 _ (by omega)).trans h32
        have h49 : σ44 (56) = some (lc_aI 222 (N6)) := (fr38 _ (by omega)).trans h33
        have h50 : σ44 (57) = some (lc_aI 80 (N7)) := (fr38 _ (by omega)).trans h34
        have h51 : σ44 (50) = some (.inr (11, [.ref (51), .ref (52), .ref (53), .ref (54), .ref (55), .int (lc_i (((lc_hk k : Nat) : Int))), .ref (56), .int (lc_i (if bs = true then 1 else 0)), .ref (57), .int (lc_i (z)), .int (lc_i (at9)), .int (lc_i (js)), .int (lc_i (jr)), .int (lc_i (w1)), .int (lc_i (w2)), .int (lc_i (w3)), .int (lc_i (bw))]) : lc_Cel) := (fr38 _ (by omega)).trans h35
        have h52 : σ44 (55) = some (lc_aI 888 (g12)) := (fr38 _ (by omega)).trans h36
        refine lc_iload_n dX11_setUp_61 rfl 3 rfl ?_
        exact lc_iret dX11_setUp_62 rfl (Nat.le_of_ble_eq_true rfl) (Nat.le_of_ble_eq_true rfl) (hQ _ _ _ (by rw [lc_zSet, if_neg (show ¬ (¬ (0 ≤ x ∧ x < 36)) from by omega), if_neg (show ¬ (wv < 0 ∨ 2 < wv) from by omega), if_neg (show ¬ (f x = wv) from by omega)]; exact ⟨rfl, rfl, lc_MI_mk h51 h39 h46 h47 h48 h52 h49 h50 (hR41) (hRP) (hP13) (hT) (hjs) (hjr), (fun i _ => ((fr38 i (by omega)).trans ((fr29 i (by omega)).trans (fr14 i (by omega) (by omega)))))⟩))
      · skip
        refine lc_bipush dX11_setUp_37 (by decide) ?_
        exact lc_iret dX11_setUp_39 rfl (Nat.le_of_ble_eq_true rfl) (Nat.le_of_ble_eq_true rfl) (hQ _ _ _ (by rw [lc_zSet, if_neg (show ¬ (¬ (0 ≤ x ∧ x < 36)) from by omega), if_neg (show ¬ (wv < 0 ∨ 2 < wv) from by omega), if_pos (show f x = wv from by omega)]; exact ⟨rfl, rfl, lc_MI_mk hz_50 hz_51 hz_52 hz_53 hz_54 hz_55 hz_56 hz_57 (hR) (hRP) (hP) (hT) (hjs) (hjr), (fun i _ => rfl)⟩))
    · skip
      refine lc_bipush dX11_setUp_19 (by decide) ?_
      exact lc_iret dX11_setUp_21 rfl (Nat.le_of_ble_eq_true rfl) (Nat.le_of_ble_eq_true rfl) (hQ _ _ _ (by rw [lc_zSet, if_neg (show ¬ (¬ (0 ≤ x ∧ x < 36)) from by omega), if_pos (show wv < 0 ∨ 2 < wv from by omega)]; exact ⟨rfl, rfl, lc_MI_mk hz_50 hz_51 hz_52 hz_53 hz_54 hz_55 hz_56 hz_57 (hR) (hRP) (hP) (hT) (hjs) (hjr), (fun i _ => rfl)⟩))
  · skip
    refine lc_bipush dX11_setUp_7 (by decide) ?_
    exact lc_iret dX11_setUp_9 rfl (Nat.le_of_ble_eq_true rfl) (Nat.le_of_ble_eq_true rfl) (hQ _ _ _ (by rw [lc_zSet, if_pos (show ¬ (0 ≤ x ∧ x < 36) from by omega)]; exact ⟨rfl, rfl, lc_MI_mk hz_50 hz_51 hz_52 hz_53 hz_54 hz_55 hz_56 hz_57 (hR) (hRP) (hP) (hT) (hjs) (hjr), (fun i _ => rfl)⟩))

set_option maxRecDepth 100000 in
set_option maxHeartbeats 600000 in
theorem lc_cX11_turn (l : Launch) (n : Nat) (f : Int → Int) (s q m mo ca ct : Int) (po : Int → Int) (P : lc_St) (H : Nat → lc_St) (k : Nat) (tx : Int → Int) (z : Int) (bs bt : Bool) (sn sr : Int) (σ : lc_S)  (hI : lc_MI σ ((f, s, q, m, mo, ca, ct, po), P, H, k, tx, z, bs, bt, sn, sr)) (hw : lc_wf ((f, s, q, m, mo, ca, ct, po), P, H, k, tx, z, bs, bt, sn, sr)) : lc_Con l yX11_turn cX11_turn 1 (some .int) (lc_Rd 3) [.ref (50)] n σ (fun v n2 σ2 => v = some (.int (lc_i ((lc_turn ((f, s, q, m, mo, ca, ct, po), P, H, k, tx, z, bs, bt, sn, sr)).2))) ∧ n = n2 ∧ lc_MI σ2 ((lc_turn ((f, s, q, m, mo, ca, ct, po), P, H, k, tx, z, bs, bt, sn, sr)).1) ∧ ∀ i : Nat, i < 50 → σ2 i = σ i) := by
  obtain ⟨⟨hf9, hs9, hq9, hm9, hct9, hpo9, hkey9⟩, hwP, hwH, hk4, hz, htx⟩ := hw
  have hf : ∀ j : Int, 0 ≤ j → j < 36 → 0 ≤ f j ∧ f j ≤ 2 := hf9
  have hs : 1 ≤ s ∧ s ≤ 2 := hs9
  have hq : 0 ≤ q ∧ q ≤ 60 := hq9
  have hm : 4 ≤ m ∧ m ≤ 60 := hm9
  have hct : 1 ≤ ct ∧ ct ≤ 60 := hct9
  have hpo : ∀ i : Int, 0 ≤ i → i < ct → 0 ≤ po i ∧ po i < 450283905890997363 := hpo9
  have hkey : po (ct - 1) = lc_key f s 36 := hkey9
  obtain ⟨N1, N2, N3, N4, N5, N6, N7, at9, js, jr, w1, w2, w3, bw, hc50, hc51, hc52, hc53, hc54, hc55, hc56, hc57, hR, hRP, hP, hT, hjs, hjr⟩ := hI
  have hR : lc_RM N1 (f, s, q, m, mo, ca, ct, po) := hR
  have hH60 : ∀ j : Nat, j < k → (H j).2.2.2.2.2.2.1 ≤ 60 := fun j hj => (hwH j hj).2.2.2.2.1.2
  obtain ⟨h0R, h1R, h2R, h3R, h4R, h5R, h6R, h7R⟩ := id hR
  have h0R : N1 0 = s := h0R
  have h1R : N1 1 = q := h1R
  have h2R : N1 2 = mo := h2R
  have h3R : N1 3 = ca := h3R
  have h4R : N1 4 = m := h4R
  have h5R : N1 5 = ct := h5R
  have h6R : ∀ p : Int, 0 ≤ p → p < 36 → N1 (6 + p) = f p := h6R
  have hz_50 : σ (50) = some (.inr (11, [.ref (51), .ref (52), .ref (53), .ref (54), .ref (55), .int (lc_i ((k : Int))), .ref (56), .int (lc_i (if bs = true then 1 else 0)), .ref (57), .int (lc_i (z)), .int (lc_i (at9)), .int (lc_i (js)), .int (lc_i (jr)), .int (lc_i (w1)), .int (lc_i (w2)), .int (lc_i (w3)), .int (lc_i (bw))]) : lc_Cel) := hc50
  have hz_51 : σ (51) = some (lc_aI 222 (N1)) := hc51
  have hz_52 : σ (52) = some (lc_aI 222 (N2)) := hc52
  have hz_53 : σ (53) = some (lc_aI 222 (N3)) := hc53
  have hz_54 : σ (54) = some (lc_aI 222 (N4)) := hc54
  have hz_55 : σ (55) = some (lc_aI 888 (N5)) := hc55
  have hz_56 : σ (56) = some (lc_aI 222 (N6)) := hc56
  have hz_57 : σ (57) = some (lc_aI 80 (N7)) := hc57
  refine lc_con RX11 false (by decide) rfl (fun h => absurd h (by decide)) (Nat.le_of_ble_eq_true rfl) ?_
  suffices H : ∀ Q : lc_QT, (∀ v n2 σ2, (fun v n2 σ2 => v = some (.int (lc_i ((lc_turn ((f, s, q, m, mo, ca, ct, po), P, H, k, tx, z, bs, bt, sn, sr)).2))) ∧ n = n2 ∧ lc_MI σ2 ((lc_turn ((f, s, q, m, mo, ca, ct, po), P, H, k, tx, z, bs, bt, sn, sr)).1) ∧ ∀ i : Nat, i < 50 → σ2 i = σ i : lc_QT) v n2 σ2 → Q v n2 σ2) → lc_V l RX11 cX11_turn 1 (some .int) false (lc_Rd 3) (lc_G Q 0 0) lc_E0 0 0 n 0 [(0, .ref (50))] [] σ from H _ (fun _ _ _ h => h)
  intro Q hQ
  refine lc_aload_n dX11_turn_0 rfl 0 rfl ?_
  refine lc_callV (As := []) (stk := []) (b := 50) dX11_turn_1 lc_mX11_64 lc_yX11_records hz_50 rfl (lc_cX11_records l n (N1) (f) (s) (q) (m) (mo) (ca) (ct) (po) (k) (bs) (z) (at9) (js) (jr) (w1) (w2) (w3) (bw) (N5) (H) σ hz_50 hz_51 hz_55 (by omega) (by omega) (hR) (hP) (hH60)) rfl ⟨Nat.le_of_ble_eq_true rfl, Nat.le_of_ble_eq_true rfl⟩ ⟨Nat.le_of_ble_eq_true rfl, Nat.le_of_ble_eq_true rfl⟩ rfl (Nat.le_of_ble_eq_true rfl) (fun v6 n7 σ8 q9 => ?_)
  obtain ⟨g1, rfl, rfl, h4, h5, hP2, fr3⟩ := q9
  have h10 : σ8 (51) = some (lc_aI 222 (N1)) := (fr3 _ (by omega) (by omega)).trans hz_51
  have h11 : σ8 (52) = some (lc_aI 222 (N2)) := (fr3 _ (by omega) (by omega)).trans hz_52
  have h12 : σ8 (53) = some (lc_aI 222 (N3)) := (fr3 _ (by omega) (by omega)).trans hz_53
  have h13 : σ8 (54) = some (lc_aI 222 (N4)) := (fr3 _ (by omega) (by omega)).trans hz_54
  have h14 : σ8 (56) = some (lc_aI 222 (N6)) := (fr3 _ (by omega) (by omega)).trans hz_56
  have h15 : σ8 (57) = some (lc_aI 80 (N7)) := (fr3 _ (by omega) (by omega)).trans hz_57
  refine lc_aload_n dX11_turn_4 rfl 0 rfl ?_
  refine lc_get dX11_turn_5 lc_fX11_7 h4 rfl ?_
  refine lc_iconst dX11_turn_8 ?_
  refine lc_iconst dX11_turn_9 ?_
  refine lc_aload_n dX11_turn_10 rfl 0 rfl ?_
  refine lc_get dX11_turn_11 lc_fX11_7 h4 rfl ?_
  refine lc_iconst dX11_turn_14 ?_
  refine lc_iald dX11_turn_15 h10 (by omega) (by decide) ?_
  refine lc_top (congrArg (fun z => Value.int (lc_i z)) (show ((N1) (0) : Int) = s from h0R)) ?_
  refine lc_isub dX11_turn_16 ?_
  refine lc_sI dX11_turn_17 h10 (by omega) (by decide) (fun σ16 h17 fr18 => ?_)
  have h19 : σ16 (52) = some (lc_aI 222 (N2)) := (fr18 _ (by omega)).trans h11
  have h20 : σ16 (53) = some (lc_aI 222 (N3)) := (fr18 _ (by omega)).trans h12
  have h21 : σ16 (54) = some (lc_aI 222 (N4)) := (fr18 _ (by omega)).trans h13
  have h22 : σ16 (56) = some (lc_aI 222 (N6)) := (fr18 _ (by omega)).trans h14
  have h23 : σ16 (57) = some (lc_aI 80 (N7)) := (fr18 _ (by omega)).trans h15
  have h24 : σ16 (50) = some (.inr (11, [.ref (51), .ref (52), .ref (53), .ref (54), .ref (55), .int (lc_i (((lc_hk k : Nat) : Int))), .ref (56), .int (lc_i (if bs = true then 1 else 0)), .ref (57), .int (lc_i (z)), .int (lc_i (at9)), .int (lc_i (js)), .int (lc_i (jr)), .int (lc_i (w1)), .int (lc_i (w2)), .int (lc_i (w3)), .int (lc_i (bw))]) : lc_Cel) := (fr18 _ (by omega)).trans h4
  have h25 : σ16 (55) = some (lc_aI 888 (g1)) := (fr18 _ (by omega)).trans h5
  have hR26 := lc_RM_s (v := 3 - s) hR
  refine lc_aload_n dX11_turn_18 rfl 0 rfl ?_
  refine lc_get dX11_turn_19 lc_fX11_7 h24 rfl ?_
  refine lc_callS (As := [.ref (51)]) (stk := []) dX11_turn_22 lc_mX11_74 lc_yX11_forgets (lc_cX11_forgets l n (51) (lc_u (N1) (0) ((3) - (s))) (f) (3 - s) (q) (m) (mo) (ca) (ct) (po) σ16 h17 (hf) (by omega) (hR26)) rfl ⟨Nat.le_of_ble_eq_true rfl, Nat.le_of_ble_eq_true rfl⟩ ⟨Nat.le_of_ble_eq_true rfl, Nat.le_of_ble_eq_true rfl⟩ rfl (Nat.le_of_ble_eq_true rfl) (fun v31 n32 σ33 q34 => ?_)
  obtain ⟨N29, rfl, rfl, h28, hR30, fr27⟩ := q34
  have h35 : σ33 (52) = some (lc_aI 222 (N2)) := (fr27 _ (by omega)).trans h19
  have h36 : σ33 (53) = some (lc_aI 222 (N3)) := (fr27 _ (by omega)).trans h20
  have h37 : σ33 (54) = some (lc_aI 222 (N4)) := (fr27 _ (by omega)).trans h21
  have h38 : σ33 (56) = some (lc_aI 222 (N6)) := (fr27 _ (by omega)).trans h22
  have h39 : σ33 (57) = some (lc_aI 80 (N7)) := (fr27 _ (by omega)).trans h23
  have h40 : σ33 (50) = some (.inr (11, [.ref (51), .ref (52), .ref (53), .ref (54), .ref (55), .int (lc_i (((lc_hk k : Nat) : Int))), .ref (56), .int (lc_i (if bs = true then 1 else 0)), .ref (57), .int (lc_i (z)), .int (lc_i (at9)), .int (lc_i (js)), .int (lc_i (jr)), .int (lc_i (w1)), .int (lc_i (w2)), .int (lc_i (w3)), .int (lc_i (bw))]) : lc_Cel) := (fr27 _ (by omega)).trans h24
  have h41 : σ33 (55) = some (lc_aI 888 (g1)) := (fr27 _ (by omega)).trans h25
  refine lc_aload_n dX11_turn_25 rfl 0 rfl ?_
  refine lc_get dX11_turn_26 lc_fX11_7 h40 rfl ?_
  refine lc_iconst dX11_turn_29 ?_
  refine lc_iald dX11_turn_30 h28 (by omega) (by decide) ?_
  refine lc_top (congrArg (fun z => Value.int (lc_i z)) (show ((N29) (0) : Int) = 3 - s from hR30.1)) ?_
  exact lc_iret dX11_turn_31 rfl (Nat.le_of_ble_eq_true rfl) (Nat.le_of_ble_eq_true rfl) (hQ _ _ _ (by rw [lc_turn]; exact ⟨rfl, rfl, lc_MI_mk h40 h28 h35 h36 h37 h41 h38 h39 (hR30) (hRP) (hP2) (hT) (hjs) (hjr), (fun i _ => ((fr27 i (by omega)).trans ((fr18 i (by omega)).trans (fr3 i (by omega) (by omega)))))⟩))

set_option maxRecDepth 100000 in
set_option maxHeartbeats 600000 in
theorem lc_cX11_begin (l : Launch) (n : Nat) (f : Int → Int) (s q m mo ca ct : Int) (po : Int → Int) (P : lc_St) (H : Nat → lc_St) (k : Nat) (tx : Int → Int) (z : Int) (bs bt : Bool) (sn sr : Int) (σ : lc_S)  (hI : lc_MI σ ((f, s, q, m, mo, ca, ct, po), P, H, k, tx, z, bs, bt, sn, sr)) (hw : lc_wf ((f, s, q, m, mo, ca, ct, po), P, H, k, tx, z, bs, bt, sn, sr)) : lc_Con l yX11_begin cX11_begin 2 (some .int) (lc_Rd 4) [.ref (50)] n σ (fun v n2 σ2 => v = some (.int (lc_i ((lc_beg ((f, s, q, m, mo, ca, ct, po), P, H, k, tx, z, bs, bt, sn, sr)).2))) ∧ n = n2 ∧ lc_MI σ2 ((lc_beg ((f, s, q, m, mo, ca, ct, po), P, H, k, tx, z, bs, bt, sn, sr)).1) ∧ ∀ i : Nat, i < 50 → σ2 i = σ i) := by
  obtain ⟨⟨hf9, hs9, hq9, hm9, hct9, hpo9, hkey9⟩, hwP, hwH, hk4, hz, htx⟩ := hw
  have hf : ∀ j : Int, 0 ≤ j → j < 36 → 0 ≤ f j ∧ f j ≤ 2 := hf9
  have hs : 1 ≤ s ∧ s ≤ 2 := hs9
  have hq : 0 ≤ q ∧ q ≤ 60 := hq9
  have hm : 4 ≤ m ∧ m ≤ 60 := hm9
  have hct : 1 ≤ ct ∧ ct ≤ 60 := hct9
  have hpo : ∀ i : Int, 0 ≤ i → i < ct → 0 ≤ po i ∧ po i < 450283905890997363 := hpo9
  have hkey : po (ct - 1) = lc_key f s 36 := hkey9
  obtain ⟨N1, N2, N3, N4, N5, N6, N7, at9, js, jr, w1, w2, w3, bw, hc50, hc51, hc52, hc53, hc54, hc55, hc56, hc57, hR, hRP, hP, hT, hjs, hjr⟩ := hI
  have hR : lc_RM N1 (f, s, q, m, mo, ca, ct, po) := hR
  have hH60 : ∀ j : Nat, j < k → (H j).2.2.2.2.2.2.1 ≤ 60 := fun j hj => (hwH j hj).2.2.2.2.1.2
  obtain ⟨h0R, h1R, h2R, h3R, h4R, h5R, h6R, h7R⟩ := id hR
  have h0R : N1 0 = s := h0R
  have h1R : N1 1 = q := h1R
  have h2R : N1 2 = mo := h2R
  have h3R : N1 3 = ca := h3R
  have h4R : N1 4 = m := h4R
  have h5R : N1 5 = ct := h5R
  have h6R : ∀ p : Int, 0 ≤ p → p < 36 → N1 (6 + p) = f p := h6R
  have hz_50 : σ (50) = some (.inr (11, [.ref (51), .ref (52), .ref (53), .ref (54), .ref (55), .int (lc_i ((k : Int))), .ref (56), .int (lc_i (if bs = true then 1 else 0)), .ref (57), .int (lc_i (z)), .int (lc_i (at9)), .int (lc_i (js)), .int (lc_i (jr)), .int (lc_i (w1)), .int (lc_i (w2)), .int (lc_i (w3)), .int (lc_i (bw))]) : lc_Cel) := hc50
  have hz_51 : σ (51) = some (lc_aI 222 (N1)) := hc51
  have hz_52 : σ (52) = some (lc_aI 222 (N2)) := hc52
  have hz_53 : σ (53) = some (lc_aI 222 (N3)) := hc53
  have hz_54 : σ (54) = some (lc_aI 222 (N4)) := hc54
  have hz_55 : σ (55) = some (lc_aI 888 (N5)) := hc55
  have hz_56 : σ (56) = some (lc_aI 222 (N6)) := hc56
  have hz_57 : σ (57) = some (lc_aI 80 (N7)) := hc57
  refine lc_con RX11 false (by decide) rfl (fun h => absurd h (by decide)) (Nat.le_of_ble_eq_true rfl) ?_
  suffices H : ∀ Q : lc_QT, (∀ v n2 σ2, (fun v n2 σ2 => v = some (.int (lc_i ((lc_beg ((f, s, q, m, mo, ca, ct, po), P, H, k, tx, z, bs, bt, sn, sr)).2))) ∧ n = n2 ∧ lc_MI σ2 ((lc_beg ((f, s, q, m, mo, ca, ct, po), P, H, k, tx, z, bs, bt, sn, sr)).1) ∧ ∀ i : Nat, i < 50 → σ2 i = σ i : lc_QT) v n2 σ2 → Q v n2 σ2) → lc_V l RX11 cX11_begin 2 (some .int) false (lc_Rd 4) (lc_G Q 0 0) lc_E0 0 0 n 0 [(0, .ref (50))] [] σ from H _ (fun _ _ _ h => h)
  intro Q hQ
  refine lc_aload_n dX11_begin_0 rfl 0 rfl ?_
  refine lc_callV (As := []) (stk := []) (b := 50) dX11_begin_1 lc_mX11_64 lc_yX11_records hz_50 rfl (lc_cX11_records l n (N1) (f) (s) (q) (m) (mo) (ca) (ct) (po) (k) (bs) (z) (at9) (js) (jr) (w1) (w2) (w3) (bw) (N5) (H) σ hz_50 hz_51 hz_55 (by omega) (by omega) (hR) (hP) (hH60)) rfl ⟨Nat.le_of_ble_eq_true rfl, Nat.le_of_ble_eq_true rfl⟩ ⟨Nat.le_of_ble_eq_true rfl, Nat.le_of_ble_eq_true rfl⟩ rfl (Nat.le_of_ble_eq_true rfl) (fun v6 n7 σ8 q9 => ?_)
  obtain ⟨g1, rfl, rfl, h4, h5, hP2, fr3⟩ := q9
  have h10 : σ8 (51) = some (lc_aI 222 (N1)) := (fr3 _ (by omega) (by omega)).trans hz_51
  have h11 : σ8 (52) = some (lc_aI 222 (N2)) := (fr3 _ (by omega) (by omega)).trans hz_52
  have h12 : σ8 (53) = some (lc_aI 222 (N3)) := (fr3 _ (by omega) (by omega)).trans hz_53
  have h13 : σ8 (54) = some (lc_aI 222 (N4)) := (fr3 _ (by omega) (by omega)).trans hz_54
  have h14 : σ8 (56) = some (lc_aI 222 (N6)) := (fr3 _ (by omega) (by omega)).trans hz_56
  have h15 : σ8 (57) = some (lc_aI 80 (N7)) := (fr3 _ (by omega) (by omega)).trans hz_57
  refine lc_aload_n dX11_begin_4 rfl 0 rfl ?_
  refine lc_callV (As := []) (stk := []) (b := 50) dX11_begin_5 lc_mX11_60 lc_yX11_allPieces h4 rfl (lc_cX11_allPieces l n (N1) (f) (s) (q) (m) (mo) (ca) (ct) (po) (((lc_hk k : Nat) : Int)) (bs) (z) (at9) (js) (jr) (w1) (w2) (w3) (bw) σ8 h4 h10 (hf) (hR)) rfl ⟨Nat.le_of_ble_eq_true rfl, Nat.le_of_ble_eq_true rfl⟩ ⟨Nat.le_of_ble_eq_true rfl, Nat.le_of_ble_eq_true rfl⟩ rfl (Nat.le_of_ble_eq_true rfl) (fun v16 n17 σ18 q19 => ?_)
  obtain ⟨rfl, rfl, rfl⟩ := q19
  refine lc_istore_n (lv' := [(0, .ref (50)), (1, .int (lc_i (lc_cnt (f) 1 36 + lc_cnt (f) 2 36)))]) dX11_begin_8 rfl (by decide) rfl ?_
  refine lc_aload_n dX11_begin_9 rfl 0 rfl ?_
  refine lc_callV (As := []) (stk := []) (b := 50) dX11_begin_10 lc_mX11_38 lc_yX11_begins h4 rfl (lc_cX11_begins l n (N1) (f) (s) (q) (m) (mo) (ca) (ct) (po) (((lc_hk k : Nat) : Int)) (bs) (z) (at9) (js) (jr) (w1) (w2) (w3) (bw) σ8 h4 h10 (hR)) rfl ⟨Nat.le_of_ble_eq_true rfl, Nat.le_of_ble_eq_true rfl⟩ ⟨Nat.le_of_ble_eq_true rfl, Nat.le_of_ble_eq_true rfl⟩ rfl (Nat.le_of_ble_eq_true rfl) (fun v24 n25 σ26 q27 => ?_)
  obtain ⟨g20, rfl, rfl, h23, hR21, fr22⟩ := q27
  have h28 : σ26 (52) = some (lc_aI 222 (N2)) := (fr22 _ (by omega)).trans h11
  have h29 : σ26 (53) = some (lc_aI 222 (N3)) := (fr22 _ (by omega)).trans h12
  have h30 : σ26 (54) = some (lc_aI 222 (N4)) := (fr22 _ (by omega)).trans h13
  have h31 : σ26 (56) = some (lc_aI 222 (N6)) := (fr22 _ (by omega)).trans h14
  have h32 : σ26 (57) = some (lc_aI 80 (N7)) := (fr22 _ (by omega)).trans h15
  have h33 : σ26 (50) = some (.inr (11, [.ref (51), .ref (52), .ref (53), .ref (54), .ref (55), .int (lc_i (((lc_hk k : Nat) : Int))), .ref (56), .int (lc_i (if bs = true then 1 else 0)), .ref (57), .int (lc_i (z)), .int (lc_i (at9)), .int (lc_i (js)), .int (lc_i (jr)), .int (lc_i (w1)), .int (lc_i (w2)), .int (lc_i (w3)), .int (lc_i (bw))]) : lc_Cel) := (fr22 _ (by omega)).trans h4
  have h34 : σ26 (55) = some (lc_aI 888 (g1)) := (fr22 _ (by omega)).trans h5
  refine lc_iload_n dX11_begin_13 rfl 1 rfl ?_
  exact lc_iret dX11_begin_14 rfl (Nat.le_of_ble_eq_true rfl) (Nat.le_of_ble_eq_true rfl) (hQ _ _ _ (by rw [lc_beg]; exact ⟨rfl, rfl, lc_MI_mk h33 h23 h28 h29 h30 h34 h31 h32 (hR21) (hRP) (hP2) (hT) (hjs) (hjr), (fun i _ => ((fr22 i (by omega)).trans (fr3 i (by omega) (by omega))))⟩))

set_option maxRecDepth 100000 in
set_option maxHeartbeats 600000 in
theorem lc_cX11_setLimit (l : Launch) (n : Nat) (f : Int → Int) (s q m mo ca ct : Int) (po : Int → Int) (P : lc_St) (H : Nat → lc_St) (k : Nat) (tx : Int → Int) (z : Int) (bs bt : Bool) (sn sr : Int) (x : Int) (σ : lc_S)  (hI : lc_MI σ ((f, s, q, m, mo, ca, ct, po), P, H, k, tx, z, bs, bt, sn, sr)) (hw : lc_wf ((f, s, q, m, mo, ca, ct, po), P, H, k, tx, z, bs, bt, sn, sr)) (hR_x : -2147483648 ≤ x ∧ x < 2147483648) : lc_Con l yX11_setLimit cX11_setLimit 3 (some .int) (lc_Rd 2) [.ref (50), .int (lc_i (x))] n σ (fun v n2 σ2 => v = some (.int (lc_i ((lc_zLim ((f, s, q, m, mo, ca, ct, po), P, H, k, tx, z, bs, bt, sn, sr) x).2))) ∧ n = n2 ∧ lc_MI σ2 ((lc_zLim ((f, s, q, m, mo, ca, ct, po), P, H, k, tx, z, bs, bt, sn, sr) x).1) ∧ ∀ i : Nat, i < 50 → σ2 i = σ i) := by
  obtain ⟨⟨hf9, hs9, hq9, hm9, hct9, hpo9, hkey9⟩, hwP, hwH, hk4, hz, htx⟩ := hw
  have hf : ∀ j : Int, 0 ≤ j → j < 36 → 0 ≤ f j ∧ f j ≤ 2 := hf9
  have hs : 1 ≤ s ∧ s ≤ 2 := hs9
  have hq : 0 ≤ q ∧ q ≤ 60 := hq9
  have hm : 4 ≤ m ∧ m ≤ 60 := hm9
  have hct : 1 ≤ ct ∧ ct ≤ 60 := hct9
  have hpo : ∀ i : Int, 0 ≤ i → i < ct → 0 ≤ po i ∧ po i < 450283905890997363 := hpo9
  have hkey : po (ct - 1) = lc_key f s 36 := hkey9
  obtain ⟨N1, N2, N3, N4, N5, N6, N7, at9, js, jr, w1, w2, w3, bw, hc50, hc51, hc52, hc53, hc54, hc55, hc56, hc57, hR, hRP, hP, hT, hjs, hjr⟩ := hI
  have hR : lc_RM N1 (f, s, q, m, mo, ca, ct, po) := hR
  have hH60 : ∀ j : Nat, j < k → (H j).2.2.2.2.2.2.1 ≤ 60 := fun j hj => (hwH j hj).2.2.2.2.1.2
  obtain ⟨h0R, h1R, h2R, h3R, h4R, h5R, h6R, h7R⟩ := id hR
  have h0R : N1 0 = s := h0R
  have h1R : N1 1 = q := h1R
  have h2R : N1 2 = mo := h2R
  have h3R : N1 3 = ca := h3R
  have h4R : N1 4 = m := h4R
  have h5R : N1 5 = ct := h5R
  have h6R : ∀ p : Int, 0 ≤ p → p < 36 → N1 (6 + p) = f p := h6R
  have hz_50 : σ (50) = some (.inr (11, [.ref (51), .ref (52), .ref (53), .ref (54), .ref (55), .int (lc_i ((k : Int))), .ref (56), .int (lc_i (if bs = true then 1 else 0)), .ref (57), .int (lc_i (z)), .int (lc_i (at9)), .int (lc_i (js)), .int (lc_i (jr)), .int (lc_i (w1)), .int (lc_i (w2)), .int (lc_i (w3)), .int (lc_i (bw))]) : lc_Cel) := hc50
  have hz_51 : σ (51) = some (lc_aI 222 (N1)) := hc51
  have hz_52 : σ (52) = some (lc_aI 222 (N2)) := hc52
  have hz_53 : σ (53) = some (lc_aI 222 (N3)) := hc53
  have hz_54 : σ (54) = some (lc_aI 222 (N4)) := hc54
  have hz_55 : σ (55) = some (lc_aI 888 (N5)) := hc55
  have hz_56 : σ (56) = some (lc_aI 222 (N6)) := hc56
  have hz_57 : σ (57) = some (lc_aI 80 (N7)) := hc57
  refine lc_con RX11 false (by decide) rfl (fun h => absurd h (by decide)) (Nat.le_of_ble_eq_true rfl) ?_
  suffices H : ∀ Q : lc_QT, (∀ v n2 σ2, (fun v n2 σ2 => v = some (.int (lc_i ((lc_zLim ((f, s, q, m, mo, ca, ct, po), P, H, k, tx, z, bs, bt, sn, sr) x).2))) ∧ n = n2 ∧ lc_MI σ2 ((lc_zLim ((f, s, q, m, mo, ca, ct, po), P, H, k, tx, z, bs, bt, sn, sr) x).1) ∧ ∀ i : Nat, i < 50 → σ2 i = σ i : lc_QT) v n2 σ2 → Q v n2 σ2) → lc_V l RX11 cX11_setLimit 3 (some .int) false (lc_Rd 2) (lc_G Q 0 0) lc_E0 0 0 n 0 [(0, .ref (50)), (1, .int (lc_i (x)))] [] σ from H _ (fun _ _ _ h => h)
  intro Q hQ
  refine lc_iload_n dX11_setLimit_0 rfl 1 rfl ?_
  refine lc_iconst dX11_setLimit_1 ?_
  refine lc_bipush dX11_setLimit_2 (by decide) ?_
  refine lc_callS (As := [.int (lc_i (x)), .int (lc_i (4)), .int (lc_i (60))]) (stk := []) dX11_setLimit_4 lc_mX11_41 lc_yX11_in (lc_cX11_in l n (x) (4) (60) σ (by omega) (by omega) (by omega)) rfl ⟨Nat.le_of_ble_eq_true rfl, Nat.le_of_ble_eq_true rfl⟩ ⟨Nat.le_of_ble_eq_true rfl, Nat.le_of_ble_eq_true rfl⟩ rfl (Nat.le_of_ble_eq_true rfl) (fun v1 n2 σ3 q4 => ?_)
  obtain ⟨rfl, rfl, rfl⟩ := q4
  refine lc_if_neB (tgt := 13) dX11_setLimit_7 (by decide) (fun h_7_4 => ?_) (fun h_7_4 => ?_)
  · skip
    refine lc_aload_n dX11_setLimit_13 rfl 0 rfl ?_
    refine lc_get dX11_setLimit_14 lc_fX11_7 hz_50 rfl ?_
    refine lc_iconst dX11_setLimit_17 ?_
    refine lc_iald dX11_setLimit_18 hz_51 (by omega) (by decide) ?_
    refine lc_top (congrArg (fun z => Value.int (lc_i z)) (show ((N1) (4) : Int) = m from h4R)) ?_
    refine lc_istore_n (lv' := [(0, .ref (50)), (1, .int (lc_i (x))), (2, .int (lc_i (m)))]) dX11_setLimit_19 rfl (by decide) rfl ?_
    refine lc_iload_n dX11_setLimit_20 rfl 2 rfl ?_
    refine lc_iload_n dX11_setLimit_21 rfl 1 rfl ?_
    refine lc_icmp_ne (tgt := 28) dX11_setLimit_22 (by decide) (by omega) (fun h_22_5 => ?_) (fun h_22_5 => ?_)
    · skip
      refine lc_aload_n dX11_setLimit_28 rfl 0 rfl ?_
      refine lc_callV (As := []) (stk := []) (b := 50) dX11_setLimit_29 lc_mX11_64 lc_yX11_records hz_50 rfl (lc_cX11_records l n (N1) (f) (s) (q) (m) (mo) (ca) (ct) (po) (k) (bs) (z) (at9) (js) (jr) (w1) (w2) (w3) (bw) (N5) (H) σ hz_50 hz_51 hz_55 (by omega) (by omega) (hR) (hP) (hH60)) rfl ⟨Nat.le_of_ble_eq_true rfl, Nat.le_of_ble_eq_true rfl⟩ ⟨Nat.le_of_ble_eq_true rfl, Nat.le_of_ble_eq_true rfl⟩ rfl (Nat.le_of_ble_eq_true rfl) (fun v12 n13 σ14 q15 => ?_)
      obtain ⟨g7, rfl, rfl, h10, h11, hP8, fr9⟩ := q15
      have h16 : σ14 (51) = some (lc_aI 222 (N1)) := (fr9 _ (by omega) (by omega)).trans hz_51
      have h17 : σ14 (52) = some (lc_aI 222 (N2)) := (fr9 _ (by omega) (by omega)).trans hz_52
      have h18 : σ14 (53) = some (lc_aI 222 (N3)) := (fr9 _ (by omega) (by omega)).trans hz_53
      have h19 : σ14 (54) = some (lc_aI 222 (N4)) := (fr9 _ (by omega) (by omega)).trans hz_54
      have h20 : σ14 (56) = some (lc_aI 222 (N6)) := (fr9 _ (by omega) (by omega)).trans hz_56
      have h21 : σ14 (57) = some (lc_aI 80 (N7)) := (fr9 _ (by omega) (by omega)).trans hz_57
      refine lc_aload_n dX11_setLimit_32 rfl 0 rfl ?_
      refine lc_get dX11_setLimit_33 lc_fX11_7 h10 rfl ?_
      refine lc_iconst dX11_setLimit_36 ?_
      refine lc_iload_n dX11_setLimit_37 rfl 1 rfl ?_
      refine lc_sI dX11_setLimit_38 h16 (by omega) (by decide) (fun σ22 h23 fr24 => ?_)
      have h25 : σ22 (52) = some (lc_aI 222 (N2)) := (fr24 _ (by omega)).trans h17
      have h26 : σ22 (53) = some (lc_aI 222 (N3)) := (fr24 _ (by omega)).trans h18
      have h27 : σ22 (54) = some (lc_aI 222 (N4)) := (fr24 _ (by omega)).trans h19
      have h28 : σ22 (56) = some (lc_aI 222 (N6)) := (fr24 _ (by omega)).trans h20
      have h29 : σ22 (57) = some (lc_aI 80 (N7)) := (fr24 _ (by omega)).trans h21
      have h30 : σ22 (50) = some (.inr (11, [.ref (51), .ref (52), .ref (53), .ref (54), .ref (55), .int (lc_i (((lc_hk k : Nat) : Int))), .ref (56), .int (lc_i (if bs = true then 1 else 0)), .ref (57), .int (lc_i (z)), .int (lc_i (at9)), .int (lc_i (js)), .int (lc_i (jr)), .int (lc_i (w1)), .int (lc_i (w2)), .int (lc_i (w3)), .int (lc_i (bw))]) : lc_Cel) := (fr24 _ (by omega)).trans h10
      have h31 : σ22 (55) = some (lc_aI 888 (g7)) := (fr24 _ (by omega)).trans h11
      have hR32 := lc_RM_4 (v := x) hR
      refine lc_iload_n dX11_setLimit_39 rfl 2 rfl ?_
      exact lc_iret dX11_setLimit_40 rfl (Nat.le_of_ble_eq_true rfl) (Nat.le_of_ble_eq_true rfl) (hQ _ _ _ (by rw [lc_zLim, if_neg (show ¬ (x < 4 ∨ 60 < x) from by omega), if_neg (show ¬ (m = x) from by omega)]; exact ⟨rfl, rfl, lc_MI_mk h30 h23 h25 h26 h27 h31 h28 h29 (hR32) (hRP) (hP8) (hT) (hjs) (hjr), (fun i _ => ((fr24 i (by omega)).trans (fr9 i (by omega) (by omega))))⟩))
    · skip
      refine lc_bipush dX11_setLimit_25 (by decide) ?_
      exact lc_iret dX11_setLimit_27 rfl (Nat.le_of_ble_eq_true rfl) (Nat.le_of_ble_eq_true rfl) (hQ _ _ _ (by rw [lc_zLim, if_neg (show ¬ (x < 4 ∨ 60 < x) from by omega), if_pos (show m = x from by omega)]; exact ⟨rfl, rfl, lc_MI_mk hz_50 hz_51 hz_52 hz_53 hz_54 hz_55 hz_56 hz_57 (hR) (hRP) (hP) (hT) (hjs) (hjr), (fun i _ => rfl)⟩))
  · skip
    refine lc_bipush dX11_setLimit_10 (by decide) ?_
    exact lc_iret dX11_setLimit_12 rfl (Nat.le_of_ble_eq_true rfl) (Nat.le_of_ble_eq_true rfl) (hQ _ _ _ (by rw [lc_zLim, if_pos (show x < 4 ∨ 60 < x from by omega)]; exact ⟨rfl, rfl, lc_MI_mk hz_50 hz_51 hz_52 hz_53 hz_54 hz_55 hz_56 hz_57 (hR) (hRP) (hP) (hT) (hjs) (hjr), (fun i _ => rfl)⟩))

set_option maxRecDepth 100000 in
set_option maxHeartbeats 600000 in
theorem lc_cX11_type (l : Launch) (n : Nat) (f : Int → Int) (s q m mo ca ct : Int) (po : Int → Int) (P : lc_St) (H : Nat → lc_St) (k : Nat) (tx : Int → Int) (z : Int) (bs bt : Bool) (sn sr : Int) (c : Int) (σ : lc_S)  (hI : lc_MI σ ((f, s, q, m, mo, ca, ct, po), P, H, k, tx, z, bs, bt, sn, sr)) (hw : lc_wf ((f, s, q, m, mo, ca, ct, po), P, H, k, tx, z, bs, bt, sn, sr)) (hch9 : 0 ≤ c ∧ c < 65536) : lc_Con l yX11_type cX11_type 2 (some .int) (lc_Rd 0) [.ref (50), .int (lc_i (c))] n σ (fun v n2 σ2 => v = some (.int (lc_i ((lc_type ((f, s, q, m, mo, ca, ct, po), P, H, k, tx, z, bs, bt, sn, sr) c).2))) ∧ n = n2 ∧ lc_MI σ2 ((lc_type ((f, s, q, m, mo, ca, ct, po), P, H, k, tx, z, bs, bt, sn, sr) c).1) ∧ ∀ i : Nat, i < 50 → σ2 i = σ i) := by
  obtain ⟨⟨hf9, hs9, hq9, hm9, hct9, hpo9, hkey9⟩, hwP, hwH, hk4, hz, htx⟩ := hw
  have hf : ∀ j : Int, 0 ≤ j → j < 36 → 0 ≤ f j ∧ f j ≤ 2 := hf9
  have hs : 1 ≤ s ∧ s ≤ 2 := hs9
  have hq : 0 ≤ q ∧ q ≤ 60 := hq9
  have hm : 4 ≤ m ∧ m ≤ 60 := hm9
  have hct : 1 ≤ ct ∧ ct ≤ 60 := hct9
  have hpo : ∀ i : Int, 0 ≤ i → i < ct → 0 ≤ po i ∧ po i < 450283905890997363 := hpo9
  have hkey : po (ct - 1) = lc_key f s 36 := hkey9
  obtain ⟨N1, N2, N3, N4, N5, N6, N7, at9, js, jr, w1, w2, w3, bw, hc50, hc51, hc52, hc53, hc54, hc55, hc56, hc57, hR, hRP, hP, hT, hjs, hjr⟩ := hI
  have hR : lc_RM N1 (f, s, q, m, mo, ca, ct, po) := hR
  have hH60 : ∀ j : Nat, j < k → (H j).2.2.2.2.2.2.1 ≤ 60 := fun j hj => (hwH j hj).2.2.2.2.1.2
  obtain ⟨h0R, h1R, h2R, h3R, h4R, h5R, h6R, h7R⟩ := id hR
  have h0R : N1 0 = s := h0R
  have h1R : N1 1 = q := h1R
  have h2R : N1 2 = mo := h2R
  have h3R : N1 3 = ca := h3R
  have h4R : N1 4 = m := h4R
  have h5R : N1 5 = ct := h5R
  have h6R : ∀ p : Int, 0 ≤ p → p < 36 → N1 (6 + p) = f p := h6R
  have hz_50 : σ (50) = some (.inr (11, [.ref (51), .ref (52), .ref (53), .ref (54), .ref (55), .int (lc_i ((k : Int))), .ref (56), .int (lc_i (if bs = true then 1 else 0)), .ref (57), .int (lc_i (z)), .int (lc_i (at9)), .int (lc_i (js)), .int (lc_i (jr)), .int (lc_i (w1)), .int (lc_i (w2)), .int (lc_i (w3)), .int (lc_i (bw))]) : lc_Cel) := hc50
  have hz_51 : σ (51) = some (lc_aI 222 (N1)) := hc51
  have hz_52 : σ (52) = some (lc_aI 222 (N2)) := hc52
  have hz_53 : σ (53) = some (lc_aI 222 (N3)) := hc53
  have hz_54 : σ (54) = some (lc_aI 222 (N4)) := hc54
  have hz_55 : σ (55) = some (lc_aI 888 (N5)) := hc55
  have hz_56 : σ (56) = some (lc_aI 222 (N6)) := hc56
  have hz_57 : σ (57) = some (lc_aI 80 (N7)) := hc57
  refine lc_con RX11 false (by decide) rfl (fun h => absurd h (by decide)) (Nat.le_of_ble_eq_true rfl) ?_
  suffices H : ∀ Q : lc_QT, (∀ v n2 σ2, (fun v n2 σ2 => v = some (.int (lc_i ((lc_type ((f, s, q, m, mo, ca, ct, po), P, H, k, tx, z, bs, bt, sn, sr) c).2))) ∧ n = n2 ∧ lc_MI σ2 ((lc_type ((f, s, q, m, mo, ca, ct, po), P, H, k, tx, z, bs, bt, sn, sr) c).1) ∧ ∀ i : Nat, i < 50 → σ2 i = σ i : lc_QT) v n2 σ2 → Q v n2 σ2) → lc_V l RX11 cX11_type 2 (some .int) false (lc_Rd 0) (lc_G Q 0 0) lc_E0 0 0 n 0 [(0, .ref (50)), (1, .int (lc_i (c)))] [] σ from H _ (fun _ _ _ h => h)
  intro Q hQ
  refine lc_aload_n dX11_type_0 rfl 0 rfl ?_
  refine lc_get dX11_type_1 lc_fX11_138 hz_50 rfl ?_
  refine lc_bipush dX11_type_4 (by decide) ?_
  refine lc_icmp_ne (tgt := 12) dX11_type_6 (by decide) (by omega) (fun h_6_0 => ?_) (fun h_6_0 => ?_)
  · skip
    refine lc_aload_n dX11_type_12 rfl 0 rfl ?_
    refine lc_get dX11_type_13 lc_fX11_28 hz_50 rfl ?_
    refine lc_aload_n dX11_type_16 rfl 0 rfl ?_
    refine lc_get dX11_type_17 lc_fX11_138 hz_50 rfl ?_
    refine lc_iload_n dX11_type_20 rfl 1 rfl ?_
    refine lc_sI dX11_type_21 hz_57 (by omega) (by decide) (fun σ2 h3 fr4 => ?_)
    have h5 : σ2 (50) = some (.inr (11, [.ref (51), .ref (52), .ref (53), .ref (54), .ref (55), .int (lc_i ((k : Int))), .ref (56), .int (lc_i (if bs = true then 1 else 0)), .ref (57), .int (lc_i (z)), .int (lc_i (at9)), .int (lc_i (js)), .int (lc_i (jr)), .int (lc_i (w1)), .int (lc_i (w2)), .int (lc_i (w3)), .int (lc_i (bw))]) : lc_Cel) := (fr4 _ (by omega)).trans hz_50
    have h6 : σ2 (51) = some (lc_aI 222 (N1)) := (fr4 _ (by omega)).trans hz_51
    have h7 : σ2 (52) = some (lc_aI 222 (N2)) := (fr4 _ (by omega)).trans hz_52
    have h8 : σ2 (53) = some (lc_aI 222 (N3)) := (fr4 _ (by omega)).trans hz_53
    have h9 : σ2 (54) = some (lc_aI 222 (N4)) := (fr4 _ (by omega)).trans hz_54
    have h10 : σ2 (55) = some (lc_aI 888 (N5)) := (fr4 _ (by omega)).trans hz_55
    have h11 : σ2 (56) = some (lc_aI 222 (N6)) := (fr4 _ (by omega)).trans hz_56
    refine lc_aload_n dX11_type_22 rfl 0 rfl ?_
    refine lc_dup dX11_type_23 rfl ?_
    refine lc_get dX11_type_24 lc_fX11_138 h5 rfl ?_
    refine lc_iconst dX11_type_27 ?_
    refine lc_iadd dX11_type_28 ?_
    refine lc_wI (vs' := [.ref (51), .ref (52), .ref (53), .ref (54), .ref (55), .int (lc_i ((k : Int))), .ref (56), .int (lc_i (if bs = true then 1 else 0)), .ref (57), .int (lc_i ((z) + (1))), .int (lc_i (at9)), .int (lc_i (js)), .int (lc_i (jr)), .int (lc_i (w1)), .int (lc_i (w2)), .int (lc_i (w3)), .int (lc_i (bw))]) dX11_type_29 lc_fX11_138 h5 (Nat.le_of_ble_eq_true rfl) rfl rfl rfl (fun σ12 h13 fr14 => ?_)
    have h15 : σ12 (51) = some (lc_aI 222 (N1)) := (fr14 _ (by omega)).trans h6
    have h16 : σ12 (52) = some (lc_aI 222 (N2)) := (fr14 _ (by omega)).trans h7
    have h17 : σ12 (53) = some (lc_aI 222 (N3)) := (fr14 _ (by omega)).trans h8
    have h18 : σ12 (54) = some (lc_aI 222 (N4)) := (fr14 _ (by omega)).trans h9
    have h19 : σ12 (55) = some (lc_aI 888 (N5)) := (fr14 _ (by omega)).trans h10
    have h20 : σ12 (56) = some (lc_aI 222 (N6)) := (fr14 _ (by omega)).trans h11
    have h21 : σ12 (57) = some (lc_aI 80 (lc_u (N7) (z) (c))) := (fr14 _ (by omega)).trans h3
    refine lc_aload_n dX11_type_32 rfl 0 rfl ?_
    refine lc_get dX11_type_33 lc_fX11_138 h13 rfl ?_
    exact lc_iret dX11_type_36 rfl (Nat.le_of_ble_eq_true rfl) (Nat.le_of_ble_eq_true rfl) (hQ _ _ _ (by rw [lc_type, if_pos (show z < 80 from by omega), show lc_ta tx z c = lc_u tx z c from if_pos (by omega), show lc_tz z = z + 1 from if_pos (by omega)]; exact ⟨rfl, rfl, lc_MI_mk h13 h15 h16 h17 h18 h19 h20 h21 (hR) (hRP) (hP) (fun i h1 h2 => by by_cases e9 : i = z; (rw [e9, lc_u_s, lc_u_s]); (rw [lc_u_n _ _ e9, lc_u_n _ _ e9]; exact hT i h1 (by omega))) (hjs) (hjr), (fun i _ => ((fr14 i (by omega)).trans (fr4 i (by omega))))⟩))
  · skip
    refine lc_bipush dX11_type_9 (by decide) ?_
    exact lc_iret dX11_type_11 rfl (Nat.le_of_ble_eq_true rfl) (Nat.le_of_ble_eq_true rfl) (hQ _ _ _ (by rw [lc_type, if_neg (show ¬ (z < 80) from by omega), show lc_ta tx z c = tx from if_neg (by omega), show lc_tz z = z from if_neg (by omega)]; exact ⟨rfl, rfl, lc_MI_mk hz_50 hz_51 hz_52 hz_53 hz_54 hz_55 hz_56 hz_57 (hR) (hRP) (hP) (hT) (hjs) (hjr), (fun i _ => rfl)⟩))

set_option maxRecDepth 100000 in
set_option maxHeartbeats 600000 in
theorem lc_cX11_clearText (l : Launch) (n : Nat) (f : Int → Int) (s q m mo ca ct : Int) (po : Int → Int) (P : lc_St) (H : Nat → lc_St) (k : Nat) (tx : Int → Int) (z : Int) (bs bt : Bool) (sn sr : Int) (σ : lc_S)  (hI : lc_MI σ ((f, s, q, m, mo, ca, ct, po), P, H, k, tx, z, bs, bt, sn, sr)) (hw : lc_wf ((f, s, q, m, mo, ca, ct, po), P, H, k, tx, z, bs, bt, sn, sr)) : lc_Con l yX11_clearText cX11_clearText 2 (some .int) (lc_Rd 0) [.ref (50)] n σ (fun v n2 σ2 => v = some (.int (lc_i ((lc_clr ((f, s, q, m, mo, ca, ct, po), P, H, k, tx, z, bs, bt, sn, sr)).2))) ∧ n = n2 ∧ lc_MI σ2 ((lc_clr ((f, s, q, m, mo, ca, ct, po), P, H, k, tx, z, bs, bt, sn, sr)).1) ∧ ∀ i : Nat, i < 50 → σ2 i = σ i) := by
  obtain ⟨⟨hf9, hs9, hq9, hm9, hct9, hpo9, hkey9⟩, hwP, hwH, hk4, hz, htx⟩ := hw
  have hf : ∀ j : Int, 0 ≤ j → j < 36 → 0 ≤ f j ∧ f j ≤ 2 := hf9
  have hs : 1 ≤ s ∧ s ≤ 2 := hs9
  have hq : 0 ≤ q ∧ q ≤ 60 := hq9
  have hm : 4 ≤ m ∧ m ≤ 60 := hm9
  have hct : 1 ≤ ct ∧ ct ≤ 60 := hct9
  have hpo : ∀ i : Int, 0 ≤ i → i < ct → 0 ≤ po i ∧ po i < 450283905890997363 := hpo9
  have hkey : po (ct - 1) = lc_key f s 36 := hkey9
  obtain ⟨N1, N2, N3, N4, N5, N6, N7, at9, js, jr, w1, w2, w3, bw, hc50, hc51, hc52, hc53, hc54, hc55, hc56, hc57, hR, hRP, hP, hT, hjs, hjr⟩ := hI
  have hR : lc_RM N1 (f, s, q, m, mo, ca, ct, po) := hR
  have hH60 : ∀ j : Nat, j < k → (H j).2.2.2.2.2.2.1 ≤ 60 := fun j hj => (hwH j hj).2.2.2.2.1.2
  obtain ⟨h0R, h1R, h2R, h3R, h4R, h5R, h6R, h7R⟩ := id hR
  have h0R : N1 0 = s := h0R
  have h1R : N1 1 = q := h1R
  have h2R : N1 2 = mo := h2R
  have h3R : N1 3 = ca := h3R
  have h4R : N1 4 = m := h4R
  have h5R : N1 5 = ct := h5R
  have h6R : ∀ p : Int, 0 ≤ p → p < 36 → N1 (6 + p) = f p := h6R
  have hz_50 : σ (50) = some (.inr (11, [.ref (51), .ref (52), .ref (53), .ref (54), .ref (55), .int (lc_i ((k : Int))), .ref (56), .int (lc_i (if bs = true then 1 else 0)), .ref (57), .int (lc_i (z)), .int (lc_i (at9)), .int (lc_i (js)), .int (lc_i (jr)), .int (lc_i (w1)), .int (lc_i (w2)), .int (lc_i (w3)), .int (lc_i (bw))]) : lc_Cel) := hc50
  have hz_51 : σ (51) = some (lc_aI 222 (N1)) := hc51
  have hz_52 : σ (52) = some (lc_aI 222 (N2)) := hc52
  have hz_53 : σ (53) = some (lc_aI 222 (N3)) := hc53
  have hz_54 : σ (54) = some (lc_aI 222 (N4)) := hc54
  have hz_55 : σ (55) = some (lc_aI 888 (N5)) := hc55
  have hz_56 : σ (56) = some (lc_aI 222 (N6)) := hc56
  have hz_57 : σ (57) = some (lc_aI 80 (N7)) := hc57
  refine lc_con RX11 false (by decide) rfl (fun h => absurd h (by decide)) (Nat.le_of_ble_eq_true rfl) ?_
  suffices H : ∀ Q : lc_QT, (∀ v n2 σ2, (fun v n2 σ2 => v = some (.int (lc_i ((lc_clr ((f, s, q, m, mo, ca, ct, po), P, H, k, tx, z, bs, bt, sn, sr)).2))) ∧ n = n2 ∧ lc_MI σ2 ((lc_clr ((f, s, q, m, mo, ca, ct, po), P, H, k, tx, z, bs, bt, sn, sr)).1) ∧ ∀ i : Nat, i < 50 → σ2 i = σ i : lc_QT) v n2 σ2 → Q v n2 σ2) → lc_V l RX11 cX11_clearText 2 (some .int) false (lc_Rd 0) (lc_G Q 0 0) lc_E0 0 0 n 0 [(0, .ref (50))] [] σ from H _ (fun _ _ _ h => h)
  intro Q hQ
  refine lc_aload_n dX11_clearText_0 rfl 0 rfl ?_
  refine lc_get dX11_clearText_1 lc_fX11_138 hz_50 rfl ?_
  refine lc_istore_n (lv' := [(0, .ref (50)), (1, .int (lc_i (z)))]) dX11_clearText_4 rfl (by decide) rfl ?_
  refine lc_aload_n dX11_clearText_5 rfl 0 rfl ?_
  refine lc_iconst dX11_clearText_6 ?_
  refine lc_wI (vs' := [.ref (51), .ref (52), .ref (53), .ref (54), .ref (55), .int (lc_i ((k : Int))), .ref (56), .int (lc_i (if bs = true then 1 else 0)), .ref (57), .int (lc_i (0)), .int (lc_i (at9)), .int (lc_i (js)), .int (lc_i (jr)), .int (lc_i (w1)), .int (lc_i (w2)), .int (lc_i (w3)), .int (lc_i (bw))]) dX11_clearText_7 lc_fX11_138 hz_50 (Nat.le_of_ble_eq_true rfl) rfl rfl rfl (fun σ1 h2 fr3 => ?_)
  have h4 : σ1 (51) = some (lc_aI 222 (N1)) := (fr3 _ (by omega)).trans hz_51
  have h5 : σ1 (52) = some (lc_aI 222 (N2)) := (fr3 _ (by omega)).trans hz_52
  have h6 : σ1 (53) = some (lc_aI 222 (N3)) := (fr3 _ (by omega)).trans hz_53
  have h7 : σ1 (54) = some (lc_aI 222 (N4)) := (fr3 _ (by omega)).trans hz_54
  have h8 : σ1 (55) = some (lc_aI 888 (N5)) := (fr3 _ (by omega)).trans hz_55
  have h9 : σ1 (56) = some (lc_aI 222 (N6)) := (fr3 _ (by omega)).trans hz_56
  have h10 : σ1 (57) = some (lc_aI 80 (N7)) := (fr3 _ (by omega)).trans hz_57
  refine lc_iload_n dX11_clearText_10 rfl 1 rfl ?_
  exact lc_iret dX11_clearText_11 rfl (Nat.le_of_ble_eq_true rfl) (Nat.le_of_ble_eq_true rfl) (hQ _ _ _ (by rw [lc_clr]; exact ⟨rfl, rfl, lc_MI_mk h2 h4 h5 h6 h7 h8 h9 h10 (hR) (hRP) (hP) (fun i h1 h2 => absurd h2 (by omega)) (hjs) (hjr), (fun i _ => (fr3 i (by omega)))⟩))

set_option maxRecDepth 100000 in
set_option maxHeartbeats 600000 in
theorem lc_cX11_stopped (l : Launch) (n : Nat) (f : Int → Int) (s q m mo ca ct : Int) (po : Int → Int) (P : lc_St) (H : Nat → lc_St) (k : Nat) (tx : Int → Int) (z : Int) (bs bt : Bool) (sn sr : Int) (x : Int) (σ : lc_S)  (hI : lc_MI σ ((f, s, q, m, mo, ca, ct, po), P, H, k, tx, z, bs, bt, sn, sr)) (hw : lc_wf ((f, s, q, m, mo, ca, ct, po), P, H, k, tx, z, bs, bt, sn, sr)) (hR_x : -2147483648 ≤ x ∧ x < 2147483648) : lc_Con l yX11_stopped cX11_stopped 2 (some .int) (lc_Rd 0) [.ref (50), .int (lc_i (x))] n σ (fun v n2 σ2 => v = some (.int (lc_i ((lc_stop ((f, s, q, m, mo, ca, ct, po), P, H, k, tx, z, bs, bt, sn, sr) x).2))) ∧ n = n2 ∧ lc_MI σ2 ((lc_stop ((f, s, q, m, mo, ca, ct, po), P, H, k, tx, z, bs, bt, sn, sr) x).1) ∧ ∀ i : Nat, i < 50 → σ2 i = σ i) := by
  obtain ⟨⟨hf9, hs9, hq9, hm9, hct9, hpo9, hkey9⟩, hwP, hwH, hk4, hz, htx⟩ := hw
  have hf : ∀ j : Int, 0 ≤ j → j < 36 → 0 ≤ f j ∧ f j ≤ 2 := hf9
  have hs : 1 ≤ s ∧ s ≤ 2 := hs9
  have hq : 0 ≤ q ∧ q ≤ 60 := hq9
  have hm : 4 ≤ m ∧ m ≤ 60 := hm9
  have hct : 1 ≤ ct ∧ ct ≤ 60 := hct9
  have hpo : ∀ i : Int, 0 ≤ i → i < ct → 0 ≤ po i ∧ po i < 450283905890997363 := hpo9
  have hkey : po (ct - 1) = lc_key f s 36 := hkey9
  obtain ⟨N1, N2, N3, N4, N5, N6, N7, at9, js, jr, w1, w2, w3, bw, hc50, hc51, hc52, hc53, hc54, hc55, hc56, hc57, hR, hRP, hP, hT, hjs, hjr⟩ := hI
  have hR : lc_RM N1 (f, s, q, m, mo, ca, ct, po) := hR
  have hH60 : ∀ j : Nat, j < k → (H j).2.2.2.2.2.2.1 ≤ 60 := fun j hj => (hwH j hj).2.2.2.2.1.2
  obtain ⟨h0R, h1R, h2R, h3R, h4R, h5R, h6R, h7R⟩ := id hR
  have h0R : N1 0 = s := h0R
  have h1R : N1 1 = q := h1R
  have h2R : N1 2 = mo := h2R
  have h3R : N1 3 = ca := h3R
  have h4R : N1 4 = m := h4R
  have h5R : N1 5 = ct := h5R
  have h6R : ∀ p : Int, 0 ≤ p → p < 36 → N1 (6 + p) = f p := h6R
  have hz_50 : σ (50) = some (.inr (11, [.ref (51), .ref (52), .ref (53), .ref (54), .ref (55), .int (lc_i ((k : Int))), .ref (56), .int (lc_i (if bs = true then 1 else 0)), .ref (57), .int (lc_i (z)), .int (lc_i (at9)), .int (lc_i (js)), .int (lc_i (jr)), .int (lc_i (w1)), .int (lc_i (w2)), .int (lc_i (w3)), .int (lc_i (bw))]) : lc_Cel) := hc50
  have hz_51 : σ (51) = some (lc_aI 222 (N1)) := hc51
  have hz_52 : σ (52) = some (lc_aI 222 (N2)) := hc52
  have hz_53 : σ (53) = some (lc_aI 222 (N3)) := hc53
  have hz_54 : σ (54) = some (lc_aI 222 (N4)) := hc54
  have hz_55 : σ (55) = some (lc_aI 888 (N5)) := hc55
  have hz_56 : σ (56) = some (lc_aI 222 (N6)) := hc56
  have hz_57 : σ (57) = some (lc_aI 80 (N7)) := hc57
  refine lc_con RX11 false (by decide) rfl (fun h => absurd h (by decide)) (Nat.le_of_ble_eq_true rfl) ?_
  suffices H : ∀ Q : lc_QT, (∀ v n2 σ2, (fun v n2 σ2 => v = some (.int (lc_i ((lc_stop ((f, s, q, m, mo, ca, ct, po), P, H, k, tx, z, bs, bt, sn, sr) x).2))) ∧ n = n2 ∧ lc_MI σ2 ((lc_stop ((f, s, q, m, mo, ca, ct, po), P, H, k, tx, z, bs, bt, sn, sr) x).1) ∧ ∀ i : Nat, i < 50 → σ2 i = σ i : lc_QT) v n2 σ2 → Q v n2 σ2) → lc_V l RX11 cX11_stopped 2 (some .int) false (lc_Rd 0) (lc_G Q 0 0) lc_E0 0 0 n 0 [(0, .ref (50)), (1, .int (lc_i (x)))] [] σ from H _ (fun _ _ _ h => h)
  intro Q hQ
  refine lc_iload_n dX11_stopped_0 rfl 1 rfl ?_
  refine lc_if_ne (tgt := 11) dX11_stopped_1 (by decide) (by omega) (fun h_1_0 => ?_) (fun h_1_0 => ?_)
  · skip
    refine lc_iload_n dX11_stopped_11 rfl 1 rfl ?_
    refine lc_iconst dX11_stopped_12 ?_
    refine lc_icmp_ne (tgt := 23) dX11_stopped_13 (by decide) (by omega) (fun h_13_1 => ?_) (fun h_13_1 => ?_)
    · skip
      refine lc_bipush dX11_stopped_23 (by decide) ?_
      exact lc_iret dX11_stopped_25 rfl (Nat.le_of_ble_eq_true rfl) (Nat.le_of_ble_eq_true rfl) (hQ _ _ _ (by rw [lc_stop]; exact ⟨lc_some (show (-102 : Int) = (if x < 0 ∨ 1 < x then -102 else if ¬ bt = true then -105 else if x = 0 then sn else sr) from by rw [if_pos (show x < 0 ∨ 1 < x from by omega)]), rfl, lc_MI_mk hz_50 hz_51 hz_52 hz_53 hz_54 hz_55 hz_56 hz_57 (hR) (hRP) (hP) (hT) (hjs) (hjr), (fun i _ => rfl)⟩))
    · skip
      refine lc_aload_n dX11_stopped_16 rfl 0 rfl ?_
      refine lc_get dX11_stopped_17 lc_fX11_35 hz_50 rfl ?_
      refine lc_goto (tgt := 25) dX11_stopped_20 (by decide) ?_
      exact lc_iret dX11_stopped_25 rfl (Nat.le_of_ble_eq_true rfl) (Nat.le_of_ble_eq_true rfl) (hQ _ _ _ (by rw [lc_stop]; exact ⟨lc_some (show jr = (if x < 0 ∨ 1 < x then -102 else if ¬ bt = true then -105 else if x = 0 then sn else sr) from by rw [if_neg (show ¬ (x < 0 ∨ 1 < x) from by omega), hjr, if_neg (show ¬ x = 0 from by omega)]; cases bt <;> rfl), rfl, lc_MI_mk hz_50 hz_51 hz_52 hz_53 hz_54 hz_55 hz_56 hz_57 (hR) (hRP) (hP) (hT) (hjs) (hjr), (fun i _ => rfl)⟩))
  · skip
    refine lc_aload_n dX11_stopped_4 rfl 0 rfl ?_
    refine lc_get dX11_stopped_5 lc_fX11_31 hz_50 rfl ?_
    refine lc_goto (tgt := 25) dX11_stopped_8 (by decide) ?_
    exact lc_iret dX11_stopped_25 rfl (Nat.le_of_ble_eq_true rfl) (Nat.le_of_ble_eq_true rfl) (hQ _ _ _ (by rw [lc_stop]; exact ⟨lc_some (show js = (if x < 0 ∨ 1 < x then -102 else if ¬ bt = true then -105 else if x = 0 then sn else sr) from by rw [if_neg (show ¬ (x < 0 ∨ 1 < x) from by omega), hjs, if_pos (show x = 0 from by omega)]; cases bt <;> rfl), rfl, lc_MI_mk hz_50 hz_51 hz_52 hz_53 hz_54 hz_55 hz_56 hz_57 (hR) (hRP) (hP) (hT) (hjs) (hjr), (fun i _ => rfl)⟩))

set_option maxRecDepth 100000 in
set_option maxHeartbeats 600000 in
theorem lc_cX11_undo (l : Launch) (n : Nat) (f : Int → Int) (s q m mo ca ct : Int) (po : Int → Int) (P : lc_St) (H : Nat → lc_St) (k : Nat) (tx : Int → Int) (z : Int) (bs bt : Bool) (sn sr : Int) (σ : lc_S)  (hI : lc_MI σ ((f, s, q, m, mo, ca, ct, po), P, H, k, tx, z, bs, bt, sn, sr)) (hw : lc_wf ((f, s, q, m, mo, ca, ct, po), P, H, k, tx, z, bs, bt, sn, sr)) : lc_Con l yX11_undo cX11_undo 1 (some .int) (lc_Rd 1) [.ref (50)] n σ (fun v n2 σ2 => v = some (.int (lc_i ((lc_undo ((f, s, q, m, mo, ca, ct, po), P, H, k, tx, z, bs, bt, sn, sr)).2))) ∧ n = n2 ∧ lc_MI σ2 ((lc_undo ((f, s, q, m, mo, ca, ct, po), P, H, k, tx, z, bs, bt, sn, sr)).1) ∧ ∀ i : Nat, i < 50 → σ2 i = σ i) := by
  obtain ⟨⟨hf9, hs9, hq9, hm9, hct9, hpo9, hkey9⟩, hwP, hwH, hk4, hz, htx⟩ := hw
  have hf : ∀ j : Int, 0 ≤ j → j < 36 → 0 ≤ f j ∧ f j ≤ 2 := hf9
  have hs : 1 ≤ s ∧ s ≤ 2 := hs9
  have hq : 0 ≤ q ∧ q ≤ 60 := hq9
  have hm : 4 ≤ m ∧ m ≤ 60 := hm9
  have hct : 1 ≤ ct ∧ ct ≤ 60 := hct9
  have hpo : ∀ i : Int, 0 ≤ i → i < ct → 0 ≤ po i ∧ po i < 450283905890997363 := hpo9
  have hkey : po (ct - 1) = lc_key f s 36 := hkey9
  obtain ⟨N1, N2, N3, N4, N5, N6, N7, at9, js, jr, w1, w2, w3, bw, hc50, hc51, hc52, hc53, hc54, hc55, hc56, hc57, hR, hRP, hP, hT, hjs, hjr⟩ := hI
  have hR : lc_RM N1 (f, s, q, m, mo, ca, ct, po) := hR
  have hH60 : ∀ j : Nat, j < k → (H j).2.2.2.2.2.2.1 ≤ 60 := fun j hj => (hwH j hj).2.2.2.2.1.2
  obtain ⟨h0R, h1R, h2R, h3R, h4R, h5R, h6R, h7R⟩ := id hR
  have h0R : N1 0 = s := h0R
  have h1R : N1 1 = q := h1R
  have h2R : N1 2 = mo := h2R
  have h3R : N1 3 = ca := h3R
  have h4R : N1 4 = m := h4R
  have h5R : N1 5 = ct := h5R
  have h6R : ∀ p : Int, 0 ≤ p → p < 36 → N1 (6 + p) = f p := h6R
  have hz_50 : σ (50) = some (.inr (11, [.ref (51), .ref (52), .ref (53), .ref (54), .ref (55), .int (lc_i ((k : Int))), .ref (56), .int (lc_i (if bs = true then 1 else 0)), .ref (57), .int (lc_i (z)), .int (lc_i (at9)), .int (lc_i (js)), .int (lc_i (jr)), .int (lc_i (w1)), .int (lc_i (w2)), .int (lc_i (w3)), .int (lc_i (bw))]) : lc_Cel) := hc50
  have hz_51 : σ (51) = some (lc_aI 222 (N1)) := hc51
  have hz_52 : σ (52) = some (lc_aI 222 (N2)) := hc52
  have hz_53 : σ (53) = some (lc_aI 222 (N3)) := hc53
  have hz_54 : σ (54) = some (lc_aI 222 (N4)) := hc54
  have hz_55 : σ (55) = some (lc_aI 888 (N5)) := hc55
  have hz_56 : σ (56) = some (lc_aI 222 (N6)) := hc56
  have hz_57 : σ (57) = some (lc_aI 80 (N7)) := hc57
  refine lc_con RX11 false (by decide) rfl (fun h => absurd h (by decide)) (Nat.le_of_ble_eq_true rfl) ?_
  suffices H : ∀ Q : lc_QT, (∀ v n2 σ2, (fun v n2 σ2 => v = some (.int (lc_i ((lc_undo ((f, s, q, m, mo, ca, ct, po), P, H, k, tx, z, bs, bt, sn, sr)).2))) ∧ n = n2 ∧ lc_MI σ2 ((lc_undo ((f, s, q, m, mo, ca, ct, po), P, H, k, tx, z, bs, bt, sn, sr)).1) ∧ ∀ i : Nat, i < 50 → σ2 i = σ i : lc_QT) v n2 σ2 → Q v n2 σ2) → lc_V l RX11 cX11_undo 1 (some .int) false (lc_Rd 1) (lc_G Q 0 0) lc_E0 0 0 n 0 [(0, .ref (50))] [] σ from H _ (fun _ _ _ h => h)
  intro Q hQ
  refine lc_aload_n dX11_undo_0 rfl 0 rfl ?_
  refine lc_get dX11_undo_1 lc_fX11_45 hz_50 rfl ?_
  refine lc_if_ne (tgt := 10) dX11_undo_4 (by decide) (by omega) (fun h_4_0 => ?_) (fun h_4_0 => ?_)
  · skip
    refine lc_aload_n dX11_undo_10 rfl 0 rfl ?_
    refine lc_dup dX11_undo_11 rfl ?_
    refine lc_get dX11_undo_12 lc_fX11_45 hz_50 rfl ?_
    refine lc_iconst dX11_undo_15 ?_
    refine lc_isub dX11_undo_16 ?_
    refine lc_top (congrArg (fun z => Value.int (lc_i z)) (show (((k : Int)) - (1) : Int) = ((k - 1 : Nat) : Int) from by omega)) ?_
    refine lc_wI (vs' := [.ref (51), .ref (52), .ref (53), .ref (54), .ref (55), .int (lc_i (((k - 1 : Nat) : Int))), .ref (56), .int (lc_i (if bs = true then 1 else 0)), .ref (57), .int (lc_i (z)), .int (lc_i (at9)), .int (lc_i (js)), .int (lc_i (jr)), .int (lc_i (w1)), .int (lc_i (w2)), .int (lc_i (w3)), .int (lc_i (bw))]) dX11_undo_17 lc_fX11_45 hz_50 (Nat.le_of_ble_eq_true rfl) rfl rfl rfl (fun σ2 h3 fr4 => ?_)
    have h5 : σ2 (51) = some (lc_aI 222 (N1)) := (fr4 _ (by omega)).trans hz_51
    have h6 : σ2 (52) = some (lc_aI 222 (N2)) := (fr4 _ (by omega)).trans hz_52
    have h7 : σ2 (53) = some (lc_aI 222 (N3)) := (fr4 _ (by omega)).trans hz_53
    have h8 : σ2 (54) = some (lc_aI 222 (N4)) := (fr4 _ (by omega)).trans hz_54
    have h9 : σ2 (55) = some (lc_aI 888 (N5)) := (fr4 _ (by omega)).trans hz_55
    have h10 : σ2 (56) = some (lc_aI 222 (N6)) := (fr4 _ (by omega)).trans hz_56
    have h11 : σ2 (57) = some (lc_aI 80 (N7)) := (fr4 _ (by omega)).trans hz_57
    refine lc_aload_n dX11_undo_20 rfl 0 rfl ?_
    refine lc_get dX11_undo_21 lc_fX11_22 h3 rfl ?_
    refine lc_sipush dX11_undo_24 (by decide) ?_
    refine lc_aload_n dX11_undo_27 rfl 0 rfl ?_
    refine lc_get dX11_undo_28 lc_fX11_45 h3 rfl ?_
    refine lc_imul dX11_undo_31 ?_
    refine lc_aload_n dX11_undo_32 rfl 0 rfl ?_
    refine lc_get dX11_undo_33 lc_fX11_7 h3 rfl ?_
    refine lc_iconst dX11_undo_36 ?_
    refine lc_callS (As := [.ref (55), .int (lc_i ((222) * (((k - 1 : Nat) : Int)))), .ref (51), .int (lc_i (0))]) (stk := []) dX11_undo_37 lc_mX11_48 lc_yX11_copies (lc_cX11_copies l n (55) (51) (888) (222) (N5) (N1) ((222) * (((k - 1 : Nat) : Int))) (0) σ2 h9 h5 (by omega) (by omega) (by omega) (by omega)) rfl ⟨Nat.le_of_ble_eq_true rfl, Nat.le_of_ble_eq_true rfl⟩ ⟨Nat.le_of_ble_eq_true rfl, Nat.le_of_ble_eq_true rfl⟩ rfl (Nat.le_of_ble_eq_true rfl) (fun v14 n15 σ16 q17 => ?_)
    obtain ⟨rfl, rfl, h13, fr12⟩ := q17
    have h18 : σ16 (52) = some (lc_aI 222 (N2)) := (fr12 _ (by omega)).trans h6
    have h19 : σ16 (53) = some (lc_aI 222 (N3)) := (fr12 _ (by omega)).trans h7
    have h20 : σ16 (54) = some (lc_aI 222 (N4)) := (fr12 _ (by omega)).trans h8
    have h21 : σ16 (55) = some (lc_aI 888 (N5)) := (fr12 _ (by omega)).trans h9
    have h22 : σ16 (56) = some (lc_aI 222 (N6)) := (fr12 _ (by omega)).trans h10
    have h23 : σ16 (57) = some (lc_aI 80 (N7)) := (fr12 _ (by omega)).trans h11
    have h24 : σ16 (50) = some (.inr (11, [.ref (51), .ref (52), .ref (53), .ref (54), .ref (55), .int (lc_i (((k - 1 : Nat) : Int))), .ref (56), .int (lc_i (if bs = true then 1 else 0)), .ref (57), .int (lc_i (z)), .int (lc_i (at9)), .int (lc_i (js)), .int (lc_i (jr)), .int (lc_i (w1)), .int (lc_i (w2)), .int (lc_i (w3)), .int (lc_i (bw))]) : lc_Cel) := (fr12 _ (by omega)).trans h3
    have hR25 := lc_RM_u (N1 := N1) (hP (k - 1) (by omega)) (hH60 (k - 1) (by omega))
    refine lc_aload_n dX11_undo_40 rfl 0 rfl ?_
    refine lc_get dX11_undo_41 lc_fX11_45 h24 rfl ?_
    exact lc_iret dX11_undo_44 rfl (Nat.le_of_ble_eq_true rfl) (Nat.le_of_ble_eq_true rfl) (hQ _ _ _ (by rw [lc_undo, if_neg (show ¬ (k = 0) from by omega)]; exact ⟨rfl, rfl, lc_MI_mk h24 h13 h18 h19 h20 h21 h22 h23 (hR25) (hRP) (fun j hj => hP j (by omega)) (hT) (hjs) (hjr), (fun i _ => ((fr12 i (by omega)).trans (fr4 i (by omega))))⟩))
  · skip
    refine lc_bipush dX11_undo_7 (by decide) ?_
    exact lc_iret dX11_undo_9 rfl (Nat.le_of_ble_eq_true rfl) (Nat.le_of_ble_eq_true rfl) (hQ _ _ _ (by rw [lc_undo, if_pos (show k = 0 from by omega)]; exact ⟨rfl, rfl, lc_MI_mk hz_50 hz_51 hz_52 hz_53 hz_54 hz_55 hz_56 hz_57 (hR) (hRP) (hP) (hT) (hjs) (hjr), (fun i _ => rfl)⟩))

set_option maxRecDepth 100000 in
set_option maxHeartbeats 600000 in
theorem lc_cX11_keep (l : Launch) (n : Nat) (f : Int → Int) (s q m mo ca ct : Int) (po : Int → Int) (P : lc_St) (H : Nat → lc_St) (k : Nat) (tx : Int → Int) (z : Int) (bs bt : Bool) (sn sr : Int) (σ : lc_S)  (hI : lc_MI σ ((f, s, q, m, mo, ca, ct, po), P, H, k, tx, z, bs, bt, sn, sr)) (hw : lc_wf ((f, s, q, m, mo, ca, ct, po), P, H, k, tx, z, bs, bt, sn, sr)) : lc_Con l yX11_keep cX11_keep 1 (some .int) (lc_Rd 2) [.ref (50)] n σ (fun v n2 σ2 => v = some (.int (lc_i ((lc_keep ((f, s, q, m, mo, ca, ct, po), P, H, k, tx, z, bs, bt, sn, sr)).2))) ∧ n = n2 ∧ lc_MI σ2 ((lc_keep ((f, s, q, m, mo, ca, ct, po), P, H, k, tx, z, bs, bt, sn, sr)).1) ∧ ∀ i : Nat, i < 50 → σ2 i = σ i) := by
  obtain ⟨⟨hf9, hs9, hq9, hm9, hct9, hpo9, hkey9⟩, hwP, hwH, hk4, hz, htx⟩ := hw
  have hf : ∀ j : Int, 0 ≤ j → j < 36 → 0 ≤ f j ∧ f j ≤ 2 := hf9
  have hs : 1 ≤ s ∧ s ≤ 2 := hs9
  have hq : 0 ≤ q ∧ q ≤ 60 := hq9
  have hm : 4 ≤ m ∧ m ≤ 60 := hm9
  have hct : 1 ≤ ct ∧ ct ≤ 60 := hct9
  have hpo : ∀ i : Int, 0 ≤ i → i < ct → 0 ≤ po i ∧ po i < 450283905890997363 := hpo9
  have hkey : po (ct - 1) = lc_key f s 36 := hkey9
  obtain ⟨N1, N2, N3, N4, N5, N6, N7, at9, js, jr, w1, w2, w3, bw, hc50, hc51, hc52, hc53, hc54, hc55, hc56, hc57, hR, hRP, hP, hT, hjs, hjr⟩ := hI
  have hR : lc_RM N1 (f, s, q, m, mo, ca, ct, po) := hR
  have hH60 : ∀ j : Nat, j < k → (H j).2.2.2.2.2.2.1 ≤ 60 := fun j hj => (hwH j hj).2.2.2.2.1.2
  obtain ⟨h0R, h1R, h2R, h3R, h4R, h5R, h6R, h7R⟩ := id hR
  have h0R : N1 0 = s := h0R
  have h1R : N1 1 = q := h1R
  have h2R : N1 2 = mo := h2R
  have h3R : N1 3 = ca := h3R
  have h4R : N1 4 = m := h4R
  have h5R : N1 5 = ct := h5R
  have h6R : ∀ p : Int, 0 ≤ p → p < 36 → N1 (6 + p) = f p := h6R
  have hz_50 : σ (50) = some (.inr (11, [.ref (51), .ref (52), .ref (53), .ref (54), .ref (55), .int (lc_i ((k : Int))), .ref (56), .int (lc_i (if bs = true then 1 else 0)), .ref (57), .int (lc_i (z)), .int (lc_i (at9)), .int (lc_i (js)), .int (lc_i (jr)), .int (lc_i (w1)), .int (lc_i (w2)), .int (lc_i (w3)), .int (lc_i (bw))]) : lc_Cel) := hc50
  have hz_51 : σ (51) = some (lc_aI 222 (N1)) := hc51
  have hz_52 : σ (52) = some (lc_aI 222 (N2)) := hc52
  have hz_53 : σ (53) = some (lc_aI 222 (N3)) := hc53
  have hz_54 : σ (54) = some (lc_aI 222 (N4)) := hc54
  have hz_55 : σ (55) = some (lc_aI 888 (N5)) := hc55
  have hz_56 : σ (56) = some (lc_aI 222 (N6)) := hc56
  have hz_57 : σ (57) = some (lc_aI 80 (N7)) := hc57
  refine lc_con RX11 false (by decide) rfl (fun h => absurd h (by decide)) (Nat.le_of_ble_eq_true rfl) ?_
  suffices H : ∀ Q : lc_QT, (∀ v n2 σ2, (fun v n2 σ2 => v = some (.int (lc_i ((lc_keep ((f, s, q, m, mo, ca, ct, po), P, H, k, tx, z, bs, bt, sn, sr)).2))) ∧ n = n2 ∧ lc_MI σ2 ((lc_keep ((f, s, q, m, mo, ca, ct, po), P, H, k, tx, z, bs, bt, sn, sr)).1) ∧ ∀ i : Nat, i < 50 → σ2 i = σ i : lc_QT) v n2 σ2 → Q v n2 σ2) → lc_V l RX11 cX11_keep 1 (some .int) false (lc_Rd 2) (lc_G Q 0 0) lc_E0 0 0 n 0 [(0, .ref (50))] [] σ from H _ (fun _ _ _ h => h)
  intro Q hQ
  refine lc_aload_n dX11_keep_0 rfl 0 rfl ?_
  refine lc_get dX11_keep_1 lc_fX11_7 hz_50 rfl ?_
  refine lc_iconst dX11_keep_4 ?_
  refine lc_aload_n dX11_keep_5 rfl 0 rfl ?_
  refine lc_get dX11_keep_6 lc_fX11_25 hz_50 rfl ?_
  refine lc_iconst dX11_keep_9 ?_
  refine lc_callS (As := [.ref (51), .int (lc_i (0)), .ref (56), .int (lc_i (0))]) (stk := []) dX11_keep_10 lc_mX11_48 lc_yX11_copies (lc_cX11_copies l n (51) (56) (222) (222) (N1) (N6) (0) (0) σ hz_51 hz_56 (by omega) (by omega) (by omega) (by omega)) rfl ⟨Nat.le_of_ble_eq_true rfl, Nat.le_of_ble_eq_true rfl⟩ ⟨Nat.le_of_ble_eq_true rfl, Nat.le_of_ble_eq_true rfl⟩ rfl (Nat.le_of_ble_eq_true rfl) (fun v3 n4 σ5 q6 => ?_)
  obtain ⟨rfl, rfl, h2, fr1⟩ := q6
  have h7 : σ5 (50) = some (.inr (11, [.ref (51), .ref (52), .ref (53), .ref (54), .ref (55), .int (lc_i ((k : Int))), .ref (56), .int (lc_i (if bs = true then 1 else 0)), .ref (57), .int (lc_i (z)), .int (lc_i (at9)), .int (lc_i (js)), .int (lc_i (jr)), .int (lc_i (w1)), .int (lc_i (w2)), .int (lc_i (w3)), .int (lc_i (bw))]) : lc_Cel) := (fr1 _ (by omega)).trans hz_50
  have h8 : σ5 (51) = some (lc_aI 222 (N1)) := (fr1 _ (by omega)).trans hz_51
  have h9 : σ5 (52) = some (lc_aI 222 (N2)) := (fr1 _ (by omega)).trans hz_52
  have h10 : σ5 (53) = some (lc_aI 222 (N3)) := (fr1 _ (by omega)).trans hz_53
  have h11 : σ5 (54) = some (lc_aI 222 (N4)) := (fr1 _ (by omega)).trans hz_54
  have h12 : σ5 (55) = some (lc_aI 888 (N5)) := (fr1 _ (by omega)).trans hz_55
  have h13 : σ5 (57) = some (lc_aI 80 (N7)) := (fr1 _ (by omega)).trans hz_57
  refine lc_aload_n dX11_keep_13 rfl 0 rfl ?_
  refine lc_iconst dX11_keep_14 ?_
  refine lc_wI (vs' := [.ref (51), .ref (52), .ref (53), .ref (54), .ref (55), .int (lc_i ((k : Int))), .ref (56), .int (lc_i (1)), .ref (57), .int (lc_i (z)), .int (lc_i (at9)), .int (lc_i (js)), .int (lc_i (jr)), .int (lc_i (w1)), .int (lc_i (w2)), .int (lc_i (w3)), .int (lc_i (bw))]) dX11_keep_15 lc_fX11_56 h7 (Nat.le_of_ble_eq_true rfl) rfl rfl rfl (fun σ14 h15 fr16 => ?_)
  have h17 : σ14 (51) = some (lc_aI 222 (N1)) := (fr16 _ (by omega)).trans h8
  have h18 : σ14 (52) = some (lc_aI 222 (N2)) := (fr16 _ (by omega)).trans h9
  have h19 : σ14 (53) = some (lc_aI 222 (N3)) := (fr16 _ (by omega)).trans h10
  have h20 : σ14 (54) = some (lc_aI 222 (N4)) := (fr16 _ (by omega)).trans h11
  have h21 : σ14 (55) = some (lc_aI 888 (N5)) := (fr16 _ (by omega)).trans h12
  have h22 : σ14 (57) = some (lc_aI 80 (N7)) := (fr16 _ (by omega)).trans h13
  have h23 : σ14 (56) = some (lc_aI 222 (lc_cpy (N1) (0) (N6) (0))) := (fr16 _ (by omega)).trans h2
  refine lc_aload_n dX11_keep_18 rfl 0 rfl ?_
  refine lc_callV (As := []) (stk := []) (b := 50) dX11_keep_19 lc_mX11_60 lc_yX11_allPieces h15 rfl (lc_cX11_allPieces l n (N1) (f) (s) (q) (m) (mo) (ca) (ct) (po) ((k : Int)) (true) (z) (at9) (js) (jr) (w1) (w2) (w3) (bw) σ14 h15 h17 (hf) (hR)) rfl ⟨Nat.le_of_ble_eq_true rfl, Nat.le_of_ble_eq_true rfl⟩ ⟨Nat.le_of_ble_eq_true rfl, Nat.le_of_ble_eq_true rfl⟩ rfl (Nat.le_of_ble_eq_true rfl) (fun v24 n25 σ26 q27 => ?_)
  obtain ⟨rfl, rfl, rfl⟩ := q27
  exact lc_iret dX11_keep_22 rfl (Nat.le_of_ble_eq_true rfl) (Nat.le_of_ble_eq_true rfl) (hQ _ _ _ (by rw [lc_keep]; exact ⟨rfl, rfl, lc_MI_mk h15 h17 h18 h19 h20 h21 h23 h22 (hR) (fun _ => lc_RM_c (N' := N6) hR (show ct ≤ 60 from by omega)) (hP) (hT) (hjs) (hjr), (fun i _ => ((fr16 i (by omega)).trans (fr1 i (by omega))))⟩))

set_option maxRecDepth 100000 in
set_option maxHeartbeats 600000 in
theorem lc_cX11_restore (l : Launch) (n : Nat) (f : Int → Int) (s q m mo ca ct : Int) (po : Int → Int) (P : lc_St) (H : Nat → lc_St) (k : Nat) (tx : Int → Int) (z : Int) (bs bt : Bool) (sn sr : Int) (σ : lc_S)  (hI : lc_MI σ ((f, s, q, m, mo, ca, ct, po), P, H, k, tx, z, bs, bt, sn, sr)) (hw : lc_wf ((f, s, q, m, mo, ca, ct, po), P, H, k, tx, z, bs, bt, sn, sr)) : lc_Con l yX11_restore cX11_restore 1 (some .int) (lc_Rd 2) [.ref (50)] n σ (fun v n2 σ2 => v = some (.int (lc_i ((lc_rest ((f, s, q, m, mo, ca, ct, po), P, H, k, tx, z, bs, bt, sn, sr)).2))) ∧ n = n2 ∧ lc_MI σ2 ((lc_rest ((f, s, q, m, mo, ca, ct, po), P, H, k, tx, z, bs, bt, sn, sr)).1) ∧ ∀ i : Nat, i < 50 → σ2 i = σ i) := by
  obtain ⟨⟨hf9, hs9, hq9, hm9, hct9, hpo9, hkey9⟩, hwP, hwH, hk4, hz, htx⟩ := hw
  have hf : ∀ j : Int, 0 ≤ j → j < 36 → 0 ≤ f j ∧ f j ≤ 2 := hf9
  have hs : 1 ≤ s ∧ s ≤ 2 := hs9
  have hq : 0 ≤ q ∧ q ≤ 60 := hq9
  have hm : 4 ≤ m ∧ m ≤ 60 := hm9
  have hct : 1 ≤ ct ∧ ct ≤ 60 := hct9
  have hpo : ∀ i : Int, 0 ≤ i → i < ct → 0 ≤ po i ∧ po i < 450283905890997363 := hpo9
  have hkey : po (ct - 1) = lc_key f s 36 := hkey9
  obtain ⟨N1, N2, N3, N4, N5, N6, N7, at9, js, jr, w1, w2, w3, bw, hc50, hc51, hc52, hc53, hc54, hc55, hc56, hc57, hR, hRP, hP, hT, hjs, hjr⟩ := hI
  have hR : lc_RM N1 (f, s, q, m, mo, ca, ct, po) := hR
  have hH60 : ∀ j : Nat, j < k → (H j).2.2.2.2.2.2.1 ≤ 60 := fun j hj => (hwH j hj).2.2.2.2.1.2
  obtain ⟨h0R, h1R, h2R, h3R, h4R, h5R, h6R, h7R⟩ := id hR
  have h0R : N1 0 = s := h0R
  have h1R : N1 1 = q := h1R
  have h2R : N1 2 = mo := h2R
  have h3R : N1 3 = ca := h3R
  have h4R : N1 4 = m := h4R
  have h5R : N1 5 = ct := h5R
  have h6R : ∀ p : Int, 0 ≤ p → p < 36 → N1 (6 + p) = f p := h6R
  have hz_50 : σ (50) = some (.inr (11, [.ref (51), .ref (52), .ref (53), .ref (54), .ref (55), .int (lc_i ((k : Int))), .ref (56), .int (lc_i (if bs = true then 1 else 0)), .ref (57), .int (lc_i (z)), .int (lc_i (at9)), .int (lc_i (js)), .int (lc_i (jr)), .int (lc_i (w1)), .int (lc_i (w2)), .int (lc_i (w3)), .int (lc_i (bw))]) : lc_Cel) := hc50
  have hz_51 : σ (51) = some (lc_aI 222 (N1)) := hc51
  have hz_52 : σ (52) = some (lc_aI 222 (N2)) := hc52
  have hz_53 : σ (53) = some (lc_aI 222 (N3)) := hc53
  have hz_54 : σ (54) = some (lc_aI 222 (N4)) := hc54
  have hz_55 : σ (55) = some (lc_aI 888 (N5)) := hc55
  have hz_56 : σ (56) = some (lc_aI 222 (N6)) := hc56
  have hz_57 : σ (57) = some (lc_aI 80 (N7)) := hc57
  refine lc_con RX11 false (by decide) rfl (fun h => absurd h (by decide)) (Nat.le_of_ble_eq_true rfl) ?_
  suffices H : ∀ Q : lc_QT, (∀ v n2 σ2, (fun v n2 σ2 => v = some (.int (lc_i ((lc_rest ((f, s, q, m, mo, ca, ct, po), P, H, k, tx, z, bs, bt, sn, sr)).2))) ∧ n = n2 ∧ lc_MI σ2 ((lc_rest ((f, s, q, m, mo, ca, ct, po), P, H, k, tx, z, bs, bt, sn, sr)).1) ∧ ∀ i : Nat, i < 50 → σ2 i = σ i : lc_QT) v n2 σ2 → Q v n2 σ2) → lc_V l RX11 cX11_restore 1 (some .int) false (lc_Rd 2) (lc_G Q 0 0) lc_E0 0 0 n 0 [(0, .ref (50))] [] σ from H _ (fun _ _ _ h => h)
  intro Q hQ
  refine lc_aload_n dX11_restore_0 rfl 0 rfl ?_
  refine lc_get dX11_restore_1 lc_fX11_56 hz_50 rfl ?_
  refine lc_if_neB (tgt := 10) dX11_restore_4 (by decide) (fun h_4_0 => ?_) (fun h_4_0 => ?_)
  · skip
    have hwP1 := hwP h_4_0
    have hfP : ∀ j : Int, 0 ≤ j → j < 36 → 0 ≤ P.1 j ∧ P.1 j ≤ 2 := hwP1.1
    have hcP : P.2.2.2.2.2.2.1 ≤ 60 := hwP1.2.2.2.2.1.2
    refine lc_aload_n dX11_restore_10 rfl 0 rfl ?_
    refine lc_callV (As := []) (stk := []) (b := 50) dX11_restore_11 lc_mX11_64 lc_yX11_records hz_50 rfl (lc_cX11_records l n (N1) (f) (s) (q) (m) (mo) (ca) (ct) (po) (k) (bs) (z) (at9) (js) (jr) (w1) (w2) (w3) (bw) (N5) (H) σ hz_50 hz_51 hz_55 (by omega) (by omega) (hR) (hP) (hH60)) rfl ⟨Nat.le_of_ble_eq_true rfl, Nat.le_of_ble_eq_true rfl⟩ ⟨Nat.le_of_ble_eq_true rfl, Nat.le_of_ble_eq_true rfl⟩ rfl (Nat.le_of_ble_eq_true rfl) (fun v7 n8 σ9 q10 => ?_)
    obtain ⟨g2, rfl, rfl, h5, h6, hP3, fr4⟩ := q10
    have h11 : σ9 (51) = some (lc_aI 222 (N1)) := (fr4 _ (by omega) (by omega)).trans hz_51
    have h12 : σ9 (52) = some (lc_aI 222 (N2)) := (fr4 _ (by omega) (by omega)).trans hz_52
    have h13 : σ9 (53) = some (lc_aI 222 (N3)) := (fr4 _ (by omega) (by omega)).trans hz_53
    have h14 : σ9 (54) = some (lc_aI 222 (N4)) := (fr4 _ (by omega) (by omega)).trans hz_54
    have h15 : σ9 (56) = some (lc_aI 222 (N6)) := (fr4 _ (by omega) (by omega)).trans hz_56
    have h16 : σ9 (57) = some (lc_aI 80 (N7)) := (fr4 _ (by omega) (by omega)).trans hz_57
    refine lc_aload_n dX11_restore_14 rfl 0 rfl ?_
    refine lc_get dX11_restore_15 lc_fX11_25 h5 rfl ?_
    refine lc_iconst dX11_restore_18 ?_
    refine lc_aload_n dX11_restore_19 rfl 0 rfl ?_
    refine lc_get dX11_restore_20 lc_fX11_7 h5 rfl ?_
    refine lc_iconst dX11_restore_23 ?_
    refine lc_callS (As := [.ref (56), .int (lc_i (0)), .ref (51), .int (lc_i (0))]) (stk := []) dX11_restore_24 lc_mX11_48 lc_yX11_copies (lc_cX11_copies l n (56) (51) (222) (222) (N6) (N1) (0) (0) σ9 h15 h11 (by omega) (by omega) (by omega) (by omega)) rfl ⟨Nat.le_of_ble_eq_true rfl, Nat.le_of_ble_eq_true rfl⟩ ⟨Nat.le_of_ble_eq_true rfl, Nat.le_of_ble_eq_true rfl⟩ rfl (Nat.le_of_ble_eq_true rfl) (fun v19 n20 σ21 q22 => ?_)
    obtain ⟨rfl, rfl, h18, fr17⟩ := q22
    have h23 : σ21 (52) = some (lc_aI 222 (N2)) := (fr17 _ (by omega)).trans h12
    have h24 : σ21 (53) = some (lc_aI 222 (N3)) := (fr17 _ (by omega)).trans h13
    have h25 : σ21 (54) = some (lc_aI 222 (N4)) := (fr17 _ (by omega)).trans h14
    have h26 : σ21 (56) = some (lc_aI 222 (N6)) := (fr17 _ (by omega)).trans h15
    have h27 : σ21 (57) = some (lc_aI 80 (N7)) := (fr17 _ (by omega)).trans h16
    have h28 : σ21 (50) = some (.inr (11, [.ref (51), .ref (52), .ref (53), .ref (54), .ref (55), .int (lc_i (((lc_hk k : Nat) : Int))), .ref (56), .int (lc_i (if bs = true then 1 else 0)), .ref (57), .int (lc_i (z)), .int (lc_i (at9)), .int (lc_i (js)), .int (lc_i (jr)), .int (lc_i (w1)), .int (lc_i (w2)), .int (lc_i (w3)), .int (lc_i (bw))]) : lc_Cel) := (fr17 _ (by omega)).trans h5
    have h29 : σ21 (55) = some (lc_aI 888 (g2)) := (fr17 _ (by omega)).trans h6
    have hR30 := lc_RM_c (N' := N1) (hRP h_4_0) hcP
    refine lc_aload_n dX11_restore_27 rfl 0 rfl ?_
    refine lc_callV (As := []) (stk := []) (b := 50) dX11_restore_28 lc_mX11_60 lc_yX11_allPieces h28 rfl (lc_cX11_allPieces l n (lc_cpy (N6) (0) (N1) (0)) (P.1) (P.2.1) (P.2.2.1) (P.2.2.2.1) (P.2.2.2.2.1) (P.2.2.2.2.2.1) (P.2.2.2.2.2.2.1) (P.2.2.2.2.2.2.2) (((lc_hk k : Nat) : Int)) (bs) (z) (at9) (js) (jr) (w1) (w2) (w3) (bw) σ21 h28 h18 (hfP) (hR30)) rfl ⟨Nat.le_of_ble_eq_true rfl, Nat.le_of_ble_eq_true rfl⟩ ⟨Nat.le_of_ble_eq_true rfl, Nat.le_of_ble_eq_true rfl⟩ rfl (Nat.le_of_ble_eq_true rfl) (fun v31 n32 σ33 q34 => ?_)
    obtain ⟨rfl, rfl, rfl⟩ := q34
    exact lc_iret dX11_restore_31 rfl (Nat.le_of_ble_eq_true rfl) (Nat.le_of_ble_eq_true rfl) (hQ _ _ _ (by rw [lc_rest, if_neg (show ¬ ¬ bs = true from fun q9 => q9 h_4_0)]; exact ⟨rfl, rfl, lc_MI_mk h28 h18 h23 h24 h25 h29 h26 h27 (hR30) (hRP) (hP3) (hT) (hjs) (hjr), (fun i _ => ((fr17 i (by omega)).trans (fr4 i (by omega) (by omega))))⟩))
  · skip
    refine lc_bipush dX11_restore_7 (by decide) ?_
    exact lc_iret dX11_restore_9 rfl (Nat.le_of_ble_eq_true rfl) (Nat.le_of_ble_eq_true rfl) (hQ _ _ _ (by rw [lc_rest, if_pos (show ¬ bs = true from h_4_0)]; exact ⟨rfl, rfl, lc_MI_mk hz_50 hz_51 hz_52 hz_53 hz_54 hz_55 hz_56 hz_57 (hR) (hRP) (hP) (hT) (hjs) (hjr), (fun i _ => rfl)⟩))

set_option maxRecDepth 100000 in
set_option maxHeartbeats 600000 in
theorem lc_cX11_circuit (l : Launch) (n : Nat) (f : Int → Int) (s q m mo ca ct : Int) (po : Int → Int) (P : lc_St) (H : Nat → lc_St) (k : Nat) (tx : Int → Int) (z : Int) (bs bt : Bool) (sn sr : Int) (cv pv : Int) (σ : lc_S)  (hI : lc_MI σ ((f, s, q, m, mo, ca, ct, po), P, H, k, tx, z, bs, bt, sn, sr)) (hw : lc_wf ((f, s, q, m, mo, ca, ct, po), P, H, k, tx, z, bs, bt, sn, sr)) (hR_cv : -2147483648 ≤ cv ∧ cv < 2147483648) (hR_pv : -2147483648 ≤ pv ∧ pv < 2147483648) : lc_Con l yX11_circuit cX11_circuit 3 (some .int) (lc_Rd 1) [.ref (50), .int (lc_i (cv)), .int (lc_i (pv))] n σ (fun v n2 σ2 => v = some (.int (lc_i ((lc_circ ((f, s, q, m, mo, ca, ct, po), P, H, k, tx, z, bs, bt, sn, sr) cv pv).2))) ∧ n = n2 ∧ lc_MI σ2 ((lc_circ ((f, s, q, m, mo, ca, ct, po), P, H, k, tx, z, bs, bt, sn, sr) cv pv).1) ∧ ∀ i : Nat, i < 50 → σ2 i = σ i) := by
  obtain ⟨⟨hf9, hs9, hq9, hm9, hct9, hpo9, hkey9⟩, hwP, hwH, hk4, hz, htx⟩ := hw
  have hf : ∀ j : Int, 0 ≤ j → j < 36 → 0 ≤ f j ∧ f j ≤ 2 := hf9
  have hs : 1 ≤ s ∧ s ≤ 2 := hs9
  have hq : 0 ≤ q ∧ q ≤ 60 := hq9
  have hm : 4 ≤ m ∧ m ≤ 60 := hm9
  have hct : 1 ≤ ct ∧ ct ≤ 60 := hct9
  have hpo : ∀ i : Int, 0 ≤ i → i < ct → 0 ≤ po i ∧ po i < 450283905890997363 := hpo9
  have hkey : po (ct - 1) = lc_key f s 36 := hkey9
  obtain ⟨N1, N2, N3, N4, N5, N6, N7, at9, js, jr, w1, w2, w3, bw, hc50, hc51, hc52, hc53, hc54, hc55, hc56, hc57, hR, hRP, hP, hT, hjs, hjr⟩ := hI
  have hR : lc_RM N1 (f, s, q, m, mo, ca, ct, po) := hR
  have hH60 : ∀ j : Nat, j < k → (H j).2.2.2.2.2.2.1 ≤ 60 := fun j hj => (hwH j hj).2.2.2.2.1.2
  obtain ⟨h0R, h1R, h2R, h3R, h4R, h5R, h6R, h7R⟩ := id hR
  have h0R : N1 0 = s := h0R
  have h1R : N1 1 = q := h1R
  have h2R : N1 2 = mo := h2R
  have h3R : N1 3 = ca := h3R
  have h4R : N1 4 = m := h4R
  have h5R : N1 5 = ct := h5R
  have h6R : ∀ p : Int, 0 ≤ p → p < 36 → N1 (6 + p) = f p := h6R
  have hz_50 : σ (50) = some (.inr (11, [.ref (51), .ref (52), .ref (53), .ref (54), .ref (55), .int (lc_i ((k : Int))), .ref (56), .int (lc_i (if bs = true then 1 else 0)), .ref (57), .int (lc_i (z)), .int (lc_i (at9)), .int (lc_i (js)), .int (lc_i (jr)), .int (lc_i (w1)), .int (lc_i (w2)), .int (lc_i (w3)), .int (lc_i (bw))]) : lc_Cel) := hc50
  have hz_51 : σ (51) = some (lc_aI 222 (N1)) := hc51
  have hz_52 : σ (52) = some (lc_aI 222 (N2)) := hc52
  have hz_53 : σ (53) = some (lc_aI 222 (N3)) := hc53
  have hz_54 : σ (54) = some (lc_aI 222 (N4)) := hc54
  have hz_55 : σ (55) = some (lc_aI 888 (N5)) := hc55
  have hz_56 : σ (56) = some (lc_aI 222 (N6)) := hc56
  have hz_57 : σ (57) = some (lc_aI 80 (N7)) := hc57
  refine lc_con RX11 false (by decide) rfl (fun h => absurd h (by decide)) (Nat.le_of_ble_eq_true rfl) ?_
  suffices H : ∀ Q : lc_QT, (∀ v n2 σ2, (fun v n2 σ2 => v = some (.int (lc_i ((lc_circ ((f, s, q, m, mo, ca, ct, po), P, H, k, tx, z, bs, bt, sn, sr) cv pv).2))) ∧ n = n2 ∧ lc_MI σ2 ((lc_circ ((f, s, q, m, mo, ca, ct, po), P, H, k, tx, z, bs, bt, sn, sr) cv pv).1) ∧ ∀ i : Nat, i < 50 → σ2 i = σ i : lc_QT) v n2 σ2 → Q v n2 σ2) → lc_V l RX11 cX11_circuit 3 (some .int) false (lc_Rd 1) (lc_G Q 0 0) lc_E0 0 0 n 0 [(0, .ref (50)), (1, .int (lc_i (cv))), (2, .int (lc_i (pv)))] [] σ from H _ (fun _ _ _ h => h)
  intro Q hQ
  refine lc_iload_n dX11_circuit_0 rfl 1 rfl ?_
  refine lc_iconst dX11_circuit_1 ?_
  refine lc_iconst dX11_circuit_2 ?_
  refine lc_callS (As := [.int (lc_i (cv)), .int (lc_i (0)), .int (lc_i (1))]) (stk := []) dX11_circuit_3 lc_mX11_41 lc_yX11_in (lc_cX11_in l n (cv) (0) (1) σ (by omega) (by omega) (by omega)) rfl ⟨Nat.le_of_ble_eq_true rfl, Nat.le_of_ble_eq_true rfl⟩ ⟨Nat.le_of_ble_eq_true rfl, Nat.le_of_ble_eq_true rfl⟩ rfl (Nat.le_of_ble_eq_true rfl) (fun v1 n2 σ3 q4 => ?_)
  obtain ⟨rfl, rfl, rfl⟩ := q4
  refine lc_if_eqB (tgt := 27) dX11_circuit_6 (by decide) (fun h_6_4 => ?_) (fun h_6_4 => ?_)
  · skip
    refine lc_bipush dX11_circuit_27 (by decide) ?_
    exact lc_iret dX11_circuit_29 rfl (Nat.le_of_ble_eq_true rfl) (Nat.le_of_ble_eq_true rfl) (hQ _ _ _ (by rw [lc_circ, if_pos (show cv < 0 ∨ 2 ≤ cv ∨ pv < 0 ∨ 24 ≤ pv from by omega)]; exact ⟨rfl, rfl, lc_MI_mk hz_50 hz_51 hz_52 hz_53 hz_54 hz_55 hz_56 hz_57 (hR) (hRP) (hP) (hT) (hjs) (hjr), (fun i _ => rfl)⟩))
  · skip
    refine lc_iload_n dX11_circuit_9 rfl 2 rfl ?_
    refine lc_iconst dX11_circuit_10 ?_
    refine lc_bipush dX11_circuit_11 (by decide) ?_
    refine lc_callS (As := [.int (lc_i (pv)), .int (lc_i (0)), .int (lc_i (23))]) (stk := []) dX11_circuit_13 lc_mX11_41 lc_yX11_in (lc_cX11_in l n (pv) (0) (23) σ (by omega) (by omega) (by omega)) rfl ⟨Nat.le_of_ble_eq_true rfl, Nat.le_of_ble_eq_true rfl⟩ ⟨Nat.le_of_ble_eq_true rfl, Nat.le_of_ble_eq_true rfl⟩ rfl (Nat.le_of_ble_eq_true rfl) (fun v6 n7 σ8 q9 => ?_)
    obtain ⟨rfl, rfl, rfl⟩ := q9
    refine lc_if_eqB (tgt := 27) dX11_circuit_16 (by decide) (fun h_16_9 => ?_) (fun h_16_9 => ?_)
    · skip
      refine lc_bipush dX11_circuit_27 (by decide) ?_
      exact lc_iret dX11_circuit_29 rfl (Nat.le_of_ble_eq_true rfl) (Nat.le_of_ble_eq_true rfl) (hQ _ _ _ (by rw [lc_circ, if_pos (show cv < 0 ∨ 2 ≤ cv ∨ pv < 0 ∨ 24 ≤ pv from by omega)]; exact ⟨rfl, rfl, lc_MI_mk hz_50 hz_51 hz_52 hz_53 hz_54 hz_55 hz_56 hz_57 (hR) (hRP) (hP) (hT) (hjs) (hjr), (fun i _ => rfl)⟩))
    · skip
      refine lc_iload_n dX11_circuit_19 rfl 1 rfl ?_
      refine lc_iload_n dX11_circuit_20 rfl 2 rfl ?_
      refine lc_callS (As := [.int (lc_i (cv)), .int (lc_i (pv))]) (stk := []) dX11_circuit_21 lc_mX11_77 lc_yX11_pointAt (lc_cX11_pointAt l n (cv) (pv) σ (by omega) (by omega)) rfl ⟨Nat.le_of_ble_eq_true rfl, Nat.le_of_ble_eq_true rfl⟩ ⟨Nat.le_of_ble_eq_true rfl, Nat.le_of_ble_eq_true rfl⟩ rfl (Nat.le_of_ble_eq_true rfl) (fun v11 n12 σ13 q14 => ?_)
      obtain ⟨rfl, rfl, rfl⟩ := q14
      refine lc_goto (tgt := 29) dX11_circuit_24 (by decide) ?_
      exact lc_iret dX11_circuit_29 rfl (Nat.le_of_ble_eq_true rfl) (Nat.le_of_ble_eq_true rfl) (hQ _ _ _ (by rw [lc_circ, if_neg (show ¬ (cv < 0 ∨ 2 ≤ cv ∨ pv < 0 ∨ 24 ≤ pv) from by omega)]; exact ⟨lc_some (lc_pt_cp (by omega)), rfl, lc_MI_mk hz_50 hz_51 hz_52 hz_53 hz_54 hz_55 hz_56 hz_57 (hR) (hRP) (hP) (hT) (hjs) (hjr), (fun i _ => rfl)⟩))

set_option maxRecDepth 100000 in
set_option maxHeartbeats 600000 in
theorem lc_cX11_reason (l : Launch) (n : Nat) (f : Int → Int) (s q m mo ca ct : Int) (po : Int → Int) (P : lc_St) (H : Nat → lc_St) (k : Nat) (tx : Int → Int) (z : Int) (bs bt : Bool) (sn sr : Int) (x y : Int) (cb : Bool) (σ : lc_S)  (hI : lc_MI σ ((f, s, q, m, mo, ca, ct, po), P, H, k, tx, z, bs, bt, sn, sr)) (hw : lc_wf ((f, s, q, m, mo, ca, ct, po), P, H, k, tx, z, bs, bt, sn, sr)) (hR_x : -2147483648 ≤ x ∧ x < 2147483648) (hR_y : -2147483648 ≤ y ∧ y < 2147483648) : lc_Con l yX11_reason cX11_reason 4 (some .int) (lc_Rd 4) [.ref (50), .int (lc_i (x)), .int (lc_i (y)), .int (lc_i (if cb = true then 1 else 0))] n σ (fun v n2 σ2 => v = some (.int (lc_i ((lc_reas ((f, s, q, m, mo, ca, ct, po), P, H, k, tx, z, bs, bt, sn, sr) x y cb).2))) ∧ n = n2 ∧ lc_MI σ2 ((lc_reas ((f, s, q, m, mo, ca, ct, po), P, H, k, tx, z, bs, bt, sn, sr) x y cb).1) ∧ ∀ i : Nat, i < 50 → σ2 i = σ i) := by
  obtain ⟨⟨hf9, hs9, hq9, hm9, hct9, hpo9, hkey9⟩, hwP, hwH, hk4, hz, htx⟩ := hw
  have hf : ∀ j : Int, 0 ≤ j → j < 36 → 0 ≤ f j ∧ f j ≤ 2 := hf9
  have hs : 1 ≤ s ∧ s ≤ 2 := hs9
  have hq : 0 ≤ q ∧ q ≤ 60 := hq9
  have hm : 4 ≤ m ∧ m ≤ 60 := hm9
  have hct : 1 ≤ ct ∧ ct ≤ 60 := hct9
  have hpo : ∀ i : Int, 0 ≤ i → i < ct → 0 ≤ po i ∧ po i < 450283905890997363 := hpo9
  have hkey : po (ct - 1) = lc_key f s 36 := hkey9
  obtain ⟨N1, N2, N3, N4, N5, N6, N7, at9, js, jr, w1, w2, w3, bw, hc50, hc51, hc52, hc53, hc54, hc55, hc56, hc57, hR, hRP, hP, hT, hjs, hjr⟩ := hI
  have hR : lc_RM N1 (f, s, q, m, mo, ca, ct, po) := hR
  have hH60 : ∀ j : Nat, j < k → (H j).2.2.2.2.2.2.1 ≤ 60 := fun j hj => (hwH j hj).2.2.2.2.1.2
  obtain ⟨h0R, h1R, h2R, h3R, h4R, h5R, h6R, h7R⟩ := id hR
  have h0R : N1 0 = s := h0R
  have h1R : N1 1 = q := h1R
  have h2R : N1 2 = mo := h2R
  have h3R : N1 3 = ca := h3R
  have h4R : N1 4 = m := h4R
  have h5R : N1 5 = ct := h5R
  have h6R : ∀ p : Int, 0 ≤ p → p < 36 → N1 (6 + p) = f p := h6R
  have hz_50 : σ (50) = some (.inr (11, [.ref (51), .ref (52), .ref (53), .ref (54), .ref (55), .int (lc_i ((k : Int))), .ref (56), .int (lc_i (if bs = true then 1 else 0)), .ref (57), .int (lc_i (z)), .int (lc_i (at9)), .int (lc_i (js)), .int (lc_i (jr)), .int (lc_i (w1)), .int (lc_i (w2)), .int (lc_i (w3)), .int (lc_i (bw))]) : lc_Cel) := hc50
  have hz_51 : σ (51) = some (lc_aI 222 (N1)) := hc51
  have hz_52 : σ (52) = some (lc_aI 222 (N2)) := hc52
  have hz_53 : σ (53) = some (lc_aI 222 (N3)) := hc53
  have hz_54 : σ (54) = some (lc_aI 222 (N4)) := hc54
  have hz_55 : σ (55) = some (lc_aI 888 (N5)) := hc55
  have hz_56 : σ (56) = some (lc_aI 222 (N6)) := hc56
  have hz_57 : σ (57) = some (lc_aI 80 (N7)) := hc57
  refine lc_con RX11 false (by decide) rfl (fun h => absurd h (by decide)) (Nat.le_of_ble_eq_true rfl) ?_
  suffices H : ∀ Q : lc_QT, (∀ v n2 σ2, (fun v n2 σ2 => v = some (.int (lc_i ((lc_reas ((f, s, q, m, mo, ca, ct, po), P, H, k, tx, z, bs, bt, sn, sr) x y cb).2))) ∧ n = n2 ∧ lc_MI σ2 ((lc_reas ((f, s, q, m, mo, ca, ct, po), P, H, k, tx, z, bs, bt, sn, sr) x y cb).1) ∧ ∀ i : Nat, i < 50 → σ2 i = σ i : lc_QT) v n2 σ2 → Q v n2 σ2) → lc_V l RX11 cX11_reason 4 (some .int) false (lc_Rd 4) (lc_G Q 0 0) lc_E0 0 0 n 0 [(0, .ref (50)), (1, .int (lc_i (x))), (2, .int (lc_i (y))), (3, .int (lc_i (if cb = true then 1 else 0)))] [] σ from H _ (fun _ _ _ h => h)
  intro Q hQ
  refine lc_iload_n dX11_reason_0 rfl 1 rfl ?_
  refine lc_callS (As := [.int (lc_i (x))]) (stk := []) dX11_reason_1 lc_mX11_106 lc_yX11_isPoint (lc_cX11_isPoint l n (x) σ (by omega)) rfl ⟨Nat.le_of_ble_eq_true rfl, Nat.le_of_ble_eq_true rfl⟩ ⟨Nat.le_of_ble_eq_true rfl, Nat.le_of_ble_eq_true rfl⟩ rfl (Nat.le_of_ble_eq_true rfl) (fun v1 n2 σ3 q4 => ?_)
  obtain ⟨rfl, rfl, rfl⟩ := q4
  refine lc_if_eqB (tgt := 28) dX11_reason_4 (by decide) (fun h_4_4 => ?_) (fun h_4_4 => ?_)
  · skip
    refine lc_bipush dX11_reason_28 (by decide) ?_
    exact lc_iret dX11_reason_30 rfl (Nat.le_of_ble_eq_true rfl) (Nat.le_of_ble_eq_true rfl) (hQ _ _ _ (by rw [lc_reas, if_pos (show ¬ ((0 ≤ x ∧ x < 36) ∧ (0 ≤ y ∧ y < 36)) from by omega)]; exact ⟨rfl, rfl, lc_MI_mk hz_50 hz_51 hz_52 hz_53 hz_54 hz_55 hz_56 hz_57 (hR) (hRP) (hP) (hT) (hjs) (hjr), (fun i _ => rfl)⟩))
  · skip
    refine lc_iload_n dX11_reason_7 rfl 2 rfl ?_
    refine lc_callS (As := [.int (lc_i (y))]) (stk := []) dX11_reason_8 lc_mX11_106 lc_yX11_isPoint (lc_cX11_isPoint l n (y) σ (by omega)) rfl ⟨Nat.le_of_ble_eq_true rfl, Nat.le_of_ble_eq_true rfl⟩ ⟨Nat.le_of_ble_eq_true rfl, Nat.le_of_ble_eq_true rfl⟩ rfl (Nat.le_of_ble_eq_true rfl) (fun v6 n7 σ8 q9 => ?_)
    obtain ⟨rfl, rfl, rfl⟩ := q9
    refine lc_if_eqB (tgt := 28) dX11_reason_11 (by decide) (fun h_11_9 => ?_) (fun h_11_9 => ?_)
    · skip
      refine lc_bipush dX11_reason_28 (by decide) ?_
      exact lc_iret dX11_reason_30 rfl (Nat.le_of_ble_eq_true rfl) (Nat.le_of_ble_eq_true rfl) (hQ _ _ _ (by rw [lc_reas, if_pos (show ¬ ((0 ≤ x ∧ x < 36) ∧ (0 ≤ y ∧ y < 36)) from by omega)]; exact ⟨rfl, rfl, lc_MI_mk hz_50 hz_51 hz_52 hz_53 hz_54 hz_55 hz_56 hz_57 (hR) (hRP) (hP) (hT) (hjs) (hjr), (fun i _ => rfl)⟩))
    · skip
      refine lc_aload_n dX11_reason_14 rfl 0 rfl ?_
      refine lc_aload_n dX11_reason_15 rfl 0 rfl ?_
      refine lc_get dX11_reason_16 lc_fX11_7 hz_50 rfl ?_
      refine lc_iload_n dX11_reason_19 rfl 1 rfl ?_
      refine lc_iload_n dX11_reason_20 rfl 2 rfl ?_
      refine lc_iload_n dX11_reason_21 rfl 3 rfl ?_
      refine lc_callV (As := [.ref (51), .int (lc_i (x)), .int (lc_i (y)), .int (lc_i (if cb = true then 1 else 0))]) (stk := []) (b := 50) dX11_reason_22 lc_mX11_110 lc_yX11_why hz_50 rfl (lc_cX11_why l n (51) (N1) (f) (s) (q) (m) (mo) (ca) (ct) (po) ((k : Int)) (bs) (z) (at9) (js) (jr) (w1) (w2) (w3) (bw) (x) (y) (cb) σ hz_50 hz_51 (by omega) (hf) (hs) (by omega) (by omega) (hR) (by omega) (by omega)) rfl ⟨Nat.le_of_ble_eq_true rfl, Nat.le_of_ble_eq_true rfl⟩ ⟨Nat.le_of_ble_eq_true rfl, Nat.le_of_ble_eq_true rfl⟩ rfl (Nat.le_of_ble_eq_true rfl) (fun v15 n16 σ17 q18 => ?_)
      obtain ⟨z11, z12, rfl, rfl, h14, fr13⟩ := q18
      have h19 : σ17 (51) = some (lc_aI 222 (N1)) := (fr13 _ (by omega)).trans hz_51
      have h20 : σ17 (52) = some (lc_aI 222 (N2)) := (fr13 _ (by omega)).trans hz_52
      have h21 : σ17 (53) = some (lc_aI 222 (N3)) := (fr13 _ (by omega)).trans hz_53
      have h22 : σ17 (54) = some (lc_aI 222 (N4)) := (fr13 _ (by omega)).trans hz_54
      have h23 : σ17 (55) = some (lc_aI 888 (N5)) := (fr13 _ (by omega)).trans hz_55
      have h24 : σ17 (56) = some (lc_aI 222 (N6)) := (fr13 _ (by omega)).trans hz_56
      have h25 : σ17 (57) = some (lc_aI 80 (N7)) := (fr13 _ (by omega)).trans hz_57
      refine lc_goto (tgt := 30) dX11_reason_25 (by decide) ?_
      exact lc_iret dX11_reason_30 rfl (Nat.le_of_ble_eq_true rfl) (Nat.le_of_ble_eq_true rfl) (hQ _ _ _ (by rw [lc_reas, if_neg (show ¬ (¬ ((0 ≤ x ∧ x < 36) ∧ (0 ≤ y ∧ y < 36))) from by omega)]; exact ⟨rfl, rfl, lc_MI_mk h14 h19 h20 h21 h22 h23 h24 h25 (hR) (hRP) (hP) (hT) (hjs) (hjr), (fun i _ => (fr13 i (by omega)))⟩))

set_option maxRecDepth 100000 in
set_option maxHeartbeats 600000 in
theorem lc_cX11_best (l : Launch) (n : Nat) (f : Int → Int) (s q m mo ca ct : Int) (po : Int → Int) (P : lc_St) (H : Nat → lc_St) (k : Nat) (tx : Int → Int) (z : Int) (bs bt : Bool) (sn sr : Int) (d : Int) (σ : lc_S)  (hI : lc_MI σ ((f, s, q, m, mo, ca, ct, po), P, H, k, tx, z, bs, bt, sn, sr)) (hw : lc_wf ((f, s, q, m, mo, ca, ct, po), P, H, k, tx, z, bs, bt, sn, sr)) (hR_d : -2147483648 ≤ d ∧ d < 2147483648) : lc_Con l yX11_best cX11_best 2 (some .int) (lc_Rd 6) [.ref (50), .int (lc_i (d))] n σ (fun v n2 σ2 => v = some (.int (lc_i ((lc_best ((f, s, q, m, mo, ca, ct, po), P, H, k, tx, z, bs, bt, sn, sr) d).2))) ∧ n = n2 ∧ lc_MI σ2 ((lc_best ((f, s, q, m, mo, ca, ct, po), P, H, k, tx, z, bs, bt, sn, sr) d).1) ∧ ∀ i : Nat, i < 50 → σ2 i = σ i) := by
  obtain ⟨⟨hf9, hs9, hq9, hm9, hct9, hpo9, hkey9⟩, hwP, hwH, hk4, hz, htx⟩ := hw
  have hf : ∀ j : Int, 0 ≤ j → j < 36 → 0 ≤ f j ∧ f j ≤ 2 := hf9
  have hs : 1 ≤ s ∧ s ≤ 2 := hs9
  have hq : 0 ≤ q ∧ q ≤ 60 := hq9
  have hm : 4 ≤ m ∧ m ≤ 60 := hm9
  have hct : 1 ≤ ct ∧ ct ≤ 60 := hct9
  have hpo : ∀ i : Int, 0 ≤ i → i < ct → 0 ≤ po i ∧ po i < 450283905890997363 := hpo9
  have hkey : po (ct - 1) = lc_key f s 36 := hkey9
  obtain ⟨N1, N2, N3, N4, N5, N6, N7, at9, js, jr, w1, w2, w3, bw, hc50, hc51, hc52, hc53, hc54, hc55, hc56, hc57, hR, hRP, hP, hT, hjs, hjr⟩ := hI
  have hR : lc_RM N1 (f, s, q, m, mo, ca, ct, po) := hR
  have hH60 : ∀ j : Nat, j < k → (H j).2.2.2.2.2.2.1 ≤ 60 := fun j hj => (hwH j hj).2.2.2.2.1.2
  obtain ⟨h0R, h1R, h2R, h3R, h4R, h5R, h6R, h7R⟩ := id hR
  have h0R : N1 0 = s := h0R
  have h1R : N1 1 = q := h1R
  have h2R : N1 2 = mo := h2R
  have h3R : N1 3 = ca := h3R
  have h4R : N1 4 = m := h4R
  have h5R : N1 5 = ct := h5R
  have h6R : ∀ p : Int, 0 ≤ p → p < 36 → N1 (6 + p) = f p := h6R
  have hz_50 : σ (50) = some (.inr (11, [.ref (51), .ref (52), .ref (53), .ref (54), .ref (55), .int (lc_i ((k : Int))), .ref (56), .int (lc_i (if bs = true then 1 else 0)), .ref (57), .int (lc_i (z)), .int (lc_i (at9)), .int (lc_i (js)), .int (lc_i (jr)), .int (lc_i (w1)), .int (lc_i (w2)), .int (lc_i (w3)), .int (lc_i (bw))]) : lc_Cel) := hc50
  have hz_51 : σ (51) = some (lc_aI 222 (N1)) := hc51
  have hz_52 : σ (52) = some (lc_aI 222 (N2)) := hc52
  have hz_53 : σ (53) = some (lc_aI 222 (N3)) := hc53
  have hz_54 : σ (54) = some (lc_aI 222 (N4)) := hc54
  have hz_55 : σ (55) = some (lc_aI 888 (N5)) := hc55
  have hz_56 : σ (56) = some (lc_aI 222 (N6)) := hc56
  have hz_57 : σ (57) = some (lc_aI 80 (N7)) := hc57
  refine lc_con RX11 false (by decide) rfl (fun h => absurd h (by decide)) (Nat.le_of_ble_eq_true rfl) ?_
  suffices H : ∀ Q : lc_QT, (∀ v n2 σ2, (fun v n2 σ2 => v = some (.int (lc_i ((lc_best ((f, s, q, m, mo, ca, ct, po), P, H, k, tx, z, bs, bt, sn, sr) d).2))) ∧ n = n2 ∧ lc_MI σ2 ((lc_best ((f, s, q, m, mo, ca, ct, po), P, H, k, tx, z, bs, bt, sn, sr) d).1) ∧ ∀ i : Nat, i < 50 → σ2 i = σ i : lc_QT) v n2 σ2 → Q v n2 σ2) → lc_V l RX11 cX11_best 2 (some .int) false (lc_Rd 6) (lc_G Q 0 0) lc_E0 0 0 n 0 [(0, .ref (50)), (1, .int (lc_i (d)))] [] σ from H _ (fun _ _ _ h => h)
  intro Q hQ
  refine lc_iload_n dX11_best_0 rfl 1 rfl ?_
  refine lc_iconst dX11_best_1 ?_
  refine lc_iconst dX11_best_2 ?_
  refine lc_callS (As := [.int (lc_i (d)), .int (lc_i (1)), .int (lc_i (2))]) (stk := []) dX11_best_3 lc_mX11_41 lc_yX11_in (lc_cX11_in l n (d) (1) (2) σ (by omega) (by omega) (by omega)) rfl ⟨Nat.le_of_ble_eq_true rfl, Nat.le_of_ble_eq_true rfl⟩ ⟨Nat.le_of_ble_eq_true rfl, Nat.le_of_ble_eq_true rfl⟩ rfl (Nat.le_of_ble_eq_true rfl) (fun v1 n2 σ3 q4 => ?_)
  obtain ⟨rfl, rfl, rfl⟩ := q4
  refine lc_if_eqB (tgt := 17) dX11_best_6 (by decide) (fun h_6_4 => ?_) (fun h_6_4 => ?_)
  · skip
    refine lc_bipush dX11_best_17 (by decide) ?_
    exact lc_iret dX11_best_19 rfl (Nat.le_of_ble_eq_true rfl) (Nat.le_of_ble_eq_true rfl) (hQ _ _ _ (by rw [lc_best, if_pos (show d < 1 ∨ 2 < d from by omega)]; exact ⟨rfl, rfl, lc_MI_mk hz_50 hz_51 hz_52 hz_53 hz_54 hz_55 hz_56 hz_57 (hR) (hRP) (hP) (hT) (hjs) (hjr), (fun i _ => rfl)⟩))
  · skip
    refine lc_aload_n dX11_best_9 rfl 0 rfl ?_
    refine lc_iload_n dX11_best_10 rfl 1 rfl ?_
    refine lc_callV (As := [.int (lc_i (d))]) (stk := []) (b := 50) dX11_best_11 lc_mX11_134 lc_yX11_bestOf hz_50 rfl (lc_cX11_bestOf l n (N1) (f) (s) (q) (m) (mo) (ca) (ct) (po) ((k : Int)) (bs) (z) (at9) (js) (jr) (w1) (w2) (w3) (bw) (N2) (d) σ hz_50 hz_51 hz_52 (hf) (hs) (by omega) (hq) (by omega) (hR) (by omega)) rfl ⟨Nat.le_of_ble_eq_true rfl, Nat.le_of_ble_eq_true rfl⟩ ⟨Nat.le_of_ble_eq_true rfl, Nat.le_of_ble_eq_true rfl⟩ rfl (Nat.le_of_ble_eq_true rfl) (fun v12 n13 σ14 q15 => ?_)
    obtain ⟨z6, z7, g8, rfl, rfl, h10, h11, fr9⟩ := q15
    have h16 : σ14 (51) = some (lc_aI 222 (N1)) := (fr9 _ (by omega) (by omega)).trans hz_51
    have h17 : σ14 (53) = some (lc_aI 222 (N3)) := (fr9 _ (by omega) (by omega)).trans hz_53
    have h18 : σ14 (54) = some (lc_aI 222 (N4)) := (fr9 _ (by omega) (by omega)).trans hz_54
    have h19 : σ14 (55) = some (lc_aI 888 (N5)) := (fr9 _ (by omega) (by omega)).trans hz_55
    have h20 : σ14 (56) = some (lc_aI 222 (N6)) := (fr9 _ (by omega) (by omega)).trans hz_56
    have h21 : σ14 (57) = some (lc_aI 80 (N7)) := (fr9 _ (by omega) (by omega)).trans hz_57
    have hsc := lc_sv_c (m := m) (d := d.toNat) (f := f) (q := q) hs
    have hfn := lc_fnd_c (a := (lc_sv m d.toNat f s q)) hsc.1
    refine lc_goto (tgt := 19) dX11_best_14 (by decide) ?_
    exact lc_iret dX11_best_19 rfl (Nat.le_of_ble_eq_true rfl) (Nat.le_of_ble_eq_true rfl) (hQ _ _ _ (by rw [lc_best, if_neg (show ¬ (d < 1 ∨ 2 < d) from by omega)]; exact ⟨lc_some (show lc_fnd (lc_sv m d.toNat f s q) = if (lc_sv m d.toNat f s q).2 < 0 then -105 else (lc_sv m d.toNat f s q).2 from by split <;> omega), rfl, lc_MI_mk h10 h16 h11 h17 h18 h19 h20 h21 (hR) (hRP) (hP) (hT) (hjs) (hjr), (fun i _ => (fr9 i (by omega) (by omega)))⟩))

set_option maxRecDepth 100000 in
set_option maxHeartbeats 600000 in
theorem lc_cX11_look (l : Launch) (n : Nat) (f : Int → Int) (s q m mo ca ct : Int) (po : Int → Int) (P : lc_St) (H : Nat → lc_St) (k : Nat) (tx : Int → Int) (z : Int) (bs bt : Bool) (sn sr : Int) (d : Int) (σ : lc_S)  (hI : lc_MI σ ((f, s, q, m, mo, ca, ct, po), P, H, k, tx, z, bs, bt, sn, sr)) (hw : lc_wf ((f, s, q, m, mo, ca, ct, po), P, H, k, tx, z, bs, bt, sn, sr)) (hR_d : -2147483648 ≤ d ∧ d < 2147483648) : lc_Con l yX11_look cX11_look 2 (some .int) (lc_Rd 6) [.ref (50), .int (lc_i (d))] n σ (fun v n2 σ2 => v = some (.int (lc_i ((lc_look ((f, s, q, m, mo, ca, ct, po), P, H, k, tx, z, bs, bt, sn, sr) d).2))) ∧ n = n2 ∧ lc_MI σ2 ((lc_look ((f, s, q, m, mo, ca, ct, po), P, H, k, tx, z, bs, bt, sn, sr) d).1) ∧ ∀ i : Nat, i < 50 → σ2 i = σ i) := by
  obtain ⟨⟨hf9, hs9, hq9, hm9, hct9, hpo9, hkey9⟩, hwP, hwH, hk4, hz, htx⟩ := hw
  have hf : ∀ j : Int, 0 ≤ j → j < 36 → 0 ≤ f j ∧ f j ≤ 2 := hf9
  have hs : 1 ≤ s ∧ s ≤ 2 := hs9
  have hq : 0 ≤ q ∧ q ≤ 60 := hq9
  have hm : 4 ≤ m ∧ m ≤ 60 := hm9
  have hct : 1 ≤ ct ∧ ct ≤ 60 := hct9
  have hpo : ∀ i : Int, 0 ≤ i → i < ct → 0 ≤ po i ∧ po i < 450283905890997363 := hpo9
  have hkey : po (ct - 1) = lc_key f s 36 := hkey9
  obtain ⟨N1, N2, N3, N4, N5, N6, N7, at9, js, jr, w1, w2, w3, bw, hc50, hc51, hc52, hc53, hc54, hc55, hc56, hc57, hR, hRP, hP, hT, hjs, hjr⟩ := hI
  have hR : lc_RM N1 (f, s, q, m, mo, ca, ct, po) := hR
  have hH60 : ∀ j : Nat, j < k → (H j).2.2.2.2.2.2.1 ≤ 60 := fun j hj => (hwH j hj).2.2.2.2.1.2
  obtain ⟨h0R, h1R, h2R, h3R, h4R, h5R, h6R, h7R⟩ := id hR
  have h0R : N1 0 = s := h0R
  have h1R : N1 1 = q := h1R
  have h2R : N1 2 = mo := h2R
  have h3R : N1 3 = ca := h3R
  have h4R : N1 4 = m := h4R
  have h5R : N1 5 = ct := h5R
  have h6R : ∀ p : Int, 0 ≤ p → p < 36 → N1 (6 + p) = f p := h6R
  have hz_50 : σ (50) = some (.inr (11, [.ref (51), .ref (52), .ref (53), .ref (54), .ref (55), .int (lc_i ((k : Int))), .ref (56), .int (lc_i (if bs = true then 1 else 0)), .ref (57), .int (lc_i (z)), .int (lc_i (at9)), .int (lc_i (js)), .int (lc_i (jr)), .int (lc_i (w1)), .int (lc_i (w2)), .int (lc_i (w3)), .int (lc_i (bw))]) : lc_Cel) := hc50
  have hz_51 : σ (51) = some (lc_aI 222 (N1)) := hc51
  have hz_52 : σ (52) = some (lc_aI 222 (N2)) := hc52
  have hz_53 : σ (53) = some (lc_aI 222 (N3)) := hc53
  have hz_54 : σ (54) = some (lc_aI 222 (N4)) := hc54
  have hz_55 : σ (55) = some (lc_aI 888 (N5)) := hc55
  have hz_56 : σ (56) = some (lc_aI 222 (N6)) := hc56
  have hz_57 : σ (57) = some (lc_aI 80 (N7)) := hc57
  refine lc_con RX11 false (by decide) rfl (fun h => absurd h (by decide)) (Nat.le_of_ble_eq_true rfl) ?_
  suffices H : ∀ Q : lc_QT, (∀ v n2 σ2, (fun v n2 σ2 => v = some (.int (lc_i ((lc_look ((f, s, q, m, mo, ca, ct, po), P, H, k, tx, z, bs, bt, sn, sr) d).2))) ∧ n = n2 ∧ lc_MI σ2 ((lc_look ((f, s, q, m, mo, ca, ct, po), P, H, k, tx, z, bs, bt, sn, sr) d).1) ∧ ∀ i : Nat, i < 50 → σ2 i = σ i : lc_QT) v n2 σ2 → Q v n2 σ2) → lc_V l RX11 cX11_look 2 (some .int) false (lc_Rd 6) (lc_G Q 0 0) lc_E0 0 0 n 0 [(0, .ref (50)), (1, .int (lc_i (d)))] [] σ from H _ (fun _ _ _ h => h)
  intro Q hQ
  refine lc_iload_n dX11_look_0 rfl 1 rfl ?_
  refine lc_iconst dX11_look_1 ?_
  refine lc_iconst dX11_look_2 ?_
  refine lc_callS (As := [.int (lc_i (d)), .int (lc_i (0)), .int (lc_i (2))]) (stk := []) dX11_look_3 lc_mX11_41 lc_yX11_in (lc_cX11_in l n (d) (0) (2) σ (by omega) (by omega) (by omega)) rfl ⟨Nat.le_of_ble_eq_true rfl, Nat.le_of_ble_eq_true rfl⟩ ⟨Nat.le_of_ble_eq_true rfl, Nat.le_of_ble_eq_true rfl⟩ rfl (Nat.le_of_ble_eq_true rfl) (fun v1 n2 σ3 q4 => ?_)
  obtain ⟨rfl, rfl, rfl⟩ := q4
  refine lc_if_neB (tgt := 12) dX11_look_6 (by decide) (fun h_6_4 => ?_) (fun h_6_4 => ?_)
  · skip
    refine lc_iload_n dX11_look_12 rfl 1 rfl ?_
    refine lc_if_eq (tgt := 26) dX11_look_13 (by decide) (by omega) (fun h_13_5 => ?_) (fun h_13_5 => ?_)
    · skip
      refine lc_aload_n dX11_look_26 rfl 0 rfl ?_
      refine lc_get dX11_look_27 lc_fX11_7 hz_50 rfl ?_
      refine lc_callS (As := [.ref (51)]) (stk := []) dX11_look_30 lc_mX11_125 lc_yX11_worth (lc_cX11_worth l n (51) (N1) (f) (s) (q) (m) (mo) (ca) (ct) (po) σ hz_51 (hf) (hs) (hR)) rfl ⟨Nat.le_of_ble_eq_true rfl, Nat.le_of_ble_eq_true rfl⟩ ⟨Nat.le_of_ble_eq_true rfl, Nat.le_of_ble_eq_true rfl⟩ rfl (Nat.le_of_ble_eq_true rfl) (fun v7 n8 σ9 q10 => ?_)
      obtain ⟨rfl, rfl, rfl⟩ := q10
      exact lc_iret dX11_look_33 rfl (Nat.le_of_ble_eq_true rfl) (Nat.le_of_ble_eq_true rfl) (hQ _ _ _ (by rw [lc_look, if_neg (show ¬ (d < 0 ∨ 2 < d) from by omega)]; exact ⟨lc_some (show lc_wth f s = (lc_sv m d.toNat f s q).1 from by rw [show d.toNat = 0 from by omega]; rfl), rfl, lc_MI_mk hz_50 hz_51 hz_52 hz_53 hz_54 hz_55 hz_56 hz_57 (hR) (hRP) (hP) (hT) (hjs) (hjr), (fun i _ => rfl)⟩))
    · skip
      refine lc_aload_n dX11_look_16 rfl 0 rfl ?_
      refine lc_iload_n dX11_look_17 rfl 1 rfl ?_
      refine lc_callV (As := [.int (lc_i (d))]) (stk := []) (b := 50) dX11_look_18 lc_mX11_134 lc_yX11_bestOf hz_50 rfl (lc_cX11_bestOf l n (N1) (f) (s) (q) (m) (mo) (ca) (ct) (po) ((k : Int)) (bs) (z) (at9) (js) (jr) (w1) (w2) (w3) (bw) (N2) (d) σ hz_50 hz_51 hz_52 (hf) (hs) (by omega) (hq) (by omega) (hR) (by omega)) rfl ⟨Nat.le_of_ble_eq_true rfl, Nat.le_of_ble_eq_true rfl⟩ ⟨Nat.le_of_ble_eq_true rfl, Nat.le_of_ble_eq_true rfl⟩ rfl (Nat.le_of_ble_eq_true rfl) (fun v17 n18 σ19 q20 => ?_)
      obtain ⟨z11, z12, g13, rfl, rfl, h15, h16, fr14⟩ := q20
      have h21 : σ19 (51) = some (lc_aI 222 (N1)) := (fr14 _ (by omega) (by omega)).trans hz_51
      have h22 : σ19 (53) = some (lc_aI 222 (N3)) := (fr14 _ (by omega) (by omega)).trans hz_53
      have h23 : σ19 (54) = some (lc_aI 222 (N4)) := (fr14 _ (by omega) (by omega)).trans hz_54
      have h24 : σ19 (55) = some (lc_aI 888 (N5)) := (fr14 _ (by omega) (by omega)).trans hz_55
      have h25 : σ19 (56) = some (lc_aI 222 (N6)) := (fr14 _ (by omega) (by omega)).trans hz_56
      have h26 : σ19 (57) = some (lc_aI 80 (N7)) := (fr14 _ (by omega) (by omega)).trans hz_57
      have hsc := lc_sv_c (m := m) (d := d.toNat) (f := f) (q := q) hs
      have hfn := lc_fnd_c (a := (lc_sv m d.toNat f s q)) hsc.1
      refine lc_bipush dX11_look_21 (by decide) ?_
      refine lc_icmp_ne (tgt := 34) dX11_look_23 (by decide) (by omega) (fun h_23_26 => ?_) (fun h_23_26 => ?_)
      · skip
        refine lc_aload_n dX11_look_34 rfl 0 rfl ?_
        refine lc_get dX11_look_35 lc_fX11_128 h15 rfl ?_
        exact lc_iret dX11_look_38 rfl (Nat.le_of_ble_eq_true rfl) (Nat.le_of_ble_eq_true rfl) (hQ _ _ _ (by rw [lc_look, if_neg (show ¬ (d < 0 ∨ 2 < d) from by omega)]; exact ⟨rfl, rfl, lc_MI_mk h15 h21 h16 h22 h23 h24 h25 h26 (hR) (hRP) (hP) (hT) (hjs) (hjr), (fun i _ => (fr14 i (by omega) (by omega)))⟩))
      · skip
        refine lc_aload_n dX11_look_26 rfl 0 rfl ?_
        refine lc_get dX11_look_27 lc_fX11_7 h15 rfl ?_
        refine lc_callS (As := [.ref (51)]) (stk := []) dX11_look_30 lc_mX11_125 lc_yX11_worth (lc_cX11_worth l n (51) (N1) (f) (s) (q) (m) (mo) (ca) (ct) (po) σ19 h21 (hf) (hs) (hR)) rfl ⟨Nat.le_of_ble_eq_true rfl, Nat.le_of_ble_eq_true rfl⟩ ⟨Nat.le_of_ble_eq_true rfl, Nat.le_of_ble_eq_true rfl⟩ rfl (Nat.le_of_ble_eq_true rfl) (fun v28 n29 σ30 q31 => ?_)
        obtain ⟨rfl, rfl, rfl⟩ := q31
        exact lc_iret dX11_look_33 rfl (Nat.le_of_ble_eq_true rfl) (Nat.le_of_ble_eq_true rfl) (hQ _ _ _ (by rw [lc_look, if_neg (show ¬ (d < 0 ∨ 2 < d) from by omega)]; exact ⟨lc_some (show lc_wth f s = (lc_sv m d.toNat f s q).1 from (lc_sv_w (by omega) (by omega)).symm), rfl, lc_MI_mk h15 h21 h16 h22 h23 h24 h25 h26 (hR) (hRP) (hP) (hT) (hjs) (hjr), (fun i _ => (fr14 i (by omega) (by omega)))⟩))
  · skip
    refine lc_bipush dX11_look_9 (by decide) ?_
    exact lc_iret dX11_look_11 rfl (Nat.le_of_ble_eq_true rfl) (Nat.le_of_ble_eq_true rfl) (hQ _ _ _ (by rw [lc_look, if_pos (show d < 0 ∨ 2 < d from by omega)]; exact ⟨rfl, rfl, lc_MI_mk hz_50 hz_51 hz_52 hz_53 hz_54 hz_55 hz_56 hz_57 (hR) (hRP) (hP) (hT) (hjs) (hjr), (fun i _ => rfl)⟩))

set_option maxRecDepth 100000 in
set_option maxHeartbeats 600000 in
theorem lc_cX11_point (l : Launch) (n : Nat) (f : Int → Int) (s q m mo ca ct : Int) (po : Int → Int) (P : lc_St) (H : Nat → lc_St) (k : Nat) (tx : Int → Int) (z : Int) (bs bt : Bool) (sn sr : Int) (x wv : Int) (σ : lc_S)  (hI : lc_MI σ ((f, s, q, m, mo, ca, ct, po), P, H, k, tx, z, bs, bt, sn, sr)) (hw : lc_wf ((f, s, q, m, mo, ca, ct, po), P, H, k, tx, z, bs, bt, sn, sr)) (hR_x : -2147483648 ≤ x ∧ x < 2147483648) (hR_wv : -2147483648 ≤ wv ∧ wv < 2147483648) : lc_Con l yX11_point cX11_point 4 (some .int) (lc_Rd 5) [.ref (50), .int (lc_i (x)), .int (lc_i (wv))] n σ (fun v n2 σ2 => v = some (.int (lc_i ((lc_pnt ((f, s, q, m, mo, ca, ct, po), P, H, k, tx, z, bs, bt, sn, sr) x wv).2))) ∧ n = n2 ∧ lc_MI σ2 ((lc_pnt ((f, s, q, m, mo, ca, ct, po), P, H, k, tx, z, bs, bt, sn, sr) x wv).1) ∧ ∀ i : Nat, i < 50 → σ2 i = σ i) := by
  obtain ⟨⟨hf9, hs9, hq9, hm9, hct9, hpo9, hkey9⟩, hwP, hwH, hk4, hz, htx⟩ := hw
  have hf : ∀ j : Int, 0 ≤ j → j < 36 → 0 ≤ f j ∧ f j ≤ 2 := hf9
  have hs : 1 ≤ s ∧ s ≤ 2 := hs9
  have hq : 0 ≤ q ∧ q ≤ 60 := hq9
  have hm : 4 ≤ m ∧ m ≤ 60 := hm9
  have hct : 1 ≤ ct ∧ ct ≤ 60 := hct9
  have hpo : ∀ i : Int, 0 ≤ i → i < ct → 0 ≤ po i ∧ po i < 450283905890997363 := hpo9
  have hkey : po (ct - 1) = lc_key f s 36 := hkey9
  obtain ⟨N1, N2, N3, N4, N5, N6, N7, at9, js, jr, w1, w2, w3, bw, hc50, hc51, hc52, hc53, hc54, hc55, hc56, hc57, hR, hRP, hP, hT, hjs, hjr⟩ := hI
  have hR : lc_RM N1 (f, s, q, m, mo, ca, ct, po) := hR
  have hH60 : ∀ j : Nat, j < k → (H j).2.2.2.2.2.2.1 ≤ 60 := fun j hj => (hwH j hj).2.2.2.2.1.2
  obtain ⟨h0R, h1R, h2R, h3R, h4R, h5R, h6R, h7R⟩ := id hR
  have h0R : N1 0 = s := h0R
  have h1R : N1 1 = q := h1R
  have h2R : N1 2 = mo := h2R
  have h3R : N1 3 = ca := h3R
  have h4R : N1 4 = m := h4R
  have h5R : N1 5 = ct := h5R
  have h6R : ∀ p : Int, 0 ≤ p → p < 36 → N1 (6 + p) = f p := h6R
  have hz_50 : σ (50) = some (.inr (11, [.ref (51), .ref (52), .ref (53), .ref (54), .ref (55), .int (lc_i ((k : Int))), .ref (56), .int (lc_i (if bs = true then 1 else 0)), .ref (57), .int (lc_i (z)), .int (lc_i (at9)), .int (lc_i (js)), .int (lc_i (jr)), .int (lc_i (w1)), .int (lc_i (w2)), .int (lc_i (w3)), .int (lc_i (bw))]) : lc_Cel) := hc50
  have hz_51 : σ (51) = some (lc_aI 222 (N1)) := hc51
  have hz_52 : σ (52) = some (lc_aI 222 (N2)) := hc52
  have hz_53 : σ (53) = some (lc_aI 222 (N3)) := hc53
  have hz_54 : σ (54) = some (lc_aI 222 (N4)) := hc54
  have hz_55 : σ (55) = some (lc_aI 888 (N5)) := hc55
  have hz_56 : σ (56) = some (lc_aI 222 (N6)) := hc56
  have hz_57 : σ (57) = some (lc_aI 80 (N7)) := hc57
  refine lc_con RX11 false (by decide) rfl (fun h => absurd h (by decide)) (Nat.le_of_ble_eq_true rfl) ?_
  suffices H : ∀ Q : lc_QT, (∀ v n2 σ2, (fun v n2 σ2 => v = some (.int (lc_i ((lc_pnt ((f, s, q, m, mo, ca, ct, po), P, H, k, tx, z, bs, bt, sn, sr) x wv).2))) ∧ n = n2 ∧ lc_MI σ2 ((lc_pnt ((f, s, q, m, mo, ca, ct, po), P, H, k, tx, z, bs, bt, sn, sr) x wv).1) ∧ ∀ i : Nat, i < 50 → σ2 i = σ i : lc_QT) v n2 σ2 → Q v n2 σ2) → lc_V l RX11 cX11_point 4 (some .int) false (lc_Rd 5) (lc_G Q 0 0) lc_E0 0 0 n 0 [(0, .ref (50)), (1, .int (lc_i (x))), (2, .int (lc_i (wv)))] [] σ from H _ (fun _ _ _ h => h)
  intro Q hQ
  refine lc_iload_n dX11_point_0 rfl 1 rfl ?_
  refine lc_callS (As := [.int (lc_i (x))]) (stk := []) dX11_point_1 lc_mX11_106 lc_yX11_isPoint (lc_cX11_isPoint l n (x) σ (by omega)) rfl ⟨Nat.le_of_ble_eq_true rfl, Nat.le_of_ble_eq_true rfl⟩ ⟨Nat.le_of_ble_eq_true rfl, Nat.le_of_ble_eq_true rfl⟩ rfl (Nat.le_of_ble_eq_true rfl) (fun v1 n2 σ3 q4 => ?_)
  obtain ⟨rfl, rfl, rfl⟩ := q4
  refine lc_if_neB (tgt := 10) dX11_point_4 (by decide) (fun h_4_4 => ?_) (fun h_4_4 => ?_)
  · skip
    refine lc_iload_n dX11_point_10 rfl 2 rfl ?_
    refine lc_iconst dX11_point_11 ?_
    refine lc_iconst dX11_point_12 ?_
    refine lc_callS (As := [.int (lc_i (wv)), .int (lc_i (0)), .int (lc_i (4))]) (stk := []) dX11_point_13 lc_mX11_41 lc_yX11_in (lc_cX11_in l n (wv) (0) (4) σ (by omega) (by omega) (by omega)) rfl ⟨Nat.le_of_ble_eq_true rfl, Nat.le_of_ble_eq_true rfl⟩ ⟨Nat.le_of_ble_eq_true rfl, Nat.le_of_ble_eq_true rfl⟩ rfl (Nat.le_of_ble_eq_true rfl) (fun v6 n7 σ8 q9 => ?_)
    obtain ⟨rfl, rfl, rfl⟩ := q9
    refine lc_if_neB (tgt := 22) dX11_point_16 (by decide) (fun h_16_9 => ?_) (fun h_16_9 => ?_)
    · skip
      refine lc_aload_n dX11_point_22 rfl 0 rfl ?_
      refine lc_get dX11_point_23 lc_fX11_7 hz_50 rfl ?_
      refine lc_bipush dX11_point_26 (by decide) ?_
      refine lc_iload_n dX11_point_28 rfl 1 rfl ?_
      refine lc_iadd dX11_point_29 ?_
      refine lc_iald dX11_point_30 hz_51 (by omega) (by decide) ?_
      refine lc_top (congrArg (fun z => Value.int (lc_i z)) (show ((N1) ((6) + (x)) : Int) = f x from h6R x (by omega) (by omega))) ?_
      refine lc_istore_n (lv' := [(0, .ref (50)), (1, .int (lc_i (x))), (2, .int (lc_i (wv))), (3, .int (lc_i (f x)))]) dX11_point_31 rfl (by decide) rfl ?_
      have hfx := hf x (by omega) (by omega)
      refine lc_iload_n dX11_point_32 rfl 2 rfl ?_
      refine lc_if_eq (tgt := 40) dX11_point_33 (by decide) (by omega) (fun h_33_10 => ?_) (fun h_33_10 => ?_)
      · skip
        refine lc_iload_n dX11_point_40 rfl 3 rfl ?_
        exact lc_iret dX11_point_41 rfl (Nat.le_of_ble_eq_true rfl) (Nat.le_of_ble_eq_true rfl) (hQ _ _ _ (by rw [lc_pnt, if_neg (show ¬ (¬ (0 ≤ x ∧ x < 36)) from by omega), if_pos (show wv = 0 from by omega)]; exact ⟨rfl, rfl, lc_MI_mk hz_50 hz_51 hz_52 hz_53 hz_54 hz_55 hz_56 hz_57 (hR) (hRP) (hP) (hT) (hjs) (hjr), (fun i _ => rfl)⟩))
      · skip
        refine lc_iload_n dX11_point_36 rfl 3 rfl ?_
        refine lc_if_ne (tgt := 42) dX11_point_37 (by decide) (by omega) (fun h_37_11 => ?_) (fun h_37_11 => ?_)
        · skip
          refine lc_iload_n dX11_point_42 rfl 2 rfl ?_
          refine lc_iconst dX11_point_43 ?_
          refine lc_icmp_ne (tgt := 62) dX11_point_44 (by decide) (by omega) (fun h_44_12 => ?_) (fun h_44_12 => ?_)
          · skip
            refine lc_iload_n dX11_point_62 rfl 2 rfl ?_
            refine lc_iconst dX11_point_63 ?_
            refine lc_icmp_ne (tgt := 75) dX11_point_64 (by decide) (by omega) (fun h_64_13 => ?_) (fun h_64_13 => ?_)
            · skip
              refine lc_iload_n dX11_point_75 rfl 2 rfl ?_
              refine lc_iconst dX11_point_76 ?_
              refine lc_icmp_ne (tgt := 95) dX11_point_77 (by decide) (by omega) (fun h_77_14 => ?_) (fun h_77_14 => ?_)
              · skip
                refine lc_aload_n dX11_point_95 rfl 0 rfl ?_
                refine lc_iload_n dX11_point_96 rfl 1 rfl ?_
                refine lc_callV (As := [.int (lc_i (x))]) (stk := []) (b := 50) dX11_point_97 lc_mX11_165 lc_yX11_quietOnes hz_50 rfl (lc_cX11_quietOnes l n (N1) (f) (s) (q) (m) (mo) (ca) (ct) (po) ((k : Int)) (bs) (z) (at9) (js) (jr) (w1) (w2) (w3) (bw) (x) σ hz_50 hz_51 (hf) (hR) (by omega) (by omega)) rfl ⟨Nat.le_of_ble_eq_true rfl, Nat.le_of_ble_eq_true rfl⟩ ⟨Nat.le_of_ble_eq_true rfl, Nat.le_of_ble_eq_true rfl⟩ rfl (Nat.le_of_ble_eq_true rfl) (fun v16 n17 σ18 q19 => ?_)
                obtain ⟨rfl, rfl, rfl⟩ := q19
                exact lc_iret dX11_point_100 rfl (Nat.le_of_ble_eq_true rfl) (Nat.le_of_ble_eq_true rfl) (hQ _ _ _ (by rw [lc_pnt, if_neg (show ¬ (¬ (0 ≤ x ∧ x < 36)) from by omega), if_neg (show ¬ (wv = 0) from by omega), if_neg (show ¬ (wv = 1) from by omega), if_neg (show ¬ (wv = 2) from by omega), if_neg (show ¬ (wv = 3) from by omega), if_pos (show wv = 4 from by omega), if_neg (show ¬ (f x = 0) from by omega)]; exact ⟨rfl, rfl, lc_MI_mk hz_50 hz_51 hz_52 hz_53 hz_54 hz_55 hz_56 hz_57 (hR) (hRP) (hP) (hT) (hjs) (hjr), (fun i _ => rfl)⟩))
              · skip
                refine lc_aload_n dX11_point_80 rfl 0 rfl ?_
                refine lc_aload_n dX11_point_81 rfl 0 rfl ?_
                refine lc_get dX11_point_82 lc_fX11_7 hz_50 rfl ?_
                refine lc_iload_n dX11_point_85 rfl 1 rfl ?_
                refine lc_callV (As := [.ref (51), .int (lc_i (x))]) (stk := []) (b := 50) dX11_point_86 lc_mX11_98 lc_yX11_targets hz_50 rfl (lc_cX11_targets l n (51) (N1) (f) (s) (q) (m) (mo) (ca) (ct) (po) ((k : Int)) (bs) (z) (at9) (js) (jr) (w1) (w2) (w3) (bw) (x) σ hz_50 hz_51 (by omega) (hf) (hR) (by omega)) rfl ⟨Nat.le_of_ble_eq_true rfl, Nat.le_of_ble_eq_true rfl⟩ ⟨Nat.le_of_ble_eq_true rfl, Nat.le_of_ble_eq_true rfl⟩ rfl (Nat.le_of_ble_eq_true rfl) (fun v26 n27 σ28 q29 => ?_)
                obtain ⟨set24, z20, z21, rfl, rfl, hs25, h23, fr22⟩ := q29
                have h30 : σ28 (51) = some (lc_aI 222 (N1)) := (fr22 _ (by omega)).trans hz_51
                have h31 : σ28 (52) = some (lc_aI 222 (N2)) := (fr22 _ (by omega)).trans hz_52
                have h32 : σ28 (53) = some (lc_aI 222 (N3)) := (fr22 _ (by omega)).trans hz_53
                have h33 : σ28 (54) = some (lc_aI 222 (N4)) := (fr22 _ (by omega)).trans hz_54
                have h34 : σ28 (55) = some (lc_aI 888 (N5)) := (fr22 _ (by omega)).trans hz_55
                have h35 : σ28 (56) = some (lc_aI 222 (N6)) := (fr22 _ (by omega)).trans hz_56
                have h36 : σ28 (57) = some (lc_aI 80 (N7)) := (fr22 _ (by omega)).trans hz_57
                refine lc_callS (As := [.long (set24)]) (stk := []) dX11_point_89 lc_mX11_161 lc_yX11_ones (lc_cX11_ones l n (set24) (fun j : Int => lc_cap (f) (x) j) σ28 hs25) rfl ⟨Nat.le_of_ble_eq_true rfl, Nat.le_of_ble_eq_true rfl⟩ ⟨Nat.le_of_ble_eq_true rfl, Nat.le_of_ble_eq_true rfl⟩ rfl (Nat.le_of_ble_eq_true rfl) (fun v37 n38 σ39 q40 => ?_)
                obtain ⟨rfl, rfl, rfl⟩ := q40
                refine lc_goto (tgt := 100) dX11_point_92 (by decide) ?_
                exact lc_iret dX11_point_100 rfl (Nat.le_of_ble_eq_true rfl) (Nat.le_of_ble_eq_true rfl) (hQ _ _ _ (by rw [lc_pnt, if_neg (show ¬ (¬ (0 ≤ x ∧ x < 36)) from by omega), if_neg (show ¬ (wv = 0) from by omega), if_neg (show ¬ (wv = 1) from by omega), if_neg (show ¬ (wv = 2) from by omega), if_pos (show wv = 3 from by omega)]; exact ⟨rfl, rfl, lc_MI_mk h23 h30 h31 h32 h33 h34 h35 h36 (hR) (hRP) (hP) (hT) (hjs) (hjr), (fun i _ => (fr22 i (by omega)))⟩))
            · skip
              refine lc_aload_n dX11_point_67 rfl 0 rfl ?_
              refine lc_iload_n dX11_point_68 rfl 1 rfl ?_
              refine lc_callV (As := [.int (lc_i (x))]) (stk := []) (b := 50) dX11_point_69 lc_mX11_158 lc_yX11_covered hz_50 rfl (lc_cX11_covered l n (N1) (f) (s) (q) (m) (mo) (ca) (ct) (po) ((k : Int)) (bs) (z) (at9) (js) (jr) (w1) (w2) (w3) (bw) (N3) (x) σ hz_50 hz_51 hz_53 (hf) (by omega) (hR) (by omega) (by omega)) rfl ⟨Nat.le_of_ble_eq_true rfl, Nat.le_of_ble_eq_true rfl⟩ ⟨Nat.le_of_ble_eq_true rfl, Nat.le_of_ble_eq_true rfl⟩ rfl (Nat.le_of_ble_eq_true rfl) (fun v47 n48 σ49 q50 => ?_)
              obtain ⟨z41, z42, g43, rfl, rfl, h45, h46, fr44⟩ := q50
              have h51 : σ49 (51) = some (lc_aI 222 (N1)) := (fr44 _ (by omega) (by omega)).trans hz_51
              have h52 : σ49 (52) = some (lc_aI 222 (N2)) := (fr44 _ (by omega) (by omega)).trans hz_52
              have h53 : σ49 (54) = some (lc_aI 222 (N4)) := (fr44 _ (by omega) (by omega)).trans hz_54
              have h54 : σ49 (55) = some (lc_aI 888 (N5)) := (fr44 _ (by omega) (by omega)).trans hz_55
              have h55 : σ49 (56) = some (lc_aI 222 (N6)) := (fr44 _ (by omega) (by omega)).trans hz_56
              have h56 : σ49 (57) = some (lc_aI 80 (N7)) := (fr44 _ (by omega) (by omega)).trans hz_57
              refine lc_goto (tgt := 100) dX11_point_72 (by decide) ?_
              exact lc_iret dX11_point_100 rfl (Nat.le_of_ble_eq_true rfl) (Nat.le_of_ble_eq_true rfl) (hQ _ _ _ (by rw [lc_pnt, if_neg (show ¬ (¬ (0 ≤ x ∧ x < 36)) from by omega), if_neg (show ¬ (wv = 0) from by omega), if_neg (show ¬ (wv = 1) from by omega), if_pos (show wv = 2 from by omega), if_neg (show ¬ (f x = 0) from by omega)]; exact ⟨rfl, rfl, lc_MI_mk h45 h51 h52 h46 h53 h54 h55 h56 (hR) (hRP) (hP) (hT) (hjs) (hjr), (fun i _ => (fr44 i (by omega) (by omega)))⟩))
          · skip
            refine lc_aload_n dX11_point_47 rfl 0 rfl ?_
            refine lc_aload_n dX11_point_48 rfl 0 rfl ?_
            refine lc_get dX11_point_49 lc_fX11_7 hz_50 rfl ?_
            refine lc_iload_n dX11_point_52 rfl 1 rfl ?_
            refine lc_iconst dX11_point_53 ?_
            refine lc_iload_n dX11_point_54 rfl 3 rfl ?_
            refine lc_isub dX11_point_55 ?_
            refine lc_callV (As := [.ref (51), .int (lc_i (x)), .int (lc_i ((3) - (f x)))]) (stk := []) (b := 50) dX11_point_56 lc_mX11_154 lc_yX11_captors hz_50 rfl (lc_cX11_captors l n (51) (N1) (f) (s) (q) (m) (mo) (ca) (ct) (po) ((k : Int)) (bs) (z) (at9) (js) (jr) (w1) (w2) (w3) (bw) (x) ((3) - (f x)) σ hz_50 hz_51 (by omega) (hf) (hR) (by omega) (by omega)) rfl ⟨Nat.le_of_ble_eq_true rfl, Nat.le_of_ble_eq_true rfl⟩ ⟨Nat.le_of_ble_eq_true rfl, Nat.le_of_ble_eq_true rfl⟩ rfl (Nat.le_of_ble_eq_true rfl) (fun v61 n62 σ63 q64 => ?_)
            obtain ⟨z57, z58, rfl, rfl, h60, fr59⟩ := q64
            have h65 : σ63 (51) = some (lc_aI 222 (N1)) := (fr59 _ (by omega)).trans hz_51
            have h66 : σ63 (52) = some (lc_aI 222 (N2)) := (fr59 _ (by omega)).trans hz_52
            have h67 : σ63 (53) = some (lc_aI 222 (N3)) := (fr59 _ (by omega)).trans hz_53
            have h68 : σ63 (54) = some (lc_aI 222 (N4)) := (fr59 _ (by omega)).trans hz_54
            have h69 : σ63 (55) = some (lc_aI 888 (N5)) := (fr59 _ (by omega)).trans hz_55
            have h70 : σ63 (56) = some (lc_aI 222 (N6)) := (fr59 _ (by omega)).trans hz_56
            have h71 : σ63 (57) = some (lc_aI 80 (N7)) := (fr59 _ (by omega)).trans hz_57
            refine lc_goto (tgt := 100) dX11_point_59 (by decide) ?_
            exact lc_iret dX11_point_100 rfl (Nat.le_of_ble_eq_true rfl) (Nat.le_of_ble_eq_true rfl) (hQ _ _ _ (by rw [lc_pnt, if_neg (show ¬ (¬ (0 ≤ x ∧ x < 36)) from by omega), if_neg (show ¬ (wv = 0) from by omega), if_pos (show wv = 1 from by omega)]; exact ⟨lc_some (lc_cap_o hf (by omega) rfl), rfl, lc_MI_mk h60 h65 h66 h67 h68 h69 h70 h71 (hR) (hRP) (hP) (hT) (hjs) (hjr), (fun i _ => (fr59 i (by omega)))⟩))
        · skip
          refine lc_iload_n dX11_point_40 rfl 3 rfl ?_
          exact lc_iret dX11_point_41 rfl (Nat.le_of_ble_eq_true rfl) (Nat.le_of_ble_eq_true rfl) (hQ _ _ _ (by rw [lc_pnt, if_neg (show ¬ (¬ (0 ≤ x ∧ x < 36)) from by omega), if_neg (show ¬ (wv = 0) from by omega)]; exact ⟨lc_some (lc_pv0 (show f x = 0 from by omega) (by omega)), rfl, lc_MI_mk hz_50 hz_51 hz_52 hz_53 hz_54 hz_55 hz_56 hz_57 (hR) (hRP) (hP) (hT) (hjs) (hjr), (fun i _ => rfl)⟩))
    · skip
      refine lc_bipush dX11_point_19 (by decide) ?_
      exact lc_iret dX11_point_21 rfl (Nat.le_of_ble_eq_true rfl) (Nat.le_of_ble_eq_true rfl) (hQ _ _ _ (by rw [lc_pnt, if_neg (show ¬ (¬ (0 ≤ x ∧ x < 36)) from by omega), if_neg (show ¬ (wv = 0) from by omega), if_neg (show ¬ (wv = 1) from by omega), if_neg (show ¬ (wv = 2) from by omega), if_neg (show ¬ (wv = 3) from by omega), if_neg (show ¬ (wv = 4) from by omega)]; exact ⟨rfl, rfl, lc_MI_mk hz_50 hz_51 hz_52 hz_53 hz_54 hz_55 hz_56 hz_57 (hR) (hRP) (hP) (hT) (hjs) (hjr), (fun i _ => rfl)⟩))
  · skip
    refine lc_bipush dX11_point_7 (by decide) ?_
    exact lc_iret dX11_point_9 rfl (Nat.le_of_ble_eq_true rfl) (Nat.le_of_ble_eq_true rfl) (hQ _ _ _ (by rw [lc_pnt, if_pos (show ¬ (0 ≤ x ∧ x < 36) from by omega)]; exact ⟨rfl, rfl, lc_MI_mk hz_50 hz_51 hz_52 hz_53 hz_54 hz_55 hz_56 hz_57 (hR) (hRP) (hP) (hT) (hjs) (hjr), (fun i _ => rfl)⟩))

set_option maxRecDepth 100000 in
set_option maxHeartbeats 600000 in
theorem lc_cX11_way (l : Launch) (n : Nat) (f : Int → Int) (s q m mo ca ct : Int) (po : Int → Int) (P : lc_St) (H : Nat → lc_St) (k : Nat) (tx : Int → Int) (z : Int) (bs bt : Bool) (sn sr : Int) (x y wv : Int) (σ : lc_S)  (hI : lc_MI σ ((f, s, q, m, mo, ca, ct, po), P, H, k, tx, z, bs, bt, sn, sr)) (hw : lc_wf ((f, s, q, m, mo, ca, ct, po), P, H, k, tx, z, bs, bt, sn, sr)) (hR_x : -2147483648 ≤ x ∧ x < 2147483648) (hR_y : -2147483648 ≤ y ∧ y < 2147483648) (hR_wv : -2147483648 ≤ wv ∧ wv < 2147483648) : lc_Con l yX11_way cX11_way 5 (some .int) (lc_Rd 3) [.ref (50), .int (lc_i (x)), .int (lc_i (y)), .int (lc_i (wv))] n σ (fun v n2 σ2 => v = some (.int (lc_i ((lc_way ((f, s, q, m, mo, ca, ct, po), P, H, k, tx, z, bs, bt, sn, sr) x y wv).2))) ∧ n = n2 ∧ lc_MI σ2 ((lc_way ((f, s, q, m, mo, ca, ct, po), P, H, k, tx, z, bs, bt, sn, sr) x y wv).1) ∧ ∀ i : Nat, i < 50 → σ2 i = σ i) := by
  obtain ⟨⟨hf9, hs9, hq9, hm9, hct9, hpo9, hkey9⟩, hwP, hwH, hk4, hz, htx⟩ := hw
  have hf : ∀ j : Int, 0 ≤ j → j < 36 → 0 ≤ f j ∧ f j ≤ 2 := hf9
  have hs : 1 ≤ s ∧ s ≤ 2 := hs9
  have hq : 0 ≤ q ∧ q ≤ 60 := hq9
  have hm : 4 ≤ m ∧ m ≤ 60 := hm9
  have hct : 1 ≤ ct ∧ ct ≤ 60 := hct9
  have hpo : ∀ i : Int, 0 ≤ i → i < ct → 0 ≤ po i ∧ po i < 450283905890997363 := hpo9
  have hkey : po (ct - 1) = lc_key f s 36 := hkey9
  obtain ⟨N1, N2, N3, N4, N5, N6, N7, at9, js, jr, w1, w2, w3, bw, hc50, hc51, hc52, hc53, hc54, hc55, hc56, hc57, hR, hRP, hP, hT, hjs, hjr⟩ := hI
  have hR : lc_RM N1 (f, s, q, m, mo, ca, ct, po) := hR
  have hH60 : ∀ j : Nat, j < k → (H j).2.2.2.2.2.2.1 ≤ 60 := fun j hj => (hwH j hj).2.2.2.2.1.2
  obtain ⟨h0R, h1R, h2R, h3R, h4R, h5R, h6R, h7R⟩ := id hR
  have h0R : N1 0 = s := h0R
  have h1R : N1 1 = q := h1R
  have h2R : N1 2 = mo := h2R
  have h3R : N1 3 = ca := h3R
  have h4R : N1 4 = m := h4R
  have h5R : N1 5 = ct := h5R
  have h6R : ∀ p : Int, 0 ≤ p → p < 36 → N1 (6 + p) = f p := h6R
  have hz_50 : σ (50) = some (.inr (11, [.ref (51), .ref (52), .ref (53), .ref (54), .ref (55), .int (lc_i ((k : Int))), .ref (56), .int (lc_i (if bs = true then 1 else 0)), .ref (57), .int (lc_i (z)), .int (lc_i (at9)), .int (lc_i (js)), .int (lc_i (jr)), .int (lc_i (w1)), .int (lc_i (w2)), .int (lc_i (w3)), .int (lc_i (bw))]) : lc_Cel) := hc50
  have hz_51 : σ (51) = some (lc_aI 222 (N1)) := hc51
  have hz_52 : σ (52) = some (lc_aI 222 (N2)) := hc52
  have hz_53 : σ (53) = some (lc_aI 222 (N3)) := hc53
  have hz_54 : σ (54) = some (lc_aI 222 (N4)) := hc54
  have hz_55 : σ (55) = some (lc_aI 888 (N5)) := hc55
  have hz_56 : σ (56) = some (lc_aI 222 (N6)) := hc56
  have hz_57 : σ (57) = some (lc_aI 80 (N7)) := hc57
  refine lc_con RX11 false (by decide) rfl (fun h => absurd h (by decide)) (Nat.le_of_ble_eq_true rfl) ?_
  suffices H : ∀ Q : lc_QT, (∀ v n2 σ2, (fun v n2 σ2 => v = some (.int (lc_i ((lc_way ((f, s, q, m, mo, ca, ct, po), P, H, k, tx, z, bs, bt, sn, sr) x y wv).2))) ∧ n = n2 ∧ lc_MI σ2 ((lc_way ((f, s, q, m, mo, ca, ct, po), P, H, k, tx, z, bs, bt, sn, sr) x y wv).1) ∧ ∀ i : Nat, i < 50 → σ2 i = σ i : lc_QT) v n2 σ2 → Q v n2 σ2) → lc_V l RX11 cX11_way 5 (some .int) false (lc_Rd 3) (lc_G Q 0 0) lc_E0 0 0 n 0 [(0, .ref (50)), (1, .int (lc_i (x))), (2, .int (lc_i (y))), (3, .int (lc_i (wv)))] [] σ from H _ (fun _ _ _ h => h)
  intro Q hQ
  refine lc_iload_n dX11_way_0 rfl 1 rfl ?_
  refine lc_callS (As := [.int (lc_i (x))]) (stk := []) dX11_way_1 lc_mX11_106 lc_yX11_isPoint (lc_cX11_isPoint l n (x) σ (by omega)) rfl ⟨Nat.le_of_ble_eq_true rfl, Nat.le_of_ble_eq_true rfl⟩ ⟨Nat.le_of_ble_eq_true rfl, Nat.le_of_ble_eq_true rfl⟩ rfl (Nat.le_of_ble_eq_true rfl) (fun v1 n2 σ3 q4 => ?_)
  obtain ⟨rfl, rfl, rfl⟩ := q4
  refine lc_if_eqB (tgt := 14) dX11_way_4 (by decide) (fun h_4_4 => ?_) (fun h_4_4 => ?_)
  · skip
    refine lc_bipush dX11_way_14 (by decide) ?_
    exact lc_iret dX11_way_16 rfl (Nat.le_of_ble_eq_true rfl) (Nat.le_of_ble_eq_true rfl) (hQ _ _ _ (by rw [lc_way, if_pos (show ¬ ((0 ≤ x ∧ x < 36) ∧ (0 ≤ y ∧ y < 36)) from by omega)]; exact ⟨rfl, rfl, lc_MI_mk hz_50 hz_51 hz_52 hz_53 hz_54 hz_55 hz_56 hz_57 (hR) (hRP) (hP) (hT) (hjs) (hjr), (fun i _ => rfl)⟩))
  · skip
    refine lc_iload_n dX11_way_7 rfl 2 rfl ?_
    refine lc_callS (As := [.int (lc_i (y))]) (stk := []) dX11_way_8 lc_mX11_106 lc_yX11_isPoint (lc_cX11_isPoint l n (y) σ (by omega)) rfl ⟨Nat.le_of_ble_eq_true rfl, Nat.le_of_ble_eq_true rfl⟩ ⟨Nat.le_of_ble_eq_true rfl, Nat.le_of_ble_eq_true rfl⟩ rfl (Nat.le_of_ble_eq_true rfl) (fun v6 n7 σ8 q9 => ?_)
    obtain ⟨rfl, rfl, rfl⟩ := q9
    refine lc_if_neB (tgt := 17) dX11_way_11 (by decide) (fun h_11_9 => ?_) (fun h_11_9 => ?_)
    · skip
      refine lc_iload_n dX11_way_17 rfl 3 rfl ?_
      refine lc_iconst dX11_way_18 ?_
      refine lc_iconst dX11_way_19 ?_
      refine lc_callS (As := [.int (lc_i (wv)), .int (lc_i (0)), .int (lc_i (4))]) (stk := []) dX11_way_20 lc_mX11_41 lc_yX11_in (lc_cX11_in l n (wv) (0) (4) σ (by omega) (by omega) (by omega)) rfl ⟨Nat.le_of_ble_eq_true rfl, Nat.le_of_ble_eq_true rfl⟩ ⟨Nat.le_of_ble_eq_true rfl, Nat.le_of_ble_eq_true rfl⟩ rfl (Nat.le_of_ble_eq_true rfl) (fun v11 n12 σ13 q14 => ?_)
      obtain ⟨rfl, rfl, rfl⟩ := q14
      refine lc_if_neB (tgt := 29) dX11_way_23 (by decide) (fun h_23_14 => ?_) (fun h_23_14 => ?_)
      · skip
        have hfx := hf x (by omega) (by omega)
        have hfy := hf y (by omega) (by omega)
        refine lc_aload_n dX11_way_29 rfl 0 rfl ?_
        refine lc_get dX11_way_30 lc_fX11_7 hz_50 rfl ?_
        refine lc_bipush dX11_way_33 (by decide) ?_
        refine lc_iload_n dX11_way_35 rfl 1 rfl ?_
        refine lc_iadd dX11_way_36 ?_
        refine lc_iald dX11_way_37 hz_51 (by omega) (by decide) ?_
        refine lc_top (congrArg (fun z => Value.int (lc_i z)) (show ((N1) ((6) + (x)) : Int) = f x from h6R x (by omega) (by omega))) ?_
        refine lc_if_le (tgt := 68) dX11_way_38 (by decide) (by omega) (fun h_38_15 => ?_) (fun h_38_15 => ?_)
        · skip
          refine lc_iconst dX11_way_68 ?_
          refine lc_istore (lv' := [(0, .ref (50)), (1, .int (lc_i (x))), (2, .int (lc_i (y))), (3, .int (lc_i (wv))), (4, .int (lc_i (0)))]) dX11_way_69 (by decide) rfl ?_
          refine lc_iload dX11_way_71 4 rfl ?_
          refine lc_if_eq (tgt := 91) dX11_way_73 (by decide) (by omega) (fun h_73_16 => ?_) (fun h_73_16 => ?_)
          · skip
            refine lc_bipush dX11_way_91 (by decide) ?_
            exact lc_iret dX11_way_93 rfl (Nat.le_of_ble_eq_true rfl) (Nat.le_of_ble_eq_true rfl) (hQ _ _ _ (by rw [lc_way, if_neg (show ¬ (¬ ((0 ≤ x ∧ x < 36) ∧ (0 ≤ y ∧ y < 36))) from by omega), if_neg (show ¬ (wv < 0 ∨ 4 < wv) from by omega), if_pos (show ¬ lc_cap f x y = true from fun q9 => by have q8 := (lc_cap_iff.mp q9).1; omega)]; exact ⟨rfl, rfl, lc_MI_mk hz_50 hz_51 hz_52 hz_53 hz_54 hz_55 hz_56 hz_57 (hR) (hRP) (hP) (hT) (hjs) (hjr), (fun i _ => rfl)⟩))
          · exact absurd h_73_16 (by decide)
        · skip
          refine lc_aload_n dX11_way_41 rfl 0 rfl ?_
          refine lc_get dX11_way_42 lc_fX11_7 hz_50 rfl ?_
          refine lc_bipush dX11_way_45 (by decide) ?_
          refine lc_iload_n dX11_way_47 rfl 2 rfl ?_
          refine lc_iadd dX11_way_48 ?_
          refine lc_iald dX11_way_49 hz_51 (by omega) (by decide) ?_
          refine lc_top (congrArg (fun z => Value.int (lc_i z)) (show ((N1) ((6) + (y)) : Int) = f y from h6R y (by omega) (by omega))) ?_
          refine lc_iconst dX11_way_50 ?_
          refine lc_aload_n dX11_way_51 rfl 0 rfl ?_
          refine lc_get dX11_way_52 lc_fX11_7 hz_50 rfl ?_
          refine lc_bipush dX11_way_55 (by decide) ?_
          refine lc_iload_n dX11_way_57 rfl 1 rfl ?_
          refine lc_iadd dX11_way_58 ?_
          refine lc_iald dX11_way_59 hz_51 (by omega) (by decide) ?_
          refine lc_top (congrArg (fun z => Value.int (lc_i z)) (show ((N1) ((6) + (x)) : Int) = f x from h6R x (by omega) (by omega))) ?_
          refine lc_isub dX11_way_60 ?_
          refine lc_icmp_ne (tgt := 68) dX11_way_61 (by decide) (by omega) (fun h_61_17 => ?_) (fun h_61_17 => ?_)
          · skip
            refine lc_iconst dX11_way_68 ?_
            refine lc_istore (lv' := [(0, .ref (50)), (1, .int (lc_i (x))), (2, .int (lc_i (y))), (3, .int (lc_i (wv))), (4, .int (lc_i (0)))]) dX11_way_69 (by decide) rfl ?_
            refine lc_iload dX11_way_71 4 rfl ?_
            refine lc_if_eq (tgt := 91) dX11_way_73 (by decide) (by omega) (fun h_73_18 => ?_) (fun h_73_18 => ?_)
            · skip
              refine lc_bipush dX11_way_91 (by decide) ?_
              exact lc_iret dX11_way_93 rfl (Nat.le_of_ble_eq_true rfl) (Nat.le_of_ble_eq_true rfl) (hQ _ _ _ (by rw [lc_way, if_neg (show ¬ (¬ ((0 ≤ x ∧ x < 36) ∧ (0 ≤ y ∧ y < 36))) from by omega), if_neg (show ¬ (wv < 0 ∨ 4 < wv) from by omega), if_pos (show ¬ lc_cap f x y = true from fun q9 => by have q8 := (lc_cap_iff.mp q9).1; omega)]; exact ⟨rfl, rfl, lc_MI_mk hz_50 hz_51 hz_52 hz_53 hz_54 hz_55 hz_56 hz_57 (hR) (hRP) (hP) (hT) (hjs) (hjr), (fun i _ => rfl)⟩))
            · exact absurd h_73_18 (by decide)
          · skip
            refine lc_iconst dX11_way_64 ?_
            refine lc_goto (tgt := 69) dX11_way_65 (by decide) ?_
            refine lc_istore (lv' := [(0, .ref (50)), (1, .int (lc_i (x))), (2, .int (lc_i (y))), (3, .int (lc_i (wv))), (4, .int (lc_i (1)))]) dX11_way_69 (by decide) rfl ?_
            refine lc_iload dX11_way_71 4 rfl ?_
            refine lc_if_eq (tgt := 91) dX11_way_73 (by decide) (by omega) (fun h_73_19 => ?_) (fun h_73_19 => ?_)
            · exact absurd h_73_19 (by decide)
            · skip
              refine lc_aload_n dX11_way_76 rfl 0 rfl ?_
              refine lc_aload_n dX11_way_77 rfl 0 rfl ?_
              refine lc_get dX11_way_78 lc_fX11_7 hz_50 rfl ?_
              refine lc_iload_n dX11_way_81 rfl 1 rfl ?_
              refine lc_iload_n dX11_way_82 rfl 2 rfl ?_
              refine lc_callV (As := [.ref (51), .int (lc_i (x)), .int (lc_i (y))]) (stk := []) (b := 50) dX11_way_83 lc_mX11_168 lc_yX11_bestWay hz_50 rfl (lc_cX11_bestWay l n (51) (N1) (f) (s) (q) (m) (mo) (ca) (ct) (po) ((k : Int)) (bs) (z) (at9) (js) (jr) (w1) (w2) (w3) (bw) (x) (y) σ hz_50 hz_51 (by omega) (hf) (hR) (by omega) (by omega)) rfl ⟨Nat.le_of_ble_eq_true rfl, Nat.le_of_ble_eq_true rfl⟩ ⟨Nat.le_of_ble_eq_true rfl, Nat.le_of_ble_eq_true rfl⟩ rfl (Nat.le_of_ble_eq_true rfl) (fun v23 n24 σ25 q26 => ?_)
              obtain ⟨rfl, rfl, h22, fr21⟩ := q26
              have h27 : σ25 (51) = some (lc_aI 222 (N1)) := (fr21 _ (by omega)).trans hz_51
              have h28 : σ25 (52) = some (lc_aI 222 (N2)) := (fr21 _ (by omega)).trans hz_52
              have h29 : σ25 (53) = some (lc_aI 222 (N3)) := (fr21 _ (by omega)).trans hz_53
              have h30 : σ25 (54) = some (lc_aI 222 (N4)) := (fr21 _ (by omega)).trans hz_54
              have h31 : σ25 (55) = some (lc_aI 888 (N5)) := (fr21 _ (by omega)).trans hz_55
              have h32 : σ25 (56) = some (lc_aI 222 (N6)) := (fr21 _ (by omega)).trans hz_56
              have h33 : σ25 (57) = some (lc_aI 80 (N7)) := (fr21 _ (by omega)).trans hz_57
              have hbc := lc_bF_c (lc_wy_ok (f := f) (fr := x) (to := y) (by omega))
              refine lc_bipush dX11_way_86 (by decide) ?_
              refine lc_icmp_ne (tgt := 94) dX11_way_88 (by decide) (by omega) (fun h_88_33 => ?_) (fun h_88_33 => ?_)
              · skip
                refine lc_iload_n dX11_way_94 rfl 3 rfl ?_
                rcases (show wv = 0 ∨ wv = 1 ∨ wv = 2 ∨ wv = 3 ∨ (wv < 0 ∨ 3 < wv) by omega) with h_95_34 | h_95_34 | h_95_34 | h_95_34 | h_95_34
                · refine lc_swC (v := 0) (tgt := 124) dX11_way_95 h_95_34 (by decide) rfl (by decide) ?_
                  refine lc_aload_n dX11_way_124 rfl 0 rfl ?_
                  refine lc_get dX11_way_125 lc_fX11_81 h22 rfl ?_
                  exact lc_iret dX11_way_128 rfl (Nat.le_of_ble_eq_true rfl) (Nat.le_of_ble_eq_true rfl) (hQ _ _ _ (by rw [lc_way, if_neg (show ¬ (¬ ((0 ≤ x ∧ x < 36) ∧ (0 ≤ y ∧ y < 36))) from by omega), if_neg (show ¬ (wv < 0 ∨ 4 < wv) from by omega), if_neg (show ¬ ¬ lc_cap f x y = true from fun q9 => q9 (lc_cap_iff.mpr (by omega))), if_pos (show wv = 0 from by omega)]; exact ⟨lc_some (show lc_bL (lc_wy f x y) = (lc_wy f x y).1 from by omega), rfl, lc_MI_mk h22 h27 h28 h29 h30 h31 h32 h33 (hR) (hRP) (hP) (hT) (hjs) (hjr), (fun i _ => (fr21 i (by omega)))⟩))
                · refine lc_swC (v := 1) (tgt := 129) dX11_way_95 h_95_34 (by decide) rfl (by decide) ?_
                  refine lc_aload_n dX11_way_129 rfl 0 rfl ?_
                  refine lc_get dX11_way_130 lc_fX11_84 h22 rfl ?_
                  exact lc_iret dX11_way_133 rfl (Nat.le_of_ble_eq_true rfl) (Nat.le_of_ble_eq_true rfl) (hQ _ _ _ (by rw [lc_way, if_neg (show ¬ (¬ ((0 ≤ x ∧ x < 36) ∧ (0 ≤ y ∧ y < 36))) from by omega), if_neg (show ¬ (wv < 0 ∨ 4 < wv) from by omega), if_neg (show ¬ ¬ lc_cap f x y = true from fun q9 => q9 (lc_cap_iff.mpr (by omega))), if_neg (show ¬ wv = 0 from by omega), if_pos (show wv = 1 from by omega)]; exact ⟨lc_some (show lc_bP (lc_wy f x y) = (lc_wy f x y).2.1 from by omega), rfl, lc_MI_mk h22 h27 h28 h29 h30 h31 h32 h33 (hR) (hRP) (hP) (hT) (hjs) (hjr), (fun i _ => (fr21 i (by omega)))⟩))
                · refine lc_swC (v := 2) (tgt := 134) dX11_way_95 h_95_34 (by decide) rfl (by decide) ?_
                  refine lc_aload_n dX11_way_134 rfl 0 rfl ?_
                  refine lc_get dX11_way_135 lc_fX11_91 h22 rfl ?_
                  refine lc_bipush dX11_way_138 (by decide) ?_
                  refine lc_idiv dX11_way_140 (by omega) ?_
                  exact lc_iret dX11_way_141 rfl (Nat.le_of_ble_eq_true rfl) (Nat.le_of_ble_eq_true rfl) (hQ _ _ _ (by rw [lc_way, if_neg (show ¬ (¬ ((0 ≤ x ∧ x < 36) ∧ (0 ≤ y ∧ y < 36))) from by omega), if_neg (show ¬ (wv < 0 ∨ 4 < wv) from by omega), if_neg (show ¬ ¬ lc_cap f x y = true from fun q9 => q9 (lc_cap_iff.mpr (by omega))), if_neg (show ¬ wv = 0 from by omega), if_neg (show ¬ wv = 1 from by omega), if_pos (show wv = 2 from by omega)]; exact ⟨lc_some (show lc_bF (lc_wy f x y) / 48 = (lc_wy f x y).2.2.1 / 24 from by omega), rfl, lc_MI_mk h22 h27 h28 h29 h30 h31 h32 h33 (hR) (hRP) (hP) (hT) (hjs) (hjr), (fun i _ => (fr21 i (by omega)))⟩))
                · refine lc_swC (v := 3) (tgt := 142) dX11_way_95 h_95_34 (by decide) rfl (by decide) ?_
                  refine lc_aload_n dX11_way_142 rfl 0 rfl ?_
                  refine lc_get dX11_way_143 lc_fX11_91 h22 rfl ?_
                  refine lc_iconst dX11_way_146 ?_
                  refine lc_idiv dX11_way_147 (by omega) ?_
                  refine lc_bipush dX11_way_148 (by decide) ?_
                  refine lc_irem dX11_way_150 (by omega) ?_
                  exact lc_iret dX11_way_151 rfl (Nat.le_of_ble_eq_true rfl) (Nat.le_of_ble_eq_true rfl) (hQ _ _ _ (by rw [lc_way, if_neg (show ¬ (¬ ((0 ≤ x ∧ x < 36) ∧ (0 ≤ y ∧ y < 36))) from by omega), if_neg (show ¬ (wv < 0 ∨ 4 < wv) from by omega), if_neg (show ¬ ¬ lc_cap f x y = true from fun q9 => q9 (lc_cap_iff.mpr (by omega))), if_neg (show ¬ wv = 0 from by omega), if_neg (show ¬ wv = 1 from by omega), if_neg (show ¬ wv = 2 from by omega), if_pos (show wv = 3 from by omega)]; exact ⟨lc_some (show lc_bF (lc_wy f x y) / 2 % 24 = (lc_wy f x y).2.2.1 % 24 from by omega), rfl, lc_MI_mk h22 h27 h28 h29 h30 h31 h32 h33 (hR) (hRP) (hP) (hT) (hjs) (hjr), (fun i _ => (fr21 i (by omega)))⟩))
                · refine lc_swD (tgt := 152) dX11_way_95 (by omega) h_95_34 (by decide) ?_
                  refine lc_iconst dX11_way_152 ?_
                  refine lc_aload_n dX11_way_153 rfl 0 rfl ?_
                  refine lc_get dX11_way_154 lc_fX11_91 h22 rfl ?_
                  refine lc_iconst dX11_way_157 ?_
                  refine lc_irem dX11_way_158 (by omega) ?_
                  refine lc_isub dX11_way_159 ?_
                  exact lc_iret dX11_way_160 rfl (Nat.le_of_ble_eq_true rfl) (Nat.le_of_ble_eq_true rfl) (hQ _ _ _ (by rw [lc_way, if_neg (show ¬ (¬ ((0 ≤ x ∧ x < 36) ∧ (0 ≤ y ∧ y < 36))) from by omega), if_neg (show ¬ (wv < 0 ∨ 4 < wv) from by omega), if_neg (show ¬ ¬ lc_cap f x y = true from fun q9 => q9 (lc_cap_iff.mpr (by omega))), if_neg (show ¬ wv = 0 from by omega), if_neg (show ¬ wv = 1 from by omega), if_neg (show ¬ wv = 2 from by omega), if_neg (show ¬ wv = 3 from by omega)]; exact ⟨lc_some (show 1 - lc_bF (lc_wy f x y) % 2 = (if 0 < (lc_wy f x y).2.2.2 then 1 else 0) from by omega), rfl, lc_MI_mk h22 h27 h28 h29 h30 h31 h32 h33 (hR) (hRP) (hP) (hT) (hjs) (hjr), (fun i _ => (fr21 i (by omega)))⟩))
              · skip
                refine lc_bipush dX11_way_91 (by decide) ?_
                exact lc_iret dX11_way_93 rfl (Nat.le_of_ble_eq_true rfl) (Nat.le_of_ble_eq_true rfl) (hQ _ _ _ (by rw [lc_way, if_neg (show ¬ (¬ ((0 ≤ x ∧ x < 36) ∧ (0 ≤ y ∧ y < 36))) from by omega), if_neg (show ¬ (wv < 0 ∨ 4 < wv) from by omega), if_pos (show ¬ lc_cap f x y = true from fun q9 => by have q8 := (lc_cap_iff.mp q9).2; omega)]; exact ⟨rfl, rfl, lc_MI_mk h22 h27 h28 h29 h30 h31 h32 h33 (hR) (hRP) (hP) (hT) (hjs) (hjr), (fun i _ => (fr21 i (by omega)))⟩))
      · skip
        refine lc_bipush dX11_way_26 (by decide) ?_
        exact lc_iret dX11_way_28 rfl (Nat.le_of_ble_eq_true rfl) (Nat.le_of_ble_eq_true rfl) (hQ _ _ _ (by rw [lc_way, if_neg (show ¬ (¬ ((0 ≤ x ∧ x < 36) ∧ (0 ≤ y ∧ y < 36))) from by omega), if_pos (show wv < 0 ∨ 4 < wv from by omega)]; exact ⟨rfl, rfl, lc_MI_mk hz_50 hz_51 hz_52 hz_53 hz_54 hz_55 hz_56 hz_57 (hR) (hRP) (hP) (hT) (hjs) (hjr), (fun i _ => rfl)⟩))
    · skip
      refine lc_bipush dX11_way_14 (by decide) ?_
      exact lc_iret dX11_way_16 rfl (Nat.le_of_ble_eq_true rfl) (Nat.le_of_ble_eq_true rfl) (hQ _ _ _ (by rw [lc_way, if_pos (show ¬ ((0 ≤ x ∧ x < 36) ∧ (0 ≤ y ∧ y < 36)) from by omega)]; exact ⟨rfl, rfl, lc_MI_mk hz_50 hz_51 hz_52 hz_53 hz_54 hz_55 hz_56 hz_57 (hR) (hRP) (hP) (hT) (hjs) (hjr), (fun i _ => rfl)⟩))
