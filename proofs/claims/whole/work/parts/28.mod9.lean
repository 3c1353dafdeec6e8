/-! every call keeps a state sound -/
theorem lc_wz_fg {f po : Int → Int} {s m mo ca : Int} (hf : ∀ j : Int, 0 ≤ j → j < 36 → 0 ≤ f j ∧ f j ≤ 2) (hs : 1 ≤ s ∧ s ≤ 2) (hm : 4 ≤ m ∧ m ≤ 60) : lc_wz (f, s, 0, m, mo, ca, lc_rc 0, lc_rp po 0 (lc_key f s 36)) := by
  have hp := lc_rp_ok (po := po) (ct := 0) ⟨by omega, by omega⟩ (fun i h1 h2 => absurd h2 (by omega)) (lc_key_c hf hs)
  exact ⟨hf, hs, ⟨Int.le_refl 0, show (0 : Int) ≤ 60 by decide⟩, hm, hp.1, hp.2.1, hp.2.2⟩
theorem lc_wf_push {N N' P : lc_St} {H : Nat → lc_St} {k : Nat} {tx : Int → Int} {z : Int} {bs bt : Bool} {sn sr : Int} (hw : lc_wf (N, P, H, k, tx, z, bs, bt, sn, sr)) (hN : lc_wz N') {bt' : Bool} {sn' sr' : Int} : lc_wf (N', P, lc_pu H k N, lc_hk k, tx, z, bs, bt', sn', sr') := by
  obtain ⟨h1, h2, h3, h4, h5, h6⟩ := hw
  refine ⟨hN, h2, fun j hj => ?_, ?_, h5, h6⟩
  · unfold lc_pu
    unfold lc_hk at hj
    by_cases e : k = 4
    · rw [if_pos e] at hj ⊢
      by_cases e2 : j = 3
      · rw [if_pos e2]; exact h1
      · rw [if_neg e2]; exact h3 (j + 1) (by omega)
    · rw [if_neg e] at hj ⊢
      by_cases e2 : j = k
      · rw [if_pos e2]; exact h1
      · rw [if_neg e2]; exact h3 j (by omega)
  · unfold lc_hk
    split <;> omega
theorem lc_wf_N {N P : lc_St} {H : Nat → lc_St} {k : Nat} {tx : Int → Int} {z : Int} {bs bt : Bool} {sn sr : Int} (hw : lc_wf (N, P, H, k, tx, z, bs, bt, sn, sr)) {bt' : Bool} {sn' sr' : Int} : lc_wf (N, P, H, k, tx, z, bs, bt', sn', sr') := hw
theorem lc_wf_move {A : lc_Ab} (hw : lc_wf A) (x y : Int) : lc_wf (lc_move A x y).1 := by
  obtain ⟨N, P, H, k, tx, z, bs, bt, sn, sr⟩ := A
  rw [lc_move]
  split
  · exact hw
  · split
    · exact hw
    · next h2 => exact lc_wf_push hw (lc_wz_mv (c := false) hw.1 (Decidable.not_not.mp h2))
theorem lc_wf_capt {A : lc_Ab} (hw : lc_wf A) (x y : Int) : lc_wf (lc_capt A x y).1 := by
  obtain ⟨N, P, H, k, tx, z, bs, bt, sn, sr⟩ := A
  rw [lc_capt]
  split
  · exact hw
  · split
    · exact hw
    · next h2 => exact lc_wf_push hw (lc_wz_mv (c := true) hw.1 (Decidable.not_not.mp h2))
theorem lc_wf_play {A : lc_Ab} (hw : lc_wf A) (d : Int) : lc_wf (lc_play A d).1 := by
  obtain ⟨N, P, H, k, tx, z, bs, bt, sn, sr⟩ := A
  rw [lc_play]
  split
  · exact hw
  · split
    · exact hw
    · next h2 =>
      have h3 := (lc_sv_m N.2.2.2.1 d.toNat N.1 N.2.1 N.2.2.1).resolve_left (by omega)
      exact lc_wf_push hw (lc_wz_mvr hw.1 (lc_mv_mem hw.1.2.1.1 h3).2.2.2)
theorem lc_wf_zSet {A : lc_Ab} (hw : lc_wf A) (x w : Int) : lc_wf (lc_zSet A x w).1 := by
  obtain ⟨N, P, H, k, tx, z, bs, bt, sn, sr⟩ := A
  rw [lc_zSet]
  split
  · exact hw
  · split
    · exact hw
    · split
      · exact hw
      · exact lc_wf_push hw (lc_wz_fg (lc_uf_ok hw.1.1 (by omega)) hw.1.2.1 hw.1.2.2.2.1)
theorem lc_wf_turn {A : lc_Ab} (hw : lc_wf A) : lc_wf (lc_turn A).1 := by
  obtain ⟨N, P, H, k, tx, z, bs, bt, sn, sr⟩ := A
  have h := hw.1.2.1
  exact lc_wf_push hw (lc_wz_fg hw.1.1 (by omega) hw.1.2.2.2.1)
theorem lc_wf_beg {A : lc_Ab} (hw : lc_wf A) : lc_wf (lc_beg A).1 := by
  obtain ⟨N, P, H, k, tx, z, bs, bt, sn, sr⟩ := A
  exact lc_wf_push hw (lc_wz_fg lc_f0_ok (by omega) hw.1.2.2.2.1)
theorem lc_wf_zLim {A : lc_Ab} (hw : lc_wf A) (x : Int) : lc_wf (lc_zLim A x).1 := by
  obtain ⟨N, P, H, k, tx, z, bs, bt, sn, sr⟩ := A
  rw [lc_zLim]
  split
  · exact hw
  · split
    · exact hw
    · obtain ⟨h1, h2, h3, h4, h5, h6, h7⟩ := hw.1
      exact lc_wf_push (N' := (N.1, N.2.1, N.2.2.1, x, N.2.2.2.2)) hw ⟨h1, h2, h3, show 4 ≤ x ∧ x ≤ 60 by omega, h5, h6, h7⟩
theorem lc_wf_type {A : lc_Ab} (hw : lc_wf A) {c : Int} (hc : 0 ≤ c ∧ c < 65536) : lc_wf (lc_type A c).1 := by
  obtain ⟨N, P, H, k, tx, z, bs, bt, sn, sr⟩ := A
  obtain ⟨h1, h2, h3, h4, h5, h6⟩ := hw
  refine ⟨h1, h2, h3, h4, ?_, ?_⟩
  · show 0 ≤ lc_tz z ∧ lc_tz z ≤ 80
    unfold lc_tz
    split <;> omega
  · show ∀ i : Int, 0 ≤ i → i < lc_tz z → 0 ≤ lc_ta tx z c i ∧ lc_ta tx z c i < 65536
    unfold lc_ta lc_tz
    intro i hi1 hi2
    by_cases e : z < 80
    · rw [if_pos e] at hi2 ⊢
      by_cases e2 : i = z
      · rw [e2, lc_u_s]; exact hc
      · rw [lc_u_n _ _ e2]; exact h6 i hi1 (by omega)
    · rw [if_neg e] at hi2 ⊢
      exact h6 i hi1 hi2
theorem lc_wf_clr {A : lc_Ab} (hw : lc_wf A) : lc_wf (lc_clr A).1 := by
  obtain ⟨N, P, H, k, tx, z, bs, bt, sn, sr⟩ := A
  obtain ⟨h1, h2, h3, h4, h5, h6⟩ := hw
  exact ⟨h1, h2, h3, h4, ⟨Int.le_refl 0, show (0 : Int) ≤ 80 by decide⟩, fun i h7 h8 => absurd (show i < 0 from h8) (by omega)⟩
theorem lc_wf_pr {tx : Int → Int} : ∀ (r : Nat) (i : Int) (N : lc_St), lc_wz N → lc_wz (lc_pr tx r i N).1
  | 0, _, _, h => h
  | r + 1, i, N, h => by
    unfold lc_pr
    split
    · exact h
    · next h2 => exact lc_wf_pr r (i + 1) _ (lc_wz_mv h (Decidable.not_not.mp h2))
theorem lc_wf_perf {A : lc_Ab} (hw : lc_wf A) : lc_wf (lc_perf A).1 := by
  obtain ⟨N, P, H, k, tx, z, bs, bt, sn, sr⟩ := A
  rw [lc_perf]
  split
  · exact hw
  · split
    · exact lc_wf_N hw
    · exact lc_wf_push hw (lc_wf_pr _ _ _ hw.1)
theorem lc_wf_undo {A : lc_Ab} (hw : lc_wf A) : lc_wf (lc_undo A).1 := by
  obtain ⟨N, P, H, k, tx, z, bs, bt, sn, sr⟩ := A
  rw [lc_undo]
  split
  · exact hw
  · obtain ⟨h1, h2, h3, h4, h5, h6⟩ := hw
    exact ⟨h3 (k - 1) (by omega), h2, fun j hj => h3 j (by omega), by omega, h5, h6⟩
theorem lc_wf_keep {A : lc_Ab} (hw : lc_wf A) : lc_wf (lc_keep A).1 := by
  obtain ⟨N, P, H, k, tx, z, bs, bt, sn, sr⟩ := A
  obtain ⟨h1, h2, h3, h4, h5, h6⟩ := hw
  exact ⟨h1, fun _ => h1, h3, h4, h5, h6⟩
theorem lc_wf_rest {A : lc_Ab} (hw : lc_wf A) : lc_wf (lc_rest A).1 := by
  obtain ⟨N, P, H, k, tx, z, bs, bt, sn, sr⟩ := A
  rw [lc_rest]
  split
  · exact hw
  · next h2 => exact lc_wf_push hw (hw.2.1 (Decidable.not_not.mp h2))
theorem lc_wf_same {A : lc_Ab} (hw : lc_wf A) {B : lc_Ab} (h : B = A) : lc_wf B := by rw [h]; exact hw
theorem lc_wf_0 : lc_wf lc_A0 := by
  have h : lc_wz lc_Nz := lc_wz_fg lc_f0_ok (by omega) (by omega)
  exact ⟨h, fun _ => h, fun _ _ => h, by decide, by decide, fun i h1 h2 => absurd (show i < 0 from h2) (by omega)⟩
/-! what a call leaves as it was -/
theorem lc_Lk_fr {σ σ' : lc_S} (h : lc_Lk σ) (hf : ∀ i : Nat, 1 ≤ i → i < 50 → σ' i = σ i) : lc_Lk σ' := by
  obtain ⟨a1, a2, a3, ch, bf, d1, d2, d3, y1, y2, g1, x1, x2, g2, h0, h1, h2, h3, h4, h5, h6, h7⟩ := h
  exact ⟨a1, a2, a3, ch, bf, d1, d2, d3, y1, y2, g1, x1, x2, g2, (hf _ (by omega) (by omega)).trans h0, (hf _ (by omega) (by omega)).trans h1, (hf _ (by omega) (by omega)).trans h2, (hf _ (by omega) (by omega)).trans h3, (hf _ (by omega) (by omega)).trans h4, (hf _ (by omega) (by omega)).trans h5, (hf _ (by omega) (by omega)).trans h6, (hf _ (by omega) (by omega)).trans h7⟩
theorem lc_CI_fr {σ σ' : lc_S} {A : lc_Ab} (h : lc_CI σ A) (hf : ∀ i : Nat, i < 50 → σ' i = σ i) : lc_CI σ' A := by
  obtain ⟨N, P, H, k, tx, z, bs, bt, sn, sr⟩ := A
  obtain ⟨r, SN, BF, w, e1, e2, e3, u1, u2, ug, c1, c2, c3, c4, c5, c6, c7, c9, c10, hLk, hN, hB, hS, hSN, c30, c31, hSl, c48, c49⟩ := h
  exact ⟨r, SN, BF, w, e1, e2, e3, u1, u2, ug, (hf _ (by omega)).trans c1, (hf _ (by omega)).trans c2, (hf _ (by omega)).trans c3, (hf _ (by omega)).trans c4, (hf _ (by omega)).trans c5, (hf _ (by omega)).trans c6, (hf _ (by omega)).trans c7, (hf _ (by omega)).trans c9, (hf _ (by omega)).trans c10, lc_Lk_fr hLk (fun i _ h2 => hf i h2), lc_cs_fr hN (fun i _ _ => hf i (by omega)), lc_cs_fr hB (fun i _ _ => hf i (by omega)), lc_cs_fr hS (fun i _ _ => hf i (by omega)), hSN, (hf _ (by omega)).trans c30, (hf _ (by omega)).trans c31, lc_Sl_fr hSl (fun i _ _ => hf i (by omega)), (hf _ (by omega)).trans c48, (hf _ (by omega)).trans c49⟩
theorem lc_MI_fr {σ σ' : lc_S} {A : lc_Ab} (h : lc_MI σ A) (hf : ∀ i : Nat, 50 ≤ i → σ' i = σ i) : lc_MI σ' A := by
  obtain ⟨N, P, H, k, tx, z, bs, bt, sn, sr⟩ := A
  obtain ⟨N1, N2, N3, N4, N5, N6, N7, at9, js, jr, w1, w2, w3, bw, c50, c51, c52, c53, c54, c55, c56, c57, hh⟩ := h
  exact ⟨N1, N2, N3, N4, N5, N6, N7, at9, js, jr, w1, w2, w3, bw, (hf _ (by omega)).trans c50, (hf _ (by omega)).trans c51, (hf _ (by omega)).trans c52, (hf _ (by omega)).trans c53, (hf _ (by omega)).trans c54, (hf _ (by omega)).trans c55, (hf _ (by omega)).trans c56, (hf _ (by omega)).trans c57, hh⟩
theorem lc_CI_1 {σ : lc_S} {A : lc_Ab} (h : lc_CI σ A) : ∃ vs : List Value, σ 1 = some (.inr (10, vs) : lc_Cel) := by
  obtain ⟨N, P, H, k, tx, z, bs, bt, sn, sr⟩ := A
  obtain ⟨r, SN, BF, w, e1, e2, e3, u1, u2, ug, c1, hh⟩ := h
  exact ⟨_, c1⟩
theorem lc_MI_50 {σ : lc_S} {A : lc_Ab} (h : lc_MI σ A) : ∃ vs : List Value, σ 50 = some (.inr (11, vs) : lc_Cel) := by
  obtain ⟨N, P, H, k, tx, z, bs, bt, sn, sr⟩ := A
  obtain ⟨N1, N2, N3, N4, N5, N6, N7, at9, js, jr, w1, w2, w3, bw, c50, hh⟩ := h
  exact ⟨_, c50⟩
theorem lc_RM_0 : lc_RM (lc_u (fun _ : Int => (0 : Int)) 4 20) (fun _ : Int => (0 : Int), 0, 0, 20, 0, 0, 0, fun _ : Int => (0 : Int)) := by
  refine ⟨rfl, rfl, rfl, rfl, rfl, rfl, fun p h1 h2 => ?_, fun i h1 h2 => absurd (show i < 0 from h2) (by omega)⟩
  rw [lc_u_n _ _ (by omega)]

set_option maxRecDepth 100000 in
set_option maxHeartbeats 600000 in
theorem lc_cX11_init (l : Launch)  (σ : lc_S) (h0_0 : σ (50) = some (.inr (11, [.null, .null, .null, .null, .null, .int (lc_i (0)), .null, .int (lc_i (0)), .null, .int (lc_i (0)), .int (lc_i (0)), .int (lc_i (0)), .int (lc_i (0)), .int (lc_i (0)), .int (lc_i (0)), .int (lc_i (0)), .int (lc_i (0))]) : lc_Cel))  : lc_Con l yX11_init cX11_init 1 none (lc_Ra 4 7 2078) [.ref (50)] 51 σ (fun v n2 σ2 => v = none ∧ 58 = n2 ∧ lc_MI σ2 lc_A0 ∧ (∀ i : Nat, i < 50 → σ2 i = σ i)) := by
  refine lc_con RX11 true (by decide) rfl (fun _ => rfl) (Nat.le_of_ble_eq_true rfl) ?_
  suffices H : ∀ Q : lc_QT, (∀ v n2 σ2, (fun v n2 σ2 => v = none ∧ 58 = n2 ∧ lc_MI σ2 lc_A0 ∧ (∀ i : Nat, i < 50 → σ2 i = σ i) : lc_QT) v n2 σ2 → Q v n2 σ2) → lc_V l RX11 cX11_init 1 none true (lc_Ra 4 7 2078) (lc_G Q 7 2078) lc_E0 0 0 51 0 [(0, .ref (50))] [] σ from H _ (fun _ _ _ h => h)
  intro Q hQ
  refine lc_aload_n dX11_init_0 rfl 0 rfl ?_
  refine lc_objInit dX11_init_1 lc_mX11_1 (by omega) ⟨Nat.le_of_ble_eq_true rfl, Nat.le_of_ble_eq_true rfl⟩ ?_
  refine lc_aload_n dX11_init_4 rfl 0 rfl ?_
  refine lc_sipush dX11_init_5 (by decide) ?_
  refine lc_NI 222 dX11_init_8 lc_ac_int rfl (by decide) (by omega) (Nat.le_of_ble_eq_true rfl) (Nat.le_of_ble_eq_true rfl) (fun σ1 h2 fr3 => ?_)
  have h4 : σ1 (50) = some (.inr (11, [.null, .null, .null, .null, .null, .int (lc_i (0)), .null, .int (lc_i (0)), .null, .int (lc_i (0)), .int (lc_i (0)), .int (lc_i (0)), .int (lc_i (0)), .int (lc_i (0)), .int (lc_i (0)), .int (lc_i (0)), .int (lc_i (0))]) : lc_Cel) := (fr3 _ (by omega)).trans h0_0
  refine lc_wF (vs' := [.ref (51), .null, .null, .null, .null, .int (lc_i (0)), .null, .int (lc_i (0)), .null, .int (lc_i (0)), .int (lc_i (0)), .int (lc_i (0)), .int (lc_i (0)), .int (lc_i (0)), .int (lc_i (0)), .int (lc_i (0)), .int (lc_i (0))]) dX11_init_10 lc_fX11_7 h4 (Nat.le_of_ble_eq_true rfl) rfl rfl lc_refArr rfl (fun σ5 h6 fr7 => ?_)
  have h8 : σ5 (51) = some (lc_aI 222 (fun _ : Int => (0 : Int))) := (fr7 _ (by omega)).trans h2
  refine lc_aload_n dX11_init_13 rfl 0 rfl ?_
  refine lc_sipush dX11_init_14 (by decide) ?_
  refine lc_NI 222 dX11_init_17 lc_ac_int rfl (by decide) (by omega) (Nat.le_of_ble_eq_true rfl) (Nat.le_of_ble_eq_true rfl) (fun σ9 h10 fr11 => ?_)
  have h12 : σ9 (51) = some (lc_aI 222 (fun _ : Int => (0 : Int))) := (fr11 _ (by omega)).trans h8
  have h13 : σ9 (50) = some (.inr (11, [.ref (51), .null, .null, .null, .null, .int (lc_i (0)), .null, .int (lc_i (0)), .null, .int (lc_i (0)), .int (lc_i (0)), .int (lc_i (0)), .int (lc_i (0)), .int (lc_i (0)), .int (lc_i (0)), .int (lc_i (0)), .int (lc_i (0))]) : lc_Cel) := (fr11 _ (by omega)).trans h6
  refine lc_wF (vs' := [.ref (51), .ref (52), .null, .null, .null, .int (lc_i (0)), .null, .int (lc_i (0)), .null, .int (lc_i (0)), .int (lc_i (0)), .int (lc_i (0)), .int (lc_i (0)), .int (lc_i (0)), .int (lc_i (0)), .int (lc_i (0)), .int (lc_i (0))]) dX11_init_19 lc_fX11_13 h13 (Nat.le_of_ble_eq_true rfl) rfl rfl lc_refArr rfl (fun σ14 h15 fr16 => ?_)
  have h17 : σ14 (51) = some (lc_aI 222 (fun _ : Int => (0 : Int))) := (fr16 _ (by omega)).trans h12
  have h18 : σ14 (52) = some (lc_aI 222 (fun _ : Int => (0 : Int))) := (fr16 _ (by omega)).trans h10
  refine lc_aload_n dX11_init_22 rfl 0 rfl ?_
  refine lc_sipush dX11_init_23 (by decide) ?_
  refine lc_NI 222 dX11_init_26 lc_ac_int rfl (by decide) (by omega) (Nat.le_of_ble_eq_true rfl) (Nat.le_of_ble_eq_true rfl) (fun σ19 h20 fr21 => ?_)
  have h22 : σ19 (51) = some (lc_aI 222 (fun _ : Int => (0 : Int))) := (fr21 _ (by omega)).trans h17
  have h23 : σ19 (52) = some (lc_aI 222 (fun _ : Int => (0 : Int))) := (fr21 _ (by omega)).trans h18
  have h24 : σ19 (50) = some (.inr (11, [.ref (51), .ref (52), .null, .null, .null, .int (lc_i (0)), .null, .int (lc_i (0)), .null, .int (lc_i (0)), .int (lc_i (0)), .int (lc_i (0)), .int (lc_i (0)), .int (lc_i (0)), .int (lc_i (0)), .int (lc_i (0)), .int (lc_i (0))]) : lc_Cel) := (fr21 _ (by omega)).trans h15
  refine lc_wF (vs' := [.ref (51), .ref (52), .ref (53), .null, .null, .int (lc_i (0)), .null, .int (lc_i (0)), .null, .int (lc_i (0)), .int (lc_i (0)), .int (lc_i (0)), .int (lc_i (0)), .int (lc_i (0)), .int (lc_i (0)), .int (lc_i (0)), .int (lc_i (0))]) dX11_init_28 lc_fX11_16 h24 (Nat.le_of_ble_eq_true rfl) rfl rfl lc_refArr rfl (fun σ25 h26 fr27 => ?_)
  have h28 : σ25 (51) = some (lc_aI 222 (fun _ : Int => (0 : Int))) := (fr27 _ (by omega)).trans h22
  have h29 : σ25 (52) = some (lc_aI 222 (fun _ : Int => (0 : Int))) := (fr27 _ (by omega)).trans h23
  have h30 : σ25 (53) = some (lc_aI 222 (fun _ : Int => (0 : Int))) := (fr27 _ (by omega)).trans h20
  refine lc_aload_n dX11_init_31 rfl 0 rfl ?_
  refine lc_sipush dX11_init_32 (by decide) ?_
  refine lc_NI 222 dX11_init_35 lc_ac_int rfl (by decide) (by omega) (Nat.le_of_ble_eq_true rfl) (Nat.le_of_ble_eq_true rfl) (fun σ31 h32 fr33 => ?_)
  have h34 : σ31 (51) = some (lc_aI 222 (fun _ : Int => (0 : Int))) := (fr33 _ (by omega)).trans h28
  have h35 : σ31 (52) = some (lc_aI 222 (fun _ : Int => (0 : Int))) := (fr33 _ (by omega)).trans h29
  have h36 : σ31 (53) = some (lc_aI 222 (fun _ : Int => (0 : Int))) := (fr33 _ (by omega)).trans h30
  have h37 : σ31 (50) = some (.inr (11, [.ref (51), .ref (52), .ref (53), .null, .null, .int (lc_i (0)), .null, .int (lc_i (0)), .null, .int (lc_i (0)), .int (lc_i (0)), .int (lc_i (0)), .int (lc_i (0)), .int (lc_i (0)), .int (lc_i (0)), .int (lc_i (0)), .int (lc_i (0))]) : lc_Cel) := (fr33 _ (by omega)).trans h26
  refine lc_wF (vs' := [.ref (51), .ref (52), .ref (53), .ref (54), .null, .int (lc_i (0)), .null, .int (lc_i (0)), .null, .int (lc_i (0)), .int (lc_i (0)), .int (lc_i (0)), .int (lc_i (0)), .int (lc_i (0)), .int (lc_i (0)), .int (lc_i (0)), .int (lc_i (0))]) dX11_init_37 lc_fX11_19 h37 (Nat.le_of_ble_eq_true rfl) rfl rfl lc_refArr rfl (fun σ38 h39 fr40 => ?_)
  have h41 : σ38 (51) = some (lc_aI 222 (fun _ : Int => (0 : Int))) := (fr40 _ (by omega)).trans h34
  have h42 : σ38 (52) = some (lc_aI 222 (fun _ : Int => (0 : Int))) := (fr40 _ (by omega)).trans h35
  have h43 : σ38 (53) = some (lc_aI 222 (fun _ : Int => (0 : Int))) := (fr40 _ (by omega)).trans h36
  have h44 : σ38 (54) = some (lc_aI 222 (fun _ : Int => (0 : Int))) := (fr40 _ (by omega)).trans h32
  refine lc_aload_n dX11_init_40 rfl 0 rfl ?_
  refine lc_sipush dX11_init_41 (by decide) ?_
  refine lc_NI 888 dX11_init_44 lc_ac_int rfl (by decide) (by omega) (Nat.le_of_ble_eq_true rfl) (Nat.le_of_ble_eq_true rfl) (fun σ45 h46 fr47 => ?_)
  have h48 : σ45 (51) = some (lc_aI 222 (fun _ : Int => (0 : Int))) := (fr47 _ (by omega)).trans h41
  have h49 : σ45 (52) = some (lc_aI 222 (fun _ : Int => (0 : Int))) := (fr47 _ (by omega)).trans h42
  have h50 : σ45 (53) = some (lc_aI 222 (fun _ : Int => (0 : Int))) := (fr47 _ (by omega)).trans h43
  have h51 : σ45 (54) = some (lc_aI 222 (fun _ : Int => (0 : Int))) := (fr47 _ (by omega)).trans h44
  have h52 : σ45 (50) = some (.inr (11, [.ref (51), .ref (52), .ref (53), .ref (54), .null, .int (lc_i (0)), .null, .int (lc_i (0)), .null, .int (lc_i (0)), .int (lc_i (0)), .int (lc_i (0)), .int (lc_i (0)), .int (lc_i (0)), .int (lc_i (0)), .int (lc_i (0)), .int (lc_i (0))]) : lc_Cel) := (fr47 _ (by omega)).trans h39
  refine lc_wF (vs' := [.ref (51), .ref (52), .ref (53), .ref (54), .ref (55), .int (lc_i (0)), .null, .int (lc_i (0)), .null, .int (lc_i (0)), .int (lc_i (0)), .int (lc_i (0)), .int (lc_i (0)), .int (lc_i (0)), .int (lc_i (0)), .int (lc_i (0)), .int (lc_i (0))]) dX11_init_46 lc_fX11_22 h52 (Nat.le_of_ble_eq_true rfl) rfl rfl lc_refArr rfl (fun σ53 h54 fr55 => ?_)
  have h56 : σ53 (51) = some (lc_aI 222 (fun _ : Int => (0 : Int))) := (fr55 _ (by omega)).trans h48
  have h57 : σ53 (52) = some (lc_aI 222 (fun _ : Int => (0 : Int))) := (fr55 _ (by omega)).trans h49
  have h58 : σ53 (53) = some (lc_aI 222 (fun _ : Int => (0 : Int))) := (fr55 _ (by omega)).trans h50
  have h59 : σ53 (54) = some (lc_aI 222 (fun _ : Int => (0 : Int))) := (fr55 _ (by omega)).trans h51
  have h60 : σ53 (55) = some (lc_aI 888 (fun _ : Int => (0 : Int))) := (fr55 _ (by omega)).trans h46
  refine lc_aload_n dX11_init_49 rfl 0 rfl ?_
  refine lc_sipush dX11_init_50 (by decide) ?_
  refine lc_NI 222 dX11_init_53 lc_ac_int rfl (by decide) (by omega) (Nat.le_of_ble_eq_true rfl) (Nat.le_of_ble_eq_true rfl) (fun σ61 h62 fr63 => ?_)
  have h64 : σ61 (51) = some (lc_aI 222 (fun _ : Int => (0 : Int))) := (fr63 _ (by omega)).trans h56
  have h65 : σ61 (52) = some (lc_aI 222 (fun _ : Int => (0 : Int))) := (fr63 _ (by omega)).trans h57
  have h66 : σ61 (53) = some (lc_aI 222 (fun _ : Int => (0 : Int))) := (fr63 _ (by omega)).trans h58
  have h67 : σ61 (54) = some (lc_aI 222 (fun _ : Int => (0 : Int))) := (fr63 _ (by omega)).trans h59
  have h68 : σ61 (55) = some (lc_aI 888 (fun _ : Int => (0 : Int))) := (fr63 _ (by omega)).trans h60
  have h69 : σ61 (50) = some (.inr (11, [.ref (51), .ref (52), .ref (53), .ref (54), .ref (55), .int (lc_i (0)), .null, .int (lc_i (0)), .null, .int (lc_i (0)), .int (lc_i (0)), .int (lc_i (0)), .int (lc_i (0)), .int (lc_i (0)), .int (lc_i (0)), .int (lc_i (0)), .int (lc_i (0))]) : lc_Cel) := (fr63 _ (by omega)).trans h54
  refine lc_wF (vs' := [.ref (51), .ref (52), .ref (53), .ref (54), .ref (55), .int (lc_i (0)), .ref (56), .int (lc_i (0)), .null, .int (lc_i (0)), .int (lc_i (0)), .int (lc_i (0)), .int (lc_i (0)), .int (lc_i (0)), .int (lc_i (0)), .int (lc_i (0)), .int (lc_i (0))]) dX11_init_55 lc_fX11_25 h69 (Nat.le_of_ble_eq_true rfl) rfl rfl lc_refArr rfl (fun σ70 h71 fr72 => ?_)
  have h73 : σ70 (51) = some (lc_aI 222 (fun _ : Int => (0 : Int))) := (fr72 _ (by omega)).trans h64
  have h74 : σ70 (52) = some (lc_aI 222 (fun _ : Int => (0 : Int))) := (fr72 _ (by omega)).trans h65
  have h75 : σ70 (53) = some (lc_aI 222 (fun _ : Int => (0 : Int))) := (fr72 _ (by omega)).trans h66
  have h76 : σ70 (54) = some (lc_aI 222 (fun _ : Int => (0 : Int))) := (fr72 _ (by omega)).trans h67
  have h77 : σ70 (55) = some (lc_aI 888 (fun _ : Int => (0 : Int))) := (fr72 _ (by omega)).trans h68
  have h78 : σ70 (56) = some (lc_aI 222 (fun _ : Int => (0 : Int))) := (fr72 _ (by omega)).trans h62
  refine lc_aload_n dX11_init_58 rfl 0 rfl ?_
  refine lc_bipush dX11_init_59 (by decide) ?_
  refine lc_NI 80 dX11_init_61 lc_ac_int rfl (by decide) (by omega) (Nat.le_of_ble_eq_true rfl) (Nat.le_of_ble_eq_true rfl) (fun σ79 h80 fr81 => ?_)
  have h82 : σ79 (51) = some (lc_aI 222 (fun _ : Int => (0 : Int))) := (fr81 _ (by omega)).trans h73
  have h83 : σ79 (52) = some (lc_aI 222 (fun _ : Int => (0 : Int))) := (fr81 _ (by omega)).trans h74
  have h84 : σ79 (53) = some (lc_aI 222 (fun _ : Int => (0 : Int))) := (fr81 _ (by omega)).trans h75
  have h85 : σ79 (54) = some (lc_aI 222 (fun _ : Int => (0 : Int))) := (fr81 _ (by omega)).trans h76
  have h86 : σ79 (55) = some (lc_aI 888 (fun _ : Int => (0 : Int))) := (fr81 _ (by omega)).trans h77
  have h87 : σ79 (56) = some (lc_aI 222 (fun _ : Int => (0 : Int))) := (fr81 _ (by omega)).trans h78
  have h88 : σ79 (50) = some (.inr (11, [.ref (51), .ref (52), .ref (53), .ref (54), .ref (55), .int (lc_i (0)), .ref (56), .int (lc_i (0)), .null, .int (lc_i (0)), .int (lc_i (0)), .int (lc_i (0)), .int (lc_i (0)), .int (lc_i (0)), .int (lc_i (0)), .int (lc_i (0)), .int (lc_i (0))]) : lc_Cel) := (fr81 _ (by omega)).trans h71
  refine lc_wF (vs' := [.ref (51), .ref (52), .ref (53), .ref (54), .ref (55), .int (lc_i (0)), .ref (56), .int (lc_i (0)), .ref (57), .int (lc_i (0)), .int (lc_i (0)), .int (lc_i (0)), .int (lc_i (0)), .int (lc_i (0)), .int (lc_i (0)), .int (lc_i (0)), .int (lc_i (0))]) dX11_init_63 lc_fX11_28 h88 (Nat.le_of_ble_eq_true rfl) rfl rfl lc_refArr rfl (fun σ89 h90 fr91 => ?_)
  have h92 : σ89 (51) = some (lc_aI 222 (fun _ : Int => (0 : Int))) := (fr91 _ (by omega)).trans h82
  have h93 : σ89 (52) = some (lc_aI 222 (fun _ : Int => (0 : Int))) := (fr91 _ (by omega)).trans h83
  have h94 : σ89 (53) = some (lc_aI 222 (fun _ : Int => (0 : Int))) := (fr91 _ (by omega)).trans h84
  have h95 : σ89 (54) = some (lc_aI 222 (fun _ : Int => (0 : Int))) := (fr91 _ (by omega)).trans h85
  have h96 : σ89 (55) = some (lc_aI 888 (fun _ : Int => (0 : Int))) := (fr91 _ (by omega)).trans h86
  have h97 : σ89 (56) = some (lc_aI 222 (fun _ : Int => (0 : Int))) := (fr91 _ (by omega)).trans h87
  have h98 : σ89 (57) = some (lc_aI 80 (fun _ : Int => (0 : Int))) := (fr91 _ (by omega)).trans h80
  refine lc_aload_n dX11_init_66 rfl 0 rfl ?_
  refine lc_bipush dX11_init_67 (by decide) ?_
  refine lc_wI (vs' := [.ref (51), .ref (52), .ref (53), .ref (54), .ref (55), .int (lc_i (0)), .ref (56), .int (lc_i (0)), .ref (57), .int (lc_i (0)), .int (lc_i (0)), .int (lc_i ((-105))), .int (lc_i (0)), .int (lc_i (0)), .int (lc_i (0)), .int (lc_i (0)), .int (lc_i (0))]) dX11_init_69 lc_fX11_31 h90 (Nat.le_of_ble_eq_true rfl) rfl rfl rfl (fun σ99 h100 fr101 => ?_)
  have h102 : σ99 (51) = some (lc_aI 222 (fun _ : Int => (0 : Int))) := (fr101 _ (by omega)).trans h92
  have h103 : σ99 (52) = some (lc_aI 222 (fun _ : Int => (0 : Int))) := (fr101 _ (by omega)).trans h93
  have h104 : σ99 (53) = some (lc_aI 222 (fun _ : Int => (0 : Int))) := (fr101 _ (by omega)).trans h94
  have h105 : σ99 (54) = some (lc_aI 222 (fun _ : Int => (0 : Int))) := (fr101 _ (by omega)).trans h95
  have h106 : σ99 (55) = some (lc_aI 888 (fun _ : Int => (0 : Int))) := (fr101 _ (by omega)).trans h96
  have h107 : σ99 (56) = some (lc_aI 222 (fun _ : Int => (0 : Int))) := (fr101 _ (by omega)).trans h97
  have h108 : σ99 (57) = some (lc_aI 80 (fun _ : Int => (0 : Int))) := (fr101 _ (by omega)).trans h98
  refine lc_aload_n dX11_init_72 rfl 0 rfl ?_
  refine lc_bipush dX11_init_73 (by decide) ?_
  refine lc_wI (vs' := [.ref (51), .ref (52), .ref (53), .ref (54), .ref (55), .int (lc_i (0)), .ref (56), .int (lc_i (0)), .ref (57), .int (lc_i (0)), .int (lc_i (0)), .int (lc_i ((-105))), .int (lc_i ((-105))), .int (lc_i (0)), .int (lc_i (0)), .int (lc_i (0)), .int (lc_i (0))]) dX11_init_75 lc_fX11_35 h100 (Nat.le_of_ble_eq_true rfl) rfl rfl rfl (fun σ109 h110 fr111 => ?_)
  have h112 : σ109 (51) = some (lc_aI 222 (fun _ : Int => (0 : Int))) := (fr111 _ (by omega)).trans h102
  have h113 : σ109 (52) = some (lc_aI 222 (fun _ : Int => (0 : Int))) := (fr111 _ (by omega)).trans h103
  have h114 : σ109 (53) = some (lc_aI 222 (fun _ : Int => (0 : Int))) := (fr111 _ (by omega)).trans h104
  have h115 : σ109 (54) = some (lc_aI 222 (fun _ : Int => (0 : Int))) := (fr111 _ (by omega)).trans h105
  have h116 : σ109 (55) = some (lc_aI 888 (fun _ : Int => (0 : Int))) := (fr111 _ (by omega)).trans h106
  have h117 : σ109 (56) = some (lc_aI 222 (fun _ : Int => (0 : Int))) := (fr111 _ (by omega)).trans h107
  have h118 : σ109 (57) = some (lc_aI 80 (fun _ : Int => (0 : Int))) := (fr111 _ (by omega)).trans h108
  refine lc_aload_n dX11_init_78 rfl 0 rfl ?_
  refine lc_get dX11_init_79 lc_fX11_7 h110 rfl ?_
  refine lc_iconst dX11_init_82 ?_
  refine lc_bipush dX11_init_83 (by decide) ?_
  refine lc_sI dX11_init_85 h112 (by omega) (by decide) (fun σ119 h120 fr121 => ?_)
  have h122 : σ119 (52) = some (lc_aI 222 (fun _ : Int => (0 : Int))) := (fr121 _ (by omega)).trans h113
  have h123 : σ119 (53) = some (lc_aI 222 (fun _ : Int => (0 : Int))) := (fr121 _ (by omega)).trans h114
  have h124 : σ119 (54) = some (lc_aI 222 (fun _ : Int => (0 : Int))) := (fr121 _ (by omega)).trans h115
  have h125 : σ119 (55) = some (lc_aI 888 (fun _ : Int => (0 : Int))) := (fr121 _ (by omega)).trans h116
  have h126 : σ119 (56) = some (lc_aI 222 (fun _ : Int => (0 : Int))) := (fr121 _ (by omega)).trans h117
  have h127 : σ119 (57) = some (lc_aI 80 (fun _ : Int => (0 : Int))) := (fr121 _ (by omega)).trans h118
  have h128 : σ119 (50) = some (.inr (11, [.ref (51), .ref (52), .ref (53), .ref (54), .ref (55), .int (lc_i (0)), .ref (56), .int (lc_i (0)), .ref (57), .int (lc_i (0)), .int (lc_i (0)), .int (lc_i ((-105))), .int (lc_i ((-105))), .int (lc_i (0)), .int (lc_i (0)), .int (lc_i (0)), .int (lc_i (0))]) : lc_Cel) := (fr121 _ (by omega)).trans h110
  have hR129 := lc_RM_0
  refine lc_aload_n dX11_init_86 rfl 0 rfl ?_
  refine lc_callV (As := []) (stk := []) (b := 50) dX11_init_87 lc_mX11_38 lc_yX11_begins h128 rfl (lc_cX11_begins l 58 (lc_u (fun _ : Int => (0 : Int)) (4) (20)) (fun _ : Int => (0 : Int)) (0) (0) (20) (0) (0) (0) (fun _ : Int => (0 : Int)) (0) (false) (0) (0) ((-105)) ((-105)) (0) (0) (0) (0) σ119 h128 h120 (hR129)) rfl ⟨Nat.le_of_ble_eq_true rfl, Nat.le_of_ble_eq_true rfl⟩ ⟨Nat.le_of_ble_eq_true rfl, Nat.le_of_ble_eq_true rfl⟩ rfl (Nat.le_of_ble_eq_true rfl) (fun v134 n135 σ136 q137 => ?_)
  obtain ⟨g130, rfl, rfl, h133, hR131, fr132⟩ := q137
  have h138 : σ136 (52) = some (lc_aI 222 (fun _ : Int => (0 : Int))) := (fr132 _ (by omega)).trans h122
  have h139 : σ136 (53) = some (lc_aI 222 (fun _ : Int => (0 : Int))) := (fr132 _ (by omega)).trans h123
  have h140 : σ136 (54) = some (lc_aI 222 (fun _ : Int => (0 : Int))) := (fr132 _ (by omega)).trans h124
  have h141 : σ136 (55) = some (lc_aI 888 (fun _ : Int => (0 : Int))) := (fr132 _ (by omega)).trans h125
  have h142 : σ136 (56) = some (lc_aI 222 (fun _ : Int => (0 : Int))) := (fr132 _ (by omega)).trans h126
  have h143 : σ136 (57) = some (lc_aI 80 (fun _ : Int => (0 : Int))) := (fr132 _ (by omega)).trans h127
  have h144 : σ136 (50) = some (.inr (11, [.ref (51), .ref (52), .ref (53), .ref (54), .ref (55), .int (lc_i (0)), .ref (56), .int (lc_i (0)), .ref (57), .int (lc_i (0)), .int (lc_i (0)), .int (lc_i ((-105))), .int (lc_i ((-105))), .int (lc_i (0)), .int (lc_i (0)), .int (lc_i (0)), .int (lc_i (0))]) : lc_Cel) := (fr132 _ (by omega)).trans h128
  exact lc_vret dX11_init_90 rfl (Nat.le_of_ble_eq_true rfl) (Nat.le_of_ble_eq_true rfl) (hQ _ _ _ ⟨rfl, rfl, lc_MI_mk (N := (lc_f0, 1, 0, 20, 0, 0, lc_rc 0, lc_rp (fun _ : Int => (0 : Int)) (0) (lc_key (lc_f0) (1) 36))) (P := (lc_f0, 1, 0, 20, 0, 0, lc_rc 0, lc_rp (fun _ : Int => (0 : Int)) (0) (lc_key (lc_f0) (1) 36))) (H := fun _ => (lc_f0, 1, 0, 20, 0, 0, lc_rc 0, lc_rp (fun _ : Int => (0 : Int)) (0) (lc_key (lc_f0) (1) 36))) (k := 0) (tx := fun _ => 0) (z := 0) (bs := false) (bt := false) (sn := 0) (sr := 0) h144 h133 h138 h139 h140 h141 h142 h143 hR131 (fun h9 => absurd h9 (by decide)) (fun j hj => absurd hj (by omega)) (fun i h1 h2 => absurd h2 (by omega)) rfl rfl, (fun i _ => ((fr132 i (by omega)).trans ((fr121 i (by omega)).trans ((fr111 i (by omega)).trans ((fr101 i (by omega)).trans ((fr91 i (by omega)).trans ((fr81 i (by omega)).trans ((fr72 i (by omega)).trans ((fr63 i (by omega)).trans ((fr55 i (by omega)).trans ((fr47 i (by omega)).trans ((fr40 i (by omega)).trans ((fr33 i (by omega)).trans ((fr27 i (by omega)).trans ((fr21 i (by omega)).trans ((fr16 i (by omega)).trans ((fr11 i (by omega)).trans ((fr7 i (by omega)).trans (fr3 i (by omega))))))))))))))))))))⟩)
