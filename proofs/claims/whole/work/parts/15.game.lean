/-! The class's whole state -/
abbrev lc_St : Type := (Int → Int) × Int × Int × Int × Int × Int × Int × (Int → Int)
abbrev lc_Ab : Type := lc_St × lc_St × (Nat → lc_St) × Nat × (Int → Int) × Int × Bool × Bool × Int × Int
def lc_cs (σ : lc_S) (S : Nat) (a : lc_St) : Prop := σ S = some (.inr (7, [.ref (S + 1), .int (lc_i a.2.2.2.2.1), .int (lc_i a.2.2.2.2.2.1), .ref (S + 3), .int (lc_i a.2.2.2.2.2.2.1)]) : lc_Cel) ∧ σ (S + 1) = some (.inr (0, [.ref (S + 2), .int (lc_i (lc_cnt a.1 1 36)), .int (lc_i (lc_cnt a.1 2 36)), .int (lc_i a.2.1), .int (lc_i a.2.2.1), .int (lc_i a.2.2.2.1)]) : lc_Cel) ∧ σ (S + 2) = some (lc_aI 36 a.1) ∧ σ (S + 3) = some (lc_aJ 60 (fun i : Int => lc_j (a.2.2.2.2.2.2.2 i)))
def lc_Sl (σ : lc_S) (r k : Nat) (H : Nat → lc_St) : Prop := ∃ X : Nat → lc_St, (∀ j : Nat, j < 4 → lc_cs σ (32 + 4 * ((r + j) % 4)) (X j)) ∧ ∀ j : Nat, j < k → X j = H j
def lc_pu (H : Nat → lc_St) (k : Nat) (N : lc_St) : Nat → lc_St := fun j => if k = 4 then (if j = 3 then N else H (j + 1)) else if j = k then N else H j
theorem lc_cs_fr {σ σ' : lc_S} {S : Nat} {a : lc_St} (h : lc_cs σ S a) (hf : ∀ i : Nat, S ≤ i → i ≤ S + 3 → σ' i = σ i) : lc_cs σ' S a := by
  obtain ⟨h1, h2, h3, h4⟩ := h
  exact ⟨(hf _ (by omega) (by omega)).trans h1, (hf _ (by omega) (by omega)).trans h2, (hf _ (by omega) (by omega)).trans h3, (hf _ (by omega) (by omega)).trans h4⟩
theorem lc_Sl_fr {σ σ' : lc_S} {r k : Nat} {H : Nat → lc_St} (h : lc_Sl σ r k H) (hf : ∀ i : Nat, 32 ≤ i → i < 48 → σ' i = σ i) : lc_Sl σ' r k H := by
  obtain ⟨X, h1, h2⟩ := h
  exact ⟨X, fun j hj => lc_cs_fr (h1 j hj) (fun i hi1 hi2 => hf i (by omega) (by omega)), h2⟩
theorem lc_Sl_le {σ : lc_S} {r k k' : Nat} {H : Nat → lc_St} (h : lc_Sl σ r k H) (hk : k' ≤ k) : lc_Sl σ r k' H := by
  obtain ⟨X, h1, h2⟩ := h
  exact ⟨X, h1, fun j hj => h2 j (by omega)⟩
theorem lc_Sl_st {σ : lc_S} {r k : Nat} {H : Nat → lc_St} (h : lc_Sl σ r k H) : ∀ j : Nat, j < 4 → ∃ vs : List Value, σ (32 + 4 * j) = some (.inr (7, vs) : lc_Cel) := by
  obtain ⟨X, h1, h2⟩ := h
  intro j hj
  have h3 := (h1 ((j + 4 - r % 4) % 4) (by omega)).1
  rw [show 32 + 4 * ((r + (j + 4 - r % 4) % 4) % 4) = 32 + 4 * j by omega] at h3
  exact ⟨_, h3⟩
theorem lc_Sl_at {σ : lc_S} {r k : Nat} {H : Nat → lc_St} (h : lc_Sl σ r k H) {t : Nat} (ht : t = 32 + 4 * ((r + k) % 4)) : ∃ a : lc_St, lc_cs σ t a := by
  obtain ⟨X, h1, h2⟩ := h
  have h3 := h1 (k % 4) (by omega)
  rw [show 32 + 4 * ((r + k % 4) % 4) = t by omega] at h3
  exact ⟨_, h3⟩
theorem lc_Sl_la {σ : lc_S} {r k : Nat} {H : Nat → lc_St} (h : lc_Sl σ r k H) (hk : 1 ≤ k ∧ k ≤ 4) {t : Nat} (ht : t = 32 + 4 * ((r + (k - 1)) % 4)) : lc_cs σ t (H (k - 1)) := by
  obtain ⟨X, h1, h2⟩ := h
  have h3 := h1 (k - 1) (by omega)
  rw [← ht, h2 (k - 1) (by omega)] at h3
  exact h3
theorem lc_Sl_push {σ σ' : lc_S} {r k t : Nat} {H : Nat → lc_St} {N : lc_St} (h : lc_Sl σ r k H) (hk : k ≤ 4) (ht : t = 32 + 4 * ((r + k) % 4)) (hf : ∀ i : Nat, 32 ≤ i → i < 48 → i ≠ t → i ≠ t + 1 → i ≠ t + 2 → i ≠ t + 3 → σ' i = σ i) (hN : lc_cs σ' t N) : lc_Sl σ' (lc_hr r k) (lc_hk k) (lc_pu H k N) := by
  obtain ⟨X, h1, h2⟩ := h
  by_cases e : k = 4
  · rw [show lc_hr r k = r + 1 from if_pos e, show lc_hk k = 4 from if_pos e]
    refine ⟨fun j => if j = 3 then N else X (j + 1), ?_, ?_⟩
    · intro j hj
      by_cases e3 : j = 3
      · subst e3
        rw [show 32 + 4 * ((r + 1 + 3) % 4) = t by omega]
        exact hN
      · show lc_cs σ' _ (if j = 3 then N else X (j + 1))
        rw [if_neg e3, show 32 + 4 * ((r + 1 + j) % 4) = 32 + 4 * ((r + (j + 1)) % 4) by omega]
        exact lc_cs_fr (h1 (j + 1) (by omega)) (fun i hi1 hi2 => hf i (by omega) (by omega) (by omega) (by omega) (by omega) (by omega))
    · intro j hj
      show (if j = 3 then N else X (j + 1)) = lc_pu H k N j
      unfold lc_pu
      rw [if_pos e]
      by_cases e3 : j = 3
      · rw [if_pos e3, if_pos e3]
      · rw [if_neg e3, if_neg e3]
        exact h2 (j + 1) (by omega)
  · rw [show lc_hr r k = r from if_neg e, show lc_hk k = k + 1 from if_neg e]
    refine ⟨fun j => if j = k then N else X j, ?_, ?_⟩
    · intro j hj
      by_cases e3 : j = k
      · show lc_cs σ' _ (if j = k then N else X j)
        rw [if_pos e3, e3, show 32 + 4 * ((r + k) % 4) = t by omega]
        exact hN
      · show lc_cs σ' _ (if j = k then N else X j)
        rw [if_neg e3]
        exact lc_cs_fr (h1 j hj) (fun i hi1 hi2 => hf i (by omega) (by omega) (by omega) (by omega) (by omega) (by omega))
    · intro j hj
      show (if j = k then N else X j) = lc_pu H k N j
      unfold lc_pu
      rw [if_neg e]
      by_cases e3 : j = k
      · rw [if_pos e3, if_pos e3]
      · rw [if_neg e3, if_neg e3]
        exact h2 j (by omega)

def lc_Lk (σ : lc_S) : Prop := ∃ (a1 a2 a3 ch : Int) (bf : Int → Int) (d1 d2 d3 y1 y2 : Int) (g1 : Int → Int) (x1 x2 : Int) (g2 : Int → Int), σ (8) = some (.inr (8, [.ref (2), .int (lc_i (a1)), .int (lc_i (a2)), .int (lc_i (a3))]) : lc_Cel) ∧ σ (11) = some (.inr (3, [.ref (7), .ref (12), .ref (14), .ref (16), .int (lc_i (ch))]) : lc_Cel) ∧ σ (12) = some (.inr (0, [.ref (13), .int (lc_i (lc_cnt (bf) 1 36)), .int (lc_i (lc_cnt (bf) 2 36)), .int (lc_i (d1)), .int (lc_i (d2)), .int (lc_i (d3))]) : lc_Cel) ∧ σ (13) = some (lc_aI 36 (bf)) ∧ σ (14) = some (.inr (4, [.ref (15), .int (lc_i (y1)), .int (lc_i (y2))]) : lc_Cel) ∧ σ (15) = some (lc_aI 364 (g1)) ∧ σ (16) = some (.inr (4, [.ref (17), .int (lc_i (x1)), .int (lc_i (x2))]) : lc_Cel) ∧ σ (17) = some (lc_aI 364 (g2))

theorem lc_Lk_mk {σ : lc_S} {a1 a2 a3 ch : Int} {bf : Int → Int} {d1 d2 d3 y1 y2 : Int} {g1 : Int → Int} {x1 x2 : Int} {g2 : Int → Int} (h0 : σ (8) = some (.inr (8, [.ref (2), .int (lc_i (a1)), .int (lc_i (a2)), .int (lc_i (a3))]) : lc_Cel)) (h1 : σ (11) = some (.inr (3, [.ref (7), .ref (12), .ref (14), .ref (16), .int (lc_i (ch))]) : lc_Cel)) (h2 : σ (12) = some (.inr (0, [.ref (13), .int (lc_i (lc_cnt (bf) 1 36)), .int (lc_i (lc_cnt (bf) 2 36)), .int (lc_i (d1)), .int (lc_i (d2)), .int (lc_i (d3))]) : lc_Cel)) (h3 : σ (13) = some (lc_aI 36 (bf))) (h4 : σ (14) = some (.inr (4, [.ref (15), .int (lc_i (y1)), .int (lc_i (y2))]) : lc_Cel)) (h5 : σ (15) = some (lc_aI 364 (g1))) (h6 : σ (16) = some (.inr (4, [.ref (17), .int (lc_i (x1)), .int (lc_i (x2))]) : lc_Cel)) (h7 : σ (17) = some (lc_aI 364 (g2))) : lc_Lk σ := ⟨a1, a2, a3, ch, bf, d1, d2, d3, y1, y2, g1, x1, x2, g2, h0, h1, h2, h3, h4, h5, h6, h7⟩

set_option maxRecDepth 100000 in
set_option maxHeartbeats 600000 in
theorem lc_cX3_worthAhead_0 (l : Launch) (n : Nat) (ch a1 a2 a3 : Int) (bf : Int → Int) (d1 d2 d3 y1 y2 : Int) (g1 : Int → Int) (x1 x2 : Int) (g2 : Int → Int) (f : Int → Int) (s q m : Int) (σ : lc_S) (h0_0 : σ (11) = some (.inr (3, [.ref (7), .ref (12), .ref (14), .ref (16), .int (lc_i (ch))]) : lc_Cel)) (h0_1 : σ (7) = some (.inr (6, [.ref (2), .ref (8), .ref (5)]) : lc_Cel)) (h0_2 : σ (2) = some (.inr (1, [.ref (3), .ref (4)]) : lc_Cel)) (h0_3 : σ (3) = some (lc_aI 48 (lc_pt))) (h0_4 : σ (4) = some (lc_aI 72 (lc_sp))) (h0_5 : σ (8) = some (.inr (8, [.ref (2), .int (lc_i (a1)), .int (lc_i (a2)), .int (lc_i (a3))]) : lc_Cel)) (h0_6 : σ (12) = some (.inr (0, [.ref (13), .int (lc_i (lc_cnt (bf) 1 36)), .int (lc_i (lc_cnt (bf) 2 36)), .int (lc_i (d1)), .int (lc_i (d2)), .int (lc_i (d3))]) : lc_Cel)) (h0_7 : σ (13) = some (lc_aI 36 (bf))) (h0_8 : σ (14) = some (.inr (4, [.ref (15), .int (lc_i (y1)), .int (lc_i (y2))]) : lc_Cel)) (h0_9 : σ (15) = some (lc_aI 364 (g1))) (h0_10 : σ (16) = some (.inr (4, [.ref (17), .int (lc_i (x1)), .int (lc_i (x2))]) : lc_Cel)) (h0_11 : σ (17) = some (lc_aI 364 (g2))) (h0_12 : σ (19) = some (.inr (0, [.ref (20), .int (lc_i (lc_cnt (f) 1 36)), .int (lc_i (lc_cnt (f) 2 36)), .int (lc_i (s)), .int (lc_i (q)), .int (lc_i (m))]) : lc_Cel)) (h0_13 : σ (20) = some (lc_aI 36 (f))) (hf : ∀ j : Int, 0 ≤ j → j < 36 → 0 ≤ f j ∧ f j ≤ 2) (hs : 1 ≤ s ∧ s ≤ 2) (hq : 0 ≤ q ∧ q ≤ 60) (hm : 4 ≤ m ∧ m ≤ 60) : lc_Con l yX3_worthAhead cX3_worthAhead 3 (some .int) (lc_Rd 9) [.ref (11), .ref (19), .int (lc_i (0))] n σ (fun v n2 σ2 => v = some (.int (lc_i ((lc_sv m 0 f s q).1))) ∧ n = n2 ∧ lc_Lk σ2 ∧ ∀ i : Nat, i ≠ 8 → i ≠ 11 → i ≠ 12 → i ≠ 13 → i ≠ 14 → i ≠ 15 → i ≠ 16 → i ≠ 17 → σ2 i = σ i) := by
  refine lc_con RX3 false (by decide) rfl (fun h => absurd h (by decide)) (Nat.le_of_ble_eq_true rfl) ?_
  suffices H : ∀ Q : lc_QT, (∀ v n2 σ2, (fun v n2 σ2 => v = some (.int (lc_i ((lc_sv m 0 f s q).1))) ∧ n = n2 ∧ lc_Lk σ2 ∧ ∀ i : Nat, i ≠ 8 → i ≠ 11 → i ≠ 12 → i ≠ 13 → i ≠ 14 → i ≠ 15 → i ≠ 16 → i ≠ 17 → σ2 i = σ i : lc_QT) v n2 σ2 → Q v n2 σ2) → lc_V l RX3 cX3_worthAhead 3 (some .int) false (lc_Rd 9) (lc_G Q 0 0) lc_E0 0 0 n 0 [(0, .ref (11)), (1, .ref (19)), (2, .int (lc_i (0)))] [] σ from H _ (fun _ _ _ h => h)
  intro Q hQ
  refine lc_aload_n dX3_worthAhead_0 rfl 0 rfl ?_
  refine lc_get dX3_worthAhead_1 lc_fX3_12 h0_0 rfl ?_
  refine lc_aload_n dX3_worthAhead_4 rfl 1 rfl ?_
  refine lc_callV (As := [.ref (19)]) (stk := []) (b := 12) dX3_worthAhead_5 lc_mX3_32 lc_yX0_copyFrom h0_6 rfl (lc_cX0_copyFrom l n (12) (bf) (d1) (d2) (d3) (19) (f) (s) (q) (m) σ h0_6 h0_7 h0_12 h0_13 (by omega)) rfl ⟨Nat.le_of_ble_eq_true rfl, Nat.le_of_ble_eq_true rfl⟩ ⟨Nat.le_of_ble_eq_true rfl, Nat.le_of_ble_eq_true rfl⟩ rfl (Nat.le_of_ble_eq_true rfl) (fun v4 n5 σ6 q7 => ?_)
  obtain ⟨rfl, rfl, h2, h3, fr1⟩ := q7
  have h8 : σ6 (11) = some (.inr (3, [.ref (7), .ref (12), .ref (14), .ref (16), .int (lc_i (ch))]) : lc_Cel) := (fr1 _ (by omega) (by omega)).trans h0_0
  have h9 : σ6 (7) = some (.inr (6, [.ref (2), .ref (8), .ref (5)]) : lc_Cel) := (fr1 _ (by omega) (by omega)).trans h0_1
  have h10 : σ6 (2) = some (.inr (1, [.ref (3), .ref (4)]) : lc_Cel) := (fr1 _ (by omega) (by omega)).trans h0_2
  have h11 : σ6 (3) = some (lc_aI 48 (lc_pt)) := (fr1 _ (by omega) (by omega)).trans h0_3
  have h12 : σ6 (4) = some (lc_aI 72 (lc_sp)) := (fr1 _ (by omega) (by omega)).trans h0_4
  have h13 : σ6 (8) = some (.inr (8, [.ref (2), .int (lc_i (a1)), .int (lc_i (a2)), .int (lc_i (a3))]) : lc_Cel) := (fr1 _ (by omega) (by omega)).trans h0_5
  have h14 : σ6 (14) = some (.inr (4, [.ref (15), .int (lc_i (y1)), .int (lc_i (y2))]) : lc_Cel) := (fr1 _ (by omega) (by omega)).trans h0_8
  have h15 : σ6 (15) = some (lc_aI 364 (g1)) := (fr1 _ (by omega) (by omega)).trans h0_9
  have h16 : σ6 (16) = some (.inr (4, [.ref (17), .int (lc_i (x1)), .int (lc_i (x2))]) : lc_Cel) := (fr1 _ (by omega) (by omega)).trans h0_10
  have h17 : σ6 (17) = some (lc_aI 364 (g2)) := (fr1 _ (by omega) (by omega)).trans h0_11
  have h18 : σ6 (19) = some (.inr (0, [.ref (20), .int (lc_i (lc_cnt (f) 1 36)), .int (lc_i (lc_cnt (f) 2 36)), .int (lc_i (s)), .int (lc_i (q)), .int (lc_i (m))]) : lc_Cel) := (fr1 _ (by omega) (by omega)).trans h0_12
  have h19 : σ6 (20) = some (lc_aI 36 (f)) := (fr1 _ (by omega) (by omega)).trans h0_13
  refine lc_aload_n dX3_worthAhead_8 rfl 0 rfl ?_
  refine lc_iload_n dX3_worthAhead_9 rfl 2 rfl ?_
  refine lc_callV (As := [.int (lc_i (0))]) (stk := []) (b := 11) dX3_worthAhead_10 lc_mX3_36 lc_yX3_search h8 rfl (lc_cX3_search_0 l n (8) (ch) (a1) (a2) (a3) (f) (s) (q) (m) σ6 h8 h9 h10 h11 h12 h13 h2 h3 (by decide) hs) rfl ⟨Nat.le_of_ble_eq_true rfl, Nat.le_of_ble_eq_true rfl⟩ ⟨Nat.le_of_ble_eq_true rfl, Nat.le_of_ble_eq_true rfl⟩ rfl (Nat.le_of_ble_eq_true rfl) (fun v20 n21 σ22 q23 => ?_)
  obtain ⟨rfl, rfl, rfl⟩ := q23
  exact lc_iret dX3_worthAhead_13 rfl (Nat.le_of_ble_eq_true rfl) (Nat.le_of_ble_eq_true rfl) (hQ _ _ _ ⟨rfl, rfl, (lc_Lk_mk h13 h8 h2 h3 h14 h15 h16 h17), (fun i _ _ _ _ _ _ _ _ => (fr1 i (by omega) (by omega)))⟩)

set_option maxRecDepth 100000 in
set_option maxHeartbeats 600000 in
theorem lc_cX3_worthAhead_1 (l : Launch) (n : Nat) (ch a1 a2 a3 : Int) (bf : Int → Int) (d1 d2 d3 y1 y2 : Int) (g1 : Int → Int) (x1 x2 : Int) (g2 : Int → Int) (f : Int → Int) (s q m : Int) (σ : lc_S) (h0_0 : σ (11) = some (.inr (3, [.ref (7), .ref (12), .ref (14), .ref (16), .int (lc_i (ch))]) : lc_Cel)) (h0_1 : σ (7) = some (.inr (6, [.ref (2), .ref (8), .ref (5)]) : lc_Cel)) (h0_2 : σ (2) = some (.inr (1, [.ref (3), .ref (4)]) : lc_Cel)) (h0_3 : σ (3) = some (lc_aI 48 (lc_pt))) (h0_4 : σ (4) = some (lc_aI 72 (lc_sp))) (h0_5 : σ (8) = some (.inr (8, [.ref (2), .int (lc_i (a1)), .int (lc_i (a2)), .int (lc_i (a3))]) : lc_Cel)) (h0_6 : σ (12) = some (.inr (0, [.ref (13), .int (lc_i (lc_cnt (bf) 1 36)), .int (lc_i (lc_cnt (bf) 2 36)), .int (lc_i (d1)), .int (lc_i (d2)), .int (lc_i (d3))]) : lc_Cel)) (h0_7 : σ (13) = some (lc_aI 36 (bf))) (h0_8 : σ (14) = some (.inr (4, [.ref (15), .int (lc_i (y1)), .int (lc_i (y2))]) : lc_Cel)) (h0_9 : σ (15) = some (lc_aI 364 (g1))) (h0_10 : σ (16) = some (.inr (4, [.ref (17), .int (lc_i (x1)), .int (lc_i (x2))]) : lc_Cel)) (h0_11 : σ (17) = some (lc_aI 364 (g2))) (h0_12 : σ (19) = some (.inr (0, [.ref (20), .int (lc_i (lc_cnt (f) 1 36)), .int (lc_i (lc_cnt (f) 2 36)), .int (lc_i (s)), .int (lc_i (q)), .int (lc_i (m))]) : lc_Cel)) (h0_13 : σ (20) = some (lc_aI 36 (f))) (hf : ∀ j : Int, 0 ≤ j → j < 36 → 0 ≤ f j ∧ f j ≤ 2) (hs : 1 ≤ s ∧ s ≤ 2) (hq : 0 ≤ q ∧ q ≤ 60) (hm : 4 ≤ m ∧ m ≤ 60) : lc_Con l yX3_worthAhead cX3_worthAhead 3 (some .int) (lc_Rd 9) [.ref (11), .ref (19), .int (lc_i (1))] n σ (fun v n2 σ2 => v = some (.int (lc_i ((lc_sv m 1 f s q).1))) ∧ n = n2 ∧ lc_Lk σ2 ∧ ∀ i : Nat, i ≠ 8 → i ≠ 11 → i ≠ 12 → i ≠ 13 → i ≠ 14 → i ≠ 15 → i ≠ 16 → i ≠ 17 → σ2 i = σ i) := by
  refine lc_con RX3 false (by decide) rfl (fun h => absurd h (by decide)) (Nat.le_of_ble_eq_true rfl) ?_
  suffices H : ∀ Q : lc_QT, (∀ v n2 σ2, (fun v n2 σ2 => v = some (.int (lc_i ((lc_sv m 1 f s q).1))) ∧ n = n2 ∧ lc_Lk σ2 ∧ ∀ i : Nat, i ≠ 8 → i ≠ 11 → i ≠ 12 → i ≠ 13 → i ≠ 14 → i ≠ 15 → i ≠ 16 → i ≠ 17 → σ2 i = σ i : lc_QT) v n2 σ2 → Q v n2 σ2) → lc_V l RX3 cX3_worthAhead 3 (some .int) false (lc_Rd 9) (lc_G Q 0 0) lc_E0 0 0 n 0 [(0, .ref (11)), (1, .ref (19)), (2, .int (lc_i (1)))] [] σ from H _ (fun _ _ _ h => h)
  intro Q hQ
  refine lc_aload_n dX3_worthAhead_0 rfl 0 rfl ?_
  refine lc_get dX3_worthAhead_1 lc_fX3_12 h0_0 rfl ?_
  refine lc_aload_n dX3_worthAhead_4 rfl 1 rfl ?_
  refine lc_callV (As := [.ref (19)]) (stk := []) (b := 12) dX3_worthAhead_5 lc_mX3_32 lc_yX0_copyFrom h0_6 rfl (lc_cX0_copyFrom l n (12) (bf) (d1) (d2) (d3) (19) (f) (s) (q) (m) σ h0_6 h0_7 h0_12 h0_13 (by omega)) rfl ⟨Nat.le_of_ble_eq_true rfl, Nat.le_of_ble_eq_true rfl⟩ ⟨Nat.le_of_ble_eq_true rfl, Nat.le_of_ble_eq_true rfl⟩ rfl (Nat.le_of_ble_eq_true rfl) (fun v4 n5 σ6 q7 => ?_)
  obtain ⟨rfl, rfl, h2, h3, fr1⟩ := q7
  have h8 : σ6 (11) = some (.inr (3, [.ref (7), .ref (12), .ref (14), .ref (16), .int (lc_i (ch))]) : lc_Cel) := (fr1 _ (by omega) (by omega)).trans h0_0
  have h9 : σ6 (7) = some (.inr (6, [.ref (2), .ref (8), .ref (5)]) : lc_Cel) := (fr1 _ (by omega) (by omega)).trans h0_1
  have h10 : σ6 (2) = some (.inr (1, [.ref (3), .ref (4)]) : lc_Cel) := (fr1 _ (by omega) (by omega)).trans h0_2
  have h11 : σ6 (3) = some (lc_aI 48 (lc_pt)) := (fr1 _ (by omega) (by omega)).trans h0_3
  have h12 : σ6 (4) = some (lc_aI 72 (lc_sp)) := (fr1 _ (by omega) (by omega)).trans h0_4
  have h13 : σ6 (8) = some (.inr (8, [.ref (2), .int (lc_i (a1)), .int (lc_i (a2)), .int (lc_i (a3))]) : lc_Cel) := (fr1 _ (by omega) (by omega)).trans h0_5
  have h14 : σ6 (14) = some (.inr (4, [.ref (15), .int (lc_i (y1)), .int (lc_i (y2))]) : lc_Cel) := (fr1 _ (by omega) (by omega)).trans h0_8
  have h15 : σ6 (15) = some (lc_aI 364 (g1)) := (fr1 _ (by omega) (by omega)).trans h0_9
  have h16 : σ6 (16) = some (.inr (4, [.ref (17), .int (lc_i (x1)), .int (lc_i (x2))]) : lc_Cel) := (fr1 _ (by omega) (by omega)).trans h0_10
  have h17 : σ6 (17) = some (lc_aI 364 (g2)) := (fr1 _ (by omega) (by omega)).trans h0_11
  have h18 : σ6 (19) = some (.inr (0, [.ref (20), .int (lc_i (lc_cnt (f) 1 36)), .int (lc_i (lc_cnt (f) 2 36)), .int (lc_i (s)), .int (lc_i (q)), .int (lc_i (m))]) : lc_Cel) := (fr1 _ (by omega) (by omega)).trans h0_12
  have h19 : σ6 (20) = some (lc_aI 36 (f)) := (fr1 _ (by omega) (by omega)).trans h0_13
  refine lc_aload_n dX3_worthAhead_8 rfl 0 rfl ?_
  refine lc_iload_n dX3_worthAhead_9 rfl 2 rfl ?_
  refine lc_callV (As := [.int (lc_i (1))]) (stk := []) (b := 11) dX3_worthAhead_10 lc_mX3_36 lc_yX3_search h8 rfl (lc_cX3_search_1 l n (8) (ch) (a1) (a2) (a3) (f) (s) (q) (m) (y1) (y2) (g1) σ6 h8 h9 h10 h11 h12 h13 h2 h3 h14 h15 (by decide) hf hs (by omega) (by omega)) rfl ⟨Nat.le_of_ble_eq_true rfl, Nat.le_of_ble_eq_true rfl⟩ ⟨Nat.le_of_ble_eq_true rfl, Nat.le_of_ble_eq_true rfl⟩ rfl (Nat.le_of_ble_eq_true rfl) (fun v33 n34 σ35 q36 => ?_)
  obtain ⟨c27, c28, c29, y30, y31, g32, rfl, rfl, h20, h21, h22, h23, h24, h25, fr26⟩ := q36
  have h37 : σ35 (7) = some (.inr (6, [.ref (2), .ref (8), .ref (5)]) : lc_Cel) := (fr26 _ (by omega) (by omega) (by omega) (by omega) (by omega) (by omega)).trans h9
  have h38 : σ35 (2) = some (.inr (1, [.ref (3), .ref (4)]) : lc_Cel) := (fr26 _ (by omega) (by omega) (by omega) (by omega) (by omega) (by omega)).trans h10
  have h39 : σ35 (3) = some (lc_aI 48 (lc_pt)) := (fr26 _ (by omega) (by omega) (by omega) (by omega) (by omega) (by omega)).trans h11
  have h40 : σ35 (4) = some (lc_aI 72 (lc_sp)) := (fr26 _ (by omega) (by omega) (by omega) (by omega) (by omega) (by omega)).trans h12
  have h41 : σ35 (16) = some (.inr (4, [.ref (17), .int (lc_i (x1)), .int (lc_i (x2))]) : lc_Cel) := (fr26 _ (by omega) (by omega) (by omega) (by omega) (by omega) (by omega)).trans h16
  have h42 : σ35 (17) = some (lc_aI 364 (g2)) := (fr26 _ (by omega) (by omega) (by omega) (by omega) (by omega) (by omega)).trans h17
  have h43 : σ35 (19) = some (.inr (0, [.ref (20), .int (lc_i (lc_cnt (f) 1 36)), .int (lc_i (lc_cnt (f) 2 36)), .int (lc_i (s)), .int (lc_i (q)), .int (lc_i (m))]) : lc_Cel) := (fr26 _ (by omega) (by omega) (by omega) (by omega) (by omega) (by omega)).trans h18
  have h44 : σ35 (20) = some (lc_aI 36 (f)) := (fr26 _ (by omega) (by omega) (by omega) (by omega) (by omega) (by omega)).trans h19
  exact lc_iret dX3_worthAhead_13 rfl (Nat.le_of_ble_eq_true rfl) (Nat.le_of_ble_eq_true rfl) (hQ _ _ _ ⟨rfl, rfl, (lc_Lk_mk h20 h21 h22 h23 h24 h25 h41 h42), (fun i _ _ _ _ _ _ _ _ => ((fr26 i (by omega) (by omega) (by omega) (by omega) (by omega) (by omega)).trans (fr1 i (by omega) (by omega))))⟩)

set_option maxRecDepth 100000 in
set_option maxHeartbeats 600000 in
theorem lc_cX3_worthAhead_2 (l : Launch) (n : Nat) (ch a1 a2 a3 : Int) (bf : Int → Int) (d1 d2 d3 y1 y2 : Int) (g1 : Int → Int) (x1 x2 : Int) (g2 : Int → Int) (f : Int → Int) (s q m : Int) (σ : lc_S) (h0_0 : σ (11) = some (.inr (3, [.ref (7), .ref (12), .ref (14), .ref (16), .int (lc_i (ch))]) : lc_Cel)) (h0_1 : σ (7) = some (.inr (6, [.ref (2), .ref (8), .ref (5)]) : lc_Cel)) (h0_2 : σ (2) = some (.inr (1, [.ref (3), .ref (4)]) : lc_Cel)) (h0_3 : σ (3) = some (lc_aI 48 (lc_pt))) (h0_4 : σ (4) = some (lc_aI 72 (lc_sp))) (h0_5 : σ (8) = some (.inr (8, [.ref (2), .int (lc_i (a1)), .int (lc_i (a2)), .int (lc_i (a3))]) : lc_Cel)) (h0_6 : σ (12) = some (.inr (0, [.ref (13), .int (lc_i (lc_cnt (bf) 1 36)), .int (lc_i (lc_cnt (bf) 2 36)), .int (lc_i (d1)), .int (lc_i (d2)), .int (lc_i (d3))]) : lc_Cel)) (h0_7 : σ (13) = some (lc_aI 36 (bf))) (h0_8 : σ (14) = some (.inr (4, [.ref (15), .int (lc_i (y1)), .int (lc_i (y2))]) : lc_Cel)) (h0_9 : σ (15) = some (lc_aI 364 (g1))) (h0_10 : σ (16) = some (.inr (4, [.ref (17), .int (lc_i (x1)), .int (lc_i (x2))]) : lc_Cel)) (h0_11 : σ (17) = some (lc_aI 364 (g2))) (h0_12 : σ (19) = some (.inr (0, [.ref (20), .int (lc_i (lc_cnt (f) 1 36)), .int (lc_i (lc_cnt (f) 2 36)), .int (lc_i (s)), .int (lc_i (q)), .int (lc_i (m))]) : lc_Cel)) (h0_13 : σ (20) = some (lc_aI 36 (f))) (hf : ∀ j : Int, 0 ≤ j → j < 36 → 0 ≤ f j ∧ f j ≤ 2) (hs : 1 ≤ s ∧ s ≤ 2) (hq : 0 ≤ q ∧ q ≤ 60) (hm : 4 ≤ m ∧ m ≤ 60) : lc_Con l yX3_worthAhead cX3_worthAhead 3 (some .int) (lc_Rd 9) [.ref (11), .ref (19), .int (lc_i (2))] n σ (fun v n2 σ2 => v = some (.int (lc_i ((lc_sv m 2 f s q).1))) ∧ n = n2 ∧ lc_Lk σ2 ∧ ∀ i : Nat, i ≠ 8 → i ≠ 11 → i ≠ 12 → i ≠ 13 → i ≠ 14 → i ≠ 15 → i ≠ 16 → i ≠ 17 → σ2 i = σ i) := by
  refine lc_con RX3 false (by decide) rfl (fun h => absurd h (by decide)) (Nat.le_of_ble_eq_true rfl) ?_
  suffices H : ∀ Q : lc_QT, (∀ v n2 σ2, (fun v n2 σ2 => v = some (.int (lc_i ((lc_sv m 2 f s q).1))) ∧ n = n2 ∧ lc_Lk σ2 ∧ ∀ i : Nat, i ≠ 8 → i ≠ 11 → i ≠ 12 → i ≠ 13 → i ≠ 14 → i ≠ 15 → i ≠ 16 → i ≠ 17 → σ2 i = σ i : lc_QT) v n2 σ2 → Q v n2 σ2) → lc_V l RX3 cX3_worthAhead 3 (some .int) false (lc_Rd 9) (lc_G Q 0 0) lc_E0 0 0 n 0 [(0, .ref (11)), (1, .ref (19)), (2, .int (lc_i (2)))] [] σ from H _ (fun _ _ _ h => h)
  intro Q hQ
  refine lc_aload_n dX3_worthAhead_0 rfl 0 rfl ?_
  refine lc_get dX3_worthAhead_1 lc_fX3_12 h0_0 rfl ?_
  refine lc_aload_n dX3_worthAhead_4 rfl 1 rfl ?_
  refine lc_callV (As := [.ref (19)]) (stk := []) (b := 12) dX3_worthAhead_5 lc_mX3_32 lc_yX0_copyFrom h0_6 rfl (lc_cX0_copyFrom l n (12) (bf) (d1) (d2) (d3) (19) (f) (s) (q) (m) σ h0_6 h0_7 h0_12 h0_13 (by omega)) rfl ⟨Nat.le_of_ble_eq_true rfl, Nat.le_of_ble_eq_true rfl⟩ ⟨Nat.le_of_ble_eq_true rfl, Nat.le_of_ble_eq_true rfl⟩ rfl (Nat.le_of_ble_eq_true rfl) (fun v4 n5 σ6 q7 => ?_)
  obtain ⟨rfl, rfl, h2, h3, fr1⟩ := q7
  have h8 : σ6 (11) = some (.inr (3, [.ref (7), .ref (12), .ref (14), .ref (16), .int (lc_i (ch))]) : lc_Cel) := (fr1 _ (by omega) (by omega)).trans h0_0
  have h9 : σ6 (7) = some (.inr (6, [.ref (2), .ref (8), .ref (5)]) : lc_Cel) := (fr1 _ (by omega) (by omega)).trans h0_1
  have h10 : σ6 (2) = some (.inr (1, [.ref (3), .ref (4)]) : lc_Cel) := (fr1 _ (by omega) (by omega)).trans h0_2
  have h11 : σ6 (3) = some (lc_aI 48 (lc_pt)) := (fr1 _ (by omega) (by omega)).trans h0_3
  have h12 : σ6 (4) = some (lc_aI 72 (lc_sp)) := (fr1 _ (by omega) (by omega)).trans h0_4
  have h13 : σ6 (8) = some (.inr (8, [.ref (2), .int (lc_i (a1)), .int (lc_i (a2)), .int (lc_i (a3))]) : lc_Cel) := (fr1 _ (by omega) (by omega)).trans h0_5
  have h14 : σ6 (14) = some (.inr (4, [.ref (15), .int (lc_i (y1)), .int (lc_i (y2))]) : lc_Cel) := (fr1 _ (by omega) (by omega)).trans h0_8
  have h15 : σ6 (15) = some (lc_aI 364 (g1)) := (fr1 _ (by omega) (by omega)).trans h0_9
  have h16 : σ6 (16) = some (.inr (4, [.ref (17), .int (lc_i (x1)), .int (lc_i (x2))]) : lc_Cel) := (fr1 _ (by omega) (by omega)).trans h0_10
  have h17 : σ6 (17) = some (lc_aI 364 (g2)) := (fr1 _ (by omega) (by omega)).trans h0_11
  have h18 : σ6 (19) = some (.inr (0, [.ref (20), .int (lc_i (lc_cnt (f) 1 36)), .int (lc_i (lc_cnt (f) 2 36)), .int (lc_i (s)), .int (lc_i (q)), .int (lc_i (m))]) : lc_Cel) := (fr1 _ (by omega) (by omega)).trans h0_12
  have h19 : σ6 (20) = some (lc_aI 36 (f)) := (fr1 _ (by omega) (by omega)).trans h0_13
  refine lc_aload_n dX3_worthAhead_8 rfl 0 rfl ?_
  refine lc_iload_n dX3_worthAhead_9 rfl 2 rfl ?_
  refine lc_callV (As := [.int (lc_i (2))]) (stk := []) (b := 11) dX3_worthAhead_10 lc_mX3_36 lc_yX3_search h8 rfl (lc_cX3_search_2 l n (8) (ch) (a1) (a2) (a3) (f) (s) (q) (m) (y1) (y2) (g1) (x1) (x2) (g2) σ6 h8 h9 h10 h11 h12 h13 h2 h3 h14 h15 h16 h17 (by decide) hf hs (by omega) (by omega)) rfl ⟨Nat.le_of_ble_eq_true rfl, Nat.le_of_ble_eq_true rfl⟩ ⟨Nat.le_of_ble_eq_true rfl, Nat.le_of_ble_eq_true rfl⟩ rfl (Nat.le_of_ble_eq_true rfl) (fun v38 n39 σ40 q41 => ?_)
  obtain ⟨c29, c30, c31, y32, y33, g34, y35, y36, g37, rfl, rfl, h20, h21, h22, h23, h24, h25, h26, h27, fr28⟩ := q41
  have h42 : σ40 (7) = some (.inr (6, [.ref (2), .ref (8), .ref (5)]) : lc_Cel) := (fr28 _ (by omega) (by omega) (by omega) (by omega) (by omega) (by omega) (by omega) (by omega)).trans h9
  have h43 : σ40 (2) = some (.inr (1, [.ref (3), .ref (4)]) : lc_Cel) := (fr28 _ (by omega) (by omega) (by omega) (by omega) (by omega) (by omega) (by omega) (by omega)).trans h10
  have h44 : σ40 (3) = some (lc_aI 48 (lc_pt)) := (fr28 _ (by omega) (by omega) (by omega) (by omega) (by omega) (by omega) (by omega) (by omega)).trans h11
  have h45 : σ40 (4) = some (lc_aI 72 (lc_sp)) := (fr28 _ (by omega) (by omega) (by omega) (by omega) (by omega) (by omega) (by omega) (by omega)).trans h12
  have h46 : σ40 (19) = some (.inr (0, [.ref (20), .int (lc_i (lc_cnt (f) 1 36)), .int (lc_i (lc_cnt (f) 2 36)), .int (lc_i (s)), .int (lc_i (q)), .int (lc_i (m))]) : lc_Cel) := (fr28 _ (by omega) (by omega) (by omega) (by omega) (by omega) (by omega) (by omega) (by omega)).trans h18
  have h47 : σ40 (20) = some (lc_aI 36 (f)) := (fr28 _ (by omega) (by omega) (by omega) (by omega) (by omega) (by omega) (by omega) (by omega)).trans h19
  exact lc_iret dX3_worthAhead_13 rfl (Nat.le_of_ble_eq_true rfl) (Nat.le_of_ble_eq_true rfl) (hQ _ _ _ ⟨rfl, rfl, (lc_Lk_mk h20 h21 h22 h23 h24 h25 h26 h27), (fun i _ _ _ _ _ _ _ _ => ((fr28 i (by omega) (by omega) (by omega) (by omega) (by omega) (by omega) (by omega) (by omega)).trans (fr1 i (by omega) (by omega))))⟩)

theorem lc_cX3_worthAhead (l : Launch) (n : Nat) (ch a1 a2 a3 : Int) (bf : Int → Int) (d1 d2 d3 y1 y2 : Int) (g1 : Int → Int) (x1 x2 : Int) (g2 : Int → Int) (f : Int → Int) (s q m : Int) (d : Int) (σ : lc_S) (h0_0 : σ (11) = some (.inr (3, [.ref (7), .ref (12), .ref (14), .ref (16), .int (lc_i (ch))]) : lc_Cel)) (h0_1 : σ (7) = some (.inr (6, [.ref (2), .ref (8), .ref (5)]) : lc_Cel)) (h0_2 : σ (2) = some (.inr (1, [.ref (3), .ref (4)]) : lc_Cel)) (h0_3 : σ (3) = some (lc_aI 48 (lc_pt))) (h0_4 : σ (4) = some (lc_aI 72 (lc_sp))) (h0_5 : σ (8) = some (.inr (8, [.ref (2), .int (lc_i (a1)), .int (lc_i (a2)), .int (lc_i (a3))]) : lc_Cel)) (h0_6 : σ (12) = some (.inr (0, [.ref (13), .int (lc_i (lc_cnt (bf) 1 36)), .int (lc_i (lc_cnt (bf) 2 36)), .int (lc_i (d1)), .int (lc_i (d2)), .int (lc_i (d3))]) : lc_Cel)) (h0_7 : σ (13) = some (lc_aI 36 (bf))) (h0_8 : σ (14) = some (.inr (4, [.ref (15), .int (lc_i (y1)), .int (lc_i (y2))]) : lc_Cel)) (h0_9 : σ (15) = some (lc_aI 364 (g1))) (h0_10 : σ (16) = some (.inr (4, [.ref (17), .int (lc_i (x1)), .int (lc_i (x2))]) : lc_Cel)) (h0_11 : σ (17) = some (lc_aI 364 (g2))) (h0_12 : σ (19) = some (.inr (0, [.ref (20), .int (lc_i (lc_cnt (f) 1 36)), .int (lc_i (lc_cnt (f) 2 36)), .int (lc_i (s)), .int (lc_i (q)), .int (lc_i (m))]) : lc_Cel)) (h0_13 : σ (20) = some (lc_aI 36 (f))) (hf : ∀ j : Int, 0 ≤ j → j < 36 → 0 ≤ f j ∧ f j ≤ 2) (hs : 1 ≤ s ∧ s ≤ 2) (hq : 0 ≤ q ∧ q ≤ 60) (hm : 4 ≤ m ∧ m ≤ 60) (hd : d = 0 ∨ d = 1 ∨ d = 2) : lc_Con l yX3_worthAhead cX3_worthAhead 3 (some .int) (lc_Rd 9) [.ref (11), .ref (19), .int (lc_i (d))] n σ (fun v n2 σ2 => v = some (.int (lc_i ((lc_sv m d.toNat f s q).1))) ∧ n = n2 ∧ lc_Lk σ2 ∧ ∀ i : Nat, i ≠ 8 → i ≠ 11 → i ≠ 12 → i ≠ 13 → i ≠ 14 → i ≠ 15 → i ≠ 16 → i ≠ 17 → σ2 i = σ i) := by
  rcases hd with hd | hd | hd
  · rw [hd]; exact lc_cX3_worthAhead_0 l n ch a1 a2 a3 bf d1 d2 d3 y1 y2 g1 x1 x2 g2 f s q m σ h0_0 h0_1 h0_2 h0_3 h0_4 h0_5 h0_6 h0_7 h0_8 h0_9 h0_10 h0_11 h0_12 h0_13 hf hs hq hm
  · rw [hd]; exact lc_cX3_worthAhead_1 l n ch a1 a2 a3 bf d1 d2 d3 y1 y2 g1 x1 x2 g2 f s q m σ h0_0 h0_1 h0_2 h0_3 h0_4 h0_5 h0_6 h0_7 h0_8 h0_9 h0_10 h0_11 h0_12 h0_13 hf hs hq hm
  · rw [hd]; exact lc_cX3_worthAhead_2 l n ch a1 a2 a3 bf d1 d2 d3 y1 y2 g1 x1 x2 g2 f s q m σ h0_0 h0_1 h0_2 h0_3 h0_4 h0_5 h0_6 h0_7 h0_8 h0_9 h0_10 h0_11 h0_12 h0_13 hf hs hq hm

set_option maxRecDepth 100000 in
set_option maxHeartbeats 600000 in
theorem lc_cX3_bestMove_1 (l : Launch) (n : Nat) (ch a1 a2 a3 : Int) (bf : Int → Int) (d1 d2 d3 y1 y2 : Int) (g1 : Int → Int) (x1 x2 : Int) (g2 : Int → Int) (f : Int → Int) (s q m : Int) (σ : lc_S) (h0_0 : σ (11) = some (.inr (3, [.ref (7), .ref (12), .ref (14), .ref (16), .int (lc_i (ch))]) : lc_Cel)) (h0_1 : σ (7) = some (.inr (6, [.ref (2), .ref (8), .ref (5)]) : lc_Cel)) (h0_2 : σ (2) = some (.inr (1, [.ref (3), .ref (4)]) : lc_Cel)) (h0_3 : σ (3) = some (lc_aI 48 (lc_pt))) (h0_4 : σ (4) = some (lc_aI 72 (lc_sp))) (h0_5 : σ (8) = some (.inr (8, [.ref (2), .int (lc_i (a1)), .int (lc_i (a2)), .int (lc_i (a3))]) : lc_Cel)) (h0_6 : σ (12) = some (.inr (0, [.ref (13), .int (lc_i (lc_cnt (bf) 1 36)), .int (lc_i (lc_cnt (bf) 2 36)), .int (lc_i (d1)), .int (lc_i (d2)), .int (lc_i (d3))]) : lc_Cel)) (h0_7 : σ (13) = some (lc_aI 36 (bf))) (h0_8 : σ (14) = some (.inr (4, [.ref (15), .int (lc_i (y1)), .int (lc_i (y2))]) : lc_Cel)) (h0_9 : σ (15) = some (lc_aI 364 (g1))) (h0_10 : σ (16) = some (.inr (4, [.ref (17), .int (lc_i (x1)), .int (lc_i (x2))]) : lc_Cel)) (h0_11 : σ (17) = some (lc_aI 364 (g2))) (h0_12 : σ (19) = some (.inr (0, [.ref (20), .int (lc_i (lc_cnt (f) 1 36)), .int (lc_i (lc_cnt (f) 2 36)), .int (lc_i (s)), .int (lc_i (q)), .int (lc_i (m))]) : lc_Cel)) (h0_13 : σ (20) = some (lc_aI 36 (f))) (hf : ∀ j : Int, 0 ≤ j → j < 36 → 0 ≤ f j ∧ f j ≤ 2) (hs : 1 ≤ s ∧ s ≤ 2) (hq : 0 ≤ q ∧ q ≤ 60) (hm : 4 ≤ m ∧ m ≤ 60) : lc_Con l yX3_bestMove cX3_bestMove 3 (some .int) (lc_Rd 9) [.ref (11), .ref (19), .int (lc_i (1))] n σ (fun v n2 σ2 => v = some (.int (lc_i ((lc_sv m 1 f s q).2))) ∧ n = n2 ∧ lc_Lk σ2 ∧ ∀ i : Nat, i ≠ 8 → i ≠ 11 → i ≠ 12 → i ≠ 13 → i ≠ 14 → i ≠ 15 → i ≠ 16 → i ≠ 17 → σ2 i = σ i) := by
  refine lc_con RX3 false (by decide) rfl (fun h => absurd h (by decide)) (Nat.le_of_ble_eq_true rfl) ?_
  suffices H : ∀ Q : lc_QT, (∀ v n2 σ2, (fun v n2 σ2 => v = some (.int (lc_i ((lc_sv m 1 f s q).2))) ∧ n = n2 ∧ lc_Lk σ2 ∧ ∀ i : Nat, i ≠ 8 → i ≠ 11 → i ≠ 12 → i ≠ 13 → i ≠ 14 → i ≠ 15 → i ≠ 16 → i ≠ 17 → σ2 i = σ i : lc_QT) v n2 σ2 → Q v n2 σ2) → lc_V l RX3 cX3_bestMove 3 (some .int) false (lc_Rd 9) (lc_G Q 0 0) lc_E0 0 0 n 0 [(0, .ref (11)), (1, .ref (19)), (2, .int (lc_i (1)))] [] σ from H _ (fun _ _ _ h => h)
  intro Q hQ
  refine lc_aload_n dX3_bestMove_0 rfl 0 rfl ?_
  refine lc_get dX3_bestMove_1 lc_fX3_12 h0_0 rfl ?_
  refine lc_aload_n dX3_bestMove_4 rfl 1 rfl ?_
  refine lc_callV (As := [.ref (19)]) (stk := []) (b := 12) dX3_bestMove_5 lc_mX3_32 lc_yX0_copyFrom h0_6 rfl (lc_cX0_copyFrom l n (12) (bf) (d1) (d2) (d3) (19) (f) (s) (q) (m) σ h0_6 h0_7 h0_12 h0_13 (by omega)) rfl ⟨Nat.le_of_ble_eq_true rfl, Nat.le_of_ble_eq_true rfl⟩ ⟨Nat.le_of_ble_eq_true rfl, Nat.le_of_ble_eq_true rfl⟩ rfl (Nat.le_of_ble_eq_true rfl) (fun v4 n5 σ6 q7 => ?_)
  obtain ⟨rfl, rfl, h2, h3, fr1⟩ := q7
  have h8 : σ6 (11) = some (.inr (3, [.ref (7), .ref (12), .ref (14), .ref (16), .int (lc_i (ch))]) : lc_Cel) := (fr1 _ (by omega) (by omega)).trans h0_0
  have h9 : σ6 (7) = some (.inr (6, [.ref (2), .ref (8), .ref (5)]) : lc_Cel) := (fr1 _ (by omega) (by omega)).trans h0_1
  have h10 : σ6 (2) = some (.inr (1, [.ref (3), .ref (4)]) : lc_Cel) := (fr1 _ (by omega) (by omega)).trans h0_2
  have h11 : σ6 (3) = some (lc_aI 48 (lc_pt)) := (fr1 _ (by omega) (by omega)).trans h0_3
  have h12 : σ6 (4) = some (lc_aI 72 (lc_sp)) := (fr1 _ (by omega) (by omega)).trans h0_4
  have h13 : σ6 (8) = some (.inr (8, [.ref (2), .int (lc_i (a1)), .int (lc_i (a2)), .int (lc_i (a3))]) : lc_Cel) := (fr1 _ (by omega) (by omega)).trans h0_5
  have h14 : σ6 (14) = some (.inr (4, [.ref (15), .int (lc_i (y1)), .int (lc_i (y2))]) : lc_Cel) := (fr1 _ (by omega) (by omega)).trans h0_8
  have h15 : σ6 (15) = some (lc_aI 364 (g1)) := (fr1 _ (by omega) (by omega)).trans h0_9
  have h16 : σ6 (16) = some (.inr (4, [.ref (17), .int (lc_i (x1)), .int (lc_i (x2))]) : lc_Cel) := (fr1 _ (by omega) (by omega)).trans h0_10
  have h17 : σ6 (17) = some (lc_aI 364 (g2)) := (fr1 _ (by omega) (by omega)).trans h0_11
  have h18 : σ6 (19) = some (.inr (0, [.ref (20), .int (lc_i (lc_cnt (f) 1 36)), .int (lc_i (lc_cnt (f) 2 36)), .int (lc_i (s)), .int (lc_i (q)), .int (lc_i (m))]) : lc_Cel) := (fr1 _ (by omega) (by omega)).trans h0_12
  have h19 : σ6 (20) = some (lc_aI 36 (f)) := (fr1 _ (by omega) (by omega)).trans h0_13
  refine lc_aload_n dX3_bestMove_8 rfl 0 rfl ?_
  refine lc_iload_n dX3_bestMove_9 rfl 2 rfl ?_
  refine lc_callV (As := [.int (lc_i (1))]) (stk := []) (b := 11) dX3_bestMove_10 lc_mX3_36 lc_yX3_search h8 rfl (lc_cX3_search_1 l n (8) (ch) (a1) (a2) (a3) (f) (s) (q) (m) (y1) (y2) (g1) σ6 h8 h9 h10 h11 h12 h13 h2 h3 h14 h15 (by decide) hf hs (by omega) (by omega)) rfl ⟨Nat.le_of_ble_eq_true rfl, Nat.le_of_ble_eq_true rfl⟩ ⟨Nat.le_of_ble_eq_true rfl, Nat.le_of_ble_eq_true rfl⟩ rfl (Nat.le_of_ble_eq_true rfl) (fun v33 n34 σ35 q36 => ?_)
  obtain ⟨c27, c28, c29, y30, y31, g32, rfl, rfl, h20, h21, h22, h23, h24, h25, fr26⟩ := q36
  have h37 : σ35 (7) = some (.inr (6, [.ref (2), .ref (8), .ref (5)]) : lc_Cel) := (fr26 _ (by omega) (by omega) (by omega) (by omega) (by omega) (by omega)).trans h9
  have h38 : σ35 (2) = some (.inr (1, [.ref (3), .ref (4)]) : lc_Cel) := (fr26 _ (by omega) (by omega) (by omega) (by omega) (by omega) (by omega)).trans h10
  have h39 : σ35 (3) = some (lc_aI 48 (lc_pt)) := (fr26 _ (by omega) (by omega) (by omega) (by omega) (by omega) (by omega)).trans h11
  have h40 : σ35 (4) = some (lc_aI 72 (lc_sp)) := (fr26 _ (by omega) (by omega) (by omega) (by omega) (by omega) (by omega)).trans h12
  have h41 : σ35 (16) = some (.inr (4, [.ref (17), .int (lc_i (x1)), .int (lc_i (x2))]) : lc_Cel) := (fr26 _ (by omega) (by omega) (by omega) (by omega) (by omega) (by omega)).trans h16
  have h42 : σ35 (17) = some (lc_aI 364 (g2)) := (fr26 _ (by omega) (by omega) (by omega) (by omega) (by omega) (by omega)).trans h17
  have h43 : σ35 (19) = some (.inr (0, [.ref (20), .int (lc_i (lc_cnt (f) 1 36)), .int (lc_i (lc_cnt (f) 2 36)), .int (lc_i (s)), .int (lc_i (q)), .int (lc_i (m))]) : lc_Cel) := (fr26 _ (by omega) (by omega) (by omega) (by omega) (by omega) (by omega)).trans h18
  have h44 : σ35 (20) = some (lc_aI 36 (f)) := (fr26 _ (by omega) (by omega) (by omega) (by omega) (by omega) (by omega)).trans h19
  refine lc_pop dX3_bestMove_13 rfl ?_
  refine lc_aload_n dX3_bestMove_14 rfl 0 rfl ?_
  refine lc_get dX3_bestMove_15 lc_fX3_40 h21 rfl ?_
  exact lc_iret dX3_bestMove_18 rfl (Nat.le_of_ble_eq_true rfl) (Nat.le_of_ble_eq_true rfl) (hQ _ _ _ ⟨rfl, rfl, (lc_Lk_mk h20 h21 h22 h23 h24 h25 h41 h42), (fun i _ _ _ _ _ _ _ _ => ((fr26 i (by omega) (by omega) (by omega) (by omega) (by omega) (by omega)).trans (fr1 i (by omega) (by omega))))⟩)

set_option maxRecDepth 100000 in
set_option maxHeartbeats 600000 in
theorem lc_cX3_bestMove_2 (l : Launch) (n : Nat) (ch a1 a2 a3 : Int) (bf : Int → Int) (d1 d2 d3 y1 y2 : Int) (g1 : Int → Int) (x1 x2 : Int) (g2 : Int → Int) (f : Int → Int) (s q m : Int) (σ : lc_S) (h0_0 : σ (11) = some (.inr (3, [.ref (7), .ref (12), .ref (14), .ref (16), .int (lc_i (ch))]) : lc_Cel)) (h0_1 : σ (7) = some (.inr (6, [.ref (2), .ref (8), .ref (5)]) : lc_Cel)) (h0_2 : σ (2) = some (.inr (1, [.ref (3), .ref (4)]) : lc_Cel)) (h0_3 : σ (3) = some (lc_aI 48 (lc_pt))) (h0_4 : σ (4) = some (lc_aI 72 (lc_sp))) (h0_5 : σ (8) = some (.inr (8, [.ref (2), .int (lc_i (a1)), .int (lc_i (a2)), .int (lc_i (a3))]) : lc_Cel)) (h0_6 : σ (12) = some (.inr (0, [.ref (13), .int (lc_i (lc_cnt (bf) 1 36)), .int (lc_i (lc_cnt (bf) 2 36)), .int (lc_i (d1)), .int (lc_i (d2)), .int (lc_i (d3))]) : lc_Cel)) (h0_7 : σ (13) = some (lc_aI 36 (bf))) (h0_8 : σ (14) = some (.inr (4, [.ref (15), .int (lc_i (y1)), .int (lc_i (y2))]) : lc_Cel)) (h0_9 : σ (15) = some (lc_aI 364 (g1))) (h0_10 : σ (16) = some (.inr (4, [.ref (17), .int (lc_i (x1)), .int (lc_i (x2))]) : lc_Cel)) (h0_11 : σ (17) = some (lc_aI 364 (g2))) (h0_12 : σ (19) = some (.inr (0, [.ref (20), .int (lc_i (lc_cnt (f) 1 36)), .int (lc_i (lc_cnt (f) 2 36)), .int (lc_i (s)), .int (lc_i (q)), .int (lc_i (m))]) : lc_Cel)) (h0_13 : σ (20) = some (lc_aI 36 (f))) (hf : ∀ j : Int, 0 ≤ j → j < 36 → 0 ≤ f j ∧ f j ≤ 2) (hs : 1 ≤ s ∧ s ≤ 2) (hq : 0 ≤ q ∧ q ≤ 60) (hm : 4 ≤ m ∧ m ≤ 60) : lc_Con l yX3_bestMove cX3_bestMove 3 (some .int) (lc_Rd 9) [.ref (11), .ref (19), .int (lc_i (2))] n σ (fun v n2 σ2 => v = some (.int (lc_i ((lc_sv m 2 f s q).2))) ∧ n = n2 ∧ lc_Lk σ2 ∧ ∀ i : Nat, i ≠ 8 → i ≠ 11 → i ≠ 12 → i ≠ 13 → i ≠ 14 → i ≠ 15 → i ≠ 16 → i ≠ 17 → σ2 i = σ i) := by
  refine lc_con RX3 false (by decide) rfl (fun h => absurd h (by decide)) (Nat.le_of_ble_eq_true rfl) ?_
  suffices H : ∀ Q : lc_QT, (∀ v n2 σ2, (fun v n2 σ2 => v = some (.int (lc_i ((lc_sv m 2 f s q).2))) ∧ n = n2 ∧ lc_Lk σ2 ∧ ∀ i : Nat, i ≠ 8 → i ≠ 11 → i ≠ 12 → i ≠ 13 → i ≠ 14 → i ≠ 15 → i ≠ 16 → i ≠ 17 → σ2 i = σ i : lc_QT) v n2 σ2 → Q v n2 σ2) → lc_V l RX3 cX3_bestMove 3 (some .int) false (lc_Rd 9) (lc_G Q 0 0) lc_E0 0 0 n 0 [(0, .ref (11)), (1, .ref (19)), (2, .int (lc_i (2)))] [] σ from H _ (fun _ _ _ h => h)
  intro Q hQ
  refine lc_aload_n dX3_bestMove_0 rfl 0 rfl ?_
  refine lc_get dX3_bestMove_1 lc_fX3_12 h0_0 rfl ?_
  refine lc_aload_n dX3_bestMove_4 rfl 1 rfl ?_
  refine lc_callV (As := [.ref (19)]) (stk := []) (b := 12) dX3_bestMove_5 lc_mX3_32 lc_yX0_copyFrom h0_6 rfl (lc_cX0_copyFrom l n (12) (bf) (d1) (d2) (d3) (19) (f) (s) (q) (m) σ h0_6 h0_7 h0_12 h0_13 (by omega)) rfl ⟨Nat.le_of_ble_eq_true rfl, Nat.le_of_ble_eq_true rfl⟩ ⟨Nat.le_of_ble_eq_true rfl, Nat.le_of_ble_eq_true rfl⟩ rfl (Nat.le_of_ble_eq_true rfl) (fun v4 n5 σ6 q7 => ?_)
  obtain ⟨rfl, rfl, h2, h3, fr1⟩ := q7
  have h8 : σ6 (11) = some (.inr (3, [.ref (7), .ref (12), .ref (14), .ref (16), .int (lc_i (ch))]) : lc_Cel) := (fr1 _ (by omega) (by omega)).trans h0_0
  have h9 : σ6 (7) = some (.inr (6, [.ref (2), .ref (8), .ref (5)]) : lc_Cel) := (fr1 _ (by omega) (by omega)).trans h0_1
  have h10 : σ6 (2) = some (.inr (1, [.ref (3), .ref (4)]) : lc_Cel) := (fr1 _ (by omega) (by omega)).trans h0_2
  have h11 : σ6 (3) = some (lc_aI 48 (lc_pt)) := (fr1 _ (by omega) (by omega)).trans h0_3
  have h12 : σ6 (4) = some (lc_aI 72 (lc_sp)) := (fr1 _ (by omega) (by omega)).trans h0_4
  have h13 : σ6 (8) = some (.inr (8, [.ref (2), .int (lc_i (a1)), .int (lc_i (a2)), .int (lc_i (a3))]) : lc_Cel) := (fr1 _ (by omega) (by omega)).trans h0_5
  have h14 : σ6 (14) = some (.inr (4, [.ref (15), .int (lc_i (y1)), .int (lc_i (y2))]) : lc_Cel) := (fr1 _ (by omega) (by omega)).trans h0_8
  have h15 : σ6 (15) = some (lc_aI 364 (g1)) := (fr1 _ (by omega) (by omega)).trans h0_9
  have h16 : σ6 (16) = some (.inr (4, [.ref (17), .int (lc_i (x1)), .int (lc_i (x2))]) : lc_Cel) := (fr1 _ (by omega) (by omega)).trans h0_10
  have h17 : σ6 (17) = some (lc_aI 364 (g2)) := (fr1 _ (by omega) (by omega)).trans h0_11
  have h18 : σ6 (19) = some (.inr (0, [.ref (20), .int (lc_i (lc_cnt (f) 1 36)), .int (lc_i (lc_cnt (f) 2 36)), .int (lc_i (s)), .int (lc_i (q)), .int (lc_i (m))]) : lc_Cel) := (fr1 _ (by omega) (by omega)).trans h0_12
  have h19 : σ6 (20) = some (lc_aI 36 (f)) := (fr1 _ (by omega) (by omega)).trans h0_13
  refine lc_aload_n dX3_bestMove_8 rfl 0 rfl ?_
  refine lc_iload_n dX3_bestMove_9 rfl 2 rfl ?_
  refine lc_callV (As := [.int (lc_i (2))]) (stk := []) (b := 11) dX3_bestMove_10 lc_mX3_36 lc_yX3_search h8 rfl (lc_cX3_search_2 l n (8) (ch) (a1) (a2) (a3) (f) (s) (q) (m) (y1) (y2) (g1) (x1) (x2) (g2) σ6 h8 h9 h10 h11 h12 h13 h2 h3 h14 h15 h16 h17 (by decide) hf hs (by omega) (by omega)) rfl ⟨Nat.le_of_ble_eq_true rfl, Nat.le_of_ble_eq_true rfl⟩ ⟨Nat.le_of_ble_eq_true rfl, Nat.le_of_ble_eq_true rfl⟩ rfl (Nat.le_of_ble_eq_true rfl) (fun v38 n39 σ40 q41 => ?_)
  obtain ⟨c29, c30, c31, y32, y33, g34, y35, y36, g37, rfl, rfl, h20, h21, h22, h23, h24, h25, h26, h27, fr28⟩ := q41
  have h42 : σ40 (7) = some (.inr (6, [.ref (2), .ref (8), .ref (5)]) : lc_Cel) := (fr28 _ (by omega) (by omega) (by omega) (by omega) (by omega) (by omega) (by omega) (by omega)).trans h9
  have h43 : σ40 (2) = some (.inr (1, [.ref (3), .ref (4)]) : lc_Cel) := (fr28 _ (by omega) (by omega) (by omega) (by omega) (by omega) (by omega) (by omega) (by omega)).trans h10
  have h44 : σ40 (3) = some (lc_aI 48 (lc_pt)) := (fr28 _ (by omega) (by omega) (by omega) (by omega) (by omega) (by omega) (by omega) (by omega)).trans h11
  have h45 : σ40 (4) = some (lc_aI 72 (lc_sp)) := (fr28 _ (by omega) (by omega) (by omega) (by omega) (by omega) (by omega) (by omega) (by omega)).trans h12
  have h46 : σ40 (19) = some (.inr (0, [.ref (20), .int (lc_i (lc_cnt (f) 1 36)), .int (lc_i (lc_cnt (f) 2 36)), .int (lc_i (s)), .int (lc_i (q)), .int (lc_i (m))]) : lc_Cel) := (fr28 _ (by omega) (by omega) (by omega) (by omega) (by omega) (by omega) (by omega) (by omega)).trans h18
  have h47 : σ40 (20) = some (lc_aI 36 (f)) := (fr28 _ (by omega) (by omega) (by omega) (by omega) (by omega) (by omega) (by omega) (by omega)).trans h19
  refine lc_pop dX3_bestMove_13 rfl ?_
  refine lc_aload_n dX3_bestMove_14 rfl 0 rfl ?_
  refine lc_get dX3_bestMove_15 lc_fX3_40 h21 rfl ?_
  exact lc_iret dX3_bestMove_18 rfl (Nat.le_of_ble_eq_true rfl) (Nat.le_of_ble_eq_true rfl) (hQ _ _ _ ⟨rfl, rfl, (lc_Lk_mk h20 h21 h22 h23 h24 h25 h26 h27), (fun i _ _ _ _ _ _ _ _ => ((fr28 i (by omega) (by omega) (by omega) (by omega) (by omega) (by omega) (by omega) (by omega)).trans (fr1 i (by omega) (by omega))))⟩)

theorem lc_cX3_bestMove (l : Launch) (n : Nat) (ch a1 a2 a3 : Int) (bf : Int → Int) (d1 d2 d3 y1 y2 : Int) (g1 : Int → Int) (x1 x2 : Int) (g2 : Int → Int) (f : Int → Int) (s q m : Int) (d : Int) (σ : lc_S) (h0_0 : σ (11) = some (.inr (3, [.ref (7), .ref (12), .ref (14), .ref (16), .int (lc_i (ch))]) : lc_Cel)) (h0_1 : σ (7) = some (.inr (6, [.ref (2), .ref (8), .ref (5)]) : lc_Cel)) (h0_2 : σ (2) = some (.inr (1, [.ref (3), .ref (4)]) : lc_Cel)) (h0_3 : σ (3) = some (lc_aI 48 (lc_pt))) (h0_4 : σ (4) = some (lc_aI 72 (lc_sp))) (h0_5 : σ (8) = some (.inr (8, [.ref (2), .int (lc_i (a1)), .int (lc_i (a2)), .int (lc_i (a3))]) : lc_Cel)) (h0_6 : σ (12) = some (.inr (0, [.ref (13), .int (lc_i (lc_cnt (bf) 1 36)), .int (lc_i (lc_cnt (bf) 2 36)), .int (lc_i (d1)), .int (lc_i (d2)), .int (lc_i (d3))]) : lc_Cel)) (h0_7 : σ (13) = some (lc_aI 36 (bf))) (h0_8 : σ (14) = some (.inr (4, [.ref (15), .int (lc_i (y1)), .int (lc_i (y2))]) : lc_Cel)) (h0_9 : σ (15) = some (lc_aI 364 (g1))) (h0_10 : σ (16) = some (.inr (4, [.ref (17), .int (lc_i (x1)), .int (lc_i (x2))]) : lc_Cel)) (h0_11 : σ (17) = some (lc_aI 364 (g2))) (h0_12 : σ (19) = some (.inr (0, [.ref (20), .int (lc_i (lc_cnt (f) 1 36)), .int (lc_i (lc_cnt (f) 2 36)), .int (lc_i (s)), .int (lc_i (q)), .int (lc_i (m))]) : lc_Cel)) (h0_13 : σ (20) = some (lc_aI 36 (f))) (hf : ∀ j : Int, 0 ≤ j → j < 36 → 0 ≤ f j ∧ f j ≤ 2) (hs : 1 ≤ s ∧ s ≤ 2) (hq : 0 ≤ q ∧ q ≤ 60) (hm : 4 ≤ m ∧ m ≤ 60) (hd : d = 1 ∨ d = 2) : lc_Con l yX3_bestMove cX3_bestMove 3 (some .int) (lc_Rd 9) [.ref (11), .ref (19), .int (lc_i (d))] n σ (fun v n2 σ2 => v = some (.int (lc_i ((lc_sv m d.toNat f s q).2))) ∧ n = n2 ∧ lc_Lk σ2 ∧ ∀ i : Nat, i ≠ 8 → i ≠ 11 → i ≠ 12 → i ≠ 13 → i ≠ 14 → i ≠ 15 → i ≠ 16 → i ≠ 17 → σ2 i = σ i) := by
  rcases hd with hd | hd
  · rw [hd]; exact lc_cX3_bestMove_1 l n ch a1 a2 a3 bf d1 d2 d3 y1 y2 g1 x1 x2 g2 f s q m σ h0_0 h0_1 h0_2 h0_3 h0_4 h0_5 h0_6 h0_7 h0_8 h0_9 h0_10 h0_11 h0_12 h0_13 hf hs hq hm
  · rw [hd]; exact lc_cX3_bestMove_2 l n ch a1 a2 a3 bf d1 d2 d3 y1 y2 g1 x1 x2 g2 f s q m σ h0_0 h0_1 h0_2 h0_3 h0_4 h0_5 h0_6 h0_7 h0_8 h0_9 h0_10 h0_11 h0_12 h0_13 hf hs hq hm

def lc_CI (σ : lc_S) : lc_Ab → Prop
  | (N, P, H, k, tx, z, bs, bt, sn, sr) => ∃ (r : Nat) (SN BF : lc_St) (w : Int × Int × Int × Int) (e1 e2 e3 u1 u2 : Int) (ug : Int → Int), σ (1) = some (.inr (10, [.ref (2), .ref (5), .ref (7), .ref (9), .ref (11), .ref (18), .ref (22), .ref (26), .ref (30), .ref (48), .int (lc_i (if bs = true then 1 else 0)), .int (lc_i (if bt = true then 1 else 0)), .int (lc_i (sn)), .int (lc_i (sr))]) : lc_Cel) ∧ σ (2) = some (.inr (1, [.ref (3), .ref (4)]) : lc_Cel) ∧ σ (3) = some (lc_aI 48 (lc_pt)) ∧ σ (4) = some (lc_aI 72 (lc_sp)) ∧ σ (5) = some (.inr (9, [.ref (2), .ref (6), .int (lc_i ((w).1)), .int (lc_i ((w).2.1)), .int (lc_i ((w).2.2.1)), .int (lc_i ((w).2.2.2))]) : lc_Cel) ∧ σ (6) = some (.inr (8, [.ref (2), .int (lc_i (e1)), .int (lc_i (e2)), .int (lc_i (e3))]) : lc_Cel) ∧ σ (7) = some (.inr (6, [.ref (2), .ref (8), .ref (5)]) : lc_Cel) ∧ σ (9) = some (.inr (4, [.ref (10), .int (lc_i (u1)), .int (lc_i (u2))]) : lc_Cel) ∧ σ (10) = some (lc_aI 364 (ug)) ∧ lc_Lk σ ∧ lc_cs σ 18 N ∧ lc_cs σ 22 BF ∧ lc_cs σ 26 SN ∧ (bs = true → SN = P) ∧ σ (30) = some (.inr (2, [.ref (31), .int (lc_i ((k : Int)))]) : lc_Cel) ∧ σ (31) = some (lc_aS 4 (lc_h4 (r))) ∧ lc_Sl σ r k H ∧ σ (48) = some (.inr (5, [.ref (49), .int (lc_i (z))]) : lc_Cel) ∧ σ (49) = some (lc_aC 80 (tx))

theorem lc_CI_mk {σ : lc_S} {N P : lc_St} {H : Nat → lc_St} {k : Nat} {tx : Int → Int} {z : Int} {bs bt : Bool} {sn sr : Int} {r : Nat} {SN BF : lc_St} {w : Int × Int × Int × Int} {e1 e2 e3 u1 u2 : Int} {ug : Int → Int} (hc1 : σ (1) = some (.inr (10, [.ref (2), .ref (5), .ref (7), .ref (9), .ref (11), .ref (18), .ref (22), .ref (26), .ref (30), .ref (48), .int (lc_i (if bs = true then 1 else 0)), .int (lc_i (if bt = true then 1 else 0)), .int (lc_i (sn)), .int (lc_i (sr))]) : lc_Cel)) (hc2 : σ (2) = some (.inr (1, [.ref (3), .ref (4)]) : lc_Cel)) (hc3 : σ (3) = some (lc_aI 48 (lc_pt))) (hc4 : σ (4) = some (lc_aI 72 (lc_sp))) (hc5 : σ (5) = some (.inr (9, [.ref (2), .ref (6), .int (lc_i ((w).1)), .int (lc_i ((w).2.1)), .int (lc_i ((w).2.2.1)), .int (lc_i ((w).2.2.2))]) : lc_Cel)) (hc6 : σ (6) = some (.inr (8, [.ref (2), .int (lc_i (e1)), .int (lc_i (e2)), .int (lc_i (e3))]) : lc_Cel)) (hc7 : σ (7) = some (.inr (6, [.ref (2), .ref (8), .ref (5)]) : lc_Cel)) (hc9 : σ (9) = some (.inr (4, [.ref (10), .int (lc_i (u1)), .int (lc_i (u2))]) : lc_Cel)) (hc10 : σ (10) = some (lc_aI 364 (ug))) (hLk : lc_Lk σ) (hN : lc_cs σ 18 N) (hB : lc_cs σ 22 BF) (hS : lc_cs σ 26 SN) (hSN : bs = true → SN = P) (hc30 : σ (30) = some (.inr (2, [.ref (31), .int (lc_i ((k : Int)))]) : lc_Cel)) (hc31 : σ (31) = some (lc_aS 4 (lc_h4 (r)))) (hSl : lc_Sl σ r k H) (hc48 : σ (48) = some (.inr (5, [.ref (49), .int (lc_i (z))]) : lc_Cel)) (hc49 : σ (49) = some (lc_aC 80 (tx))) : lc_CI σ (N, P, H, k, tx, z, bs, bt, sn, sr) := ⟨r, SN, BF, w, e1, e2, e3, u1, u2, ug, hc1, hc2, hc3, hc4, hc5, hc6, hc7, hc9, hc10, hLk, hN, hB, hS, hSN, hc30, hc31, hSl, hc48, hc49⟩

def lc_wz (a : lc_St) : Prop := (∀ j : Int, 0 ≤ j → j < 36 → 0 ≤ a.1 j ∧ a.1 j ≤ 2) ∧ (1 ≤ a.2.1 ∧ a.2.1 ≤ 2) ∧ (0 ≤ a.2.2.1 ∧ a.2.2.1 ≤ 60) ∧ (4 ≤ a.2.2.2.1 ∧ a.2.2.2.1 ≤ 60) ∧ (1 ≤ a.2.2.2.2.2.2.1 ∧ a.2.2.2.2.2.2.1 ≤ 60) ∧ (∀ i : Int, 0 ≤ i → i < a.2.2.2.2.2.2.1 → 0 ≤ a.2.2.2.2.2.2.2 i ∧ a.2.2.2.2.2.2.2 i < 450283905890997363) ∧ a.2.2.2.2.2.2.2 (a.2.2.2.2.2.2.1 - 1) = lc_key a.1 a.2.1 36
def lc_wf : lc_Ab → Prop
  | (N, P, H, k, tx, z, bs, bt, sn, sr) => lc_wz N ∧ (bs = true → lc_wz P) ∧ (∀ j : Nat, j < k → lc_wz (H j)) ∧ k ≤ 4 ∧ (0 ≤ z ∧ z ≤ 80) ∧ (∀ i : Int, 0 ≤ i → i < z → 0 ≤ tx i ∧ tx i < 65536)
def lc_mvN : lc_St → Int → Int → lc_St
  | (f, s, q, m, mo, ca, ct, po), x, y => (lc_mvf f s x y, 3 - s, lc_mvq f q y, m, mo + 1, lc_mvc f ca y, lc_mvt f ct y, lc_mvp f s x y ct po)

set_option maxRecDepth 100000 in
set_option maxHeartbeats 600000 in
theorem lc_cX10_isPoint (l : Launch) (n : Nat) (x : Int) (σ : lc_S)  (hx : -2147483648 ≤ x ∧ x < 2147483648) : lc_Con l yX10_isPoint cX10_isPoint 1 (some .boolean) (lc_Rd 0) [.int (lc_i (x))] n σ (fun v n2 σ2 => v = some (.int (lc_i (if (0 ≤ x ∧ x < 36) then 1 else 0))) ∧ n = n2 ∧ σ = σ2) := by
  refine lc_con RX10 false (by decide) rfl (fun h => absurd h (by decide)) (Nat.le_of_ble_eq_true rfl) ?_
  suffices H : ∀ Q : lc_QT, (∀ v n2 σ2, (fun v n2 σ2 => v = some (.int (lc_i (if (0 ≤ x ∧ x < 36) then 1 else 0))) ∧ n = n2 ∧ σ = σ2 : lc_QT) v n2 σ2 → Q v n2 σ2) → lc_V l RX10 cX10_isPoint 1 (some .boolean) false (lc_Rd 0) (lc_G Q 0 0) lc_E0 0 0 n 0 [(0, .int (lc_i (x)))] [] σ from H _ (fun _ _ _ h => h)
  intro Q hQ
  refine lc_iload_n dX10_isPoint_0 rfl 0 rfl ?_
  refine lc_if_lt (tgt := 14) dX10_isPoint_1 (by decide) (by omega) (fun h_1_0 => ?_) (fun h_1_0 => ?_)
  · skip
    refine lc_iconst dX10_isPoint_14 ?_
    exact lc_zret dX10_isPoint_15 rfl (rfl) (Nat.le_of_ble_eq_true rfl) (Nat.le_of_ble_eq_true rfl) (hQ _ _ _ ⟨lc_some (by rw [if_neg (by omega)]), rfl, rfl⟩)
  · skip
    refine lc_iload_n dX10_isPoint_4 rfl 0 rfl ?_
    refine lc_bipush dX10_isPoint_5 (by decide) ?_
    refine lc_icmp_ge (tgt := 14) dX10_isPoint_7 (by decide) (by omega) (fun h_7_1 => ?_) (fun h_7_1 => ?_)
    · skip
      refine lc_iconst dX10_isPoint_14 ?_
      exact lc_zret dX10_isPoint_15 rfl (rfl) (Nat.le_of_ble_eq_true rfl) (Nat.le_of_ble_eq_true rfl) (hQ _ _ _ ⟨lc_some (by rw [if_neg (by omega)]), rfl, rfl⟩)
    · skip
      refine lc_iconst dX10_isPoint_10 ?_
      refine lc_goto (tgt := 15) dX10_isPoint_11 (by decide) ?_
      exact lc_zret dX10_isPoint_15 rfl (rfl) (Nat.le_of_ble_eq_true rfl) (Nat.le_of_ble_eq_true rfl) (hQ _ _ _ ⟨lc_some (by rw [if_pos (by omega)]), rfl, rfl⟩)

def lc_move : lc_Ab → Int → Int → lc_Ab × Int
  | (N, P, H, k, tx, z, bs, bt, sn, sr), x, y => if ¬ ((0 ≤ x ∧ x < 36) ∧ (0 ≤ y ∧ y < 36)) then ((N, P, H, k, tx, z, bs, bt, sn, sr), -101) else if lc_why N.1 N.2.1 N.2.2.1 N.2.2.2.1 x y false ≠ 0 then ((N, P, H, k, tx, z, bs, bt, sn, sr), -110 - lc_why N.1 N.2.1 N.2.2.1 N.2.2.2.1 x y false) else ((lc_mvN N x y, P, lc_pu H k N, lc_hk k, tx, z, bs, bt, sn, sr), (lc_mvN N x y).2.2.1)
def lc_capt : lc_Ab → Int → Int → lc_Ab × Int
  | (N, P, H, k, tx, z, bs, bt, sn, sr), x, y => if ¬ ((0 ≤ x ∧ x < 36) ∧ (0 ≤ y ∧ y < 36)) then ((N, P, H, k, tx, z, bs, bt, sn, sr), -101) else if lc_why N.1 N.2.1 N.2.2.1 N.2.2.2.1 x y true ≠ 0 then ((N, P, H, k, tx, z, bs, bt, sn, sr), -110 - lc_why N.1 N.2.1 N.2.2.1 N.2.2.2.1 x y true) else ((lc_mvN N x y, P, lc_pu H k N, lc_hk k, tx, z, bs, bt, sn, sr), if 3 - N.2.1 = 1 then lc_cnt (lc_mvN N x y).1 1 36 else lc_cnt (lc_mvN N x y).1 2 36)
theorem lc_why_r (f : Int → Int) (s q m fr to : Int) (c : Bool) : 0 ≤ lc_why f s q m fr to c ∧ lc_why f s q m fr to c ≤ 4 := by unfold lc_why; (repeat' split) <;> omega

set_option maxRecDepth 100000 in
set_option maxHeartbeats 600000 in
theorem lc_cX10_move (l : Launch) (n : Nat) (f : Int → Int) (s q m mo ca ct : Int) (po : Int → Int) (P : lc_St) (H : Nat → lc_St) (k : Nat) (tx : Int → Int) (z : Int) (bs bt : Bool) (sn sr : Int) (x y : Int) (σ : lc_S)  (hI : lc_CI σ ((f, s, q, m, mo, ca, ct, po), P, H, k, tx, z, bs, bt, sn, sr)) (hw : lc_wf ((f, s, q, m, mo, ca, ct, po), P, H, k, tx, z, bs, bt, sn, sr)) (hR_x : -2147483648 ≤ x ∧ x < 2147483648) (hR_y : -2147483648 ≤ y ∧ y < 2147483648) : lc_Con l yX10_move cX10_move 4 (some .int) (lc_Rd 6) [.ref (1), .int (lc_i (x)), .int (lc_i (y))] n σ (fun v n2 σ2 => v = some (.int (lc_i ((lc_move ((f, s, q, m, mo, ca, ct, po), P, H, k, tx, z, bs, bt, sn, sr) x y).2))) ∧ n = n2 ∧ lc_CI σ2 ((lc_move ((f, s, q, m, mo, ca, ct, po), P, H, k, tx, z, bs, bt, sn, sr) x y).1) ∧ ∀ i : Nat, 50 ≤ i ∨ i = 0 → σ2 i = σ i) := by
  obtain ⟨⟨hf9, hs9, hq9, hm9, hct9, hpo9, hkey9⟩, hwP, hwH, hk4, hz, htx⟩ := hw
  have hf : ∀ j : Int, 0 ≤ j → j < 36 → 0 ≤ f j ∧ f j ≤ 2 := hf9
  have hs : 1 ≤ s ∧ s ≤ 2 := hs9
  have hq : 0 ≤ q ∧ q ≤ 60 := hq9
  have hm : 4 ≤ m ∧ m ≤ 60 := hm9
  have hct : 1 ≤ ct ∧ ct ≤ 60 := hct9
  have hpo : ∀ i : Int, 0 ≤ i → i < ct → 0 ≤ po i ∧ po i < 450283905890997363 := hpo9
  have hkey : po (ct - 1) = lc_key f s 36 := hkey9
  have hpo4 : ∀ i : Int, 0 ≤ i → i < ct → 0 ≤ po i ∧ po i < 4611686018427387904 := fun i h1 h2 => ⟨(hpo i h1 h2).1, by have := (hpo i h1 h2).2; omega⟩
  obtain ⟨r, SN, BF, w, e1, e2, e3, u1, u2, ug, hc1, hc2, hc3, hc4, hc5, hc6, hc7, hc9, hc10, hLk, hN, hB, hS, hSN, hc30, hc31, hSl, hc48, hc49⟩ := hI
  have hb : 12 ≤ 19 := (by decide)
  obtain ⟨a1, a2, a3, ch, bf, d1, d2, d3, y1, y2, g1, x1, x2, g2, hk_8, hk_11, hk_12, hk_13, hk_14, hk_15, hk_16, hk_17⟩ := hLk
  obtain ⟨bF, bS, bQ, bM, bMO, bCA, bCT, bPO⟩ := BF
  obtain ⟨nF, nS, nQ, nM, nMO, nCA, nCT, nPO⟩ := SN
  obtain ⟨hN0, hN1, hN2, hN3⟩ := hN
  obtain ⟨hB0, hB1, hB2, hB3⟩ := hB
  obtain ⟨hS0, hS1, hS2, hS3⟩ := hS
  have hz_1 : σ (1) = some (.inr (10, [.ref (2), .ref (5), .ref (7), .ref (9), .ref (11), .ref (18), .ref (22), .ref (26), .ref (30), .ref (48), .int (lc_i (if bs = true then 1 else 0)), .int (lc_i (if bt = true then 1 else 0)), .int (lc_i (sn)), .int (lc_i (sr))]) : lc_Cel) := hc1
  have hz_2 : σ (2) = some (.inr (1, [.ref (3), .ref (4)]) : lc_Cel) := hc2
  have hz_3 : σ (3) = some (lc_aI 48 (lc_pt)) := hc3
  have hz_4 : σ (4) = some (lc_aI 72 (lc_sp)) := hc4
  have hz_5 : σ (5) = some (.inr (9, [.ref (2), .ref (6), .int (lc_i ((w).1)), .int (lc_i ((w).2.1)), .int (lc_i ((w).2.2.1)), .int (lc_i ((w).2.2.2))]) : lc_Cel) := hc5
  have hz_6 : σ (6) = some (.inr (8, [.ref (2), .int (lc_i (e1)), .int (lc_i (e2)), .int (lc_i (e3))]) : lc_Cel) := hc6
  have hz_7 : σ (7) = some (.inr (6, [.ref (2), .ref (8), .ref (5)]) : lc_Cel) := hc7
  have hz_9 : σ (9) = some (.inr (4, [.ref (10), .int (lc_i (u1)), .int (lc_i (u2))]) : lc_Cel) := hc9
  have hz_10 : σ (10) = some (lc_aI 364 (ug)) := hc10
  have hz_8 : σ (8) = some (.inr (8, [.ref (2), .int (lc_i (a1)), .int (lc_i (a2)), .int (lc_i (a3))]) : lc_Cel) := hk_8
  have hz_11 : σ (11) = some (.inr (3, [.ref (7), .ref (12), .ref (14), .ref (16), .int (lc_i (ch))]) : lc_Cel) := hk_11
  have hz_12 : σ (12) = some (.inr (0, [.ref (13), .int (lc_i (lc_cnt (bf) 1 36)), .int (lc_i (lc_cnt (bf) 2 36)), .int (lc_i (d1)), .int (lc_i (d2)), .int (lc_i (d3))]) : lc_Cel) := hk_12
  have hz_13 : σ (13) = some (lc_aI 36 (bf)) := hk_13
  have hz_14 : σ (14) = some (.inr (4, [.ref (15), .int (lc_i (y1)), .int (lc_i (y2))]) : lc_Cel) := hk_14
  have hz_15 : σ (15) = some (lc_aI 364 (g1)) := hk_15
  have hz_16 : σ (16) = some (.inr (4, [.ref (17), .int (lc_i (x1)), .int (lc_i (x2))]) : lc_Cel) := hk_16
  have hz_17 : σ (17) = some (lc_aI 364 (g2)) := hk_17
  have hz_30 : σ (30) = some (.inr (2, [.ref (31), .int (lc_i ((k : Int)))]) : lc_Cel) := hc30
  have hz_31 : σ (31) = some (lc_aS 4 (lc_h4 (r))) := hc31
  have hz_48 : σ (48) = some (.inr (5, [.ref (49), .int (lc_i (z))]) : lc_Cel) := hc48
  have hz_49 : σ (49) = some (lc_aC 80 (tx)) := hc49
  have hz_18 : σ (18) = some (.inr (7, [.ref (19), .int (lc_i (mo)), .int (lc_i (ca)), .ref (21), .int (lc_i (ct))]) : lc_Cel) := hN0
  have hz_19 : σ (19) = some (.inr (0, [.ref (20), .int (lc_i (lc_cnt (f) 1 36)), .int (lc_i (lc_cnt (f) 2 36)), .int (lc_i (s)), .int (lc_i (q)), .int (lc_i (m))]) : lc_Cel) := hN1
  have hz_20 : σ (20) = some (lc_aI 36 (f)) := hN2
  have hz_21 : σ (21) = some (lc_aJ 60 (fun i : Int => lc_j ((po) i))) := hN3
  have hz_22 : σ (22) = some (.inr (7, [.ref (23), .int (lc_i (bMO)), .int (lc_i (bCA)), .ref (25), .int (lc_i (bCT))]) : lc_Cel) := hB0
  have hz_23 : σ (23) = some (.inr (0, [.ref (24), .int (lc_i (lc_cnt (bF) 1 36)), .int (lc_i (lc_cnt (bF) 2 36)), .int (lc_i (bS)), .int (lc_i (bQ)), .int (lc_i (bM))]) : lc_Cel) := hB1
  have hz_24 : σ (24) = some (lc_aI 36 (bF)) := hB2
  have hz_25 : σ (25) = some (lc_aJ 60 (fun i : Int => lc_j ((bPO) i))) := hB3
  have hz_26 : σ (26) = some (.inr (7, [.ref (27), .int (lc_i (nMO)), .int (lc_i (nCA)), .ref (29), .int (lc_i (nCT))]) : lc_Cel) := hS0
  have hz_27 : σ (27) = some (.inr (0, [.ref (28), .int (lc_i (lc_cnt (nF) 1 36)), .int (lc_i (lc_cnt (nF) 2 36)), .int (lc_i (nS)), .int (lc_i (nQ)), .int (lc_i (nM))]) : lc_Cel) := hS1
  have hz_28 : σ (28) = some (lc_aI 36 (nF)) := hS2
  have hz_29 : σ (29) = some (lc_aJ 60 (fun i : Int => lc_j ((nPO) i))) := hS3
  obtain ⟨t, ht⟩ : ∃ t : Nat, t = 32 + 4 * ((r + k) % 4) := ⟨_, rfl⟩
  obtain ⟨⟨f3, s3, q3, m3, mo3, ca3, ct3, po3⟩, hT0, hT1, hT2, hT3⟩ := lc_Sl_at hSl ht
  have hz_t : σ (t) = some (.inr (7, [.ref (t + 1), .int (lc_i (mo3)), .int (lc_i (ca3)), .ref (t + 3), .int (lc_i (ct3))]) : lc_Cel) := hT0
  have hz_t_1 : σ (t + 1) = some (.inr (0, [.ref (t + 2), .int (lc_i (lc_cnt (f3) 1 36)), .int (lc_i (lc_cnt (f3) 2 36)), .int (lc_i (s3)), .int (lc_i (q3)), .int (lc_i (m3))]) : lc_Cel) := hT1
  have hz_t_2 : σ (t + 2) = some (lc_aI 36 (f3)) := hT2
  have hz_t_3 : σ (t + 3) = some (lc_aJ 60 (fun i : Int => lc_j ((po3) i))) := hT3
  refine lc_con RX10 false (by decide) rfl (fun h => absurd h (by decide)) (Nat.le_of_ble_eq_true rfl) ?_
  suffices H : ∀ Q : lc_QT, (∀ v n2 σ2, (fun v n2 σ2 => v = some (.int (lc_i ((lc_move ((f, s, q, m, mo, ca, ct, po), P, H, k, tx, z, bs, bt, sn, sr) x y).2))) ∧ n = n2 ∧ lc_CI σ2 ((lc_move ((f, s, q, m, mo, ca, ct, po), P, H, k, tx, z, bs, bt, sn, sr) x y).1) ∧ ∀ i : Nat, 50 ≤ i ∨ i = 0 → σ2 i = σ i : lc_QT) v n2 σ2 → Q v n2 σ2) → lc_V l RX10 cX10_move 4 (some .int) false (lc_Rd 6) (lc_G Q 0 0) lc_E0 0 0 n 0 [(0, .ref (1)), (1, .int (lc_i (x))), (2, .int (lc_i (y)))] [] σ from H _ (fun _ _ _ h => h)
  intro Q hQ
  refine lc_iload_n dX10_move_0 rfl 1 rfl ?_
  refine lc_callS (As := [.int (lc_i (x))]) (stk := []) dX10_move_1 lc_mX10_77 lc_yX10_isPoint (lc_cX10_isPoint l n (x) σ (by omega)) rfl ⟨Nat.le_of_ble_eq_true rfl, Nat.le_of_ble_eq_true rfl⟩ ⟨Nat.le_of_ble_eq_true rfl, Nat.le_of_ble_eq_true rfl⟩ rfl (Nat.le_of_ble_eq_true rfl) (fun v1 n2 σ3 q4 => ?_)
  obtain ⟨rfl, rfl, rfl⟩ := q4
  refine lc_if_eqB (tgt := 14) dX10_move_4 (by decide) (fun h_4_4 => ?_) (fun h_4_4 => ?_)
  · skip
    refine lc_bipush dX10_move_14 (by decide) ?_
    exact lc_iret dX10_move_16 rfl (Nat.le_of_ble_eq_true rfl) (Nat.le_of_ble_eq_true rfl) (hQ _ _ _ (by rw [lc_move, if_pos (show ¬ ((0 ≤ x ∧ x < 36) ∧ (0 ≤ y ∧ y < 36)) from by omega)]; exact ⟨rfl, rfl, lc_CI_mk (BF := (bF, bS, bQ, bM, bMO, bCA, bCT, bPO)) (SN := (nF, nS, nQ, nM, nMO, nCA, nCT, nPO)) hz_1 hz_2 hz_3 hz_4 hz_5 hz_6 hz_7 hz_9 hz_10 (lc_Lk_mk hz_8 hz_11 hz_12 hz_13 hz_14 hz_15 hz_16 hz_17) ⟨hz_18, hz_19, hz_20, hz_21⟩ ⟨hz_22, hz_23, hz_24, hz_25⟩ ⟨hz_26, hz_27, hz_28, hz_29⟩ (hSN) hz_30 hz_31 (lc_Sl_fr hSl (fun i _ _ => rfl)) hz_48 hz_49, fun i _ => rfl⟩))
  · skip
    refine lc_iload_n dX10_move_7 rfl 2 rfl ?_
    refine lc_callS (As := [.int (lc_i (y))]) (stk := []) dX10_move_8 lc_mX10_77 lc_yX10_isPoint (lc_cX10_isPoint l n (y) σ (by omega)) rfl ⟨Nat.le_of_ble_eq_true rfl, Nat.le_of_ble_eq_true rfl⟩ ⟨Nat.le_of_ble_eq_true rfl, Nat.le_of_ble_eq_true rfl⟩ rfl (Nat.le_of_ble_eq_true rfl) (fun v6 n7 σ8 q9 => ?_)
    obtain ⟨rfl, rfl, rfl⟩ := q9
    refine lc_if_neB (tgt := 17) dX10_move_11 (by decide) (fun h_11_9 => ?_) (fun h_11_9 => ?_)
    · skip
      refine lc_aload_n dX10_move_17 rfl 0 rfl ?_
      refine lc_get dX10_move_18 lc_fX10_30 hz_1 rfl ?_
      refine lc_aload_n dX10_move_21 rfl 0 rfl ?_
      refine lc_get dX10_move_22 lc_fX10_53 hz_1 rfl ?_
      refine lc_get dX10_move_25 lc_fX10_81 hz_18 rfl ?_
      refine lc_iload_n dX10_move_28 rfl 1 rfl ?_
      refine lc_iload_n dX10_move_29 rfl 2 rfl ?_
      refine lc_iconst dX10_move_30 ?_
      refine lc_callV (As := [.ref (19), .int (lc_i (x)), .int (lc_i (y)), .int (lc_i (0))]) (stk := []) (b := 7) dX10_move_31 lc_mX10_85 lc_yX6_whyNot hz_7 rfl (lc_cX6_whyNot l n (e1) (e2) (e3) (w) (19) (f) (s) (q) (m) (x) (y) (false) σ hz_7 hz_5 hz_6 hz_2 hz_3 hz_4 hz_19 hz_20 (hf) (by omega) (hs) (by omega) (by omega) (by omega) (by omega)) rfl ⟨Nat.le_of_ble_eq_true rfl, Nat.le_of_ble_eq_true rfl⟩ ⟨Nat.le_of_ble_eq_true rfl, Nat.le_of_ble_eq_true rfl⟩ rfl (Nat.le_of_ble_eq_true rfl) (fun v18 n19 σ20 q21 => ?_)
      obtain ⟨wk14, c15, c16, c17, rfl, rfl, h12, h13, fr11⟩ := q21
      have h22 : σ20 (1) = some (.inr (10, [.ref (2), .ref (5), .ref (7), .ref (9), .ref (11), .ref (18), .ref (22), .ref (26), .ref (30), .ref (48), .int (lc_i (if bs = true then 1 else 0)), .int (lc_i (if bt = true then 1 else 0)), .int (lc_i (sn)), .int (lc_i (sr))]) : lc_Cel) := (fr11 _ (by omega) (by omega)).trans hz_1
      have h23 : σ20 (2) = some (.inr (1, [.ref (3), .ref (4)]) : lc_Cel) := (fr11 _ (by omega) (by omega)).trans hz_2
      have h24 : σ20 (3) = some (lc_aI 48 (lc_pt)) := (fr11 _ (by omega) (by omega)).trans hz_3
      have h25 : σ20 (4) = some (lc_aI 72 (lc_sp)) := (fr11 _ (by omega) (by omega)).trans hz_4
      have h26 : σ20 (7) = some (.inr (6, [.ref (2), .ref (8), .ref (5)]) : lc_Cel) := (fr11 _ (by omega) (by omega)).trans hz_7
      have h27 : σ20 (9) = some (.inr (4, [.ref (10), .int (lc_i (u1)), .int (lc_i (u2))]) : lc_Cel) := (fr11 _ (by omega) (by omega)).trans hz_9
      have h28 : σ20 (10) = some (lc_aI 364 (ug)) := (fr11 _ (by omega) (by omega)).trans hz_10
      have h29 : σ20 (8) = some (.inr (8, [.ref (2), .int (lc_i (a1)), .int (lc_i (a2)), .int (lc_i (a3))]) : lc_Cel) := (fr11 _ (by omega) (by omega)).trans hz_8
      have h30 : σ20 (11) = some (.inr (3, [.ref (7), .ref (12), .ref (14), .ref (16), .int (lc_i (ch))]) : lc_Cel) := (fr11 _ (by omega) (by omega)).trans hz_11
      have h31 : σ20 (12) = some (.inr (0, [.ref (13), .int (lc_i (lc_cnt (bf) 1 36)), .int (lc_i (lc_cnt (bf) 2 36)), .int (lc_i (d1)), .int (lc_i (d2)), .int (lc_i (d3))]) : lc_Cel) := (fr11 _ (by omega) (by omega)).trans hz_12
      have h32 : σ20 (13) = some (lc_aI 36 (bf)) := (fr11 _ (by omega) (by omega)).trans hz_13
      have h33 : σ20 (14) = some (.inr (4, [.ref (15), .int (lc_i (y1)), .int (lc_i (y2))]) : lc_Cel) := (fr11 _ (by omega) (by omega)).trans hz_14
      have h34 : σ20 (15) = some (lc_aI 364 (g1)) := (fr11 _ (by omega) (by omega)).trans hz_15
      have h35 : σ20 (16) = some (.inr (4, [.ref (17), .int (lc_i (x1)), .int (lc_i (x2))]) : lc_Cel) := (fr11 _ (by omega) (by omega)).trans hz_16
      have h36 : σ20 (17) = some (lc_aI 364 (g2)) := (fr11 _ (by omega) (by omega)).trans hz_17
      have h37 : σ20 (30) = some (.inr (2, [.ref (31), .int (lc_i ((k : Int)))]) : lc_Cel) := (fr11 _ (by omega) (by omega)).trans hz_30
      have h38 : σ20 (31) = some (lc_aS 4 (lc_h4 (r))) := (fr11 _ (by omega) (by omega)).trans hz_31
      have h39 : σ20 (48) = some (.inr (5, [.ref (49), .int (lc_i (z))]) : lc_Cel) := (fr11 _ (by omega) (by omega)).trans hz_48
      have h40 : σ20 (49) = some (lc_aC 80 (tx)) := (fr11 _ (by omega) (by omega)).trans hz_49
      have h41 : σ20 (18) = some (.inr (7, [.ref (19), .int (lc_i (mo)), .int (lc_i (ca)), .ref (21), .int (lc_i (ct))]) : lc_Cel) := (fr11 _ (by omega) (by omega)).trans hz_18
      have h42 : σ20 (19) = some (.inr (0, [.ref (20), .int (lc_i (lc_cnt (f) 1 36)), .int (lc_i (lc_cnt (f) 2 36)), .int (lc_i (s)), .int (lc_i (q)), .int (lc_i (m))]) : lc_Cel) := (fr11 _ (by omega) (by omega)).trans hz_19
      have h43 : σ20 (20) = some (lc_aI 36 (f)) := (fr11 _ (by omega) (by omega)).trans hz_20
      have h44 : σ20 (21) = some (lc_aJ 60 (fun i : Int => lc_j ((po) i))) := (fr11 _ (by omega) (by omega)).trans hz_21
      have h45 : σ20 (22) = some (.inr (7, [.ref (23), .int (lc_i (bMO)), .int (lc_i (bCA)), .ref (25), .int (lc_i (bCT))]) : lc_Cel) := (fr11 _ (by omega) (by omega)).trans hz_22
      have h46 : σ20 (23) = some (.inr (0, [.ref (24), .int (lc_i (lc_cnt (bF) 1 36)), .int (lc_i (lc_cnt (bF) 2 36)), .int (lc_i (bS)), .int (lc_i (bQ)), .int (lc_i (bM))]) : lc_Cel) := (fr11 _ (by omega) (by omega)).trans hz_23
      have h47 : σ20 (24) = some (lc_aI 36 (bF)) := (fr11 _ (by omega) (by omega)).trans hz_24
      have h48 : σ20 (25) = some (lc_aJ 60 (fun i : Int => lc_j ((bPO) i))) := (fr11 _ (by omega) (by omega)).trans hz_25
      have h49 : σ20 (26) = some (.inr (7, [.ref (27), .int (lc_i (nMO)), .int (lc_i (nCA)), .ref (29), .int (lc_i (nCT))]) : lc_Cel) := (fr11 _ (by omega) (by omega)).trans hz_26
      have h50 : σ20 (27) = some (.inr (0, [.ref (28), .int (lc_i (lc_cnt (nF) 1 36)), .int (lc_i (lc_cnt (nF) 2 36)), .int (lc_i (nS)), .int (lc_i (nQ)), .int (lc_i (nM))]) : lc_Cel) := (fr11 _ (by omega) (by omega)).trans hz_27
      have h51 : σ20 (28) = some (lc_aI 36 (nF)) := (fr11 _ (by omega) (by omega)).trans hz_28
      have h52 : σ20 (29) = some (lc_aJ 60 (fun i : Int => lc_j ((nPO) i))) := (fr11 _ (by omega) (by omega)).trans hz_29
      have h53 : σ20 (t) = some (.inr (7, [.ref (t + 1), .int (lc_i (mo3)), .int (lc_i (ca3)), .ref (t + 3), .int (lc_i (ct3))]) : lc_Cel) := (fr11 _ (by omega) (by omega)).trans hz_t
      have h54 : σ20 (t + 1) = some (.inr (0, [.ref (t + 2), .int (lc_i (lc_cnt (f3) 1 36)), .int (lc_i (lc_cnt (f3) 2 36)), .int (lc_i (s3)), .int (lc_i (q3)), .int (lc_i (m3))]) : lc_Cel) := (fr11 _ (by omega) (by omega)).trans hz_t_1
      have h55 : σ20 (t + 2) = some (lc_aI 36 (f3)) := (fr11 _ (by omega) (by omega)).trans hz_t_2
      have h56 : σ20 (t + 3) = some (lc_aJ 60 (fun i : Int => lc_j ((po3) i))) := (fr11 _ (by omega) (by omega)).trans hz_t_3
      refine lc_istore_n (lv' := [(0, .ref (1)), (1, .int (lc_i (x))), (2, .int (lc_i (y))), (3, .int (lc_i (lc_why (f) (s) (q) (m) (x) (y) (false))))]) dX10_move_34 rfl (by decide) rfl ?_
      have hwr := lc_why_r f s q m x y false
      refine lc_iload_n dX10_move_35 rfl 3 rfl ?_
      refine lc_if_eq (tgt := 44) dX10_move_36 (by decide) (by omega) (fun h_36_56 => ?_) (fun h_36_56 => ?_)
      · skip
        refine lc_aload_n dX10_move_44 rfl 0 rfl ?_
        refine lc_get dX10_move_45 lc_fX10_66 h22 rfl ?_
        refine lc_aload_n dX10_move_48 rfl 0 rfl ?_
        refine lc_get dX10_move_49 lc_fX10_53 h22 rfl ?_
        refine lc_callV (As := [.ref (18)]) (stk := []) (b := 30) dX10_move_52 lc_mX10_89 lc_yX2_push h37 rfl (lc_cX2_push l n (r) (k) (18) (f) (s) (q) (m) (mo) (ca) (ct) (po) (t) (f3) (s3) (q3) (m3) (mo3) (ca3) (ct3) (po3) σ20 h37 h38 h41 h42 h43 h44 h53 h54 h55 h56 (hk4) (ht) (by omega) (lc_Sl_st (lc_Sl_fr hSl (fun i _ _ => (fr11 i (by omega) (by omega)))))) rfl ⟨Nat.le_of_ble_eq_true rfl, Nat.le_of_ble_eq_true rfl⟩ ⟨Nat.le_of_ble_eq_true rfl, Nat.le_of_ble_eq_true rfl⟩ rfl (Nat.le_of_ble_eq_true rfl) (fun v65 n66 σ67 q68 => ?_)
        obtain ⟨rfl, rfl, h59, h60, h61, h62, h63, h64, fr58⟩ := q68
        have h69 : σ67 (1) = some (.inr (10, [.ref (2), .ref (5), .ref (7), .ref (9), .ref (11), .ref (18), .ref (22), .ref (26), .ref (30), .ref (48), .int (lc_i (if bs = true then 1 else 0)), .int (lc_i (if bt = true then 1 else 0)), .int (lc_i (sn)), .int (lc_i (sr))]) : lc_Cel) := (fr58 _ (by omega) (by omega) (by omega) (by omega) (by omega) (by omega)).trans h22
        have h70 : σ67 (2) = some (.inr (1, [.ref (3), .ref (4)]) : lc_Cel) := (fr58 _ (by omega) (by omega) (by omega) (by omega) (by omega) (by omega)).trans h23
        have h71 : σ67 (3) = some (lc_aI 48 (lc_pt)) := (fr58 _ (by omega) (by omega) (by omega) (by omega) (by omega) (by omega)).trans h24
        have h72 : σ67 (4) = some (lc_aI 72 (lc_sp)) := (fr58 _ (by omega) (by omega) (by omega) (by omega) (by omega) (by omega)).trans h25
        have h73 : σ67 (7) = some (.inr (6, [.ref (2), .ref (8), .ref (5)]) : lc_Cel) := (fr58 _ (by omega) (by omega) (by omega) (by omega) (by omega) (by omega)).trans h26
        have h74 : σ67 (9) = some (.inr (4, [.ref (10), .int (lc_i (u1)), .int (lc_i (u2))]) : lc_Cel) := (fr58 _ (by omega) (by omega) (by omega) (by omega) (by omega) (by omega)).trans h27
        have h75 : σ67 (10) = some (lc_aI 364 (ug)) := (fr58 _ (by omega) (by omega) (by omega) (by omega) (by omega) (by omega)).trans h28
        have h76 : σ67 (8) = some (.inr (8, [.ref (2), .int (lc_i (a1)), .int (lc_i (a2)), .int (lc_i (a3))]) : lc_Cel) := (fr58 _ (by omega) (by omega) (by omega) (by omega) (by omega) (by omega)).trans h29
        have h77 : σ67 (11) = some (.inr (3, [.ref (7), .ref (12), .ref (14), .ref (16), .int (lc_i (ch))]) : lc_Cel) := (fr58 _ (by omega) (by omega) (by omega) (by omega) (by omega) (by omega)).trans h30
        have h78 : σ67 (12) = some (.inr (0, [.ref (13), .int (lc_i (lc_cnt (bf) 1 36)), .int (lc_i (lc_cnt (bf) 2 36)), .int (lc_i (d1)), .int (lc_i (d2)), .int (lc_i (d3))]) : lc_Cel) := (fr58 _ (by omega) (by omega) (by omega) (by omega) (by omega) (by omega)).trans h31
        have h79 : σ67 (13) = some (lc_aI 36 (bf)) := (fr58 _ (by omega) (by omega) (by omega) (by omega) (by omega) (by omega)).trans h32
        have h80 : σ67 (14) = some (.inr (4, [.ref (15), .int (lc_i (y1)), .int (lc_i (y2))]) : lc_Cel) := (fr58 _ (by omega) (by omega) (by omega) (by omega) (by omega) (by omega)).trans h33
        have h81 : σ67 (15) = some (lc_aI 364 (g1)) := (fr58 _ (by omega) (by omega) (by omega) (by omega) (by omega) (by omega)).trans h34
        have h82 : σ67 (16) = some (.inr (4, [.ref (17), .int (lc_i (x1)), .int (lc_i (x2))]) : lc_Cel) := (fr58 _ (by omega) (by omega) (by omega) (by omega) (by omega) (by omega)).trans h35
        have h83 : σ67 (17) = some (lc_aI 364 (g2)) := (fr58 _ (by omega) (by omega) (by omega) (by omega) (by omega) (by omega)).trans h36
        have h84 : σ67 (48) = some (.inr (5, [.ref (49), .int (lc_i (z))]) : lc_Cel) := (fr58 _ (by omega) (by omega) (by omega) (by omega) (by omega) (by omega)).trans h39
        have h85 : σ67 (49) = some (lc_aC 80 (tx)) := (fr58 _ (by omega) (by omega) (by omega) (by omega) (by omega) (by omega)).trans h40
        have h86 : σ67 (18) = some (.inr (7, [.ref (19), .int (lc_i (mo)), .int (lc_i (ca)), .ref (21), .int (lc_i (ct))]) : lc_Cel) := (fr58 _ (by omega) (by omega) (by omega) (by omega) (by omega) (by omega)).trans h41
        have h87 : σ67 (19) = some (.inr (0, [.ref (20), .int (lc_i (lc_cnt (f) 1 36)), .int (lc_i (lc_cnt (f) 2 36)), .int (lc_i (s)), .int (lc_i (q)), .int (lc_i (m))]) : lc_Cel) := (fr58 _ (by omega) (by omega) (by omega) (by omega) (by omega) (by omega)).trans h42
        have h88 : σ67 (20) = some (lc_aI 36 (f)) := (fr58 _ (by omega) (by omega) (by omega) (by omega) (by omega) (by omega)).trans h43
        have h89 : σ67 (21) = some (lc_aJ 60 (fun i : Int => lc_j ((po) i))) := (fr58 _ (by omega) (by omega) (by omega) (by omega) (by omega) (by omega)).trans h44
        have h90 : σ67 (22) = some (.inr (7, [.ref (23), .int (lc_i (bMO)), .int (lc_i (bCA)), .ref (25), .int (lc_i (bCT))]) : lc_Cel) := (fr58 _ (by omega) (by omega) (by omega) (by omega) (by omega) (by omega)).trans h45
        have h91 : σ67 (23) = some (.inr (0, [.ref (24), .int (lc_i (lc_cnt (bF) 1 36)), .int (lc_i (lc_cnt (bF) 2 36)), .int (lc_i (bS)), .int (lc_i (bQ)), .int (lc_i (bM))]) : lc_Cel) := (fr58 _ (by omega) (by omega) (by omega) (by omega) (by omega) (by omega)).trans h46
        have h92 : σ67 (24) = some (lc_aI 36 (bF)) := (fr58 _ (by omega) (by omega) (by omega) (by omega) (by omega) (by omega)).trans h47
        have h93 : σ67 (25) = some (lc_aJ 60 (fun i : Int => lc_j ((bPO) i))) := (fr58 _ (by omega) (by omega) (by omega) (by omega) (by omega) (by omega)).trans h48
        have h94 : σ67 (26) = some (.inr (7, [.ref (27), .int (lc_i (nMO)), .int (lc_i (nCA)), .ref (29), .int (lc_i (nCT))]) : lc_Cel) := (fr58 _ (by omega) (by omega) (by omega) (by omega) (by omega) (by omega)).trans h49
        have h95 : σ67 (27) = some (.inr (0, [.ref (28), .int (lc_i (lc_cnt (nF) 1 36)), .int (lc_i (lc_cnt (nF) 2 36)), .int (lc_i (nS)), .int (lc_i (nQ)), .int (lc_i (nM))]) : lc_Cel) := (fr58 _ (by omega) (by omega) (by omega) (by omega) (by omega) (by omega)).trans h50
        have h96 : σ67 (28) = some (lc_aI 36 (nF)) := (fr58 _ (by omega) (by omega) (by omega) (by omega) (by omega) (by omega)).trans h51
        have h97 : σ67 (29) = some (lc_aJ 60 (fun i : Int => lc_j ((nPO) i))) := (fr58 _ (by omega) (by omega) (by omega) (by omega) (by omega) (by omega)).trans h52
        have h98 : σ67 (5) = some (.inr (9, [.ref (2), .ref (6), .int (lc_i ((wk14).1)), .int (lc_i ((wk14).2.1)), .int (lc_i ((wk14).2.2.1)), .int (lc_i ((wk14).2.2.2))]) : lc_Cel) := (fr58 _ (by omega) (by omega) (by omega) (by omega) (by omega) (by omega)).trans h12
        have h99 : σ67 (6) = some (.inr (8, [.ref (2), .int (lc_i (c15)), .int (lc_i (c16)), .int (lc_i (c17))]) : lc_Cel) := (fr58 _ (by omega) (by omega) (by omega) (by omega) (by omega) (by omega)).trans h13
        refine lc_aload_n dX10_move_55 rfl 0 rfl ?_
        refine lc_get dX10_move_56 lc_fX10_53 h69 rfl ?_
        refine lc_iload_n dX10_move_59 rfl 1 rfl ?_
        refine lc_iload_n dX10_move_60 rfl 2 rfl ?_
        refine lc_callV (As := [.int (lc_i (x)), .int (lc_i (y))]) (stk := []) (b := 18) dX10_move_61 lc_mX10_93 lc_yX7_makeMove h86 rfl (lc_cX7_makeMove l n (18) (f) (s) (q) (m) (mo) (ca) (ct) (po) (x) (y) σ67 h86 h87 h88 h89 (hf) (hs) (by omega) (by omega)) rfl ⟨Nat.le_of_ble_eq_true rfl, Nat.le_of_ble_eq_true rfl⟩ ⟨Nat.le_of_ble_eq_true rfl, Nat.le_of_ble_eq_true rfl⟩ rfl (Nat.le_of_ble_eq_true rfl) (fun v105 n106 σ107 q108 => ?_)
        obtain ⟨rfl, rfl, h101, h102, h103, h104, fr100⟩ := q108
        have h109 : σ107 (1) = some (.inr (10, [.ref (2), .ref (5), .ref (7), .ref (9), .ref (11), .ref (18), .ref (22), .ref (26), .ref (30), .ref (48), .int (lc_i (if bs = true then 1 else 0)), .int (lc_i (if bt = true then 1 else 0)), .int (lc_i (sn)), .int (lc_i (sr))]) : lc_Cel) := (fr100 _ (by omega) (by omega) (by omega) (by omega)).trans h69
        have h110 : σ107 (2) = some (.inr (1, [.ref (3), .ref (4)]) : lc_Cel) := (fr100 _ (by omega) (by omega) (by omega) (by omega)).trans h70
        have h111 : σ107 (3) = some (lc_aI 48 (lc_pt)) := (fr100 _ (by omega) (by omega) (by omega) (by omega)).trans h71
        have h112 : σ107 (4) = some (lc_aI 72 (lc_sp)) := (fr100 _ (by omega) (by omega) (by omega) (by omega)).trans h72
        have h113 : σ107 (7) = some (.inr (6, [.ref (2), .ref (8), .ref (5)]) : lc_Cel) := (fr100 _ (by omega) (by omega) (by omega) (by omega)).trans h73
        have h114 : σ107 (9) = some (.inr (4, [.ref (10), .int (lc_i (u1)), .int (lc_i (u2))]) : lc_Cel) := (fr100 _ (by omega) (by omega) (by omega) (by omega)).trans h74
        have h115 : σ107 (10) = some (lc_aI 364 (ug)) := (fr100 _ (by omega) (by omega) (by omega) (by omega)).trans h75
        have h116 : σ107 (8) = some (.inr (8, [.ref (2), .int (lc_i (a1)), .int (lc_i (a2)), .int (lc_i (a3))]) : lc_Cel) := (fr100 _ (by omega) (by omega) (by omega) (by omega)).trans h76
        have h117 : σ107 (11) = some (.inr (3, [.ref (7), .ref (12), .ref (14), .ref (16), .int (lc_i (ch))]) : lc_Cel) := (fr100 _ (by omega) (by omega) (by omega) (by omega)).trans h77
        have h118 : σ107 (12) = some (.inr (0, [.ref (13), .int (lc_i (lc_cnt (bf) 1 36)), .int (lc_i (lc_cnt (bf) 2 36)), .int (lc_i (d1)), .int (lc_i (d2)), .int (lc_i (d3))]) : lc_Cel) := (fr100 _ (by omega) (by omega) (by omega) (by omega)).trans h78
        have h119 : σ107 (13) = some (lc_aI 36 (bf)) := (fr100 _ (by omega) (by omega) (by omega) (by omega)).trans h79
        have h120 : σ107 (14) = some (.inr (4, [.ref (15), .int (lc_i (y1)), .int (lc_i (y2))]) : lc_Cel) := (fr100 _ (by omega) (by omega) (by omega) (by omega)).trans h80
        have h121 : σ107 (15) = some (lc_aI 364 (g1)) := (fr100 _ (by omega) (by omega) (by omega) (by omega)).trans h81
        have h122 : σ107 (16) = some (.inr (4, [.ref (17), .int (lc_i (x1)), .int (lc_i (x2))]) : lc_Cel) := (fr100 _ (by omega) (by omega) (by omega) (by omega)).trans h82
        have h123 : σ107 (17) = some (lc_aI 364 (g2)) := (fr100 _ (by omega) (by omega) (by omega) (by omega)).trans h83
        have h124 : σ107 (48) = some (.inr (5, [.ref (49), .int (lc_i (z))]) : lc_Cel) := (fr100 _ (by omega) (by omega) (by omega) (by omega)).trans h84
        have h125 : σ107 (49) = some (lc_aC 80 (tx)) := (fr100 _ (by omega) (by omega) (by omega) (by omega)).trans h85
        have h126 : σ107 (22) = some (.inr (7, [.ref (23), .int (lc_i (bMO)), .int (lc_i (bCA)), .ref (25), .int (lc_i (bCT))]) : lc_Cel) := (fr100 _ (by omega) (by omega) (by omega) (by omega)).trans h90
        have h127 : σ107 (23) = some (.inr (0, [.ref (24), .int (lc_i (lc_cnt (bF) 1 36)), .int (lc_i (lc_cnt (bF) 2 36)), .int (lc_i (bS)), .int (lc_i (bQ)), .int (lc_i (bM))]) : lc_Cel) := (fr100 _ (by omega) (by omega) (by omega) (by omega)).trans h91
        have h128 : σ107 (24) = some (lc_aI 36 (bF)) := (fr100 _ (by omega) (by omega) (by omega) (by omega)).trans h92
        have h129 : σ107 (25) = some (lc_aJ 60 (fun i : Int => lc_j ((bPO) i))) := (fr100 _ (by omega) (by omega) (by omega) (by omega)).trans h93
        have h130 : σ107 (26) = some (.inr (7, [.ref (27), .int (lc_i (nMO)), .int (lc_i (nCA)), .ref (29), .int (lc_i (nCT))]) : lc_Cel) := (fr100 _ (by omega) (by omega) (by omega) (by omega)).trans h94
        have h131 : σ107 (27) = some (.inr (0, [.ref (28), .int (lc_i (lc_cnt (nF) 1 36)), .int (lc_i (lc_cnt (nF) 2 36)), .int (lc_i (nS)), .int (lc_i (nQ)), .int (lc_i (nM))]) : lc_Cel) := (fr100 _ (by omega) (by omega) (by omega) (by omega)).trans h95
        have h132 : σ107 (28) = some (lc_aI 36 (nF)) := (fr100 _ (by omega) (by omega) (by omega) (by omega)).trans h96
        have h133 : σ107 (29) = some (lc_aJ 60 (fun i : Int => lc_j ((nPO) i))) := (fr100 _ (by omega) (by omega) (by omega) (by omega)).trans h97
        have h134 : σ107 (5) = some (.inr (9, [.ref (2), .ref (6), .int (lc_i ((wk14).1)), .int (lc_i ((wk14).2.1)), .int (lc_i ((wk14).2.2.1)), .int (lc_i ((wk14).2.2.2))]) : lc_Cel) := (fr100 _ (by omega) (by omega) (by omega) (by omega)).trans h98
        have h135 : σ107 (6) = some (.inr (8, [.ref (2), .int (lc_i (c15)), .int (lc_i (c16)), .int (lc_i (c17))]) : lc_Cel) := (fr100 _ (by omega) (by omega) (by omega) (by omega)).trans h99
        have h136 : σ107 (30) = some (.inr (2, [.ref (31), .int (lc_i (((lc_hk (k) : Nat) : Int)))]) : lc_Cel) := (fr100 _ (by omega) (by omega) (by omega) (by omega)).trans h59
        have h137 : σ107 (31) = some (lc_aS 4 (lc_h4 (lc_hr (r) (k)))) := (fr100 _ (by omega) (by omega) (by omega) (by omega)).trans h60
        have h138 : σ107 (t) = some (.inr (7, [.ref (t + 1), .int (lc_i (mo)), .int (lc_i (ca)), .ref (t + 3), .int (lc_i (ct))]) : lc_Cel) := (fr100 _ (by omega) (by omega) (by omega) (by omega)).trans h61
        have h139 : σ107 (t + 1) = some (.inr (0, [.ref (t + 2), .int (lc_i (lc_cnt (f) 1 36)), .int (lc_i (lc_cnt (f) 2 36)), .int (lc_i (s)), .int (lc_i (q)), .int (lc_i (m))]) : lc_Cel) := (fr100 _ (by omega) (by omega) (by omega) (by omega)).trans h62
        have h140 : σ107 (t + 2) = some (lc_aI 36 (f)) := (fr100 _ (by omega) (by omega) (by omega) (by omega)).trans h63
        have h141 : σ107 (t + 3) = some (lc_aJ 60 (fun i : Int => lc_j ((po) i))) := (fr100 _ (by omega) (by omega) (by omega) (by omega)).trans h64
        refine lc_aload_n dX10_move_64 rfl 0 rfl ?_
        refine lc_get dX10_move_65 lc_fX10_53 h109 rfl ?_
        refine lc_get dX10_move_68 lc_fX10_81 h101 rfl ?_
        refine lc_callV (As := []) (stk := []) (b := 19) dX10_move_71 lc_mX10_97 lc_yX0_quietMoves h102 rfl (lc_cX0_quietMoves l n (19) (lc_mvf (f) (s) (x) (y)) (lc_cnt (lc_mvf (f) (s) (x) (y)) 1 36) (lc_cnt (lc_mvf (f) (s) (x) (y)) 2 36) (3 - (s)) (lc_mvq (f) (q) (y)) (m) σ107 h102) rfl ⟨Nat.le_of_ble_eq_true rfl, Nat.le_of_ble_eq_true rfl⟩ ⟨Nat.le_of_ble_eq_true rfl, Nat.le_of_ble_eq_true rfl⟩ rfl (Nat.le_of_ble_eq_true rfl) (fun v142 n143 σ144 q145 => ?_)
        obtain ⟨rfl, rfl, rfl⟩ := q145
        exact lc_iret dX10_move_74 rfl (Nat.le_of_ble_eq_true rfl) (Nat.le_of_ble_eq_true rfl) (hQ _ _ _ (by rw [lc_move, if_neg (show ¬ ¬ ((0 ≤ x ∧ x < 36) ∧ (0 ≤ y ∧ y < 36)) from by omega), if_neg (show ¬ (lc_why f s q m x y false ≠ 0) from by omega)]; exact ⟨rfl, rfl, lc_CI_mk (BF := (bF, bS, bQ, bM, bMO, bCA, bCT, bPO)) (SN := (nF, nS, nQ, nM, nMO, nCA, nCT, nPO)) h109 h110 h111 h112 h134 h135 h113 h114 h115 (lc_Lk_mk h116 h117 h118 h119 h120 h121 h122 h123) ⟨h101, h102, h103, h104⟩ ⟨h126, h127, h128, h129⟩ ⟨h130, h131, h132, h133⟩ (hSN) h136 h137 (lc_Sl_push (N := (f, s, q, m, mo, ca, ct, po)) hSl hk4 ht (fun i _ _ _ _ _ _ => ((fr100 i (by omega) (by omega) (by omega) (by omega)).trans ((fr58 i (by omega) (by omega) (by omega) (by omega) (by omega) (by omega)).trans (fr11 i (by omega) (by omega))))) ⟨h138, h139, h140, h141⟩) h124 h125, fun i _ => ((fr100 i (by omega) (by omega) (by omega) (by omega)).trans ((fr58 i (by omega) (by omega) (by omega) (by omega) (by omega) (by omega)).trans (fr11 i (by omega) (by omega))))⟩))
      · skip
        refine lc_bipush dX10_move_39 (by decide) ?_
        refine lc_iload_n dX10_move_41 rfl 3 rfl ?_
        refine lc_isub dX10_move_42 ?_
        exact lc_iret dX10_move_43 rfl (Nat.le_of_ble_eq_true rfl) (Nat.le_of_ble_eq_true rfl) (hQ _ _ _ (by rw [lc_move, if_neg (show ¬ ¬ ((0 ≤ x ∧ x < 36) ∧ (0 ≤ y ∧ y < 36)) from by omega), if_pos (show lc_why f s q m x y false ≠ 0 from by omega)]; exact ⟨rfl, rfl, lc_CI_mk (BF := (bF, bS, bQ, bM, bMO, bCA, bCT, bPO)) (SN := (nF, nS, nQ, nM, nMO, nCA, nCT, nPO)) h22 h23 h24 h25 h12 h13 h26 h27 h28 (lc_Lk_mk h29 h30 h31 h32 h33 h34 h35 h36) ⟨h41, h42, h43, h44⟩ ⟨h45, h46, h47, h48⟩ ⟨h49, h50, h51, h52⟩ (hSN) h37 h38 (lc_Sl_fr hSl (fun i _ _ => (fr11 i (by omega) (by omega)))) h39 h40, fun i _ => (fr11 i (by omega) (by omega))⟩))
    · skip
      refine lc_bipush dX10_move_14 (by decide) ?_
      exact lc_iret dX10_move_16 rfl (Nat.le_of_ble_eq_true rfl) (Nat.le_of_ble_eq_true rfl) (hQ _ _ _ (by rw [lc_move, if_pos (show ¬ ((0 ≤ x ∧ x < 36) ∧ (0 ≤ y ∧ y < 36)) from by omega)]; exact ⟨rfl, rfl, lc_CI_mk (BF := (bF, bS, bQ, bM, bMO, bCA, bCT, bPO)) (SN := (nF, nS, nQ, nM, nMO, nCA, nCT, nPO)) hz_1 hz_2 hz_3 hz_4 hz_5 hz_6 hz_7 hz_9 hz_10 (lc_Lk_mk hz_8 hz_11 hz_12 hz_13 hz_14 hz_15 hz_16 hz_17) ⟨hz_18, hz_19, hz_20, hz_21⟩ ⟨hz_22, hz_23, hz_24, hz_25⟩ ⟨hz_26, hz_27, hz_28, hz_29⟩ (hSN) hz_30 hz_31 (lc_Sl_fr hSl (fun i _ _ => rfl)) hz_48 hz_49, fun i _ => rfl⟩))

set_option maxRecDepth 100000 in
set_option maxHeartbeats 600000 in
theorem lc_cX10_capture (l : Launch) (n : Nat) (f : Int → Int) (s q m mo ca ct : Int) (po : Int → Int) (P : lc_St) (H : Nat → lc_St) (k : Nat) (tx : Int → Int) (z : Int) (bs bt : Bool) (sn sr : Int) (x y : Int) (σ : lc_S)  (hI : lc_CI σ ((f, s, q, m, mo, ca, ct, po), P, H, k, tx, z, bs, bt, sn, sr)) (hw : lc_wf ((f, s, q, m, mo, ca, ct, po), P, H, k, tx, z, bs, bt, sn, sr)) (hR_x : -2147483648 ≤ x ∧ x < 2147483648) (hR_y : -2147483648 ≤ y ∧ y < 2147483648) : lc_Con l yX10_capture cX10_capture 4 (some .int) (lc_Rd 6) [.ref (1), .int (lc_i (x)), .int (lc_i (y))] n σ (fun v n2 σ2 => v = some (.int (lc_i ((lc_capt ((f, s, q, m, mo, ca, ct, po), P, H, k, tx, z, bs, bt, sn, sr) x y).2))) ∧ n = n2 ∧ lc_CI σ2 ((lc_capt ((f, s, q, m, mo, ca, ct, po), P, H, k, tx, z, bs, bt, sn, sr) x y).1) ∧ ∀ i : Nat, 50 ≤ i ∨ i = 0 → σ2 i = σ i) := by
  obtain ⟨⟨hf9, hs9, hq9, hm9, hct9, hpo9, hkey9⟩, hwP, hwH, hk4, hz, htx⟩ := hw
  have hf : ∀ j : Int, 0 ≤ j → j < 36 → 0 ≤ f j ∧ f j ≤ 2 := hf9
  have hs : 1 ≤ s ∧ s ≤ 2 := hs9
  have hq : 0 ≤ q ∧ q ≤ 60 := hq9
  have hm : 4 ≤ m ∧ m ≤ 60 := hm9
  have hct : 1 ≤ ct ∧ ct ≤ 60 := hct9
  have hpo : ∀ i : Int, 0 ≤ i → i < ct → 0 ≤ po i ∧ po i < 450283905890997363 := hpo9
  have hkey : po (ct - 1) = lc_key f s 36 := hkey9
  have hpo4 : ∀ i : Int, 0 ≤ i → i < ct → 0 ≤ po i ∧ po i < 4611686018427387904 := fun i h1 h2 => ⟨(hpo i h1 h2).1, by have := (hpo i h1 h2).2; omega⟩
  obtain ⟨r, SN, BF, w, e1, e2, e3, u1, u2, ug, hc1, hc2, hc3, hc4, hc5, hc6, hc7, hc9, hc10, hLk, hN, hB, hS, hSN, hc30, hc31, hSl, hc48, hc49⟩ := hI
  have hb : 12 ≤ 19 := (by decide)
  obtain ⟨a1, a2, a3, ch, bf, d1, d2, d3, y1, y2, g1, x1, x2, g2, hk_8, hk_11, hk_12, hk_13, hk_14, hk_15, hk_16, hk_17⟩ := hLk
  obtain ⟨bF, bS, bQ, bM, bMO, bCA, bCT, bPO⟩ := BF
  obtain ⟨nF, nS, nQ, nM, nMO, nCA, nCT, nPO⟩ := SN
  obtain ⟨hN0, hN1, hN2, hN3⟩ := hN
  obtain ⟨hB0, hB1, hB2, hB3⟩ := hB
  obtain ⟨hS0, hS1, hS2, hS3⟩ := hS
  have hz_1 : σ (1) = some (.inr (10, [.ref (2), .ref (5), .ref (7), .ref (9), .ref (11), .ref (18), .ref (22), .ref (26), .ref (30), .ref (48), .int (lc_i (if bs = true then 1 else 0)), .int (lc_i (if bt = true then 1 else 0)), .int (lc_i (sn)), .int (lc_i (sr))]) : lc_Cel) := hc1
  have hz_2 : σ (2) = some (.inr (1, [.ref (3), .ref (4)]) : lc_Cel) := hc2
  have hz_3 : σ (3) = some (lc_aI 48 (lc_pt)) := hc3
  have hz_4 : σ (4) = some (lc_aI 72 (lc_sp)) := hc4
  have hz_5 : σ (5) = some (.inr (9, [.ref (2), .ref (6), .int (lc_i ((w).1)), .int (lc_i ((w).2.1)), .int (lc_i ((w).2.2.1)), .int (lc_i ((w).2.2.2))]) : lc_Cel) := hc5
  have hz_6 : σ (6) = some (.inr (8, [.ref (2), .int (lc_i (e1)), .int (lc_i (e2)), .int (lc_i (e3))]) : lc_Cel) := hc6
  have hz_7 : σ (7) = some (.inr (6, [.ref (2), .ref (8), .ref (5)]) : lc_Cel) := hc7
  have hz_9 : σ (9) = some (.inr (4, [.ref (10), .int (lc_i (u1)), .int (lc_i (u2))]) : lc_Cel) := hc9
  have hz_10 : σ (10) = some (lc_aI 364 (ug)) := hc10
  have hz_8 : σ (8) = some (.inr (8, [.ref (2), .int (lc_i (a1)), .int (lc_i (a2)), .int (lc_i (a3))]) : lc_Cel) := hk_8
  have hz_11 : σ (11) = some (.inr (3, [.ref (7), .ref (12), .ref (14), .ref (16), .int (lc_i (ch))]) : lc_Cel) := hk_11
  have hz_12 : σ (12) = some (.inr (0, [.ref (13), .int (lc_i (lc_cnt (bf) 1 36)), .int (lc_i (lc_cnt (bf) 2 36)), .int (lc_i (d1)), .int (lc_i (d2)), .int (lc_i (d3))]) : lc_Cel) := hk_12
  have hz_13 : σ (13) = some (lc_aI 36 (bf)) := hk_13
  have hz_14 : σ (14) = some (.inr (4, [.ref (15), .int (lc_i (y1)), .int (lc_i (y2))]) : lc_Cel) := hk_14
  have hz_15 : σ (15) = some (lc_aI 364 (g1)) := hk_15
  have hz_16 : σ (16) = some (.inr (4, [.ref (17), .int (lc_i (x1)), .int (lc_i (x2))]) : lc_Cel) := hk_16
  have hz_17 : σ (17) = some (lc_aI 364 (g2)) := hk_17
  have hz_30 : σ (30) = some (.inr (2, [.ref (31), .int (lc_i ((k : Int)))]) : lc_Cel) := hc30
  have hz_31 : σ (31) = some (lc_aS 4 (lc_h4 (r))) := hc31
  have hz_48 : σ (48) = some (.inr (5, [.ref (49), .int (lc_i (z))]) : lc_Cel) := hc48
  have hz_49 : σ (49) = some (lc_aC 80 (tx)) := hc49
  have hz_18 : σ (18) = some (.inr (7, [.ref (19), .int (lc_i (mo)), .int (lc_i (ca)), .ref (21), .int (lc_i (ct))]) : lc_Cel) := hN0
  have hz_19 : σ (19) = some (.inr (0, [.ref (20), .int (lc_i (lc_cnt (f) 1 36)), .int (lc_i (lc_cnt (f) 2 36)), .int (lc_i (s)), .int (lc_i (q)), .int (lc_i (m))]) : lc_Cel) := hN1
  have hz_20 : σ (20) = some (lc_aI 36 (f)) := hN2
  have hz_21 : σ (21) = some (lc_aJ 60 (fun i : Int => lc_j ((po) i))) := hN3
  have hz_22 : σ (22) = some (.inr (7, [.ref (23), .int (lc_i (bMO)), .int (lc_i (bCA)), .ref (25), .int (lc_i (bCT))]) : lc_Cel) := hB0
  have hz_23 : σ (23) = some (.inr (0, [.ref (24), .int (lc_i (lc_cnt (bF) 1 36)), .int (lc_i (lc_cnt (bF) 2 36)), .int (lc_i (bS)), .int (lc_i (bQ)), .int (lc_i (bM))]) : lc_Cel) := hB1
  have hz_24 : σ (24) = some (lc_aI 36 (bF)) := hB2
  have hz_25 : σ (25) = some (lc_aJ 60 (fun i : Int => lc_j ((bPO) i))) := hB3
  have hz_26 : σ (26) = some (.inr (7, [.ref (27), .int (lc_i (nMO)), .int (lc_i (nCA)), .ref (29), .int (lc_i (nCT))]) : lc_Cel) := hS0
  have hz_27 : σ (27) = some (.inr (0, [.ref (28), .int (lc_i (lc_cnt (nF) 1 36)), .int (lc_i (lc_cnt (nF) 2 36)), .int (lc_i (nS)), .int (lc_i (nQ)), .int (lc_i (nM))]) : lc_Cel) := hS1
  have hz_28 : σ (28) = some (lc_aI 36 (nF)) := hS2
  have hz_29 : σ (29) = some (lc_aJ 60 (fun i : Int => lc_j ((nPO) i))) := hS3
  obtain ⟨t, ht⟩ : ∃ t : Nat, t = 32 + 4 * ((r + k) % 4) := ⟨_, rfl⟩
  obtain ⟨⟨f3, s3, q3, m3, mo3, ca3, ct3, po3⟩, hT0, hT1, hT2, hT3⟩ := lc_Sl_at hSl ht
  have hz_t : σ (t) = some (.inr (7, [.ref (t + 1), .int (lc_i (mo3)), .int (lc_i (ca3)), .ref (t + 3), .int (lc_i (ct3))]) : lc_Cel) := hT0
  have hz_t_1 : σ (t + 1) = some (.inr (0, [.ref (t + 2), .int (lc_i (lc_cnt (f3) 1 36)), .int (lc_i (lc_cnt (f3) 2 36)), .int (lc_i (s3)), .int (lc_i (q3)), .int (lc_i (m3))]) : lc_Cel) := hT1
  have hz_t_2 : σ (t + 2) = some (lc_aI 36 (f3)) := hT2
  have hz_t_3 : σ (t + 3) = some (lc_aJ 60 (fun i : Int => lc_j ((po3) i))) := hT3
  refine lc_con RX10 false (by decide) rfl (fun h => absurd h (by decide)) (Nat.le_of_ble_eq_true rfl) ?_
  suffices H : ∀ Q : lc_QT, (∀ v n2 σ2, (fun v n2 σ2 => v = some (.int (lc_i ((lc_capt ((f, s, q, m, mo, ca, ct, po), P, H, k, tx, z, bs, bt, sn, sr) x y).2))) ∧ n = n2 ∧ lc_CI σ2 ((lc_capt ((f, s, q, m, mo, ca, ct, po), P, H, k, tx, z, bs, bt, sn, sr) x y).1) ∧ ∀ i : Nat, 50 ≤ i ∨ i = 0 → σ2 i = σ i : lc_QT) v n2 σ2 → Q v n2 σ2) → lc_V l RX10 cX10_capture 4 (some .int) false (lc_Rd 6) (lc_G Q 0 0) lc_E0 0 0 n 0 [(0, .ref (1)), (1, .int (lc_i (x))), (2, .int (lc_i (y)))] [] σ from H _ (fun _ _ _ h => h)
  intro Q hQ
  refine lc_iload_n dX10_capture_0 rfl 1 rfl ?_
  refine lc_callS (As := [.int (lc_i (x))]) (stk := []) dX10_capture_1 lc_mX10_77 lc_yX10_isPoint (lc_cX10_isPoint l n (x) σ (by omega)) rfl ⟨Nat.le_of_ble_eq_true rfl, Nat.le_of_ble_eq_true rfl⟩ ⟨Nat.le_of_ble_eq_true rfl, Nat.le_of_ble_eq_true rfl⟩ rfl (Nat.le_of_ble_eq_true rfl) (fun v1 n2 σ3 q4 => ?_)
  obtain ⟨rfl, rfl, rfl⟩ := q4
  refine lc_if_eqB (tgt := 14) dX10_capture_4 (by decide) (fun h_4_4 => ?_) (fun h_4_4 => ?_)
  · skip
    refine lc_bipush dX10_capture_14 (by decide) ?_
    exact lc_iret dX10_capture_16 rfl (Nat.le_of_ble_eq_true rfl) (Nat.le_of_ble_eq_true rfl) (hQ _ _ _ (by rw [lc_capt, if_pos (show ¬ ((0 ≤ x ∧ x < 36) ∧ (0 ≤ y ∧ y < 36)) from by omega)]; exact ⟨rfl, rfl, lc_CI_mk (BF := (bF, bS, bQ, bM, bMO, bCA, bCT, bPO)) (SN := (nF, nS, nQ, nM, nMO, nCA, nCT, nPO)) hz_1 hz_2 hz_3 hz_4 hz_5 hz_6 hz_7 hz_9 hz_10 (lc_Lk_mk hz_8 hz_11 hz_12 hz_13 hz_14 hz_15 hz_16 hz_17) ⟨hz_18, hz_19, hz_20, hz_21⟩ ⟨hz_22, hz_23, hz_24, hz_25⟩ ⟨hz_26, hz_27, hz_28, hz_29⟩ (hSN) hz_30 hz_31 (lc_Sl_fr hSl (fun i _ _ => rfl)) hz_48 hz_49, fun i _ => rfl⟩))
  · skip
    refine lc_iload_n dX10_capture_7 rfl 2 rfl ?_
    refine lc_callS (As := [.int (lc_i (y))]) (stk := []) dX10_capture_8 lc_mX10_77 lc_yX10_isPoint (lc_cX10_isPoint l n (y) σ (by omega)) rfl ⟨Nat.le_of_ble_eq_true rfl, Nat.le_of_ble_eq_true rfl⟩ ⟨Nat.le_of_ble_eq_true rfl, Nat.le_of_ble_eq_true rfl⟩ rfl (Nat.le_of_ble_eq_true rfl) (fun v6 n7 σ8 q9 => ?_)
    obtain ⟨rfl, rfl, rfl⟩ := q9
    refine lc_if_neB (tgt := 17) dX10_capture_11 (by decide) (fun h_11_9 => ?_) (fun h_11_9 => ?_)
    · skip
      refine lc_aload_n dX10_capture_17 rfl 0 rfl ?_
      refine lc_get dX10_capture_18 lc_fX10_30 hz_1 rfl ?_
      refine lc_aload_n dX10_capture_21 rfl 0 rfl ?_
      refine lc_get dX10_capture_22 lc_fX10_53 hz_1 rfl ?_
      refine lc_get dX10_capture_25 lc_fX10_81 hz_18 rfl ?_
      refine lc_iload_n dX10_capture_28 rfl 1 rfl ?_
      refine lc_iload_n dX10_capture_29 rfl 2 rfl ?_
      refine lc_iconst dX10_capture_30 ?_
      refine lc_callV (As := [.ref (19), .int (lc_i (x)), .int (lc_i (y)), .int (lc_i (1))]) (stk := []) (b := 7) dX10_capture_31 lc_mX10_85 lc_yX6_whyNot hz_7 rfl (lc_cX6_whyNot l n (e1) (e2) (e3) (w) (19) (f) (s) (q) (m) (x) (y) (true) σ hz_7 hz_5 hz_6 hz_2 hz_3 hz_4 hz_19 hz_20 (hf) (by omega) (hs) (by omega) (by omega) (by omega) (by omega)) rfl ⟨Nat.le_of_ble_eq_true rfl, Nat.le_of_ble_eq_true rfl⟩ ⟨Nat.le_of_ble_eq_true rfl, Nat.le_of_ble_eq_true rfl⟩ rfl (Nat.le_of_ble_eq_true rfl) (fun v18 n19 σ20 q21 => ?_)
      obtain ⟨wk14, c15, c16, c17, rfl, rfl, h12, h13, fr11⟩ := q21
      have h22 : σ20 (1) = some (.inr (10, [.ref (2), .ref (5), .ref (7), .ref (9), .ref (11), .ref (18), .ref (22), .ref (26), .ref (30), .ref (48), .int (lc_i (if bs = true then 1 else 0)), .int (lc_i (if bt = true then 1 else 0)), .int (lc_i (sn)), .int (lc_i (sr))]) : lc_Cel) := (fr11 _ (by omega) (by omega)).trans hz_1
      have h23 : σ20 (2) = some (.inr (1, [.ref (3), .ref (4)]) : lc_Cel) := (fr11 _ (by omega) (by omega)).trans hz_2
      have h24 : σ20 (3) = some (lc_aI 48 (lc_pt)) := (fr11 _ (by omega) (by omega)).trans hz_3
      have h25 : σ20 (4) = some (lc_aI 72 (lc_sp)) := (fr11 _ (by omega) (by omega)).trans hz_4
      have h26 : σ20 (7) = some (.inr (6, [.ref (2), .ref (8), .ref (5)]) : lc_Cel) := (fr11 _ (by omega) (by omega)).trans hz_7
      have h27 : σ20 (9) = some (.inr (4, [.ref (10), .int (lc_i (u1)), .int (lc_i (u2))]) : lc_Cel) := (fr11 _ (by omega) (by omega)).trans hz_9
      have h28 : σ20 (10) = some (lc_aI 364 (ug)) := (fr11 _ (by omega) (by omega)).trans hz_10
      have h29 : σ20 (8) = some (.inr (8, [.ref (2), .int (lc_i (a1)), .int (lc_i (a2)), .int (lc_i (a3))]) : lc_Cel) := (fr11 _ (by omega) (by omega)).trans hz_8
      have h30 : σ20 (11) = some (.inr (3, [.ref (7), .ref (12), .ref (14), .ref (16), .int (lc_i (ch))]) : lc_Cel) := (fr11 _ (by omega) (by omega)).trans hz_11
      have h31 : σ20 (12) = some (.inr (0, [.ref (13), .int (lc_i (lc_cnt (bf) 1 36)), .int (lc_i (lc_cnt (bf) 2 36)), .int (lc_i (d1)), .int (lc_i (d2)), .int (lc_i (d3))]) : lc_Cel) := (fr11 _ (by omega) (by omega)).trans hz_12
      have h32 : σ20 (13) = some (lc_aI 36 (bf)) := (fr11 _ (by omega) (by omega)).trans hz_13
      have h33 : σ20 (14) = some (.inr (4, [.ref (15), .int (lc_i (y1)), .int (lc_i (y2))]) : lc_Cel) := (fr11 _ (by omega) (by omega)).trans hz_14
      have h34 : σ20 (15) = some (lc_aI 364 (g1)) := (fr11 _ (by omega) (by omega)).trans hz_15
      have h35 : σ20 (16) = some (.inr (4, [.ref (17), .int (lc_i (x1)), .int (lc_i (x2))]) : lc_Cel) := (fr11 _ (by omega) (by omega)).trans hz_16
      have h36 : σ20 (17) = some (lc_aI 364 (g2)) := (fr11 _ (by omega) (by omega)).trans hz_17
      have h37 : σ20 (30) = some (.inr (2, [.ref (31), .int (lc_i ((k : Int)))]) : lc_Cel) := (fr11 _ (by omega) (by omega)).trans hz_30
      have h38 : σ20 (31) = some (lc_aS 4 (lc_h4 (r))) := (fr11 _ (by omega) (by omega)).trans hz_31
      have h39 : σ20 (48) = some (.inr (5, [.ref (49), .int (lc_i (z))]) : lc_Cel) := (fr11 _ (by omega) (by omega)).trans hz_48
      have h40 : σ20 (49) = some (lc_aC 80 (tx)) := (fr11 _ (by omega) (by omega)).trans hz_49
      have h41 : σ20 (18) = some (.inr (7, [.ref (19), .int (lc_i (mo)), .int (lc_i (ca)), .ref (21), .int (lc_i (ct))]) : lc_Cel) := (fr11 _ (by omega) (by omega)).trans hz_18
      have h42 : σ20 (19) = some (.inr (0, [.ref (20), .int (lc_i (lc_cnt (f) 1 36)), .int (lc_i (lc_cnt (f) 2 36)), .int (lc_i (s)), .int (lc_i (q)), .int (lc_i (m))]) : lc_Cel) := (fr11 _ (by omega) (by omega)).trans hz_19
      have h43 : σ20 (20) = some (lc_aI 36 (f)) := (fr11 _ (by omega) (by omega)).trans hz_20
      have h44 : σ20 (21) = some (lc_aJ 60 (fun i : Int => lc_j ((po) i))) := (fr11 _ (by omega) (by omega)).trans hz_21
      have h45 : σ20 (22) = some (.inr (7, [.ref (23), .int (lc_i (bMO)), .int (lc_i (bCA)), .ref (25), .int (lc_i (bCT))]) : lc_Cel) := (fr11 _ (by omega) (by omega)).trans hz_22
      have h46 : σ20 (23) = some (.inr (0, [.ref (24), .int (lc_i (lc_cnt (bF) 1 36)), .int (lc_i (lc_cnt (bF) 2 36)), .int (lc_i (bS)), .int (lc_i (bQ)), .int (lc_i (bM))]) : lc_Cel) := (fr11 _ (by omega) (by omega)).trans hz_23
      have h47 : σ20 (24) = some (lc_aI 36 (bF)) := (fr11 _ (by omega) (by omega)).trans hz_24
      have h48 : σ20 (25) = some (lc_aJ 60 (fun i : Int => lc_j ((bPO) i))) := (fr11 _ (by omega) (by omega)).trans hz_25
      have h49 : σ20 (26) = some (.inr (7, [.ref (27), .int (lc_i (nMO)), .int (lc_i (nCA)), .ref (29), .int (lc_i (nCT))]) : lc_Cel) := (fr11 _ (by omega) (by omega)).trans hz_26
      have h50 : σ20 (27) = some (.inr (0, [.ref (28), .int (lc_i (lc_cnt (nF) 1 36)), .int (lc_i (lc_cnt (nF) 2 36)), .int (lc_i (nS)), .int (lc_i (nQ)), .int (lc_i (nM))]) : lc_Cel) := (fr11 _ (by omega) (by omega)).trans hz_27
      have h51 : σ20 (28) = some (lc_aI 36 (nF)) := (fr11 _ (by omega) (by omega)).trans hz_28
      have h52 : σ20 (29) = some (lc_aJ 60 (fun i : Int => lc_j ((nPO) i))) := (fr11 _ (by omega) (by omega)).trans hz_29
      have h53 : σ20 (t) = some (.inr (7, [.ref (t + 1), .int (lc_i (mo3)), .int (lc_i (ca3)), .ref (t + 3), .int (lc_i (ct3))]) : lc_Cel) := (fr11 _ (by omega) (by omega)).trans hz_t
      have h54 : σ20 (t + 1) = some (.inr (0, [.ref (t + 2), .int (lc_i (lc_cnt (f3) 1 36)), .int (lc_i (lc_cnt (f3) 2 36)), .int (lc_i (s3)), .int (lc_i (q3)), .int (lc_i (m3))]) : lc_Cel) := (fr11 _ (by omega) (by omega)).trans hz_t_1
      have h55 : σ20 (t + 2) = some (lc_aI 36 (f3)) := (fr11 _ (by omega) (by omega)).trans hz_t_2
      have h56 : σ20 (t + 3) = some (lc_aJ 60 (fun i : Int => lc_j ((po3) i))) := (fr11 _ (by omega) (by omega)).trans hz_t_3
      refine lc_istore_n (lv' := [(0, .ref (1)), (1, .int (lc_i (x))), (2, .int (lc_i (y))), (3, .int (lc_i (lc_why (f) (s) (q) (m) (x) (y) (true))))]) dX10_capture_34 rfl (by decide) rfl ?_
      have hwr := lc_why_r f s q m x y true
      refine lc_iload_n dX10_capture_35 rfl 3 rfl ?_
      refine lc_if_eq (tgt := 44) dX10_capture_36 (by decide) (by omega) (fun h_36_56 => ?_) (fun h_36_56 => ?_)
      · skip
        refine lc_aload_n dX10_capture_44 rfl 0 rfl ?_
        refine lc_get dX10_capture_45 lc_fX10_66 h22 rfl ?_
        refine lc_aload_n dX10_capture_48 rfl 0 rfl ?_
        refine lc_get dX10_capture_49 lc_fX10_53 h22 rfl ?_
        refine lc_callV (As := [.ref (18)]) (stk := []) (b := 30) dX10_capture_52 lc_mX10_89 lc_yX2_push h37 rfl (lc_cX2_push l n (r) (k) (18) (f) (s) (q) (m) (mo) (ca) (ct) (po) (t) (f3) (s3) (q3) (m3) (mo3) (ca3) (ct3) (po3) σ20 h37 h38 h41 h42 h43 h44 h53 h54 h55 h56 (hk4) (ht) (by omega) (lc_Sl_st (lc_Sl_fr hSl (fun i _ _ => (fr11 i (by omega) (by omega)))))) rfl ⟨Nat.le_of_ble_eq_true rfl, Nat.le_of_ble_eq_true rfl⟩ ⟨Nat.le_of_ble_eq_true rfl, Nat.le_of_ble_eq_true rfl⟩ rfl (Nat.le_of_ble_eq_true rfl) (fun v65 n66 σ67 q68 => ?_)
        obtain ⟨rfl, rfl, h59, h60, h61, h62, h63, h64, fr58⟩ := q68
        have h69 : σ67 (1) = some (.inr (10, [.ref (2), .ref (5), .ref (7), .ref (9), .ref (11), .ref (18), .ref (22), .ref (26), .ref (30), .ref (48), .int (lc_i (if bs = true then 1 else 0)), .int (lc_i (if bt = true then 1 else 0)), .int (lc_i (sn)), .int (lc_i (sr))]) : lc_Cel) := (fr58 _ (by omega) (by omega) (by omega) (by omega) (by omega) (by omega)).trans h22
        have h70 : σ67 (2) = some (.inr (1, [.ref (3), .ref (4)]) : lc_Cel) := (fr58 _ (by omega) (by omega) (by omega) (by omega) (by omega) (by omega)).trans h23
        have h71 : σ67 (3) = some (lc_aI 48 (lc_pt)) := (fr58 _ (by omega) (by omega) (by omega) (by omega) (by omega) (by omega)).trans h24
        have h72 : σ67 (4) = some (lc_aI 72 (lc_sp)) := (fr58 _ (by omega) (by omega) (by omega) (by omega) (by omega) (by omega)).trans h25
        have h73 : σ67 (7) = some (.inr (6, [.ref (2), .ref (8), .ref (5)]) : lc_Cel) := (fr58 _ (by omega) (by omega) (by omega) (by omega) (by omega) (by omega)).trans h26
        have h74 : σ67 (9) = some (.inr (4, [.ref (10), .int (lc_i (u1)), .int (lc_i (u2))]) : lc_Cel) := (fr58 _ (by omega) (by omega) (by omega) (by omega) (by omega) (by omega)).trans h27
        have h75 : σ67 (10) = some (lc_aI 364 (ug)) := (fr58 _ (by omega) (by omega) (by omega) (by omega) (by omega) (by omega)).trans h28
        have h76 : σ67 (8) = some (.inr (8, [.ref (2), .int (lc_i (a1)), .int (lc_i (a2)), .int (lc_i (a3))]) : lc_Cel) := (fr58 _ (by omega) (by omega) (by omega) (by omega) (by omega) (by omega)).trans h29
        have h77 : σ67 (11) = some (.inr (3, [.ref (7), .ref (12), .ref (14), .ref (16), .int (lc_i (ch))]) : lc_Cel) := (fr58 _ (by omega) (by omega) (by omega) (by omega) (by omega) (by omega)).trans h30
        have h78 : σ67 (12) = some (.inr (0, [.ref (13), .int (lc_i (lc_cnt (bf) 1 36)), .int (lc_i (lc_cnt (bf) 2 36)), .int (lc_i (d1)), .int (lc_i (d2)), .int (lc_i (d3))]) : lc_Cel) := (fr58 _ (by omega) (by omega) (by omega) (by omega) (by omega) (by omega)).trans h31
        have h79 : σ67 (13) = some (lc_aI 36 (bf)) := (fr58 _ (by omega) (by omega) (by omega) (by omega) (by omega) (by omega)).trans h32
        have h80 : σ67 (14) = some (.inr (4, [.ref (15), .int (lc_i (y1)), .int (lc_i (y2))]) : lc_Cel) := (fr58 _ (by omega) (by omega) (by omega) (by omega) (by omega) (by omega)).trans h33
        have h81 : σ67 (15) = some (lc_aI 364 (g1)) := (fr58 _ (by omega) (by omega) (by omega) (by omega) (by omega) (by omega)).trans h34
        have h82 : σ67 (16) = some (.inr (4, [.ref (17), .int (lc_i (x1)), .int (lc_i (x2))]) : lc_Cel) := (fr58 _ (by omega) (by omega) (by omega) (by omega) (by omega) (by omega)).trans h35
        have h83 : σ67 (17) = some (lc_aI 364 (g2)) := (fr58 _ (by omega) (by omega) (by omega) (by omega) (by omega) (by omega)).trans h36
        have h84 : σ67 (48) = some (.inr (5, [.ref (49), .int (lc_i (z))]) : lc_Cel) := (fr58 _ (by omega) (by omega) (by omega) (by omega) (by omega) (by omega)).trans h39
        have h85 : σ67 (49) = some (lc_aC 80 (tx)) := (fr58 _ (by omega) (by omega) (by omega) (by omega) (by omega) (by omega)).trans h40
        have h86 : σ67 (18) = some (.inr (7, [.ref (19), .int (lc_i (mo)), .int (lc_i (ca)), .ref (21), .int (lc_i (ct))]) : lc_Cel) := (fr58 _ (by omega) (by omega) (by omega) (by omega) (by omega) (by omega)).trans h41
        have h87 : σ67 (19) = some (.inr (0, [.ref (20), .int (lc_i (lc_cnt (f) 1 36)), .int (lc_i (lc_cnt (f) 2 36)), .int (lc_i (s)), .int (lc_i (q)), .int (lc_i (m))]) : lc_Cel) := (fr58 _ (by omega) (by omega) (by omega) (by omega) (by omega) (by omega)).trans h42
        have h88 : σ67 (20) = some (lc_aI 36 (f)) := (fr58 _ (by omega) (by omega) (by omega) (by omega) (by omega) (by omega)).trans h43
        have h89 : σ67 (21) = some (lc_aJ 60 (fun i : Int => lc_j ((po) i))) := (fr58 _ (by omega) (by omega) (by omega) (by omega) (by omega) (by omega)).trans h44
        have h90 : σ67 (22) = some (.inr (7, [.ref (23), .int (lc_i (bMO)), .int (lc_i (bCA)), .ref (25), .int (lc_i (bCT))]) : lc_Cel) := (fr58 _ (by omega) (by omega) (by omega) (by omega) (by omega) (by omega)).trans h45
        have h91 : σ67 (23) = some (.inr (0, [.ref (24), .int (lc_i (lc_cnt (bF) 1 36)), .int (lc_i (lc_cnt (bF) 2 36)), .int (lc_i (bS)), .int (lc_i (bQ)), .int (lc_i (bM))]) : lc_Cel) := (fr58 _ (by omega) (by omega) (by omega) (by omega) (by omega) (by omega)).trans h46
        have h92 : σ67 (24) = some (lc_aI 36 (bF)) := (fr58 _ (by omega) (by omega) (by omega) (by omega) (by omega) (by omega)).trans h47
        have h93 : σ67 (25) = some (lc_aJ 60 (fun i : Int => lc_j ((bPO) i))) := (fr58 _ (by omega) (by omega) (by omega) (by omega) (by omega) (by omega)).trans h48
        have h94 : σ67 (26) = some (.inr (7, [.ref (27), .int (lc_i (nMO)), .int (lc_i (nCA)), .ref (29), .int (lc_i (nCT))]) : lc_Cel) := (fr58 _ (by omega) (by omega) (by omega) (by omega) (by omega) (by omega)).trans h49
        have h95 : σ67 (27) = some (.inr (0, [.ref (28), .int (lc_i (lc_cnt (nF) 1 36)), .int (lc_i (lc_cnt (nF) 2 36)), .int (lc_i (nS)), .int (lc_i (nQ)), .int (lc_i (nM))]) : lc_Cel) := (fr58 _ (by omega) (by omega) (by omega) (by omega) (by omega) (by omega)).trans h50
        have h96 : σ67 (28) = some (lc_aI 36 (nF)) := (fr58 _ (by omega) (by omega) (by omega) (by omega) (by omega) (by omega)).trans h51
        have h97 : σ67 (29) = some (lc_aJ 60 (fun i : Int => lc_j ((nPO) i))) := (fr58 _ (by omega) (by omega) (by omega) (by omega) (by omega) (by omega)).trans h52
        have h98 : σ67 (5) = some (.inr (9, [.ref (2), .ref (6), .int (lc_i ((wk14).1)), .int (lc_i ((wk14).2.1)), .int (lc_i ((wk14).2.2.1)), .int (lc_i ((wk14).2.2.2))]) : lc_Cel) := (fr58 _ (by omega) (by omega) (by omega) (by omega) (by omega) (by omega)).trans h12
        have h99 : σ67 (6) = some (.inr (8, [.ref (2), .int (lc_i (c15)), .int (lc_i (c16)), .int (lc_i (c17))]) : lc_Cel) := (fr58 _ (by omega) (by omega) (by omega) (by omega) (by omega) (by omega)).trans h13
        refine lc_aload_n dX10_capture_55 rfl 0 rfl ?_
        refine lc_get dX10_capture_56 lc_fX10_53 h69 rfl ?_
        refine lc_iload_n dX10_capture_59 rfl 1 rfl ?_
        refine lc_iload_n dX10_capture_60 rfl 2 rfl ?_
        refine lc_callV (As := [.int (lc_i (x)), .int (lc_i (y))]) (stk := []) (b := 18) dX10_capture_61 lc_mX10_93 lc_yX7_makeMove h86 rfl (lc_cX7_makeMove l n (18) (f) (s) (q) (m) (mo) (ca) (ct) (po) (x) (y) σ67 h86 h87 h88 h89 (hf) (hs) (by omega) (by omega)) rfl ⟨Nat.le_of_ble_eq_true rfl, Nat.le_of_ble_eq_true rfl⟩ ⟨Nat.le_of_ble_eq_true rfl, Nat.le_of_ble_eq_true rfl⟩ rfl (Nat.le_of_ble_eq_true rfl) (fun v105 n106 σ107 q108 => ?_)
        obtain ⟨rfl, rfl, h101, h102, h103, h104, fr100⟩ := q108
        have h109 : σ107 (1) = some (.inr (10, [.ref (2), .ref (5), .ref (7), .ref (9), .ref (11), .ref (18), .ref (22), .ref (26), .ref (30), .ref (48), .int (lc_i (if bs = true then 1 else 0)), .int (lc_i (if bt = true then 1 else 0)), .int (lc_i (sn)), .int (lc_i (sr))]) : lc_Cel) := (fr100 _ (by omega) (by omega) (by omega) (by omega)).trans h69
        have h110 : σ107 (2) = some (.inr (1, [.ref (3), .ref (4)]) : lc_Cel) := (fr100 _ (by omega) (by omega) (by omega) (by omega)).trans h70
        have h111 : σ107 (3) = some (lc_aI 48 (lc_pt)) := (fr100 _ (by omega) (by omega) (by omega) (by omega)).trans h71
        have h112 : σ107 (4) = some (lc_aI 72 (lc_sp)) := (fr100 _ (by omega) (by omega) (by omega) (by omega)).trans h72
        have h113 : σ107 (7) = some (.inr (6, [.ref (2), .ref (8), .ref (5)]) : lc_Cel) := (fr100 _ (by omega) (by omega) (by omega) (by omega)).trans h73
        have h114 : σ107 (9) = some (.inr (4, [.ref (10), .int (lc_i (u1)), .int (lc_i (u2))]) : lc_Cel) := (fr100 _ (by omega) (by omega) (by omega) (by omega)).trans h74
        have h115 : σ107 (10) = some (lc_aI 364 (ug)) := (fr100 _ (by omega) (by omega) (by omega) (by omega)).trans h75
        have h116 : σ107 (8) = some (.inr (8, [.ref (2), .int (lc_i (a1)), .int (lc_i (a2)), .int (lc_i (a3))]) : lc_Cel) := (fr100 _ (by omega) (by omega) (by omega) (by omega)).trans h76
        have h117 : σ107 (11) = some (.inr (3, [.ref (7), .ref (12), .ref (14), .ref (16), .int (lc_i (ch))]) : lc_Cel) := (fr100 _ (by omega) (by omega) (by omega) (by omega)).trans h77
        have h118 : σ107 (12) = some (.inr (0, [.ref (13), .int (lc_i (lc_cnt (bf) 1 36)), .int (lc_i (lc_cnt (bf) 2 36)), .int (lc_i (d1)), .int (lc_i (d2)), .int (lc_i (d3))]) : lc_Cel) := (fr100 _ (by omega) (by omega) (by omega) (by omega)).trans h78
        have h119 : σ107 (13) = some (lc_aI 36 (bf)) := (fr100 _ (by omega) (by omega) (by omega) (by omega)).trans h79
        have h120 : σ107 (14) = some (.inr (4, [.ref (15), .int (lc_i (y1)), .int (lc_i (y2))]) : lc_Cel) := (fr100 _ (by omega) (by omega) (by omega) (by omega)).trans h80
        have h121 : σ107 (15) = some (lc_aI 364 (g1)) := (fr100 _ (by omega) (by omega) (by omega) (by omega)).trans h81
        have h122 : σ107 (16) = some (.inr (4, [.ref (17), .int (lc_i (x1)), .int (lc_i (x2))]) : lc_Cel) := (fr100 _ (by omega) (by omega) (by omega) (by omega)).trans h82
        have h123 : σ107 (17) = some (lc_aI 364 (g2)) := (fr100 _ (by omega) (by omega) (by omega) (by omega)).trans h83
        have h124 : σ107 (48) = some (.inr (5, [.ref (49), .int (lc_i (z))]) : lc_Cel) := (fr100 _ (by omega) (by omega) (by omega) (by omega)).trans h84
        have h125 : σ107 (49) = some (lc_aC 80 (tx)) := (fr100 _ (by omega) (by omega) (by omega) (by omega)).trans h85
        have h126 : σ107 (22) = some (.inr (7, [.ref (23), .int (lc_i (bMO)), .int (lc_i (bCA)), .ref (25), .int (lc_i (bCT))]) : lc_Cel) := (fr100 _ (by omega) (by omega) (by omega) (by omega)).trans h90
        have h127 : σ107 (23) = some (.inr (0, [.ref (24), .int (lc_i (lc_cnt (bF) 1 36)), .int (lc_i (lc_cnt (bF) 2 36)), .int (lc_i (bS)), .int (lc_i (bQ)), .int (lc_i (bM))]) : lc_Cel) := (fr100 _ (by omega) (by omega) (by omega) (by omega)).trans h91
        have h128 : σ107 (24) = some (lc_aI 36 (bF)) := (fr100 _ (by omega) (by omega) (by omega) (by omega)).trans h92
        have h129 : σ107 (25) = some (lc_aJ 60 (fun i : Int => lc_j ((bPO) i))) := (fr100 _ (by omega) (by omega) (by omega) (by omega)).trans h93
        have h130 : σ107 (26) = some (.inr (7, [.ref (27), .int (lc_i (nMO)), .int (lc_i (nCA)), .ref (29), .int (lc_i (nCT))]) : lc_Cel) := (fr100 _ (by omega) (by omega) (by omega) (by omega)).trans h94
        have h131 : σ107 (27) = some (.inr (0, [.ref (28), .int (lc_i (lc_cnt (nF) 1 36)), .int (lc_i (lc_cnt (nF) 2 36)), .int (lc_i (nS)), .int (lc_i (nQ)), .int (lc_i (nM))]) : lc_Cel) := (fr100 _ (by omega) (by omega) (by omega) (by omega)).trans h95
        have h132 : σ107 (28) = some (lc_aI 36 (nF)) := (fr100 _ (by omega) (by omega) (by omega) (by omega)).trans h96
        have h133 : σ107 (29) = some (lc_aJ 60 (fun i : Int => lc_j ((nPO) i))) := (fr100 _ (by omega) (by omega) (by omega) (by omega)).trans h97
        have h134 : σ107 (5) = some (.inr (9, [.ref (2), .ref (6), .int (lc_i ((wk14).1)), .int (lc_i ((wk14).2.1)), .int (lc_i ((wk14).2.2.1)), .int (lc_i ((wk14).2.2.2))]) : lc_Cel) := (fr100 _ (by omega) (by omega) (by omega) (by omega)).trans h98
        have h135 : σ107 (6) = some (.inr (8, [.ref (2), .int (lc_i (c15)), .int (lc_i (c16)), .int (lc_i (c17))]) : lc_Cel) := (fr100 _ (by omega) (by omega) (by omega) (by omega)).trans h99
        have h136 : σ107 (30) = some (.inr (2, [.ref (31), .int (lc_i (((lc_hk (k) : Nat) : Int)))]) : lc_Cel) := (fr100 _ (by omega) (by omega) (by omega) (by omega)).trans h59
        have h137 : σ107 (31) = some (lc_aS 4 (lc_h4 (lc_hr (r) (k)))) := (fr100 _ (by omega) (by omega) (by omega) (by omega)).trans h60
        have h138 : σ107 (t) = some (.inr (7, [.ref (t + 1), .int (lc_i (mo)), .int (lc_i (ca)), .ref (t + 3), .int (lc_i (ct))]) : lc_Cel) := (fr100 _ (by omega) (by omega) (by omega) (by omega)).trans h61
        have h139 : σ107 (t + 1) = some (.inr (0, [.ref (t + 2), .int (lc_i (lc_cnt (f) 1 36)), .int (lc_i (lc_cnt (f) 2 36)), .int (lc_i (s)), .int (lc_i (q)), .int (lc_i (m))]) : lc_Cel) := (fr100 _ (by omega) (by omega) (by omega) (by omega)).trans h62
        have h140 : σ107 (t + 2) = some (lc_aI 36 (f)) := (fr100 _ (by omega) (by omega) (by omega) (by omega)).trans h63
        have h141 : σ107 (t + 3) = some (lc_aJ 60 (fun i : Int => lc_j ((po) i))) := (fr100 _ (by omega) (by omega) (by omega) (by omega)).trans h64
        refine lc_aload_n dX10_capture_64 rfl 0 rfl ?_
        refine lc_get dX10_capture_65 lc_fX10_53 h109 rfl ?_
        refine lc_get dX10_capture_68 lc_fX10_81 h101 rfl ?_
        refine lc_aload_n dX10_capture_71 rfl 0 rfl ?_
        refine lc_get dX10_capture_72 lc_fX10_53 h109 rfl ?_
        refine lc_get dX10_capture_75 lc_fX10_81 h101 rfl ?_
        refine lc_callV (As := []) (stk := [.ref (19)]) (b := 19) dX10_capture_78 lc_mX10_103 lc_yX0_sideToMove h102 rfl (lc_cX0_sideToMove l n (19) (lc_mvf (f) (s) (x) (y)) (lc_cnt (lc_mvf (f) (s) (x) (y)) 1 36) (lc_cnt (lc_mvf (f) (s) (x) (y)) 2 36) (3 - (s)) (lc_mvq (f) (q) (y)) (m) σ107 h102) rfl ⟨Nat.le_of_ble_eq_true rfl, Nat.le_of_ble_eq_true rfl⟩ ⟨Nat.le_of_ble_eq_true rfl, Nat.le_of_ble_eq_true rfl⟩ rfl (Nat.le_of_ble_eq_true rfl) (fun v142 n143 σ144 q145 => ?_)
        obtain ⟨rfl, rfl, rfl⟩ := q145
        refine lc_callV (As := [.int (lc_i (3 - (s)))]) (stk := []) (b := 19) dX10_capture_81 lc_mX10_106 lc_yX0_piecesOf h102 rfl (lc_cX0_piecesOf l n (19) (lc_mvf (f) (s) (x) (y)) (lc_cnt (lc_mvf (f) (s) (x) (y)) 1 36) (lc_cnt (lc_mvf (f) (s) (x) (y)) 2 36) (3 - (s)) (lc_mvq (f) (q) (y)) (m) (3 - (s)) σ107 h102 (by omega)) rfl ⟨Nat.le_of_ble_eq_true rfl, Nat.le_of_ble_eq_true rfl⟩ ⟨Nat.le_of_ble_eq_true rfl, Nat.le_of_ble_eq_true rfl⟩ rfl (Nat.le_of_ble_eq_true rfl) (fun v146 n147 σ148 q149 => ?_)
        obtain ⟨rfl, rfl, rfl⟩ := q149
        exact lc_iret dX10_capture_84 rfl (Nat.le_of_ble_eq_true rfl) (Nat.le_of_ble_eq_true rfl) (hQ _ _ _ (by rw [lc_capt, if_neg (show ¬ ¬ ((0 ≤ x ∧ x < 36) ∧ (0 ≤ y ∧ y < 36)) from by omega), if_neg (show ¬ (lc_why f s q m x y true ≠ 0) from by omega)]; exact ⟨rfl, rfl, lc_CI_mk (BF := (bF, bS, bQ, bM, bMO, bCA, bCT, bPO)) (SN := (nF, nS, nQ, nM, nMO, nCA, nCT, nPO)) h109 h110 h111 h112 h134 h135 h113 h114 h115 (lc_Lk_mk h116 h117 h118 h119 h120 h121 h122 h123) ⟨h101, h102, h103, h104⟩ ⟨h126, h127, h128, h129⟩ ⟨h130, h131, h132, h133⟩ (hSN) h136 h137 (lc_Sl_push (N := (f, s, q, m, mo, ca, ct, po)) hSl hk4 ht (fun i _ _ _ _ _ _ => ((fr100 i (by omega) (by omega) (by omega) (by omega)).trans ((fr58 i (by omega) (by omega) (by omega) (by omega) (by omega) (by omega)).trans (fr11 i (by omega) (by omega))))) ⟨h138, h139, h140, h141⟩) h124 h125, fun i _ => ((fr100 i (by omega) (by omega) (by omega) (by omega)).trans ((fr58 i (by omega) (by omega) (by omega) (by omega) (by omega) (by omega)).trans (fr11 i (by omega) (by omega))))⟩))
      · skip
        refine lc_bipush dX10_capture_39 (by decide) ?_
        refine lc_iload_n dX10_capture_41 rfl 3 rfl ?_
        refine lc_isub dX10_capture_42 ?_
        exact lc_iret dX10_capture_43 rfl (Nat.le_of_ble_eq_true rfl) (Nat.le_of_ble_eq_true rfl) (hQ _ _ _ (by rw [lc_capt, if_neg (show ¬ ¬ ((0 ≤ x ∧ x < 36) ∧ (0 ≤ y ∧ y < 36)) from by omega), if_pos (show lc_why f s q m x y true ≠ 0 from by omega)]; exact ⟨rfl, rfl, lc_CI_mk (BF := (bF, bS, bQ, bM, bMO, bCA, bCT, bPO)) (SN := (nF, nS, nQ, nM, nMO, nCA, nCT, nPO)) h22 h23 h24 h25 h12 h13 h26 h27 h28 (lc_Lk_mk h29 h30 h31 h32 h33 h34 h35 h36) ⟨h41, h42, h43, h44⟩ ⟨h45, h46, h47, h48⟩ ⟨h49, h50, h51, h52⟩ (hSN) h37 h38 (lc_Sl_fr hSl (fun i _ _ => (fr11 i (by omega) (by omega)))) h39 h40, fun i _ => (fr11 i (by omega) (by omega))⟩))
    · skip
      refine lc_bipush dX10_capture_14 (by decide) ?_
      exact lc_iret dX10_capture_16 rfl (Nat.le_of_ble_eq_true rfl) (Nat.le_of_ble_eq_true rfl) (hQ _ _ _ (by rw [lc_capt, if_pos (show ¬ ((0 ≤ x ∧ x < 36) ∧ (0 ≤ y ∧ y < 36)) from by omega)]; exact ⟨rfl, rfl, lc_CI_mk (BF := (bF, bS, bQ, bM, bMO, bCA, bCT, bPO)) (SN := (nF, nS, nQ, nM, nMO, nCA, nCT, nPO)) hz_1 hz_2 hz_3 hz_4 hz_5 hz_6 hz_7 hz_9 hz_10 (lc_Lk_mk hz_8 hz_11 hz_12 hz_13 hz_14 hz_15 hz_16 hz_17) ⟨hz_18, hz_19, hz_20, hz_21⟩ ⟨hz_22, hz_23, hz_24, hz_25⟩ ⟨hz_26, hz_27, hz_28, hz_29⟩ (hSN) hz_30 hz_31 (lc_Sl_fr hSl (fun i _ _ => rfl)) hz_48 hz_49, fun i _ => rfl⟩))
