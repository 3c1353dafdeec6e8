/-! sets of points in a long -/
def lc_bs (x : Int64) (P : Int → Bool) : Prop := ∀ j : Nat, j < 64 → x.toBitVec.getLsbD j = (decide (j < 36) && P j)
theorem lc_bs_0 : lc_bs 0 (fun _ => false) := by
  intro j _
  have e0 : (0 : Int64).toBitVec = 0#64 := rfl
  rw [e0, BitVec.getLsbD_zero, Bool.and_false]
theorem lc_sh1 : ∀ j : Nat, j < 64 → ((1 : Int64) <<< ((lc_i (j : Int)).toInt64 &&& 63)).toBitVec = BitVec.twoPow 64 j := by decide +kernel
theorem lc_bs_or {x : Int64} {P : Int → Bool} (h : lc_bs x P) {i : Int} (hi : 0 ≤ i ∧ i < 36) : lc_bs (x ||| ((1 : Int64) <<< ((lc_i i).toInt64 &&& 63))) (fun j => P j || decide (j = i)) := by
  intro j hj
  have e := lc_sh1 i.toNat (by omega)
  rw [show ((i.toNat : Nat) : Int) = i by omega] at e
  rw [Int64.toBitVec_or, BitVec.getLsbD_or, e, BitVec.getLsbD_twoPow, h j hj]
  by_cases e2 : (j : Int) = i
  · have e3 : i.toNat = j := by omega
    simp [e2, e3, show j < 36 by omega, hj]
  · have e3 : ¬ i.toNat = j := by omega
    simp [e2, e3]
theorem lc_bs_id {x : Int64} {P : Int → Bool} (h : lc_bs x P) : lc_bs (x ||| 0) P := by
  intro j hj
  have e0 : (0 : Int64).toBitVec = 0#64 := rfl
  rw [Int64.toBitVec_or, BitVec.getLsbD_or, h j hj, e0, BitVec.getLsbD_zero, Bool.or_false]
theorem lc_bs_ext {x : Int64} {P Q : Int → Bool} (h : lc_bs x P) (hPQ : ∀ j : Int, 0 ≤ j → j < 36 → P j = Q j) : lc_bs x Q := by
  intro j hj
  rw [h j hj]
  by_cases e : j < 36
  · rw [hPQ j (by omega) (by omega)]
  · simp [e]
theorem lc_shr1 : ∀ j : Nat, j < 64 → (((lc_i (j : Int)).toInt64 &&& 63).toBitVec.smod 64).toNat = j := by decide +kernel
theorem lc_bs_t {x : Int64} {P : Int → Bool} (h : lc_bs x P) {i : Int} (hi : 0 ≤ i ∧ i < 36) : ((x >>> ((lc_i i).toInt64 &&& 63)) &&& 1 = 1) ↔ P i = true := by
  have e1 := h i.toNat (by omega)
  rw [show ((i.toNat : Nat) : Int) = i by omega, show decide (i.toNat < 36) = true from decide_eq_true (by omega), Bool.true_and] at e1
  have e2 := lc_shr1 i.toNat (by omega)
  rw [show ((i.toNat : Nat) : Int) = i by omega] at e2
  have key : ∀ j : Nat, j < 64 → ((x >>> ((lc_i i).toInt64 &&& 63)) &&& 1).toBitVec.getLsbD j = (decide (j = 0) && P i) := by
    intro j hj
    have e3 : (1 : Int64).toBitVec = 1#64 := rfl
    rw [Int64.toBitVec_and, BitVec.getLsbD_and, e3, BitVec.getLsbD_one]
    by_cases e4 : j = 0
    · subst e4
      rw [Int64.toBitVec_shiftRight]
      show ((BitVec.sshiftRight x.toBitVec (((lc_i i).toInt64 &&& 63).toBitVec.smod 64).toNat).getLsbD 0 && _) = _
      rw [e2, BitVec.getLsbD_sshiftRight]
      simp [show i.toNat < 64 by omega]
      rw [← e1]
      exact (BitVec.getLsbD_eq_getElem (by omega)).symm
    · simp [e4]
  constructor
  · intro h9
    have h8 := key 0 (by decide)
    rw [h9] at h8
    have h7 : (1 : Int64).toBitVec.getLsbD 0 = true := rfl
    rw [h7] at h8
    simpa using h8.symm
  · intro h9
    apply Int64.toBitVec_inj.mp
    apply BitVec.eq_of_getLsbD_eq
    intro j hj
    rw [key j hj, h9]
    have e3 : (1 : Int64).toBitVec = 1#64 := rfl
    rw [e3, BitVec.getLsbD_one]
    simp
/-! spots -/
theorem lc_sp_pt0 : ∀ p : Fin 36, ∀ x : Fin 48, (lc_pt (x.val : Int) = (p.val : Int)) ↔ (lc_sp ((p.val : Int) * 2) = (x.val : Int) ∨ lc_sp ((p.val : Int) * 2 + 1) = (x.val : Int)) := by decide +kernel
theorem lc_sp_pt {p x : Int} (hp : 0 ≤ p ∧ p < 36) (hx : 0 ≤ x ∧ x < 48) : lc_pt x = p ↔ (lc_sp (p * 2) = x ∨ lc_sp (p * 2 + 1) = x) := by
  have h := lc_sp_pt0 ⟨p.toNat, by omega⟩ ⟨x.toNat, by omega⟩
  rw [show ((p.toNat : Nat) : Int) = p by omega, show ((x.toNat : Nat) : Int) = x by omega] at h
  exact h
theorem lc_try_1 {f : Int → Int} {to x d : Int} {w : Int × Int × Int × Int} (hw : 0 ≤ w.1) : 0 < (lc_try f to w x d).1 ↔ (0 < w.1 ∨ (0 < lc_Lo f x d ∧ lc_M f x d = to)) := by
  unfold lc_try
  split
  · rename_i h
    exact ⟨fun _ => Or.inr h.1, fun _ => h.1.1⟩
  · rename_i h
    constructor
    · exact Or.inl
    · rintro (h1 | h1)
      · exact h1
      · by_cases h2 : w.1 = 0
        · exact absurd ⟨h1, Or.inl h2⟩ h
        · omega
theorem lc_two_1 {f : Int → Int} {to x : Int} {w : Int × Int × Int × Int} (hw : 0 ≤ w.1) : 0 < (lc_two f to w x).1 ↔ (0 < w.1 ∨ (x ≠ -1 ∧ ((0 < lc_Lo f x 1 ∧ lc_M f x 1 = to) ∨ (0 < lc_Lo f x (-1) ∧ lc_M f x (-1) = to)))) := by
  unfold lc_two
  by_cases e : x = -1
  · rw [if_pos e]
    exact ⟨Or.inl, fun h => h.elim id (fun h => absurd e h.1)⟩
  · rw [if_neg e]
    have h0 : 0 ≤ (lc_try f to w x 1).1 := by
      unfold lc_try
      split
      · rename_i h; exact Int.le_of_lt h.1.1
      · exact hw
    rw [lc_try_1 h0, lc_try_1 hw]
    constructor
    · rintro ((h | h) | h)
      · exact Or.inl h
      · exact Or.inr ⟨e, Or.inl h⟩
      · exact Or.inr ⟨e, Or.inr h⟩
    · rintro (h | ⟨-, h | h⟩)
      · exact Or.inl (Or.inl h)
      · exact Or.inl (Or.inr h)
      · exact Or.inr h
/-- a way exists if some spot of the point goes to the other over a loop -/
theorem lc_wy_1 {f : Int → Int} {fr to : Int} (hfr : 0 ≤ fr ∧ fr < 36) : 0 < (lc_wy f fr to).1 ↔ ∃ x : Int, (0 ≤ x ∧ x < 48) ∧ lc_pt x = fr ∧ ((0 < lc_Lo f x 1 ∧ lc_M f x 1 = to) ∨ (0 < lc_Lo f x (-1) ∧ lc_M f x (-1) = to)) := by
  have r1 := lc_sp_r (x := fr * 2) (by omega)
  have r2 := lc_sp_r (x := fr * 2 + 1) (by omega)
  have h0 : 0 ≤ (lc_two f to (0, (0, 0, 0)) (lc_sp (fr * 2))).1 := (lc_two_ok (lc_w0 _) r1).1.1
  show 0 < (lc_two f to (lc_two f to (0, (0, 0, 0)) (lc_sp (fr * 2))) (lc_sp (fr * 2 + 1))).1 ↔ _
  rw [lc_two_1 h0, lc_two_1 (show (0 : Int) ≤ 0 from Int.le_refl _)]
  constructor
  · rintro ((h | ⟨h1, h2⟩) | ⟨h1, h2⟩)
    · exact absurd h (by decide)
    · exact ⟨lc_sp (fr * 2), by omega, (lc_sp_pt hfr (by omega)).mpr (Or.inl rfl), h2⟩
    · exact ⟨lc_sp (fr * 2 + 1), by omega, (lc_sp_pt hfr (by omega)).mpr (Or.inr rfl), h2⟩
  · rintro ⟨x, hx, h1, h2⟩
    rcases (lc_sp_pt hfr hx).mp h1 with h3 | h3
    · rw [h3]; exact Or.inl (Or.inr ⟨by omega, h2⟩)
    · rw [h3]; exact Or.inr ⟨by omega, h2⟩
/-! the ones of a set -/
theorem lc_low : ∀ n : Nat, 0 < n → ∃ i : Nat, n.testBit i = true ∧ ∀ j : Nat, (n &&& (n - 1)).testBit j = (n.testBit j && decide (j ≠ i)) := by
  intro n
  induction n using Nat.strongRecOn with
  | ind n ih =>
    intro hn
    by_cases h : n % 2 = 1
    · refine ⟨0, by rw [Nat.testBit_zero]; exact decide_eq_true h, ?_⟩
      intro j
      rw [Nat.testBit_and]
      cases j with
      | zero =>
        rw [Nat.testBit_zero, Nat.testBit_zero]
        simp [show ¬ (n - 1) % 2 = 1 by omega]
      | succ j =>
        rw [Nat.testBit_succ, Nat.testBit_succ, show (n - 1) / 2 = n / 2 by omega]
        simp
    · obtain ⟨i, h1, h2⟩ := ih (n / 2) (by omega) (by omega)
      refine ⟨i + 1, by rw [Nat.testBit_succ]; exact h1, ?_⟩
      intro j
      rw [Nat.testBit_and]
      cases j with
      | zero =>
        rw [Nat.testBit_zero]
        simp [h]
      | succ j =>
        have h3 := h2 j
        rw [Nat.testBit_and] at h3
        rw [Nat.testBit_succ, Nat.testBit_succ, show (n - 1) / 2 = n / 2 - 1 by omega, h3]
        simp
theorem lc_bs_low {x : Int64} {P : Int → Bool} (h : lc_bs x P) (hx : x ≠ 0) : ∃ i : Int, (0 ≤ i ∧ i < 36) ∧ P i = true ∧ lc_bs (x &&& (x - 1)) (fun j => P j && decide (j ≠ i)) := by
  have h0 : 0 < x.toBitVec.toNat := by
    apply Nat.pos_of_ne_zero
    intro e
    exact hx (Int64.toBitVec_inj.mp (BitVec.eq_of_toNat_eq e))
  obtain ⟨i, h1, h2⟩ := lc_low x.toBitVec.toNat h0
  have hlt := x.toBitVec.isLt
  have hi : i < 64 := by
    by_cases e : i < 64
    · exact e
    · rw [Nat.testBit_lt_two_pow (Nat.lt_of_lt_of_le hlt (Nat.pow_le_pow_right (by decide) (by omega)))] at h1
      exact absurd h1 (by decide)
  have h3 := h i hi
  rw [show x.toBitVec.getLsbD i = true from h1] at h3
  have h4 : i < 36 := by
    by_cases e : i < 36
    · exact e
    · rw [decide_eq_false e, Bool.false_and] at h3
      exact absurd h3 (by decide)
  rw [decide_eq_true h4, Bool.true_and] at h3
  refine ⟨i, by omega, h3.symm, ?_⟩
  intro j hj
  have e1 : (x - 1).toBitVec.toNat = x.toBitVec.toNat - 1 := by
    rw [Int64.toBitVec_sub, BitVec.toNat_sub]
    show (2 ^ 64 - 1 + x.toBitVec.toNat) % 2 ^ 64 = _
    omega
  have e2 : (x &&& (x - 1)).toBitVec.getLsbD j = (x.toBitVec.toNat &&& (x.toBitVec.toNat - 1)).testBit j := by
    rw [Int64.toBitVec_and]
    show (x.toBitVec &&& (x - 1).toBitVec).toNat.testBit j = _
    rw [BitVec.toNat_and, e1]
  rw [e2, h2 j]
  show (x.toBitVec.getLsbD j && _) = _
  rw [h j hj, Bool.and_assoc]
  congr 2
  by_cases e : j = i
  · simp [e]
  · simp [e, show ¬ (j : Int) = (i : Int) by omega]
theorem lc_bs_z {P : Int → Bool} (h : lc_bs 0 P) : ∀ i : Int, 0 ≤ i → i < 36 → ¬ P i = true := by
  intro i h1 h2 h3
  have h4 := h i.toNat (by omega)
  have e0 : (0 : Int64).toBitVec = 0#64 := rfl
  rw [e0, BitVec.getLsbD_zero, show ((i.toNat : Nat) : Int) = i by omega, h3, decide_eq_true (show i.toNat < 36 by omega)] at h4
  exact absurd h4 (by decide)
theorem lc_num_o {P : Int → Bool} {i : Int} : ∀ N : Nat, N ≤ i → lc_num (fun j => P j && decide (j ≠ i)) N = lc_num P N
  | 0, _ => rfl
  | N + 1, h => by
    show lc_num (fun j => P j && decide (j ≠ i)) N + (if (P N && decide ((N : Int) ≠ i)) = true then 1 else 0) = lc_num P N + (if P N = true then 1 else 0)
    rw [lc_num_o N (by omega), decide_eq_true (show (N : Int) ≠ i by omega), Bool.and_true]
theorem lc_num_d {P : Int → Bool} {i : Int} (hi : 0 ≤ i) (hP : P i = true) : ∀ N : Nat, i < N → lc_num (fun j => P j && decide (j ≠ i)) N + 1 = lc_num P N
  | 0, h => absurd h (by omega)
  | N + 1, h => by
    show lc_num (fun j => P j && decide (j ≠ i)) N + (if (P N && decide ((N : Int) ≠ i)) = true then 1 else 0) + 1 = lc_num P N + (if P N = true then 1 else 0)
    by_cases e : (N : Int) = i
    · rw [lc_num_o N (by omega), e, hP]
      simp
    · rw [← lc_num_d hi hP N (by omega), decide_eq_true (show (N : Int) ≠ i from e), Bool.and_true]
      omega

theorem lc_cmp1 {x y : Int64} : lg_cmp x y ≠ 0 ↔ x ≠ y := not_congr lc_cmp0

set_option maxRecDepth 100000 in
set_option maxHeartbeats 600000 in
theorem lc_cX11_ones (l : Launch) (n : Nat) (set : Int64) (P : Int → Bool) (σ : lc_S)  (hset : lc_bs set P) : lc_Con l yX11_ones cX11_ones 5 (some .int) (lc_Rd 0) [.long (set)] n σ (fun v n2 σ2 => v = some (.int (lc_i (lc_num P 36))) ∧ n = n2 ∧ σ = σ2) := by
  refine lc_con RX11 false (by decide) rfl (fun h => absurd h (by decide)) (Nat.le_of_ble_eq_true rfl) ?_
  suffices H : ∀ Q : lc_QT, (∀ v n2 σ2, (fun v n2 σ2 => v = some (.int (lc_i (lc_num P 36))) ∧ n = n2 ∧ σ = σ2 : lc_QT) v n2 σ2 → Q v n2 σ2) → lc_V l RX11 cX11_ones 5 (some .int) false (lc_Rd 0) (lc_G Q 0 0) lc_E0 0 0 n 0 [(0, .long (set))] [] σ from H _ (fun _ _ _ h => h)
  intro Q hQ
  refine lc_iconst dX11_ones_0 ?_
  refine lc_istore_n (lv' := [(0, .long (set)), (2, .int (lc_i (0)))]) dX11_ones_1 rfl (by decide) rfl ?_
  refine lc_lload_n dX11_ones_2 rfl 0 rfl ?_
  refine lc_lstore_n (lv' := [(0, .long (set)), (2, .int (lc_i (0))), (3, .long (set))]) dX11_ones_3 rfl (by decide) rfl ?_
  have loop2 : ∀ (N1 : Nat) (x : Int64) (U : Int → Bool) (c : Int), (lc_bs x U) → (c + lc_num U 36 = lc_num P 36) → (0 ≤ c) → (0 ≤ lc_num U 36) → lc_num U 36 < (N1 : Int) → lc_V l RX11 cX11_ones 5 (some .int) false (lc_Rd 0) (lc_G Q 0 0) lc_E0 0 0 n 4 [(0, .long (set)), (2, .int (lc_i (c))), (3, .long (x))] [] σ := by
    intro N1
    induction N1 with
    | zero =>
      intro x U c hx hc hc0 hnn hm4
      exact absurd hm4 (by omega)
    | succ N1 ih3 =>
      intro x U c hx hc hc0 hnn hm4
      refine lc_lload_n dX11_ones_4 rfl 2 rfl ?_
      refine lc_lconst (x := 0) dX11_ones_5 (by decide) ?_
      refine lc_lcmp dX11_ones_6 ?_
      refine lc_if_eqR (tgt := 22) dX11_ones_7 (by decide) (fun h_7_4 => ?_) (fun h_7_4 => ?_)
      · skip
        refine lc_iload_n dX11_ones_22 rfl 1 rfl ?_
        have ex : x = 0 := lc_cmp0.mp h_7_4
        rw [ex] at hx
        have ez := lc_num_z (P := U) 36 (fun i h1 h2 => lc_bs_z hx i h1 (by omega))
        exact lc_iret dX11_ones_23 rfl (Nat.le_of_ble_eq_true rfl) (Nat.le_of_ble_eq_true rfl) (hQ _ _ _ ⟨lc_some (by omega), rfl, rfl⟩)
      · skip
        obtain ⟨i2, hi2, hq2, hx2⟩ := lc_bs_low hx (lc_cmp1.mp h_7_4)
        refine lc_iinc (lv' := [(0, .long (set)), (2, .int (lc_i (c + 1))), (3, .long (x))]) dX11_ones_10 1 rfl (by decide) rfl ?_
        refine lc_lload_n dX11_ones_13 rfl 2 rfl ?_
        refine lc_lload_n dX11_ones_14 rfl 2 rfl ?_
        refine lc_lconst (x := 1) dX11_ones_15 (by decide) ?_
        refine lc_lsub dX11_ones_16 ?_
        refine lc_land dX11_ones_17 ?_
        refine lc_lstore_n (lv' := [(0, .long (set)), (2, .int (lc_i (c + 1))), (3, .long ((x) &&& ((x) - ((1 : Int64)))))]) dX11_ones_18 rfl (by decide) rfl ?_
        refine lc_goto (tgt := 4) dX11_ones_19 (by decide) ?_
        exact ih3 (x &&& (x - 1)) (fun j => U j && decide (j ≠ i2)) (c + 1) (hx2) (by have := lc_num_d hi2.1 hq2 36 (by omega); omega) (by omega) ((lc_num_r _ 36).1) (by have := lc_num_d hi2.1 hq2 36 (by omega); omega)
  exact loop2 1000 (set) (P) (0) (hset) (by omega) (by omega) ((lc_num_r _ 36).1) (by have := (lc_num_r P 36).2; omega)


/-! the points at which a piece captures -/
def lc_dk (k : Nat) : Int := if (k : Int) % 2 = 0 then 1 else -1
def lc_tg1 (f : Int → Int) (fr : Int) (k : Nat) (j : Int) : Bool := decide (lc_pt ((k : Int) / 2) = fr ∧ lc_go f ((k : Int) / 2) (lc_dk k) ≠ -105 ∧ f (lc_go f ((k : Int) / 2) (lc_dk k)) = 3 - f fr ∧ j = lc_go f ((k : Int) / 2) (lc_dk k))
def lc_tgr (f : Int → Int) (fr : Int) : Nat → Int → Bool
  | 0, _ => false
  | k + 1, j => lc_tgr f fr k j || lc_tg1 f fr k j
theorem lc_tgr_iff {f : Int → Int} {fr j : Int} : ∀ n : Nat, lc_tgr f fr n j = true ↔ ∃ k : Nat, k < n ∧ lc_tg1 f fr k j = true
  | 0 => ⟨fun h => absurd h (show ¬ lc_tgr f fr 0 j = true from Bool.false_ne_true), fun ⟨k, hk, _⟩ => absurd hk (by omega)⟩
  | n + 1 => by
    show (lc_tgr f fr n j || lc_tg1 f fr n j) = true ↔ _
    rw [Bool.or_eq_true, lc_tgr_iff n]
    constructor
    · rintro (⟨k, h1, h2⟩ | h)
      · exact ⟨k, by omega, h2⟩
      · exact ⟨n, by omega, h⟩
    · rintro ⟨k, h1, h2⟩
      by_cases e : k = n
      · rw [e] at h2; exact Or.inr h2
      · exact Or.inl ⟨k, by omega, h2⟩
theorem lc_go_iff {f : Int → Int} {x d j : Int} (hj : 0 ≤ j) : lc_go f x d = j ↔ (0 < lc_Lo f x d ∧ lc_M f x d = j) := by
  have hL := lc_Lo_r f x d
  unfold lc_go
  by_cases h : lc_K f x d = 24 ∨ lc_Lo f x d = 0
  · rw [if_pos h]
    constructor
    · intro h1; omega
    · rintro ⟨h1, h2⟩
      rcases h with h | h
      · rw [lc_M_0 h] at h2; omega
      · omega
  · rw [if_neg h]
    exact ⟨fun h1 => ⟨by omega, h1⟩, fun h1 => h1.2⟩
theorem lc_tgr_cap {f : Int → Int} (hf : ∀ j : Int, 0 ≤ j → j < 36 → 0 ≤ f j ∧ f j ≤ 2) {fr j : Int} (hfr : 0 ≤ fr ∧ fr < 36) (h0 : f fr ≠ 0) (hj : 0 ≤ j) (hj2 : j < 36) : lc_tgr f fr 96 j = lc_cap f fr j := by
  have a1 := hf fr hfr.1 hfr.2
  have a2 := hf j hj hj2
  rw [Bool.eq_iff_iff, lc_tgr_iff, lc_cap_iff, lc_wy_1 hfr]
  constructor
  · rintro ⟨k, h1, h2⟩
    obtain ⟨h3, h4, h5, h6⟩ := of_decide_eq_true h2
    rw [← h6] at h5
    refine ⟨by omega, (k : Int) / 2, by omega, h3, ?_⟩
    have h7 := (lc_go_iff hj).mp h6.symm
    unfold lc_dk at h7
    by_cases e : (k : Int) % 2 = 0
    · rw [if_pos e] at h7; exact Or.inl h7
    · rw [if_neg e] at h7; exact Or.inr h7
  · rintro ⟨h1, x, hx, h2, h3⟩
    rcases h3 with h3 | h3
    · have h4 := (lc_go_iff hj).mpr h3
      refine ⟨2 * x.toNat, by omega, decide_eq_true ?_⟩
      rw [show ((2 * x.toNat : Nat) : Int) / 2 = x by omega, show lc_dk (2 * x.toNat) = 1 from if_pos (by omega), h4]
      exact ⟨h2, by omega, by omega, rfl⟩
    · have h4 := (lc_go_iff hj).mpr h3
      refine ⟨2 * x.toNat + 1, by omega, decide_eq_true ?_⟩
      rw [show ((2 * x.toNat + 1 : Nat) : Int) / 2 = x by omega, show lc_dk (2 * x.toNat + 1) = -1 from if_neg (by omega), h4]
      exact ⟨h2, by omega, by omega, rfl⟩
