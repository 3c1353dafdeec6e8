/-! State: a board with its counts and positions -/
theorem lc_Con_mono {l : Launch} {y : MethodName} {cc : ByteArray} {nL : Nat} {ret : Option FieldType} {R : Room} {av : List Value} {n : Nat} {σ : lc_S} {Q Q' : lc_QT} (h : lc_Con l y cc nL ret R av n σ Q) (hQ : ∀ v n2 σ2, Q v n2 σ2 → Q' v n2 σ2) : lc_Con l y cc nL ret R av n σ Q' := by
  intro b b0 D ar
  refine MetFree.mono (h b b0 D ar) (fun _ _ h => h) (fun _ _ _ _ _ h => h) ?_
  rintro a s o s' - ⟨⟨⟨v, n2, σ2, h1, h2, h3⟩, h4⟩, h5⟩
  exact ⟨⟨⟨v, n2, σ2, h1, hQ v n2 σ2 h2, h3⟩, h4⟩, h5⟩
def lc_rc (ct : Int) : Int := if ct = 60 then 60 else ct + 1
def lc_rp (po : Int → Int) (ct code : Int) : Int → Int := if ct = 60 then lc_u (fun i => po (i + 1)) 59 code else lc_u po ct code
theorem lc_rc_r {ct : Int} (h : 0 ≤ ct ∧ ct ≤ 60) : 1 ≤ lc_rc ct ∧ lc_rc ct ≤ 60 := by unfold lc_rc; split <;> omega
theorem lc_rp_0 {po : Int → Int} {ct code : Int} (h : ct < 60) : lc_rp po ct code = lc_u po ct code := if_neg (by omega)
theorem lc_rp_1 {po : Int → Int} {ct code : Int} (h : ct = 60) : lc_rp po ct code = lc_u (fun i => po (i + 1)) 59 code := if_pos h
theorem lc_cmp0 {x y : Int64} : lg_cmp x y = 0 ↔ x = y := by
  unfold lg_cmp
  by_cases h : x > y
  · rw [if_pos h]
    constructor
    · intro q; exact absurd q (by decide)
    · intro q; rw [q] at h; exact absurd h Int64.lt_irrefl
  · rw [if_neg h]
    by_cases h2 : x = y
    · rw [if_pos h2]; exact ⟨fun _ => h2, fun _ => rfl⟩
    · rw [if_neg h2]
      exact ⟨fun q => absurd q (by decide), fun q => absurd q h2⟩
theorem lc_j_inj {a b : Int} (ha : 0 ≤ a ∧ a < 4611686018427387904) (hb : 0 ≤ b ∧ b < 4611686018427387904) : lc_j a = lc_j b ↔ a = b := by
  constructor
  · intro h
    have h1 := congrArg Int64.toInt h
    unfold lc_j at h1
    rwa [Int64.toInt_ofInt_of_le (by omega) (by omega), Int64.toInt_ofInt_of_le (by omega) (by omega)] at h1
  · intro h; rw [h]
theorem lc_key_r {f : Int → Int} {s : Int} (hf : ∀ j : Int, 0 ≤ j → j < 36 → 0 ≤ f j ∧ f j ≤ 2) (hs : 1 ≤ s ∧ s ≤ 2) : ∀ k : Nat, k ≤ 36 → 0 ≤ lc_key f s k ∧ lc_key f s k + 1 ≤ 3 * 3 ^ k
  | 0, _ => by show 0 ≤ s ∧ s + 1 ≤ 3 * 1; omega
  | k + 1, h => by
    have h1 := lc_key_r hf hs k (by omega)
    have h2 := hf k (by omega) (by omega)
    have e : (3 : Int) ^ (k + 1) = 3 ^ k * 3 := Int.pow_succ 3 k
    show 0 ≤ lc_key f s k * 3 + f k ∧ lc_key f s k * 3 + f k + 1 ≤ 3 * 3 ^ (k + 1)
    rw [e]
    omega
theorem lc_key_b {f : Int → Int} {s : Int} (hf : ∀ j : Int, 0 ≤ j → j < 36 → 0 ≤ f j ∧ f j ≤ 2) (hs : 1 ≤ s ∧ s ≤ 2) : 0 ≤ lc_key f s 36 ∧ lc_key f s 36 < 4611686018427387904 := by
  have h := lc_key_r hf hs 36 (Nat.le_refl _)
  have e : (3 : Int) * 3 ^ 36 = 450283905890997363 := by decide
  omega

set_option maxRecDepth 100000 in
set_option maxHeartbeats 4000000 in
/-- State.remember -/
theorem lc_cX7_remember (l : Launch) (n : Nat) (S : Nat) (f : Int → Int) (s q m mo ca ct : Int) (po : Int → Int) (σ : lc_S) (h0_0 : σ (S) = some (.inr (7, [.ref (S + 1), .int (lc_i (mo)), .int (lc_i (ca)), .ref (S + 3), .int (lc_i (ct))]) : lc_Cel)) (h0_1 : σ (S + 1) = some (.inr (0, [.ref (S + 2), .int (lc_i (lc_cnt (f) 1 36)), .int (lc_i (lc_cnt (f) 2 36)), .int (lc_i (s)), .int (lc_i (q)), .int (lc_i (m))]) : lc_Cel)) (h0_2 : σ (S + 2) = some (lc_aI 36 (f))) (h0_3 : σ (S + 3) = some (lc_aJ 60 (fun i : Int => lc_j ((po) i)))) (hf : ∀ j : Int, 0 ≤ j → j < 36 → 0 ≤ f j ∧ f j ≤ 2) (hs : 1 ≤ s ∧ s ≤ 2) (hct : 0 ≤ ct ∧ ct ≤ 60) : lc_Con l yX7_remember cX7_remember 2 none (lc_Rd 1) [.ref (S)] n σ (fun v n2 σ2 => v = none ∧ n = n2 ∧ σ2 (S) = some (.inr (7, [.ref (S + 1), .int (lc_i (mo)), .int (lc_i (ca)), .ref (S + 3), .int (lc_i (lc_rc ct))]) : lc_Cel) ∧ σ2 (S + 3) = some (lc_aJ 60 (fun i : Int => lc_j ((lc_rp po ct (lc_key (f) (s) 36)) i))) ∧ ∀ i : Nat, i ≠ S → i ≠ S + 3 → σ2 i = σ i) := by
  refine lc_con RX7 false (by decide) rfl (fun h => absurd h (by decide)) (Nat.le_of_ble_eq_true rfl) ?_
  suffices H : ∀ Q : lc_QT, (∀ v n2 σ2, (fun v n2 σ2 => v = none ∧ n = n2 ∧ σ2 (S) = some (.inr (7, [.ref (S + 1), .int (lc_i (mo)), .int (lc_i (ca)), .ref (S + 3), .int (lc_i (lc_rc ct))]) : lc_Cel) ∧ σ2 (S + 3) = some (lc_aJ 60 (fun i : Int => lc_j ((lc_rp po ct (lc_key (f) (s) 36)) i))) ∧ ∀ i : Nat, i ≠ S → i ≠ S + 3 → σ2 i = σ i : lc_QT) v n2 σ2 → Q v n2 σ2) → lc_V l RX7 cX7_remember 2 none false (lc_Rd 1) (lc_G Q 0 0) lc_E0 0 0 n 0 [(0, .ref (S))] [] σ from H _ (fun _ _ _ h => h)
  intro Q hQ
  refine lc_aload_n dX7_remember_0 rfl 0 rfl ?_
  refine lc_get dX7_remember_1 lc_fX7_52 h0_0 rfl ?_
  refine lc_aload_n dX7_remember_4 rfl 0 rfl ?_
  refine lc_get dX7_remember_5 lc_fX7_18 h0_0 rfl ?_
  refine lc_alenV (v := 60) dX7_remember_8 h0_3 (by decide) rfl ?_
  refine lc_icmp_lt (tgt := 54) dX7_remember_9 (by decide) (by omega) (fun h_9_0 => ?_) (fun h_9_0 => ?_)
  · skip
    refine lc_aload_n dX7_remember_54 rfl 0 rfl ?_
    refine lc_get dX7_remember_55 lc_fX7_52 h0_0 rfl ?_
    refine lc_if_lt (tgt := 99) dX7_remember_58 (by decide) (by omega) (fun h_58_1 => ?_) (fun h_58_1 => ?_)
    · omega
    · skip
      refine lc_aload_n dX7_remember_61 rfl 0 rfl ?_
      refine lc_get dX7_remember_62 lc_fX7_52 h0_0 rfl ?_
      refine lc_aload_n dX7_remember_65 rfl 0 rfl ?_
      refine lc_get dX7_remember_66 lc_fX7_18 h0_0 rfl ?_
      refine lc_alenV (v := 60) dX7_remember_69 h0_3 (by decide) rfl ?_
      refine lc_icmp_ge (tgt := 99) dX7_remember_70 (by decide) (by omega) (fun h_70_2 => ?_) (fun h_70_2 => ?_)
      · omega
      · skip
        refine lc_aload_n dX7_remember_73 rfl 0 rfl ?_
        refine lc_get dX7_remember_74 lc_fX7_18 h0_0 rfl ?_
        refine lc_aload_n dX7_remember_77 rfl 0 rfl ?_
        refine lc_get dX7_remember_78 lc_fX7_52 h0_0 rfl ?_
        refine lc_aload_n dX7_remember_81 rfl 0 rfl ?_
        refine lc_get dX7_remember_82 lc_fX7_12 h0_0 rfl ?_
        refine lc_callV (As := []) (stk := [.int (lc_i (ct)), .ref (S + 3)]) (b := S + 1) dX7_remember_85 lc_mX7_55 lc_yX0_key h0_1 rfl (lc_cX0_key l n (S + 1) (f) (lc_cnt (f) 1 36) (lc_cnt (f) 2 36) (s) (q) (m) σ h0_1 h0_2 (hf) (hs)) rfl ⟨Nat.le_of_ble_eq_true rfl, Nat.le_of_ble_eq_true rfl⟩ ⟨Nat.le_of_ble_eq_true rfl, Nat.le_of_ble_eq_true rfl⟩ rfl (Nat.le_of_ble_eq_true rfl) (fun v4 n5 σ6 q7 => ?_)
        obtain ⟨rfl, rfl, rfl⟩ := q7
        refine lc_sJ dX7_remember_88 h0_3 (by omega) (by decide) (fun σ8 h9 fr10 => ?_)
        have h11 : σ8 (S) = some (.inr (7, [.ref (S + 1), .int (lc_i (mo)), .int (lc_i (ca)), .ref (S + 3), .int (lc_i (ct))]) : lc_Cel) := (fr10 _ (by omega)).trans h0_0
        have h12 : σ8 (S + 1) = some (.inr (0, [.ref (S + 2), .int (lc_i (lc_cnt (f) 1 36)), .int (lc_i (lc_cnt (f) 2 36)), .int (lc_i (s)), .int (lc_i (q)), .int (lc_i (m))]) : lc_Cel) := (fr10 _ (by omega)).trans h0_1
        have h13 : σ8 (S + 2) = some (lc_aI 36 (f)) := (fr10 _ (by omega)).trans h0_2
        refine lc_extJ (g := fun i : Int => lc_j ((lc_rp po ct (lc_key (f) (s) 36)) i)) h9 (fun j h1 h2 => by show lc_u (fun i : Int => lc_j (po i)) ct _ j = lc_j (lc_rp po ct _ j); rw [lc_rp_0 (by omega)]; by_cases e9 : j = ct; (rw [e9]; exact (lc_u_s _ _ _).trans (congrArg lc_j (lc_u_s _ _ _).symm)); (rw [lc_u_n _ _ e9, lc_u_n _ _ e9])) (fun σ14 h15 fr16 => ?_)
        have h17 : σ14 (S) = some (.inr (7, [.ref (S + 1), .int (lc_i (mo)), .int (lc_i (ca)), .ref (S + 3), .int (lc_i (ct))]) : lc_Cel) := (fr16 _ (by omega)).trans h11
        have h18 : σ14 (S + 1) = some (.inr (0, [.ref (S + 2), .int (lc_i (lc_cnt (f) 1 36)), .int (lc_i (lc_cnt (f) 2 36)), .int (lc_i (s)), .int (lc_i (q)), .int (lc_i (m))]) : lc_Cel) := (fr16 _ (by omega)).trans h12
        have h19 : σ14 (S + 2) = some (lc_aI 36 (f)) := (fr16 _ (by omega)).trans h13
        refine lc_aload_n dX7_remember_89 rfl 0 rfl ?_
        refine lc_dup dX7_remember_90 rfl ?_
        refine lc_get dX7_remember_91 lc_fX7_52 h17 rfl ?_
        refine lc_iconst dX7_remember_94 ?_
        refine lc_iadd dX7_remember_95 ?_
        refine lc_wI (vs' := [.ref (S + 1), .int (lc_i (mo)), .int (lc_i (ca)), .ref (S + 3), .int (lc_i ((ct) + (1)))]) dX7_remember_96 lc_fX7_52 h17 (Nat.le_of_ble_eq_true rfl) rfl rfl rfl (fun σ20 h21 fr22 => ?_)
        have h23 : σ20 (S + 1) = some (.inr (0, [.ref (S + 2), .int (lc_i (lc_cnt (f) 1 36)), .int (lc_i (lc_cnt (f) 2 36)), .int (lc_i (s)), .int (lc_i (q)), .int (lc_i (m))]) : lc_Cel) := (fr22 _ (by omega)).trans h18
        have h24 : σ20 (S + 2) = some (lc_aI 36 (f)) := (fr22 _ (by omega)).trans h19
        have h25 : σ20 (S + 3) = some (lc_aJ 60 (fun i : Int => lc_j ((lc_rp po ct (lc_key (f) (s) 36)) i))) := (fr22 _ (by omega)).trans h15
        exact lc_vret dX7_remember_99 rfl (Nat.le_of_ble_eq_true rfl) (Nat.le_of_ble_eq_true rfl) (hQ _ _ _ ⟨rfl, rfl, (by rw [h21, show (lc_rc ct : Int) = (ct) + (1) from (by unfold lc_rc; split <;> omega)]), h25, (fun i _ _ => ((fr22 i (by omega)).trans ((fr16 i (by omega)).trans (fr10 i (by omega)))))⟩)
  · skip
    refine lc_iconst dX7_remember_12 ?_
    refine lc_istore_n (lv' := [(0, .ref (S)), (1, .int (lc_i (1)))]) dX7_remember_13 rfl (by decide) rfl ?_
    have loop27 : ∀ (N26 : Nat) (i : Int) (hh : Int → Int64) (σ29 : lc_S), (σ29 (S + 3) = some (lc_aJ 60 (hh))) → (∀ i : Nat, i ≠ S + 3 → σ29 i = σ i) → (1 ≤ i ∧ i ≤ 60) → (∀ j : Int, 0 ≤ j → j < i - 1 → hh j = lc_j (po (j + 1))) → (∀ j : Int, i - 1 ≤ j → hh j = lc_j (po j)) → 60 - i < (N26 : Int) → lc_V l RX7 cX7_remember 2 none false (lc_Rd 1) (lc_G Q 0 0) lc_E0 0 0 n 14 [(0, .ref (S)), (1, .int (lc_i (i)))] [] σ29 := by
      intro N26
      induction N26 with
      | zero =>
        intro i hh σ29 h30 fr31 hi hlo hhi hm32
        exact absurd hm32 (by omega)
      | succ N26 ih28 =>
        intro i hh σ29 h30 fr31 hi hlo hhi hm32
        have h33 : σ29 (S) = some (.inr (7, [.ref (S + 1), .int (lc_i (mo)), .int (lc_i (ca)), .ref (S + 3), .int (lc_i (ct))]) : lc_Cel) := (fr31 _ (by omega)).trans h0_0
        have h34 : σ29 (S + 1) = some (.inr (0, [.ref (S + 2), .int (lc_i (lc_cnt (f) 1 36)), .int (lc_i (lc_cnt (f) 2 36)), .int (lc_i (s)), .int (lc_i (q)), .int (lc_i (m))]) : lc_Cel) := (fr31 _ (by omega)).trans h0_1
        have h35 : σ29 (S + 2) = some (lc_aI 36 (f)) := (fr31 _ (by omega)).trans h0_2
        refine lc_iload_n dX7_remember_14 rfl 1 rfl ?_
        refine lc_aload_n dX7_remember_15 rfl 0 rfl ?_
        refine lc_get dX7_remember_16 lc_fX7_18 h33 rfl ?_
        refine lc_alenV (v := 60) dX7_remember_19 h30 (by decide) rfl ?_
        refine lc_icmp_ge (tgt := 43) dX7_remember_20 (by decide) (by omega) (fun h_20_35 => ?_) (fun h_20_35 => ?_)
        · skip
          refine lc_aload_n dX7_remember_43 rfl 0 rfl ?_
          refine lc_aload_n dX7_remember_44 rfl 0 rfl ?_
          refine lc_get dX7_remember_45 lc_fX7_18 h33 rfl ?_
          refine lc_alenV (v := 60) dX7_remember_48 h30 (by decide) rfl ?_
          refine lc_iconst dX7_remember_49 ?_
          refine lc_isub dX7_remember_50 ?_
          refine lc_wI (vs' := [.ref (S + 1), .int (lc_i (mo)), .int (lc_i (ca)), .ref (S + 3), .int (lc_i ((60) - (1)))]) dX7_remember_51 lc_fX7_52 h33 (Nat.le_of_ble_eq_true rfl) rfl rfl rfl (fun σ37 h38 fr39 => ?_)
          have h40 : σ37 (S + 1) = some (.inr (0, [.ref (S + 2), .int (lc_i (lc_cnt (f) 1 36)), .int (lc_i (lc_cnt (f) 2 36)), .int (lc_i (s)), .int (lc_i (q)), .int (lc_i (m))]) : lc_Cel) := (fr39 _ (by omega)).trans h34
          have h41 : σ37 (S + 2) = some (lc_aI 36 (f)) := (fr39 _ (by omega)).trans h35
          have h42 : σ37 (S + 3) = some (lc_aJ 60 (hh)) := (fr39 _ (by omega)).trans h30
          refine lc_aload_n dX7_remember_54 rfl 0 rfl ?_
          refine lc_get dX7_remember_55 lc_fX7_52 h38 rfl ?_
          refine lc_if_lt (tgt := 99) dX7_remember_58 (by decide) (by omega) (fun h_58_42 => ?_) (fun h_58_42 => ?_)
          · omega
          · skip
            refine lc_aload_n dX7_remember_61 rfl 0 rfl ?_
            refine lc_get dX7_remember_62 lc_fX7_52 h38 rfl ?_
            refine lc_aload_n dX7_remember_65 rfl 0 rfl ?_
            refine lc_get dX7_remember_66 lc_fX7_18 h38 rfl ?_
            refine lc_alenV (v := 60) dX7_remember_69 h42 (by decide) rfl ?_
            refine lc_icmp_ge (tgt := 99) dX7_remember_70 (by decide) (by omega) (fun h_70_43 => ?_) (fun h_70_43 => ?_)
            · omega
            · skip
              refine lc_aload_n dX7_remember_73 rfl 0 rfl ?_
              refine lc_get dX7_remember_74 lc_fX7_18 h38 rfl ?_
              refine lc_aload_n dX7_remember_77 rfl 0 rfl ?_
              refine lc_get dX7_remember_78 lc_fX7_52 h38 rfl ?_
              refine lc_aload_n dX7_remember_81 rfl 0 rfl ?_
              refine lc_get dX7_remember_82 lc_fX7_12 h38 rfl ?_
              refine lc_callV (As := []) (stk := [.int (lc_i ((60) - (1))), .ref (S + 3)]) (b := S + 1) dX7_remember_85 lc_mX7_55 lc_yX0_key h40 rfl (lc_cX0_key l n (S + 1) (f) (lc_cnt (f) 1 36) (lc_cnt (f) 2 36) (s) (q) (m) σ37 h40 h41 (hf) (hs)) rfl ⟨Nat.le_of_ble_eq_true rfl, Nat.le_of_ble_eq_true rfl⟩ ⟨Nat.le_of_ble_eq_true rfl, Nat.le_of_ble_eq_true rfl⟩ rfl (Nat.le_of_ble_eq_true rfl) (fun v45 n46 σ47 q48 => ?_)
              obtain ⟨rfl, rfl, rfl⟩ := q48
              refine lc_sJ dX7_remember_88 h42 (by omega) (by decide) (fun σ49 h50 fr51 => ?_)
              have h52 : σ49 (S + 1) = some (.inr (0, [.ref (S + 2), .int (lc_i (lc_cnt (f) 1 36)), .int (lc_i (lc_cnt (f) 2 36)), .int (lc_i (s)), .int (lc_i (q)), .int (lc_i (m))]) : lc_Cel) := (fr51 _ (by omega)).trans h40
              have h53 : σ49 (S + 2) = some (lc_aI 36 (f)) := (fr51 _ (by omega)).trans h41
              have h54 : σ49 (S) = some (.inr (7, [.ref (S + 1), .int (lc_i (mo)), .int (lc_i (ca)), .ref (S + 3), .int (lc_i ((60) - (1)))]) : lc_Cel) := (fr51 _ (by omega)).trans h38
              refine lc_extJ (g := fun i : Int => lc_j ((lc_rp po ct (lc_key (f) (s) 36)) i)) h50 (fun j h1 h2 => by show lc_u hh _ _ j = lc_j (lc_rp po ct _ j); rw [lc_rp_1 (by omega)]; by_cases e9 : j = 59; (rw [e9]; exact (lc_u_s _ _ _).trans (congrArg lc_j (lc_u_s _ _ _).symm)); (rw [lc_u_n _ _ (by omega), lc_u_n _ _ e9]; exact hlo j h1 (by omega))) (fun σ55 h56 fr57 => ?_)
              have h58 : σ55 (S + 1) = some (.inr (0, [.ref (S + 2), .int (lc_i (lc_cnt (f) 1 36)), .int (lc_i (lc_cnt (f) 2 36)), .int (lc_i (s)), .int (lc_i (q)), .int (lc_i (m))]) : lc_Cel) := (fr57 _ (by omega)).trans h52
              have h59 : σ55 (S + 2) = some (lc_aI 36 (f)) := (fr57 _ (by omega)).trans h53
              have h60 : σ55 (S) = some (.inr (7, [.ref (S + 1), .int (lc_i (mo)), .int (lc_i (ca)), .ref (S + 3), .int (lc_i ((60) - (1)))]) : lc_Cel) := (fr57 _ (by omega)).trans h54
              refine lc_aload_n dX7_remember_89 rfl 0 rfl ?_
              refine lc_dup dX7_remember_90 rfl ?_
              refine lc_get dX7_remember_91 lc_fX7_52 h60 rfl ?_
              refine lc_iconst dX7_remember_94 ?_
              refine lc_iadd dX7_remember_95 ?_
              refine lc_wI (vs' := [.ref (S + 1), .int (lc_i (mo)), .int (lc_i (ca)), .ref (S + 3), .int (lc_i (((60) - (1)) + (1)))]) dX7_remember_96 lc_fX7_52 h60 (Nat.le_of_ble_eq_true rfl) rfl rfl rfl (fun σ61 h62 fr63 => ?_)
              have h64 : σ61 (S + 1) = some (.inr (0, [.ref (S + 2), .int (lc_i (lc_cnt (f) 1 36)), .int (lc_i (lc_cnt (f) 2 36)), .int (lc_i (s)), .int (lc_i (q)), .int (lc_i (m))]) : lc_Cel) := (fr63 _ (by omega)).trans h58
              have h65 : σ61 (S + 2) = some (lc_aI 36 (f)) := (fr63 _ (by omega)).trans h59
              have h66 : σ61 (S + 3) = some (lc_aJ 60 (fun i : Int => lc_j ((lc_rp po ct (lc_key (f) (s) 36)) i))) := (fr63 _ (by omega)).trans h56
              exact lc_vret dX7_remember_99 rfl (Nat.le_of_ble_eq_true rfl) (Nat.le_of_ble_eq_true rfl) (hQ _ _ _ ⟨rfl, rfl, (by rw [h62, show (lc_rc ct : Int) = ((60) - (1)) + (1) from (by unfold lc_rc; split <;> omega)]), h66, (fun i _ _ => ((fr63 i (by omega)).trans ((fr57 i (by omega)).trans ((fr51 i (by omega)).trans ((fr39 i (by omega)).trans (fr31 i (by omega)))))))⟩)
        · skip
          refine lc_aload_n dX7_remember_23 rfl 0 rfl ?_
          refine lc_get dX7_remember_24 lc_fX7_18 h33 rfl ?_
          refine lc_iload_n dX7_remember_27 rfl 1 rfl ?_
          refine lc_iconst dX7_remember_28 ?_
          refine lc_isub dX7_remember_29 ?_
          refine lc_aload_n dX7_remember_30 rfl 0 rfl ?_
          refine lc_get dX7_remember_31 lc_fX7_18 h33 rfl ?_
          refine lc_iload_n dX7_remember_34 rfl 1 rfl ?_
          refine lc_lald dX7_remember_35 h30 (by omega) (by decide) ?_
          refine lc_sJ dX7_remember_36 h30 (by omega) (by decide) (fun σ67 h68 fr69 => ?_)
          have h70 : σ67 (S) = some (.inr (7, [.ref (S + 1), .int (lc_i (mo)), .int (lc_i (ca)), .ref (S + 3), .int (lc_i (ct))]) : lc_Cel) := (fr69 _ (by omega)).trans h33
          have h71 : σ67 (S + 1) = some (.inr (0, [.ref (S + 2), .int (lc_i (lc_cnt (f) 1 36)), .int (lc_i (lc_cnt (f) 2 36)), .int (lc_i (s)), .int (lc_i (q)), .int (lc_i (m))]) : lc_Cel) := (fr69 _ (by omega)).trans h34
          have h72 : σ67 (S + 2) = some (lc_aI 36 (f)) := (fr69 _ (by omega)).trans h35
          refine lc_iinc (lv' := [(0, .ref (S)), (1, .int (lc_i (i + 1)))]) dX7_remember_37 1 rfl (by decide) rfl ?_
          refine lc_goto (tgt := 14) dX7_remember_40 (by decide) ?_
          exact ih28 (i + 1) (lc_u (hh) ((i) - (1)) ((hh) (i))) σ67 h68 (fun i _ => ((fr69 i (by omega)).trans (fr31 i (by omega)))) (by omega) (fun j h1 h2 => by by_cases e9 : j = i - 1; (rw [e9, lc_u_s, hhi i (by omega), show i - 1 + 1 = i from by omega]); (rw [lc_u_n _ _ e9]; exact hlo j h1 (by omega))) (fun j h1 => by rw [lc_u_n _ _ (by omega)]; exact hhi j (by omega)) (by omega)
    exact loop27 1000 (1) (fun i : Int => lc_j ((po) i)) σ h0_3 (fun _ _ => rfl) (by omega) (fun j h1 h2 => absurd h2 (by omega)) (fun j _ => rfl) (by omega)

set_option maxRecDepth 100000 in
set_option maxHeartbeats 4000000 in
theorem lc_cX7_forgetPositions (l : Launch) (n : Nat) (S : Nat) (f : Int → Int) (s q m mo ca ct : Int) (po : Int → Int) (σ : lc_S) (h0_0 : σ (S) = some (.inr (7, [.ref (S + 1), .int (lc_i (mo)), .int (lc_i (ca)), .ref (S + 3), .int (lc_i (ct))]) : lc_Cel)) (h0_1 : σ (S + 1) = some (.inr (0, [.ref (S + 2), .int (lc_i (lc_cnt (f) 1 36)), .int (lc_i (lc_cnt (f) 2 36)), .int (lc_i (s)), .int (lc_i (q)), .int (lc_i (m))]) : lc_Cel)) (h0_2 : σ (S + 2) = some (lc_aI 36 (f))) (h0_3 : σ (S + 3) = some (lc_aJ 60 (fun i : Int => lc_j ((po) i)))) (hf : ∀ j : Int, 0 ≤ j → j < 36 → 0 ≤ f j ∧ f j ≤ 2) (hs : 1 ≤ s ∧ s ≤ 2) : lc_Con l yX7_forgetPositions cX7_forgetPositions 1 none (lc_Rd 2) [.ref (S)] n σ (fun v n2 σ2 => v = none ∧ n = n2 ∧ σ2 (S) = some (.inr (7, [.ref (S + 1), .int (lc_i (mo)), .int (lc_i (ca)), .ref (S + 3), .int (lc_i (lc_rc 0))]) : lc_Cel) ∧ σ2 (S + 3) = some (lc_aJ 60 (fun i : Int => lc_j ((lc_rp (po) (0) (lc_key (f) (s) 36)) i))) ∧ ∀ i : Nat, i ≠ S → i ≠ S + 3 → σ2 i = σ i) := by
  refine lc_con RX7 false (by decide) rfl (fun h => absurd h (by decide)) (Nat.le_of_ble_eq_true rfl) ?_
  suffices H : ∀ Q : lc_QT, (∀ v n2 σ2, (fun v n2 σ2 => v = none ∧ n = n2 ∧ σ2 (S) = some (.inr (7, [.ref (S + 1), .int (lc_i (mo)), .int (lc_i (ca)), .ref (S + 3), .int (lc_i (lc_rc 0))]) : lc_Cel) ∧ σ2 (S + 3) = some (lc_aJ 60 (fun i : Int => lc_j ((lc_rp (po) (0) (lc_key (f) (s) 36)) i))) ∧ ∀ i : Nat, i ≠ S → i ≠ S + 3 → σ2 i = σ i : lc_QT) v n2 σ2 → Q v n2 σ2) → lc_V l RX7 cX7_forgetPositions 1 none false (lc_Rd 2) (lc_G Q 0 0) lc_E0 0 0 n 0 [(0, .ref (S))] [] σ from H _ (fun _ _ _ h => h)
  intro Q hQ
  refine lc_aload_n dX7_forgetPositions_0 rfl 0 rfl ?_
  refine lc_iconst dX7_forgetPositions_1 ?_
  refine lc_wI (vs' := [.ref (S + 1), .int (lc_i (mo)), .int (lc_i (ca)), .ref (S + 3), .int (lc_i (0))]) dX7_forgetPositions_2 lc_fX7_52 h0_0 (Nat.le_of_ble_eq_true rfl) rfl rfl rfl (fun σ1 h2 fr3 => ?_)
  have h4 : σ1 (S + 1) = some (.inr (0, [.ref (S + 2), .int (lc_i (lc_cnt (f) 1 36)), .int (lc_i (lc_cnt (f) 2 36)), .int (lc_i (s)), .int (lc_i (q)), .int (lc_i (m))]) : lc_Cel) := (fr3 _ (by omega)).trans h0_1
  have h5 : σ1 (S + 2) = some (lc_aI 36 (f)) := (fr3 _ (by omega)).trans h0_2
  have h6 : σ1 (S + 3) = some (lc_aJ 60 (fun i : Int => lc_j ((po) i))) := (fr3 _ (by omega)).trans h0_3
  refine lc_aload_n dX7_forgetPositions_5 rfl 0 rfl ?_
  refine lc_callV (As := []) (stk := []) (b := S) dX7_forgetPositions_6 lc_mX7_22 lc_yX7_remember h2 rfl (lc_cX7_remember l n (S) (f) (s) (q) (m) (mo) (ca) (0) (po) σ1 h2 h4 h5 h6 (hf) (hs) (by omega)) rfl ⟨Nat.le_of_ble_eq_true rfl, Nat.le_of_ble_eq_true rfl⟩ ⟨Nat.le_of_ble_eq_true rfl, Nat.le_of_ble_eq_true rfl⟩ rfl (Nat.le_of_ble_eq_true rfl) (fun v10 n11 σ12 q13 => ?_)
  obtain ⟨rfl, rfl, h8, h9, fr7⟩ := q13
  have h14 : σ12 (S + 1) = some (.inr (0, [.ref (S + 2), .int (lc_i (lc_cnt (f) 1 36)), .int (lc_i (lc_cnt (f) 2 36)), .int (lc_i (s)), .int (lc_i (q)), .int (lc_i (m))]) : lc_Cel) := (fr7 _ (by omega) (by omega)).trans h4
  have h15 : σ12 (S + 2) = some (lc_aI 36 (f)) := (fr7 _ (by omega) (by omega)).trans h5
  exact lc_vret dX7_forgetPositions_9 rfl (Nat.le_of_ble_eq_true rfl) (Nat.le_of_ble_eq_true rfl) (hQ _ _ _ ⟨rfl, rfl, (by rw [h8, show (lc_rc 0 : Int) = lc_rc (0) from (by (repeat' split) <;> omega)]), h9, (fun i _ _ => ((fr7 i (by omega) (by omega)).trans (fr3 i (by omega))))⟩)

/-- what a move makes of a state -/
def lc_mvf (f : Int → Int) (s x y : Int) : Int → Int := lc_u (lc_u f y s) x 0
theorem lc_mvf_ok {f : Int → Int} {s x y : Int} (hf : ∀ j : Int, 0 ≤ j → j < 36 → 0 ≤ f j ∧ f j ≤ 2) (hs : 1 ≤ s ∧ s ≤ 2) : ∀ j : Int, 0 ≤ j → j < 36 → 0 ≤ lc_mvf f s x y j ∧ lc_mvf f s x y j ≤ 2 := by
  intro j h1 h2
  have h3 := hf j h1 h2
  unfold lc_mvf lc_u
  (repeat' split) <;> omega
theorem lc_uf_ok {f : Int → Int} {p w : Int} (hf : ∀ j : Int, 0 ≤ j → j < 36 → 0 ≤ f j ∧ f j ≤ 2) (hw : 0 ≤ w ∧ w ≤ 2) : ∀ j : Int, 0 ≤ j → j < 36 → 0 ≤ lc_u f p w j ∧ lc_u f p w j ≤ 2 := by
  intro j h1 h2
  have h3 := hf j h1 h2
  unfold lc_u
  split <;> omega
theorem lc_f0_ok : ∀ j : Int, 0 ≤ j → j < 36 → 0 ≤ lc_f0 j ∧ lc_f0 j ≤ 2 := by
  intro j h1 h2
  unfold lc_f0
  (repeat' split) <;> omega
def lc_mvq (f : Int → Int) (q y : Int) : Int := if f y = 0 then q + 1 else 0
def lc_mvc (f : Int → Int) (ca y : Int) : Int := if f y = 0 then ca else ca + 1
def lc_mvt (f : Int → Int) (ct y : Int) : Int := if f y = 0 then lc_rc ct else lc_rc 0
def lc_mvp (f : Int → Int) (s x y ct : Int) (po : Int → Int) : Int → Int := if f y = 0 then lc_rp po ct (lc_key (lc_mvf f s x y) (3 - s) 36) else lc_rp po 0 (lc_key (lc_mvf f s x y) (3 - s) 36)

set_option maxRecDepth 100000 in
set_option maxHeartbeats 4000000 in
/-- State.makeMove -/
theorem lc_cX7_makeMove (l : Launch) (n : Nat) (S : Nat) (f : Int → Int) (s q m mo ca ct : Int) (po : Int → Int) (x y : Int) (σ : lc_S) (h0_0 : σ (S) = some (.inr (7, [.ref (S + 1), .int (lc_i (mo)), .int (lc_i (ca)), .ref (S + 3), .int (lc_i (ct))]) : lc_Cel)) (h0_1 : σ (S + 1) = some (.inr (0, [.ref (S + 2), .int (lc_i (lc_cnt (f) 1 36)), .int (lc_i (lc_cnt (f) 2 36)), .int (lc_i (s)), .int (lc_i (q)), .int (lc_i (m))]) : lc_Cel)) (h0_2 : σ (S + 2) = some (lc_aI 36 (f))) (h0_3 : σ (S + 3) = some (lc_aJ 60 (fun i : Int => lc_j ((po) i)))) (hf : ∀ j : Int, 0 ≤ j → j < 36 → 0 ≤ f j ∧ f j ≤ 2) (hs : 1 ≤ s ∧ s ≤ 2) (hp : 0 ≤ x ∧ x < 36 ∧ 0 ≤ y ∧ y < 36) (hct : 0 ≤ ct ∧ ct ≤ 60) : lc_Con l yX7_makeMove cX7_makeMove 3 none (lc_Rd 3) [.ref (S), .int (lc_i (x)), .int (lc_i (y))] n σ (fun v n2 σ2 => v = none ∧ n = n2 ∧ σ2 (S) = some (.inr (7, [.ref (S + 1), .int (lc_i (mo + 1)), .int (lc_i (lc_mvc f ca y)), .ref (S + 3), .int (lc_i (lc_mvt f ct y))]) : lc_Cel) ∧ σ2 (S + 1) = some (.inr (0, [.ref (S + 2), .int (lc_i (lc_cnt (lc_mvf f s x y) 1 36)), .int (lc_i (lc_cnt (lc_mvf f s x y) 2 36)), .int (lc_i (3 - s)), .int (lc_i (lc_mvq f q y)), .int (lc_i (m))]) : lc_Cel) ∧ σ2 (S + 2) = some (lc_aI 36 (lc_mvf f s x y)) ∧ σ2 (S + 3) = some (lc_aJ 60 (fun i : Int => lc_j ((lc_mvp f s x y ct po) i))) ∧ ∀ i : Nat, i ≠ S → i ≠ S + 1 → i ≠ S + 2 → i ≠ S + 3 → σ2 i = σ i) := by
  refine lc_con RX7 false (by decide) rfl (fun h => absurd h (by decide)) (Nat.le_of_ble_eq_true rfl) ?_
  suffices H : ∀ Q : lc_QT, (∀ v n2 σ2, (fun v n2 σ2 => v = none ∧ n = n2 ∧ σ2 (S) = some (.inr (7, [.ref (S + 1), .int (lc_i (mo + 1)), .int (lc_i (lc_mvc f ca y)), .ref (S + 3), .int (lc_i (lc_mvt f ct y))]) : lc_Cel) ∧ σ2 (S + 1) = some (.inr (0, [.ref (S + 2), .int (lc_i (lc_cnt (lc_mvf f s x y) 1 36)), .int (lc_i (lc_cnt (lc_mvf f s x y) 2 36)), .int (lc_i (3 - s)), .int (lc_i (lc_mvq f q y)), .int (lc_i (m))]) : lc_Cel) ∧ σ2 (S + 2) = some (lc_aI 36 (lc_mvf f s x y)) ∧ σ2 (S + 3) = some (lc_aJ 60 (fun i : Int => lc_j ((lc_mvp f s x y ct po) i))) ∧ ∀ i : Nat, i ≠ S → i ≠ S + 1 → i ≠ S + 2 → i ≠ S + 3 → σ2 i = σ i : lc_QT) v n2 σ2 → Q v n2 σ2) → lc_V l RX7 cX7_makeMove 3 none false (lc_Rd 3) (lc_G Q 0 0) lc_E0 0 0 n 0 [(0, .ref (S)), (1, .int (lc_i (x))), (2, .int (lc_i (y)))] [] σ from H _ (fun _ _ _ h => h)
  intro Q hQ
  refine lc_aload_n dX7_makeMove_0 rfl 0 rfl ?_
  refine lc_dup dX7_makeMove_1 rfl ?_
  refine lc_get dX7_makeMove_2 lc_fX7_28 h0_0 rfl ?_
  refine lc_iconst dX7_makeMove_5 ?_
  refine lc_iadd dX7_makeMove_6 ?_
  refine lc_wI (vs' := [.ref (S + 1), .int (lc_i ((mo) + (1))), .int (lc_i (ca)), .ref (S + 3), .int (lc_i (ct))]) dX7_makeMove_7 lc_fX7_28 h0_0 (Nat.le_of_ble_eq_true rfl) rfl rfl rfl (fun σ1 h2 fr3 => ?_)
  have h4 : σ1 (S + 1) = some (.inr (0, [.ref (S + 2), .int (lc_i (lc_cnt (f) 1 36)), .int (lc_i (lc_cnt (f) 2 36)), .int (lc_i (s)), .int (lc_i (q)), .int (lc_i (m))]) : lc_Cel) := (fr3 _ (by omega)).trans h0_1
  have h5 : σ1 (S + 2) = some (lc_aI 36 (f)) := (fr3 _ (by omega)).trans h0_2
  have h6 : σ1 (S + 3) = some (lc_aJ 60 (fun i : Int => lc_j ((po) i))) := (fr3 _ (by omega)).trans h0_3
  refine lc_aload_n dX7_makeMove_10 rfl 0 rfl ?_
  refine lc_get dX7_makeMove_11 lc_fX7_12 h2 rfl ?_
  refine lc_iload_n dX7_makeMove_14 rfl 1 rfl ?_
  refine lc_iload_n dX7_makeMove_15 rfl 2 rfl ?_
  refine lc_callV (As := [.int (lc_i (x)), .int (lc_i (y))]) (stk := []) (b := S + 1) dX7_makeMove_16 lc_mX7_38 lc_yX0_make h4 rfl (lc_cX0_make l n (S + 1) (f) (s) (q) (m) (x) (y) σ1 h4 h5 (hf) (hs) (by omega)) rfl ⟨Nat.le_of_ble_eq_true rfl, Nat.le_of_ble_eq_true rfl⟩ ⟨Nat.le_of_ble_eq_true rfl, Nat.le_of_ble_eq_true rfl⟩ rfl (Nat.le_of_ble_eq_true rfl) (fun v10 n11 σ12 q13 => ?_)
  obtain ⟨rfl, rfl, h8, h9, fr7⟩ := q13
  have h14 : σ12 (S + 3) = some (lc_aJ 60 (fun i : Int => lc_j ((po) i))) := (fr7 _ (by omega) (by omega)).trans h6
  have h15 : σ12 (S) = some (.inr (7, [.ref (S + 1), .int (lc_i ((mo) + (1))), .int (lc_i (ca)), .ref (S + 3), .int (lc_i (ct))]) : lc_Cel) := (fr7 _ (by omega) (by omega)).trans h2
  have hfy := hf y (by omega) (by omega)
  have h16 : σ12 (S + 1) = some (.inr (0, [.ref (S + 2), .int (lc_i (lc_cnt (lc_mvf f s x y) 1 36)), .int (lc_i (lc_cnt (lc_mvf f s x y) 2 36)), .int (lc_i (3 - s)), .int (lc_i (lc_mvq f q y)), .int (lc_i (m))]) : lc_Cel) := h8
  have h17 : σ12 (S + 2) = some (lc_aI 36 (lc_mvf f s x y)) := h9
  refine lc_if_ne (tgt := 29) dX7_makeMove_19 (by decide) (by omega) (fun h_19_17 => ?_) (fun h_19_17 => ?_)
  · skip
    refine lc_aload_n dX7_makeMove_29 rfl 0 rfl ?_
    refine lc_dup dX7_makeMove_30 rfl ?_
    refine lc_get dX7_makeMove_31 lc_fX7_32 h15 rfl ?_
    refine lc_iconst dX7_makeMove_34 ?_
    refine lc_iadd dX7_makeMove_35 ?_
    refine lc_wI (vs' := [.ref (S + 1), .int (lc_i ((mo) + (1))), .int (lc_i ((ca) + (1))), .ref (S + 3), .int (lc_i (ct))]) dX7_makeMove_36 lc_fX7_32 h15 (Nat.le_of_ble_eq_true rfl) rfl rfl rfl (fun σ19 h20 fr21 => ?_)
    have h22 : σ19 (S + 3) = some (lc_aJ 60 (fun i : Int => lc_j ((po) i))) := (fr21 _ (by omega)).trans h14
    have h23 : σ19 (S + 1) = some (.inr (0, [.ref (S + 2), .int (lc_i (lc_cnt (lc_mvf f s x y) 1 36)), .int (lc_i (lc_cnt (lc_mvf f s x y) 2 36)), .int (lc_i (3 - s)), .int (lc_i (lc_mvq f q y)), .int (lc_i (m))]) : lc_Cel) := (fr21 _ (by omega)).trans h16
    have h24 : σ19 (S + 2) = some (lc_aI 36 (lc_mvf f s x y)) := (fr21 _ (by omega)).trans h17
    refine lc_aload_n dX7_makeMove_39 rfl 0 rfl ?_
    refine lc_callV (As := []) (stk := []) (b := S) dX7_makeMove_40 lc_mX7_35 lc_yX7_forgetPositions h20 rfl (lc_cX7_forgetPositions l n (S) (lc_mvf f s x y) (3 - s) (lc_mvq f q y) (m) ((mo) + (1)) ((ca) + (1)) (ct) (po) σ19 h20 h23 h24 h22 (lc_mvf_ok hf hs) (by omega)) rfl ⟨Nat.le_of_ble_eq_true rfl, Nat.le_of_ble_eq_true rfl⟩ ⟨Nat.le_of_ble_eq_true rfl, Nat.le_of_ble_eq_true rfl⟩ rfl (Nat.le_of_ble_eq_true rfl) (fun v28 n29 σ30 q31 => ?_)
    obtain ⟨rfl, rfl, h26, h27, fr25⟩ := q31
    have h32 : σ30 (S + 1) = some (.inr (0, [.ref (S + 2), .int (lc_i (lc_cnt (lc_mvf f s x y) 1 36)), .int (lc_i (lc_cnt (lc_mvf f s x y) 2 36)), .int (lc_i (3 - s)), .int (lc_i (lc_mvq f q y)), .int (lc_i (m))]) : lc_Cel) := (fr25 _ (by omega) (by omega)).trans h23
    have h33 : σ30 (S + 2) = some (lc_aI 36 (lc_mvf f s x y)) := (fr25 _ (by omega) (by omega)).trans h24
    exact lc_vret dX7_makeMove_43 rfl (Nat.le_of_ble_eq_true rfl) (Nat.le_of_ble_eq_true rfl) (hQ _ _ _ ⟨rfl, rfl, (by rw [show lc_mvc f ca y = _ from (if_neg h_19_17), show lc_mvt f ct y = _ from (if_neg h_19_17)]; exact h26), h32, h33, (by rw [show lc_mvp f s x y ct po = _ from (if_neg h_19_17)]; exact h27), (fun i _ _ _ _ => ((fr25 i (by omega) (by omega)).trans ((fr21 i (by omega)).trans ((fr7 i (by omega) (by omega)).trans (fr3 i (by omega))))))⟩)
  · skip
    refine lc_aload_n dX7_makeMove_22 rfl 0 rfl ?_
    refine lc_callV (As := []) (stk := []) (b := S) dX7_makeMove_23 lc_mX7_22 lc_yX7_remember h15 rfl (lc_cX7_remember l n (S) (lc_mvf f s x y) (3 - s) (lc_mvq f q y) (m) ((mo) + (1)) (ca) (ct) (po) σ12 h15 h16 h17 h14 (lc_mvf_ok hf hs) (by omega) (hct)) rfl ⟨Nat.le_of_ble_eq_true rfl, Nat.le_of_ble_eq_true rfl⟩ ⟨Nat.le_of_ble_eq_true rfl, Nat.le_of_ble_eq_true rfl⟩ rfl (Nat.le_of_ble_eq_true rfl) (fun v37 n38 σ39 q40 => ?_)
    obtain ⟨rfl, rfl, h35, h36, fr34⟩ := q40
    have h41 : σ39 (S + 1) = some (.inr (0, [.ref (S + 2), .int (lc_i (lc_cnt (lc_mvf f s x y) 1 36)), .int (lc_i (lc_cnt (lc_mvf f s x y) 2 36)), .int (lc_i (3 - s)), .int (lc_i (lc_mvq f q y)), .int (lc_i (m))]) : lc_Cel) := (fr34 _ (by omega) (by omega)).trans h16
    have h42 : σ39 (S + 2) = some (lc_aI 36 (lc_mvf f s x y)) := (fr34 _ (by omega) (by omega)).trans h17
    refine lc_goto (tgt := 43) dX7_makeMove_26 (by decide) ?_
    exact lc_vret dX7_makeMove_43 rfl (Nat.le_of_ble_eq_true rfl) (Nat.le_of_ble_eq_true rfl) (hQ _ _ _ ⟨rfl, rfl, (by rw [show lc_mvc f ca y = _ from (if_pos h_19_17), show lc_mvt f ct y = _ from (if_pos h_19_17)]; exact h35), h41, h42, (by rw [show lc_mvp f s x y ct po = _ from (if_pos h_19_17)]; exact h36), (fun i _ _ _ _ => ((fr34 i (by omega) (by omega)).trans ((fr7 i (by omega) (by omega)).trans (fr3 i (by omega)))))⟩)

set_option maxRecDepth 100000 in
set_option maxHeartbeats 4000000 in
theorem lc_cX7_place (l : Launch) (n : Nat) (S : Nat) (f : Int → Int) (s q m mo ca ct : Int) (po : Int → Int) (p w : Int) (σ : lc_S) (h0_0 : σ (S) = some (.inr (7, [.ref (S + 1), .int (lc_i (mo)), .int (lc_i (ca)), .ref (S + 3), .int (lc_i (ct))]) : lc_Cel)) (h0_1 : σ (S + 1) = some (.inr (0, [.ref (S + 2), .int (lc_i (lc_cnt (f) 1 36)), .int (lc_i (lc_cnt (f) 2 36)), .int (lc_i (s)), .int (lc_i (q)), .int (lc_i (m))]) : lc_Cel)) (h0_2 : σ (S + 2) = some (lc_aI 36 (f))) (h0_3 : σ (S + 3) = some (lc_aJ 60 (fun i : Int => lc_j ((po) i)))) (hf : ∀ j : Int, 0 ≤ j → j < 36 → 0 ≤ f j ∧ f j ≤ 2) (hs : 1 ≤ s ∧ s ≤ 2) (hp : 0 ≤ p ∧ p < 36) (hw : 0 ≤ w ∧ w ≤ 2) : lc_Con l yX7_place cX7_place 3 none (lc_Rd 3) [.ref (S), .int (lc_i (p)), .int (lc_i (w))] n σ (fun v n2 σ2 => v = none ∧ n = n2 ∧ σ2 (S) = some (.inr (7, [.ref (S + 1), .int (lc_i (mo)), .int (lc_i (ca)), .ref (S + 3), .int (lc_i (lc_rc 0))]) : lc_Cel) ∧ σ2 (S + 1) = some (.inr (0, [.ref (S + 2), .int (lc_i (lc_cnt (lc_u (f) (p) (w)) 1 36)), .int (lc_i (lc_cnt (lc_u (f) (p) (w)) 2 36)), .int (lc_i (s)), .int (lc_i (0)), .int (lc_i (m))]) : lc_Cel) ∧ σ2 (S + 2) = some (lc_aI 36 (lc_u (f) (p) (w))) ∧ σ2 (S + 3) = some (lc_aJ 60 (fun i : Int => lc_j ((lc_rp (po) (0) (lc_key (lc_u (f) (p) (w)) (s) 36)) i))) ∧ ∀ i : Nat, i ≠ S → i ≠ S + 1 → i ≠ S + 2 → i ≠ S + 3 → σ2 i = σ i) := by
  refine lc_con RX7 false (by decide) rfl (fun h => absurd h (by decide)) (Nat.le_of_ble_eq_true rfl) ?_
  suffices H : ∀ Q : lc_QT, (∀ v n2 σ2, (fun v n2 σ2 => v = none ∧ n = n2 ∧ σ2 (S) = some (.inr (7, [.ref (S + 1), .int (lc_i (mo)), .int (lc_i (ca)), .ref (S + 3), .int (lc_i (lc_rc 0))]) : lc_Cel) ∧ σ2 (S + 1) = some (.inr (0, [.ref (S + 2), .int (lc_i (lc_cnt (lc_u (f) (p) (w)) 1 36)), .int (lc_i (lc_cnt (lc_u (f) (p) (w)) 2 36)), .int (lc_i (s)), .int (lc_i (0)), .int (lc_i (m))]) : lc_Cel) ∧ σ2 (S + 2) = some (lc_aI 36 (lc_u (f) (p) (w))) ∧ σ2 (S + 3) = some (lc_aJ 60 (fun i : Int => lc_j ((lc_rp (po) (0) (lc_key (lc_u (f) (p) (w)) (s) 36)) i))) ∧ ∀ i : Nat, i ≠ S → i ≠ S + 1 → i ≠ S + 2 → i ≠ S + 3 → σ2 i = σ i : lc_QT) v n2 σ2 → Q v n2 σ2) → lc_V l RX7 cX7_place 3 none false (lc_Rd 3) (lc_G Q 0 0) lc_E0 0 0 n 0 [(0, .ref (S)), (1, .int (lc_i (p))), (2, .int (lc_i (w)))] [] σ from H _ (fun _ _ _ h => h)
  intro Q hQ
  refine lc_aload_n dX7_place_0 rfl 0 rfl ?_
  refine lc_get dX7_place_1 lc_fX7_12 h0_0 rfl ?_
  refine lc_iload_n dX7_place_4 rfl 1 rfl ?_
  refine lc_iload_n dX7_place_5 rfl 2 rfl ?_
  refine lc_callV (As := [.int (lc_i (p)), .int (lc_i (w))]) (stk := []) (b := S + 1) dX7_place_6 lc_mX7_42 lc_yX0_put h0_1 rfl (lc_cX0_put l n (S + 1) (f) (s) (q) (m) (p) (w) σ h0_1 h0_2 (hp) (lc_rng2 (hf p hp.1 hp.2)) (by omega)) rfl ⟨Nat.le_of_ble_eq_true rfl, Nat.le_of_ble_eq_true rfl⟩ ⟨Nat.le_of_ble_eq_true rfl, Nat.le_of_ble_eq_true rfl⟩ rfl (Nat.le_of_ble_eq_true rfl) (fun v4 n5 σ6 q7 => ?_)
  obtain ⟨rfl, rfl, h2, h3, fr1⟩ := q7
  have h8 : σ6 (S) = some (.inr (7, [.ref (S + 1), .int (lc_i (mo)), .int (lc_i (ca)), .ref (S + 3), .int (lc_i (ct))]) : lc_Cel) := (fr1 _ (by omega) (by omega)).trans h0_0
  have h9 : σ6 (S + 3) = some (lc_aJ 60 (fun i : Int => lc_j ((po) i))) := (fr1 _ (by omega) (by omega)).trans h0_3
  refine lc_aload_n dX7_place_9 rfl 0 rfl ?_
  refine lc_get dX7_place_10 lc_fX7_12 h8 rfl ?_
  refine lc_callV (As := []) (stk := []) (b := S + 1) dX7_place_13 lc_mX7_46 lc_yX0_forgetQuietMoves h2 rfl (lc_cX0_forgetQuietMoves l n (S + 1) (lc_u (f) (p) (w)) (lc_cnt (lc_u (f) (p) (w)) 1 36) (lc_cnt (lc_u (f) (p) (w)) 2 36) (s) (q) (m) σ6 h2) rfl ⟨Nat.le_of_ble_eq_true rfl, Nat.le_of_ble_eq_true rfl⟩ ⟨Nat.le_of_ble_eq_true rfl, Nat.le_of_ble_eq_true rfl⟩ rfl (Nat.le_of_ble_eq_true rfl) (fun v12 n13 σ14 q15 => ?_)
  obtain ⟨rfl, rfl, h11, fr10⟩ := q15
  have h16 : σ14 (S) = some (.inr (7, [.ref (S + 1), .int (lc_i (mo)), .int (lc_i (ca)), .ref (S + 3), .int (lc_i (ct))]) : lc_Cel) := (fr10 _ (by omega)).trans h8
  have h17 : σ14 (S + 3) = some (lc_aJ 60 (fun i : Int => lc_j ((po) i))) := (fr10 _ (by omega)).trans h9
  have h18 : σ14 (S + 2) = some (lc_aI 36 (lc_u (f) (p) (w))) := (fr10 _ (by omega)).trans h3
  refine lc_aload_n dX7_place_16 rfl 0 rfl ?_
  refine lc_callV (As := []) (stk := []) (b := S) dX7_place_17 lc_mX7_35 lc_yX7_forgetPositions h16 rfl (lc_cX7_forgetPositions l n (S) (lc_u (f) (p) (w)) (s) (0) (m) (mo) (ca) (ct) (po) σ14 h16 h11 h18 h17 (lc_uf_ok hf hw) (hs)) rfl ⟨Nat.le_of_ble_eq_true rfl, Nat.le_of_ble_eq_true rfl⟩ ⟨Nat.le_of_ble_eq_true rfl, Nat.le_of_ble_eq_true rfl⟩ rfl (Nat.le_of_ble_eq_true rfl) (fun v22 n23 σ24 q25 => ?_)
  obtain ⟨rfl, rfl, h20, h21, fr19⟩ := q25
  have h26 : σ24 (S + 2) = some (lc_aI 36 (lc_u (f) (p) (w))) := (fr19 _ (by omega) (by omega)).trans h18
  have h27 : σ24 (S + 1) = some (.inr (0, [.ref (S + 2), .int (lc_i (lc_cnt (lc_u (f) (p) (w)) 1 36)), .int (lc_i (lc_cnt (lc_u (f) (p) (w)) 2 36)), .int (lc_i (s)), .int (lc_i (0)), .int (lc_i (m))]) : lc_Cel) := (fr19 _ (by omega) (by omega)).trans h11
  exact lc_vret dX7_place_20 rfl (Nat.le_of_ble_eq_true rfl) (Nat.le_of_ble_eq_true rfl) (hQ _ _ _ ⟨rfl, rfl, h20, h27, h26, h21, (fun i _ _ _ _ => ((fr19 i (by omega) (by omega)).trans ((fr10 i (by omega)).trans (fr1 i (by omega) (by omega)))))⟩)

set_option maxRecDepth 100000 in
set_option maxHeartbeats 4000000 in
theorem lc_cX7_changeSide (l : Launch) (n : Nat) (S : Nat) (f : Int → Int) (s q m mo ca ct : Int) (po : Int → Int) (σ : lc_S) (h0_0 : σ (S) = some (.inr (7, [.ref (S + 1), .int (lc_i (mo)), .int (lc_i (ca)), .ref (S + 3), .int (lc_i (ct))]) : lc_Cel)) (h0_1 : σ (S + 1) = some (.inr (0, [.ref (S + 2), .int (lc_i (lc_cnt (f) 1 36)), .int (lc_i (lc_cnt (f) 2 36)), .int (lc_i (s)), .int (lc_i (q)), .int (lc_i (m))]) : lc_Cel)) (h0_2 : σ (S + 2) = some (lc_aI 36 (f))) (h0_3 : σ (S + 3) = some (lc_aJ 60 (fun i : Int => lc_j ((po) i)))) (hf : ∀ j : Int, 0 ≤ j → j < 36 → 0 ≤ f j ∧ f j ≤ 2) (hs : 1 ≤ s ∧ s ≤ 2) : lc_Con l yX7_changeSide cX7_changeSide 1 none (lc_Rd 3) [.ref (S)] n σ (fun v n2 σ2 => v = none ∧ n = n2 ∧ σ2 (S) = some (.inr (7, [.ref (S + 1), .int (lc_i (mo)), .int (lc_i (ca)), .ref (S + 3), .int (lc_i (lc_rc 0))]) : lc_Cel) ∧ σ2 (S + 1) = some (.inr (0, [.ref (S + 2), .int (lc_i (lc_cnt (f) 1 36)), .int (lc_i (lc_cnt (f) 2 36)), .int (lc_i (3 - (s))), .int (lc_i (0)), .int (lc_i (m))]) : lc_Cel) ∧ σ2 (S + 2) = some (lc_aI 36 (f)) ∧ σ2 (S + 3) = some (lc_aJ 60 (fun i : Int => lc_j ((lc_rp (po) (0) (lc_key (f) (3 - (s)) 36)) i))) ∧ ∀ i : Nat, i ≠ S → i ≠ S + 1 → i ≠ S + 2 → i ≠ S + 3 → σ2 i = σ i) := by
  refine lc_con RX7 false (by decide) rfl (fun h => absurd h (by decide)) (Nat.le_of_ble_eq_true rfl) ?_
  suffices H : ∀ Q : lc_QT, (∀ v n2 σ2, (fun v n2 σ2 => v = none ∧ n = n2 ∧ σ2 (S) = some (.inr (7, [.ref (S + 1), .int (lc_i (mo)), .int (lc_i (ca)), .ref (S + 3), .int (lc_i (lc_rc 0))]) : lc_Cel) ∧ σ2 (S + 1) = some (.inr (0, [.ref (S + 2), .int (lc_i (lc_cnt (f) 1 36)), .int (lc_i (lc_cnt (f) 2 36)), .int (lc_i (3 - (s))), .int (lc_i (0)), .int (lc_i (m))]) : lc_Cel) ∧ σ2 (S + 2) = some (lc_aI 36 (f)) ∧ σ2 (S + 3) = some (lc_aJ 60 (fun i : Int => lc_j ((lc_rp (po) (0) (lc_key (f) (3 - (s)) 36)) i))) ∧ ∀ i : Nat, i ≠ S → i ≠ S + 1 → i ≠ S + 2 → i ≠ S + 3 → σ2 i = σ i : lc_QT) v n2 σ2 → Q v n2 σ2) → lc_V l RX7 cX7_changeSide 1 none false (lc_Rd 3) (lc_G Q 0 0) lc_E0 0 0 n 0 [(0, .ref (S))] [] σ from H _ (fun _ _ _ h => h)
  intro Q hQ
  refine lc_aload_n dX7_changeSide_0 rfl 0 rfl ?_
  refine lc_get dX7_changeSide_1 lc_fX7_12 h0_0 rfl ?_
  refine lc_callV (As := []) (stk := []) (b := S + 1) dX7_changeSide_4 lc_mX7_49 lc_yX0_changeSide h0_1 rfl (lc_cX0_changeSide l n (S + 1) (f) (lc_cnt (f) 1 36) (lc_cnt (f) 2 36) (s) (q) (m) σ h0_1) rfl ⟨Nat.le_of_ble_eq_true rfl, Nat.le_of_ble_eq_true rfl⟩ ⟨Nat.le_of_ble_eq_true rfl, Nat.le_of_ble_eq_true rfl⟩ rfl (Nat.le_of_ble_eq_true rfl) (fun v3 n4 σ5 q6 => ?_)
  obtain ⟨rfl, rfl, h2, fr1⟩ := q6
  have h7 : σ5 (S) = some (.inr (7, [.ref (S + 1), .int (lc_i (mo)), .int (lc_i (ca)), .ref (S + 3), .int (lc_i (ct))]) : lc_Cel) := (fr1 _ (by omega)).trans h0_0
  have h8 : σ5 (S + 2) = some (lc_aI 36 (f)) := (fr1 _ (by omega)).trans h0_2
  have h9 : σ5 (S + 3) = some (lc_aJ 60 (fun i : Int => lc_j ((po) i))) := (fr1 _ (by omega)).trans h0_3
  refine lc_aload_n dX7_changeSide_7 rfl 0 rfl ?_
  refine lc_get dX7_changeSide_8 lc_fX7_12 h7 rfl ?_
  refine lc_callV (As := []) (stk := []) (b := S + 1) dX7_changeSide_11 lc_mX7_46 lc_yX0_forgetQuietMoves h2 rfl (lc_cX0_forgetQuietMoves l n (S + 1) (f) (lc_cnt (f) 1 36) (lc_cnt (f) 2 36) (3 - ((s))) (q) (m) σ5 h2) rfl ⟨Nat.le_of_ble_eq_true rfl, Nat.le_of_ble_eq_true rfl⟩ ⟨Nat.le_of_ble_eq_true rfl, Nat.le_of_ble_eq_true rfl⟩ rfl (Nat.le_of_ble_eq_true rfl) (fun v12 n13 σ14 q15 => ?_)
  obtain ⟨rfl, rfl, h11, fr10⟩ := q15
  have h16 : σ14 (S) = some (.inr (7, [.ref (S + 1), .int (lc_i (mo)), .int (lc_i (ca)), .ref (S + 3), .int (lc_i (ct))]) : lc_Cel) := (fr10 _ (by omega)).trans h7
  have h17 : σ14 (S + 2) = some (lc_aI 36 (f)) := (fr10 _ (by omega)).trans h8
  have h18 : σ14 (S + 3) = some (lc_aJ 60 (fun i : Int => lc_j ((po) i))) := (fr10 _ (by omega)).trans h9
  refine lc_aload_n dX7_changeSide_14 rfl 0 rfl ?_
  refine lc_callV (As := []) (stk := []) (b := S) dX7_changeSide_15 lc_mX7_35 lc_yX7_forgetPositions h16 rfl (lc_cX7_forgetPositions l n (S) (f) (3 - ((s))) (0) (m) (mo) (ca) (ct) (po) σ14 h16 h11 h17 h18 (hf) (by omega)) rfl ⟨Nat.le_of_ble_eq_true rfl, Nat.le_of_ble_eq_true rfl⟩ ⟨Nat.le_of_ble_eq_true rfl, Nat.le_of_ble_eq_true rfl⟩ rfl (Nat.le_of_ble_eq_true rfl) (fun v22 n23 σ24 q25 => ?_)
  obtain ⟨rfl, rfl, h20, h21, fr19⟩ := q25
  have h26 : σ24 (S + 2) = some (lc_aI 36 (f)) := (fr19 _ (by omega) (by omega)).trans h17
  have h27 : σ24 (S + 1) = some (.inr (0, [.ref (S + 2), .int (lc_i (lc_cnt (f) 1 36)), .int (lc_i (lc_cnt (f) 2 36)), .int (lc_i (3 - ((s)))), .int (lc_i (0)), .int (lc_i (m))]) : lc_Cel) := (fr19 _ (by omega) (by omega)).trans h11
  exact lc_vret dX7_changeSide_18 rfl (Nat.le_of_ble_eq_true rfl) (Nat.le_of_ble_eq_true rfl) (hQ _ _ _ ⟨rfl, rfl, h20, h27, h26, h21, (fun i _ _ _ _ => ((fr19 i (by omega) (by omega)).trans ((fr10 i (by omega)).trans (fr1 i (by omega)))))⟩)

set_option maxRecDepth 100000 in
set_option maxHeartbeats 4000000 in
theorem lc_cX7_startAnew (l : Launch) (n : Nat) (S : Nat) (f : Int → Int) (s q m mo ca ct : Int) (po : Int → Int) (σ : lc_S) (h0_0 : σ (S) = some (.inr (7, [.ref (S + 1), .int (lc_i (mo)), .int (lc_i (ca)), .ref (S + 3), .int (lc_i (ct))]) : lc_Cel)) (h0_1 : σ (S + 1) = some (.inr (0, [.ref (S + 2), .int (lc_i (lc_cnt (f) 1 36)), .int (lc_i (lc_cnt (f) 2 36)), .int (lc_i (s)), .int (lc_i (q)), .int (lc_i (m))]) : lc_Cel)) (h0_2 : σ (S + 2) = some (lc_aI 36 (f))) (h0_3 : σ (S + 3) = some (lc_aJ 60 (fun i : Int => lc_j ((po) i)))) (hf : ∀ j : Int, 0 ≤ j → j < 36 → 0 ≤ f j ∧ f j ≤ 2) (hs : 1 ≤ s ∧ s ≤ 2) : lc_Con l yX7_startAnew cX7_startAnew 1 none (lc_Rd 3) [.ref (S)] n σ (fun v n2 σ2 => v = none ∧ n = n2 ∧ σ2 (S) = some (.inr (7, [.ref (S + 1), .int (lc_i (0)), .int (lc_i (0)), .ref (S + 3), .int (lc_i (lc_rc 0))]) : lc_Cel) ∧ σ2 (S + 1) = some (.inr (0, [.ref (S + 2), .int (lc_i (lc_cnt (lc_f0) 1 36)), .int (lc_i (lc_cnt (lc_f0) 2 36)), .int (lc_i (1)), .int (lc_i (0)), .int (lc_i (m))]) : lc_Cel) ∧ σ2 (S + 2) = some (lc_aI 36 (lc_f0)) ∧ σ2 (S + 3) = some (lc_aJ 60 (fun i : Int => lc_j ((lc_rp (po) (0) (lc_key (lc_f0) (1) 36)) i))) ∧ ∀ i : Nat, i ≠ S → i ≠ S + 1 → i ≠ S + 2 → i ≠ S + 3 → σ2 i = σ i) := by
  refine lc_con RX7 false (by decide) rfl (fun h => absurd h (by decide)) (Nat.le_of_ble_eq_true rfl) ?_
  suffices H : ∀ Q : lc_QT, (∀ v n2 σ2, (fun v n2 σ2 => v = none ∧ n = n2 ∧ σ2 (S) = some (.inr (7, [.ref (S + 1), .int (lc_i (0)), .int (lc_i (0)), .ref (S + 3), .int (lc_i (lc_rc 0))]) : lc_Cel) ∧ σ2 (S + 1) = some (.inr (0, [.ref (S + 2), .int (lc_i (lc_cnt (lc_f0) 1 36)), .int (lc_i (lc_cnt (lc_f0) 2 36)), .int (lc_i (1)), .int (lc_i (0)), .int (lc_i (m))]) : lc_Cel) ∧ σ2 (S + 2) = some (lc_aI 36 (lc_f0)) ∧ σ2 (S + 3) = some (lc_aJ 60 (fun i : Int => lc_j ((lc_rp (po) (0) (lc_key (lc_f0) (1) 36)) i))) ∧ ∀ i : Nat, i ≠ S → i ≠ S + 1 → i ≠ S + 2 → i ≠ S + 3 → σ2 i = σ i : lc_QT) v n2 σ2 → Q v n2 σ2) → lc_V l RX7 cX7_startAnew 1 none false (lc_Rd 3) (lc_G Q 0 0) lc_E0 0 0 n 0 [(0, .ref (S))] [] σ from H _ (fun _ _ _ h => h)
  intro Q hQ
  refine lc_aload_n dX7_startAnew_0 rfl 0 rfl ?_
  refine lc_get dX7_startAnew_1 lc_fX7_12 h0_0 rfl ?_
  refine lc_callV (As := []) (stk := []) (b := S + 1) dX7_startAnew_4 lc_mX7_25 lc_yX0_startAnew h0_1 rfl (lc_cX0_startAnew l n (S + 1) (f) (s) (q) (m) σ h0_1 h0_2 (fun j h1 h2 => lc_rng2 (hf j h1 h2))) rfl ⟨Nat.le_of_ble_eq_true rfl, Nat.le_of_ble_eq_true rfl⟩ ⟨Nat.le_of_ble_eq_true rfl, Nat.le_of_ble_eq_true rfl⟩ rfl (Nat.le_of_ble_eq_true rfl) (fun v4 n5 σ6 q7 => ?_)
  obtain ⟨rfl, rfl, h2, h3, fr1⟩ := q7
  have h8 : σ6 (S) = some (.inr (7, [.ref (S + 1), .int (lc_i (mo)), .int (lc_i (ca)), .ref (S + 3), .int (lc_i (ct))]) : lc_Cel) := (fr1 _ (by omega) (by omega)).trans h0_0
  have h9 : σ6 (S + 3) = some (lc_aJ 60 (fun i : Int => lc_j ((po) i))) := (fr1 _ (by omega) (by omega)).trans h0_3
  refine lc_aload_n dX7_startAnew_7 rfl 0 rfl ?_
  refine lc_iconst dX7_startAnew_8 ?_
  refine lc_wI (vs' := [.ref (S + 1), .int (lc_i (0)), .int (lc_i (ca)), .ref (S + 3), .int (lc_i (ct))]) dX7_startAnew_9 lc_fX7_28 h8 (Nat.le_of_ble_eq_true rfl) rfl rfl rfl (fun σ10 h11 fr12 => ?_)
  have h13 : σ10 (S + 3) = some (lc_aJ 60 (fun i : Int => lc_j ((po) i))) := (fr12 _ (by omega)).trans h9
  have h14 : σ10 (S + 1) = some (.inr (0, [.ref (S + 2), .int (lc_i (lc_cnt (lc_f0) 1 36)), .int (lc_i (lc_cnt (lc_f0) 2 36)), .int (lc_i (1)), .int (lc_i (0)), .int (lc_i (m))]) : lc_Cel) := (fr12 _ (by omega)).trans h2
  have h15 : σ10 (S + 2) = some (lc_aI 36 (lc_f0)) := (fr12 _ (by omega)).trans h3
  refine lc_aload_n dX7_startAnew_12 rfl 0 rfl ?_
  refine lc_iconst dX7_startAnew_13 ?_
  refine lc_wI (vs' := [.ref (S + 1), .int (lc_i (0)), .int (lc_i (0)), .ref (S + 3), .int (lc_i (ct))]) dX7_startAnew_14 lc_fX7_32 h11 (Nat.le_of_ble_eq_true rfl) rfl rfl rfl (fun σ16 h17 fr18 => ?_)
  have h19 : σ16 (S + 3) = some (lc_aJ 60 (fun i : Int => lc_j ((po) i))) := (fr18 _ (by omega)).trans h13
  have h20 : σ16 (S + 1) = some (.inr (0, [.ref (S + 2), .int (lc_i (lc_cnt (lc_f0) 1 36)), .int (lc_i (lc_cnt (lc_f0) 2 36)), .int (lc_i (1)), .int (lc_i (0)), .int (lc_i (m))]) : lc_Cel) := (fr18 _ (by omega)).trans h14
  have h21 : σ16 (S + 2) = some (lc_aI 36 (lc_f0)) := (fr18 _ (by omega)).trans h15
  refine lc_aload_n dX7_startAnew_17 rfl 0 rfl ?_
  refine lc_callV (As := []) (stk := []) (b := S) dX7_startAnew_18 lc_mX7_35 lc_yX7_forgetPositions h17 rfl (lc_cX7_forgetPositions l n (S) (lc_f0) (1) (0) (m) (0) (0) (ct) (po) σ16 h17 h20 h21 h19 (lc_f0_ok) (by omega)) rfl ⟨Nat.le_of_ble_eq_true rfl, Nat.le_of_ble_eq_true rfl⟩ ⟨Nat.le_of_ble_eq_true rfl, Nat.le_of_ble_eq_true rfl⟩ rfl (Nat.le_of_ble_eq_true rfl) (fun v25 n26 σ27 q28 => ?_)
  obtain ⟨rfl, rfl, h23, h24, fr22⟩ := q28
  have h29 : σ27 (S + 1) = some (.inr (0, [.ref (S + 2), .int (lc_i (lc_cnt (lc_f0) 1 36)), .int (lc_i (lc_cnt (lc_f0) 2 36)), .int (lc_i (1)), .int (lc_i (0)), .int (lc_i (m))]) : lc_Cel) := (fr22 _ (by omega) (by omega)).trans h20
  have h30 : σ27 (S + 2) = some (lc_aI 36 (lc_f0)) := (fr22 _ (by omega) (by omega)).trans h21
  exact lc_vret dX7_startAnew_21 rfl (Nat.le_of_ble_eq_true rfl) (Nat.le_of_ble_eq_true rfl) (hQ _ _ _ ⟨rfl, rfl, h23, h29, h30, h24, (fun i _ _ _ _ => ((fr22 i (by omega) (by omega)).trans ((fr18 i (by omega)).trans ((fr12 i (by omega)).trans (fr1 i (by omega) (by omega))))))⟩)

set_option maxRecDepth 100000 in
set_option maxHeartbeats 4000000 in
theorem lc_cX7_timesSeen (l : Launch) (n : Nat) (S : Nat) (f : Int → Int) (s q m mo ca ct : Int) (po : Int → Int) (σ : lc_S) (h0_0 : σ (S) = some (.inr (7, [.ref (S + 1), .int (lc_i (mo)), .int (lc_i (ca)), .ref (S + 3), .int (lc_i (ct))]) : lc_Cel)) (h0_1 : σ (S + 1) = some (.inr (0, [.ref (S + 2), .int (lc_i (lc_cnt (f) 1 36)), .int (lc_i (lc_cnt (f) 2 36)), .int (lc_i (s)), .int (lc_i (q)), .int (lc_i (m))]) : lc_Cel)) (h0_2 : σ (S + 2) = some (lc_aI 36 (f))) (h0_3 : σ (S + 3) = some (lc_aJ 60 (fun i : Int => lc_j ((po) i)))) (hf : ∀ j : Int, 0 ≤ j → j < 36 → 0 ≤ f j ∧ f j ≤ 2) (hs : 1 ≤ s ∧ s ≤ 2) (hct : 0 ≤ ct ∧ ct ≤ 60) (hpo : ∀ i : Int, 0 ≤ i → i < ct → 0 ≤ po i ∧ po i < 4611686018427387904) : lc_Con l yX7_timesSeen cX7_timesSeen 5 (some .int) (lc_Rd 1) [.ref (S)] n σ (fun v n2 σ2 => v = some (.int (lc_i (lc_num (fun j : Int => decide (po j = lc_key f s 36)) (ct).toNat))) ∧ n = n2 ∧ σ = σ2) := by
  refine lc_con RX7 false (by decide) rfl (fun h => absurd h (by decide)) (Nat.le_of_ble_eq_true rfl) ?_
  suffices H : ∀ Q : lc_QT, (∀ v n2 σ2, (fun v n2 σ2 => v = some (.int (lc_i (lc_num (fun j : Int => decide (po j = lc_key f s 36)) (ct).toNat))) ∧ n = n2 ∧ σ = σ2 : lc_QT) v n2 σ2 → Q v n2 σ2) → lc_V l RX7 cX7_timesSeen 5 (some .int) false (lc_Rd 1) (lc_G Q 0 0) lc_E0 0 0 n 0 [(0, .ref (S))] [] σ from H _ (fun _ _ _ h => h)
  intro Q hQ
  refine lc_aload_n dX7_timesSeen_0 rfl 0 rfl ?_
  refine lc_get dX7_timesSeen_1 lc_fX7_12 h0_0 rfl ?_
  refine lc_callV (As := []) (stk := []) (b := S + 1) dX7_timesSeen_4 lc_mX7_55 lc_yX0_key h0_1 rfl (lc_cX0_key l n (S + 1) (f) (lc_cnt (f) 1 36) (lc_cnt (f) 2 36) (s) (q) (m) σ h0_1 h0_2 (hf) (hs)) rfl ⟨Nat.le_of_ble_eq_true rfl, Nat.le_of_ble_eq_true rfl⟩ ⟨Nat.le_of_ble_eq_true rfl, Nat.le_of_ble_eq_true rfl⟩ rfl (Nat.le_of_ble_eq_true rfl) (fun v1 n2 σ3 q4 => ?_)
  obtain ⟨rfl, rfl, rfl⟩ := q4
  refine lc_lstore_n (lv' := [(0, .ref (S)), (1, .long (lc_j (lc_key (f) (s) 36)))]) dX7_timesSeen_7 rfl (by decide) rfl ?_
  refine lc_iconst dX7_timesSeen_8 ?_
  refine lc_top (congrArg (fun z => Value.int (lc_i z)) (show (0 : Int) = lc_num (fun j : Int => decide (po j = lc_key f s 36)) (0 : Int).toNat from rfl)) ?_
  refine lc_istore_n (lv' := [(0, .ref (S)), (1, .long (lc_j (lc_key (f) (s) 36))), (3, .int (lc_i (lc_num (fun j : Int => decide (po j = lc_key f s 36)) (0 : Int).toNat)))]) dX7_timesSeen_9 rfl (by decide) rfl ?_
  refine lc_iconst dX7_timesSeen_10 ?_
  refine lc_istore (lv' := [(0, .ref (S)), (1, .long (lc_j (lc_key (f) (s) 36))), (3, .int (lc_i (lc_num (fun j : Int => decide (po j = lc_key f s 36)) (0 : Int).toNat))), (4, .int (lc_i (0)))]) dX7_timesSeen_11 (by decide) rfl ?_
  have loop6 : ∀ (N5 : Nat) (i : Int), (0 ≤ i ∧ i ≤ ct) → 60 - i < (N5 : Int) → lc_V l RX7 cX7_timesSeen 5 (some .int) false (lc_Rd 1) (lc_G Q 0 0) lc_E0 0 0 n 13 [(0, .ref (S)), (1, .long (lc_j (lc_key (f) (s) 36))), (3, .int (lc_i (lc_num (fun j : Int => decide (po j = lc_key f s 36)) (i).toNat))), (4, .int (lc_i (i)))] [] σ := by
    intro N5
    induction N5 with
    | zero =>
      intro i hi hm8
      exact absurd hm8 (by omega)
    | succ N5 ih7 =>
      intro i hi hm8
      refine lc_iload dX7_timesSeen_13 3 rfl ?_
      refine lc_aload_n dX7_timesSeen_15 rfl 0 rfl ?_
      refine lc_get dX7_timesSeen_16 lc_fX7_52 h0_0 rfl ?_
      refine lc_icmp_ge (tgt := 53) dX7_timesSeen_19 (by decide) (by omega) (fun h_19_8 => ?_) (fun h_19_8 => ?_)
      · skip
        refine lc_iload_n dX7_timesSeen_53 rfl 2 rfl ?_
        exact lc_iret dX7_timesSeen_54 rfl (Nat.le_of_ble_eq_true rfl) (Nat.le_of_ble_eq_true rfl) (hQ _ _ _ ⟨lc_some (by rw [show i = ct from by omega]), rfl, rfl⟩)
      · skip
        refine lc_iload dX7_timesSeen_22 3 rfl ?_
        refine lc_aload_n dX7_timesSeen_24 rfl 0 rfl ?_
        refine lc_get dX7_timesSeen_25 lc_fX7_18 h0_0 rfl ?_
        refine lc_alenV (v := 60) dX7_timesSeen_28 h0_3 (by decide) rfl ?_
        refine lc_icmp_ge (tgt := 53) dX7_timesSeen_29 (by decide) (by omega) (fun h_29_9 => ?_) (fun h_29_9 => ?_)
        · omega
        · skip
          refine lc_aload_n dX7_timesSeen_32 rfl 0 rfl ?_
          refine lc_get dX7_timesSeen_33 lc_fX7_18 h0_0 rfl ?_
          refine lc_iload dX7_timesSeen_36 3 rfl ?_
          refine lc_lald dX7_timesSeen_38 h0_3 (by omega) (by decide) ?_
          refine lc_lload_n dX7_timesSeen_39 rfl 1 rfl ?_
          refine lc_lcmp dX7_timesSeen_40 ?_
          refine lc_if_neR (tgt := 47) dX7_timesSeen_41 (by decide) (fun h_41_10 => ?_) (fun h_41_10 => ?_)
          · skip
            refine lc_iinc (lv' := [(0, .ref (S)), (1, .long (lc_j (lc_key (f) (s) 36))), (3, .int (lc_i (lc_num (fun j : Int => decide (po j = lc_key f s 36)) (i).toNat))), (4, .int (lc_i (i + 1)))]) dX7_timesSeen_47 3 rfl (by decide) rfl ?_
            refine lc_goto (tgt := 13) dX7_timesSeen_50 (by decide) ?_
            refine lc_lveq (lv' := [(0, .ref (S)), (1, .long (lc_j (lc_key (f) (s) 36))), (3, .int (lc_i (lc_num (fun j : Int => decide (po j = lc_key f s 36)) (i + 1).toNat))), (4, .int (lc_i (i + 1)))]) (by rw [lc_num_0 (P := (fun j : Int => decide (po j = lc_key f s 36))) (by omega) (fun q9 => h_41_10 (lc_cmp0.mpr ((lc_j_inj (hpo i (by omega) (by omega)) (lc_key_b hf hs)).mpr (of_decide_eq_true q9))))]) ?_
            exact ih7 (i + 1) (by omega) (by omega)
          · skip
            refine lc_iinc (lv' := [(0, .ref (S)), (1, .long (lc_j (lc_key (f) (s) 36))), (3, .int (lc_i (lc_num (fun j : Int => decide (po j = lc_key f s 36)) (i).toNat + 1))), (4, .int (lc_i (i)))]) dX7_timesSeen_44 2 rfl (by decide) rfl ?_
            refine lc_iinc (lv' := [(0, .ref (S)), (1, .long (lc_j (lc_key (f) (s) 36))), (3, .int (lc_i (lc_num (fun j : Int => decide (po j = lc_key f s 36)) (i).toNat + 1))), (4, .int (lc_i (i + 1)))]) dX7_timesSeen_47 3 rfl (by decide) rfl ?_
            refine lc_goto (tgt := 13) dX7_timesSeen_50 (by decide) ?_
            refine lc_lveq (lv' := [(0, .ref (S)), (1, .long (lc_j (lc_key (f) (s) 36))), (3, .int (lc_i (lc_num (fun j : Int => decide (po j = lc_key f s 36)) (i + 1).toNat))), (4, .int (lc_i (i + 1)))]) (by rw [lc_num_1 (P := (fun j : Int => decide (po j = lc_key f s 36))) (by omega) (decide_eq_true ((lc_j_inj (hpo i (by omega) (by omega)) (lc_key_b hf hs)).mp (lc_cmp0.mp h_41_10)))]) ?_
            exact ih7 (i + 1) (by omega) (by omega)
  exact loop6 1000 (0) (by omega) (by omega)

set_option maxRecDepth 100000 in
set_option maxHeartbeats 4000000 in
/-- State.copyFrom -/
theorem lc_cX7_copyFrom (l : Launch) (n : Nat) (S : Nat) (f : Int → Int) (s q m mo ca ct : Int) (po : Int → Int) (S2 : Nat) (f2 : Int → Int) (s2 q2 m2 mo2 ca2 ct2 : Int) (po2 : Int → Int) (σ : lc_S) (h0_0 : σ (S) = some (.inr (7, [.ref (S + 1), .int (lc_i (mo)), .int (lc_i (ca)), .ref (S + 3), .int (lc_i (ct))]) : lc_Cel)) (h0_1 : σ (S + 1) = some (.inr (0, [.ref (S + 2), .int (lc_i (lc_cnt (f) 1 36)), .int (lc_i (lc_cnt (f) 2 36)), .int (lc_i (s)), .int (lc_i (q)), .int (lc_i (m))]) : lc_Cel)) (h0_2 : σ (S + 2) = some (lc_aI 36 (f))) (h0_3 : σ (S + 3) = some (lc_aJ 60 (fun i : Int => lc_j ((po) i)))) (h0_4 : σ (S2) = some (.inr (7, [.ref (S2 + 1), .int (lc_i (mo2)), .int (lc_i (ca2)), .ref (S2 + 3), .int (lc_i (ct2))]) : lc_Cel)) (h0_5 : σ (S2 + 1) = some (.inr (0, [.ref (S2 + 2), .int (lc_i (lc_cnt (f2) 1 36)), .int (lc_i (lc_cnt (f2) 2 36)), .int (lc_i (s2)), .int (lc_i (q2)), .int (lc_i (m2))]) : lc_Cel)) (h0_6 : σ (S2 + 2) = some (lc_aI 36 (f2))) (h0_7 : σ (S2 + 3) = some (lc_aJ 60 (fun i : Int => lc_j ((po2) i)))) (hd : S + 3 < S2 ∨ S2 + 3 < S) : lc_Con l yX7_copyFrom cX7_copyFrom 3 none (lc_Rd 1) [.ref (S), .ref (S2)] n σ (fun v n2 σ2 => v = none ∧ n = n2 ∧ σ2 (S) = some (.inr (7, [.ref (S + 1), .int (lc_i (mo2)), .int (lc_i (ca2)), .ref (S + 3), .int (lc_i (ct2))]) : lc_Cel) ∧ σ2 (S + 1) = some (.inr (0, [.ref (S + 2), .int (lc_i (lc_cnt (f2) 1 36)), .int (lc_i (lc_cnt (f2) 2 36)), .int (lc_i (s2)), .int (lc_i (q2)), .int (lc_i (m2))]) : lc_Cel) ∧ σ2 (S + 2) = some (lc_aI 36 (f2)) ∧ σ2 (S + 3) = some (lc_aJ 60 (fun i : Int => lc_j ((po2) i))) ∧ ∀ i : Nat, i ≠ S → i ≠ S + 1 → i ≠ S + 2 → i ≠ S + 3 → σ2 i = σ i) := by
  refine lc_con RX7 false (by decide) rfl (fun h => absurd h (by decide)) (Nat.le_of_ble_eq_true rfl) ?_
  suffices H : ∀ Q : lc_QT, (∀ v n2 σ2, (fun v n2 σ2 => v = none ∧ n = n2 ∧ σ2 (S) = some (.inr (7, [.ref (S + 1), .int (lc_i (mo2)), .int (lc_i (ca2)), .ref (S + 3), .int (lc_i (ct2))]) : lc_Cel) ∧ σ2 (S + 1) = some (.inr (0, [.ref (S + 2), .int (lc_i (lc_cnt (f2) 1 36)), .int (lc_i (lc_cnt (f2) 2 36)), .int (lc_i (s2)), .int (lc_i (q2)), .int (lc_i (m2))]) : lc_Cel) ∧ σ2 (S + 2) = some (lc_aI 36 (f2)) ∧ σ2 (S + 3) = some (lc_aJ 60 (fun i : Int => lc_j ((po2) i))) ∧ ∀ i : Nat, i ≠ S → i ≠ S + 1 → i ≠ S + 2 → i ≠ S + 3 → σ2 i = σ i : lc_QT) v n2 σ2 → Q v n2 σ2) → lc_V l RX7 cX7_copyFrom 3 none false (lc_Rd 1) (lc_G Q 0 0) lc_E0 0 0 n 0 [(0, .ref (S)), (1, .ref (S2))] [] σ from H _ (fun _ _ _ h => h)
  intro Q hQ
  refine lc_aload_n dX7_copyFrom_0 rfl 0 rfl ?_
  refine lc_get dX7_copyFrom_1 lc_fX7_12 h0_0 rfl ?_
  refine lc_aload_n dX7_copyFrom_4 rfl 1 rfl ?_
  refine lc_get dX7_copyFrom_5 lc_fX7_12 h0_4 rfl ?_
  refine lc_callV (As := [.ref (S2 + 1)]) (stk := []) (b := S + 1) dX7_copyFrom_8 lc_mX7_59 lc_yX0_copyFrom h0_1 rfl (lc_cX0_copyFrom l n (S + 1) (f) (s) (q) (m) (S2 + 1) (f2) (s2) (q2) (m2) σ h0_1 h0_2 h0_5 h0_6 (by omega)) rfl ⟨Nat.le_of_ble_eq_true rfl, Nat.le_of_ble_eq_true rfl⟩ ⟨Nat.le_of_ble_eq_true rfl, Nat.le_of_ble_eq_true rfl⟩ rfl (Nat.le_of_ble_eq_true rfl) (fun v4 n5 σ6 q7 => ?_)
  obtain ⟨rfl, rfl, h2, h3, fr1⟩ := q7
  have h8 : σ6 (S) = some (.inr (7, [.ref (S + 1), .int (lc_i (mo)), .int (lc_i (ca)), .ref (S + 3), .int (lc_i (ct))]) : lc_Cel) := (fr1 _ (by omega) (by omega)).trans h0_0
  have h9 : σ6 (S + 3) = some (lc_aJ 60 (fun i : Int => lc_j ((po) i))) := (fr1 _ (by omega) (by omega)).trans h0_3
  have h10 : σ6 (S2) = some (.inr (7, [.ref (S2 + 1), .int (lc_i (mo2)), .int (lc_i (ca2)), .ref (S2 + 3), .int (lc_i (ct2))]) : lc_Cel) := (fr1 _ (by omega) (by omega)).trans h0_4
  have h11 : σ6 (S2 + 1) = some (.inr (0, [.ref (S2 + 2), .int (lc_i (lc_cnt (f2) 1 36)), .int (lc_i (lc_cnt (f2) 2 36)), .int (lc_i (s2)), .int (lc_i (q2)), .int (lc_i (m2))]) : lc_Cel) := (fr1 _ (by omega) (by omega)).trans h0_5
  have h12 : σ6 (S2 + 2) = some (lc_aI 36 (f2)) := (fr1 _ (by omega) (by omega)).trans h0_6
  have h13 : σ6 (S2 + 3) = some (lc_aJ 60 (fun i : Int => lc_j ((po2) i))) := (fr1 _ (by omega) (by omega)).trans h0_7
  refine lc_aload_n dX7_copyFrom_11 rfl 0 rfl ?_
  refine lc_aload_n dX7_copyFrom_12 rfl 1 rfl ?_
  refine lc_get dX7_copyFrom_13 lc_fX7_28 h10 rfl ?_
  refine lc_wI (vs' := [.ref (S + 1), .int (lc_i (mo2)), .int (lc_i (ca)), .ref (S + 3), .int (lc_i (ct))]) dX7_copyFrom_16 lc_fX7_28 h8 (Nat.le_of_ble_eq_true rfl) rfl rfl rfl (fun σ14 h15 fr16 => ?_)
  have h17 : σ14 (S + 3) = some (lc_aJ 60 (fun i : Int => lc_j ((po) i))) := (fr16 _ (by omega)).trans h9
  have h18 : σ14 (S2) = some (.inr (7, [.ref (S2 + 1), .int (lc_i (mo2)), .int (lc_i (ca2)), .ref (S2 + 3), .int (lc_i (ct2))]) : lc_Cel) := (fr16 _ (by omega)).trans h10
  have h19 : σ14 (S2 + 1) = some (.inr (0, [.ref (S2 + 2), .int (lc_i (lc_cnt (f2) 1 36)), .int (lc_i (lc_cnt (f2) 2 36)), .int (lc_i (s2)), .int (lc_i (q2)), .int (lc_i (m2))]) : lc_Cel) := (fr16 _ (by omega)).trans h11
  have h20 : σ14 (S2 + 2) = some (lc_aI 36 (f2)) := (fr16 _ (by omega)).trans h12
  have h21 : σ14 (S2 + 3) = some (lc_aJ 60 (fun i : Int => lc_j ((po2) i))) := (fr16 _ (by omega)).trans h13
  have h22 : σ14 (S + 1) = some (.inr (0, [.ref (S + 2), .int (lc_i (lc_cnt (f2) 1 36)), .int (lc_i (lc_cnt (f2) 2 36)), .int (lc_i (s2)), .int (lc_i (q2)), .int (lc_i (m2))]) : lc_Cel) := (fr16 _ (by omega)).trans h2
  have h23 : σ14 (S + 2) = some (lc_aI 36 (f2)) := (fr16 _ (by omega)).trans h3
  refine lc_aload_n dX7_copyFrom_19 rfl 0 rfl ?_
  refine lc_aload_n dX7_copyFrom_20 rfl 1 rfl ?_
  refine lc_get dX7_copyFrom_21 lc_fX7_32 h18 rfl ?_
  refine lc_wI (vs' := [.ref (S + 1), .int (lc_i (mo2)), .int (lc_i (ca2)), .ref (S + 3), .int (lc_i (ct))]) dX7_copyFrom_24 lc_fX7_32 h15 (Nat.le_of_ble_eq_true rfl) rfl rfl rfl (fun σ24 h25 fr26 => ?_)
  have h27 : σ24 (S + 3) = some (lc_aJ 60 (fun i : Int => lc_j ((po) i))) := (fr26 _ (by omega)).trans h17
  have h28 : σ24 (S2) = some (.inr (7, [.ref (S2 + 1), .int (lc_i (mo2)), .int (lc_i (ca2)), .ref (S2 + 3), .int (lc_i (ct2))]) : lc_Cel) := (fr26 _ (by omega)).trans h18
  have h29 : σ24 (S2 + 1) = some (.inr (0, [.ref (S2 + 2), .int (lc_i (lc_cnt (f2) 1 36)), .int (lc_i (lc_cnt (f2) 2 36)), .int (lc_i (s2)), .int (lc_i (q2)), .int (lc_i (m2))]) : lc_Cel) := (fr26 _ (by omega)).trans h19
  have h30 : σ24 (S2 + 2) = some (lc_aI 36 (f2)) := (fr26 _ (by omega)).trans h20
  have h31 : σ24 (S2 + 3) = some (lc_aJ 60 (fun i : Int => lc_j ((po2) i))) := (fr26 _ (by omega)).trans h21
  have h32 : σ24 (S + 1) = some (.inr (0, [.ref (S + 2), .int (lc_i (lc_cnt (f2) 1 36)), .int (lc_i (lc_cnt (f2) 2 36)), .int (lc_i (s2)), .int (lc_i (q2)), .int (lc_i (m2))]) : lc_Cel) := (fr26 _ (by omega)).trans h22
  have h33 : σ24 (S + 2) = some (lc_aI 36 (f2)) := (fr26 _ (by omega)).trans h23
  refine lc_aload_n dX7_copyFrom_27 rfl 0 rfl ?_
  refine lc_aload_n dX7_copyFrom_28 rfl 1 rfl ?_
  refine lc_get dX7_copyFrom_29 lc_fX7_52 h28 rfl ?_
  refine lc_wI (vs' := [.ref (S + 1), .int (lc_i (mo2)), .int (lc_i (ca2)), .ref (S + 3), .int (lc_i (ct2))]) dX7_copyFrom_32 lc_fX7_52 h25 (Nat.le_of_ble_eq_true rfl) rfl rfl rfl (fun σ34 h35 fr36 => ?_)
  have h37 : σ34 (S + 3) = some (lc_aJ 60 (fun i : Int => lc_j ((po) i))) := (fr36 _ (by omega)).trans h27
  have h38 : σ34 (S2) = some (.inr (7, [.ref (S2 + 1), .int (lc_i (mo2)), .int (lc_i (ca2)), .ref (S2 + 3), .int (lc_i (ct2))]) : lc_Cel) := (fr36 _ (by omega)).trans h28
  have h39 : σ34 (S2 + 1) = some (.inr (0, [.ref (S2 + 2), .int (lc_i (lc_cnt (f2) 1 36)), .int (lc_i (lc_cnt (f2) 2 36)), .int (lc_i (s2)), .int (lc_i (q2)), .int (lc_i (m2))]) : lc_Cel) := (fr36 _ (by omega)).trans h29
  have h40 : σ34 (S2 + 2) = some (lc_aI 36 (f2)) := (fr36 _ (by omega)).trans h30
  have h41 : σ34 (S2 + 3) = some (lc_aJ 60 (fun i : Int => lc_j ((po2) i))) := (fr36 _ (by omega)).trans h31
  have h42 : σ34 (S + 1) = some (.inr (0, [.ref (S + 2), .int (lc_i (lc_cnt (f2) 1 36)), .int (lc_i (lc_cnt (f2) 2 36)), .int (lc_i (s2)), .int (lc_i (q2)), .int (lc_i (m2))]) : lc_Cel) := (fr36 _ (by omega)).trans h32
  have h43 : σ34 (S + 2) = some (lc_aI 36 (f2)) := (fr36 _ (by omega)).trans h33
  refine lc_iconst dX7_copyFrom_35 ?_
  refine lc_istore_n (lv' := [(0, .ref (S)), (1, .ref (S2)), (2, .int (lc_i (0)))]) dX7_copyFrom_36 rfl (by decide) rfl ?_
  have loop45 : ∀ (N44 : Nat) (i : Int) (hh : Int → Int64) (σ47 : lc_S), (σ47 (S + 3) = some (lc_aJ 60 (hh))) → (∀ i : Nat, i ≠ S + 3 → σ47 i = σ34 i) → (0 ≤ i ∧ i ≤ 60) → (∀ j : Int, 0 ≤ j → j < i → hh j = (fun j : Int => lc_j (po2 j)) j) → 60 - i < (N44 : Int) → lc_V l RX7 cX7_copyFrom 3 none false (lc_Rd 1) (lc_G Q 0 0) lc_E0 0 0 n 37 [(0, .ref (S)), (1, .ref (S2)), (2, .int (lc_i (i)))] [] σ47 := by
    intro N44
    induction N44 with
    | zero =>
      intro i hh σ47 h48 fr49 hi hlo hm50
      exact absurd hm50 (by omega)
    | succ N44 ih46 =>
      intro i hh σ47 h48 fr49 hi hlo hm50
      have h51 : σ47 (S2) = some (.inr (7, [.ref (S2 + 1), .int (lc_i (mo2)), .int (lc_i (ca2)), .ref (S2 + 3), .int (lc_i (ct2))]) : lc_Cel) := (fr49 _ (by omega)).trans h38
      have h52 : σ47 (S2 + 1) = some (.inr (0, [.ref (S2 + 2), .int (lc_i (lc_cnt (f2) 1 36)), .int (lc_i (lc_cnt (f2) 2 36)), .int (lc_i (s2)), .int (lc_i (q2)), .int (lc_i (m2))]) : lc_Cel) := (fr49 _ (by omega)).trans h39
      have h53 : σ47 (S2 + 2) = some (lc_aI 36 (f2)) := (fr49 _ (by omega)).trans h40
      have h54 : σ47 (S2 + 3) = some (lc_aJ 60 (fun i : Int => lc_j ((po2) i))) := (fr49 _ (by omega)).trans h41
      have h55 : σ47 (S + 1) = some (.inr (0, [.ref (S + 2), .int (lc_i (lc_cnt (f2) 1 36)), .int (lc_i (lc_cnt (f2) 2 36)), .int (lc_i (s2)), .int (lc_i (q2)), .int (lc_i (m2))]) : lc_Cel) := (fr49 _ (by omega)).trans h42
      have h56 : σ47 (S + 2) = some (lc_aI 36 (f2)) := (fr49 _ (by omega)).trans h43
      have h57 : σ47 (S) = some (.inr (7, [.ref (S + 1), .int (lc_i (mo2)), .int (lc_i (ca2)), .ref (S + 3), .int (lc_i (ct2))]) : lc_Cel) := (fr49 _ (by omega)).trans h35
      refine lc_iload_n dX7_copyFrom_37 rfl 2 rfl ?_
      refine lc_bipush dX7_copyFrom_38 (by decide) ?_
      refine lc_icmp_ge (tgt := 61) dX7_copyFrom_40 (by decide) (by omega) (fun h_40_57 => ?_) (fun h_40_57 => ?_)
      · skip
        refine lc_extJ (g := fun i : Int => lc_j ((po2) i)) h48 (fun j h1 h2 => hlo j h1 (by omega)) (fun σ59 h60 fr61 => ?_)
        have h62 : σ59 (S2) = some (.inr (7, [.ref (S2 + 1), .int (lc_i (mo2)), .int (lc_i (ca2)), .ref (S2 + 3), .int (lc_i (ct2))]) : lc_Cel) := (fr61 _ (by omega)).trans h51
        have h63 : σ59 (S2 + 1) = some (.inr (0, [.ref (S2 + 2), .int (lc_i (lc_cnt (f2) 1 36)), .int (lc_i (lc_cnt (f2) 2 36)), .int (lc_i (s2)), .int (lc_i (q2)), .int (lc_i (m2))]) : lc_Cel) := (fr61 _ (by omega)).trans h52
        have h64 : σ59 (S2 + 2) = some (lc_aI 36 (f2)) := (fr61 _ (by omega)).trans h53
        have h65 : σ59 (S2 + 3) = some (lc_aJ 60 (fun i : Int => lc_j ((po2) i))) := (fr61 _ (by omega)).trans h54
        have h66 : σ59 (S + 1) = some (.inr (0, [.ref (S + 2), .int (lc_i (lc_cnt (f2) 1 36)), .int (lc_i (lc_cnt (f2) 2 36)), .int (lc_i (s2)), .int (lc_i (q2)), .int (lc_i (m2))]) : lc_Cel) := (fr61 _ (by omega)).trans h55
        have h67 : σ59 (S + 2) = some (lc_aI 36 (f2)) := (fr61 _ (by omega)).trans h56
        have h68 : σ59 (S) = some (.inr (7, [.ref (S + 1), .int (lc_i (mo2)), .int (lc_i (ca2)), .ref (S + 3), .int (lc_i (ct2))]) : lc_Cel) := (fr61 _ (by omega)).trans h57
        exact lc_vret dX7_copyFrom_61 rfl (Nat.le_of_ble_eq_true rfl) (Nat.le_of_ble_eq_true rfl) (hQ _ _ _ ⟨rfl, rfl, h68, h66, h67, h60, (fun i _ _ _ _ => ((fr61 i (by omega)).trans ((fr49 i (by omega)).trans ((fr36 i (by omega)).trans ((fr26 i (by omega)).trans ((fr16 i (by omega)).trans (fr1 i (by omega) (by omega))))))))⟩)
      · skip
        refine lc_aload_n dX7_copyFrom_43 rfl 0 rfl ?_
        refine lc_get dX7_copyFrom_44 lc_fX7_18 h57 rfl ?_
        refine lc_iload_n dX7_copyFrom_47 rfl 2 rfl ?_
        refine lc_aload_n dX7_copyFrom_48 rfl 1 rfl ?_
        refine lc_get dX7_copyFrom_49 lc_fX7_18 h51 rfl ?_
        refine lc_iload_n dX7_copyFrom_52 rfl 2 rfl ?_
        refine lc_lald dX7_copyFrom_53 h54 (by omega) (by decide) ?_
        refine lc_sJ dX7_copyFrom_54 h48 (by omega) (by decide) (fun σ69 h70 fr71 => ?_)
        have h72 : σ69 (S2) = some (.inr (7, [.ref (S2 + 1), .int (lc_i (mo2)), .int (lc_i (ca2)), .ref (S2 + 3), .int (lc_i (ct2))]) : lc_Cel) := (fr71 _ (by omega)).trans h51
        have h73 : σ69 (S2 + 1) = some (.inr (0, [.ref (S2 + 2), .int (lc_i (lc_cnt (f2) 1 36)), .int (lc_i (lc_cnt (f2) 2 36)), .int (lc_i (s2)), .int (lc_i (q2)), .int (lc_i (m2))]) : lc_Cel) := (fr71 _ (by omega)).trans h52
        have h74 : σ69 (S2 + 2) = some (lc_aI 36 (f2)) := (fr71 _ (by omega)).trans h53
        have h75 : σ69 (S2 + 3) = some (lc_aJ 60 (fun i : Int => lc_j ((po2) i))) := (fr71 _ (by omega)).trans h54
        have h76 : σ69 (S + 1) = some (.inr (0, [.ref (S + 2), .int (lc_i (lc_cnt (f2) 1 36)), .int (lc_i (lc_cnt (f2) 2 36)), .int (lc_i (s2)), .int (lc_i (q2)), .int (lc_i (m2))]) : lc_Cel) := (fr71 _ (by omega)).trans h55
        have h77 : σ69 (S + 2) = some (lc_aI 36 (f2)) := (fr71 _ (by omega)).trans h56
        have h78 : σ69 (S) = some (.inr (7, [.ref (S + 1), .int (lc_i (mo2)), .int (lc_i (ca2)), .ref (S + 3), .int (lc_i (ct2))]) : lc_Cel) := (fr71 _ (by omega)).trans h57
        refine lc_iinc (lv' := [(0, .ref (S)), (1, .ref (S2)), (2, .int (lc_i (i + 1)))]) dX7_copyFrom_55 2 rfl (by decide) rfl ?_
        refine lc_goto (tgt := 37) dX7_copyFrom_58 (by decide) ?_
        exact ih46 (i + 1) (lc_u (hh) (i) ((fun i : Int => lc_j ((po2) i)) (i))) σ69 h70 (fun i _ => ((fr71 i (by omega)).trans (fr49 i (by omega)))) (by omega) (lc_ub hlo) (by omega)
  exact loop45 1000 (0) (fun i : Int => lc_j ((po) i)) σ34 h37 (fun _ _ => rfl) (by omega) (fun j h1 h2 => absurd h2 (by omega)) (by omega)
