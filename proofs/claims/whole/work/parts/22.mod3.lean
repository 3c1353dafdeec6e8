/-! the sets of the reference -/

theorem lc_go_r {f : Int → Int} {x d : Int} (hx : 0 ≤ x ∧ x < 48) : lc_go f x d = -105 ∨ (0 ≤ lc_go f x d ∧ lc_go f x d < 36) := by
  unfold lc_go
  by_cases h : lc_K f x d = 24 ∨ lc_Lo f x d = 0
  · rw [if_pos h]; exact Or.inl rfl
  · rw [if_neg h]
    have h1 : ¬ lc_K f x d = 24 := fun e => h (Or.inl e)
    unfold lc_M
    rw [if_neg h1]
    exact Or.inr (lc_wp_r d hx _)
theorem lc_tgr_0 {f : Int → Int} {fr : Int} {k : Nat} {j : Int} (h : ¬ lc_tg1 f fr k j = true) : lc_tgr f fr k j = lc_tgr f fr (k + 1) j := by
  show _ = (lc_tgr f fr k j || lc_tg1 f fr k j)
  rw [Bool.eq_false_iff.mpr h, Bool.or_false]
theorem lc_tgr_1 {f : Int → Int} {fr d : Int} {k : Nat} {j : Int} (hd : d = lc_dk k) (h1 : lc_pt ((k : Int) / 2) = fr) (h2 : lc_go f ((k : Int) / 2) d ≠ -105) (h3 : f (lc_go f ((k : Int) / 2) d) = 3 - f fr) : (lc_tgr f fr k j || decide (j = lc_go f ((k : Int) / 2) d)) = lc_tgr f fr (k + 1) j := by
  show _ = (lc_tgr f fr k j || lc_tg1 f fr k j)
  congr 1
  unfold lc_tg1
  rw [← hd]
  exact decide_eq_decide.mpr ⟨fun h => ⟨h1, h2, h3, h⟩, fun h => h.2.2.2⟩
theorem lc_cap_0 {f : Int → Int} {fr j : Int} (h : f fr = 0) : lc_cap f fr j = false := decide_eq_false (fun h1 => h1.1.1.1 h)

set_option maxRecDepth 100000 in
set_option maxHeartbeats 600000 in
theorem lc_cX11_targets (l : Launch) (n : Nat) (a : Nat) (N : Int → Int) (f : Int → Int) (s q m mo ca ct : Int) (po : Int → Int) (kept : Int) (bs : Bool) (z at9 sn sr w1 w2 w3 bw : Int) (fr : Int) (σ : lc_S) (h0_0 : σ (50) = some (.inr (11, [.ref (51), .ref (52), .ref (53), .ref (54), .ref (55), .int (lc_i (kept)), .ref (56), .int (lc_i (if bs = true then 1 else 0)), .ref (57), .int (lc_i (z)), .int (lc_i (at9)), .int (lc_i (sn)), .int (lc_i (sr)), .int (lc_i (w1)), .int (lc_i (w2)), .int (lc_i (w3)), .int (lc_i (bw))]) : lc_Cel)) (h0_1 : σ (a) = some (lc_aI 222 (N))) (ha : 50 < a) (hf : ∀ j : Int, 0 ≤ j → j < 36 → 0 ≤ f j ∧ f j ≤ 2) (hR : lc_RM N (f, s, q, m, mo, ca, ct, po)) (hfr : 0 ≤ fr ∧ fr < 36) : lc_Con l yX11_targets cX11_targets 10 (some .long) (lc_Rd 2) [.ref (50), .ref (a), .int (lc_i (fr))] n σ (fun v n2 σ2 => ∃ (set : Int64) (z1 z2 : Int), v = some (.long set) ∧ n = n2 ∧ lc_bs set (fun j => lc_cap f fr j) ∧ σ2 (50) = some (.inr (11, [.ref (51), .ref (52), .ref (53), .ref (54), .ref (55), .int (lc_i (kept)), .ref (56), .int (lc_i (if bs = true then 1 else 0)), .ref (57), .int (lc_i (z)), .int (lc_i (at9)), .int (lc_i (sn)), .int (lc_i (sr)), .int (lc_i (z1)), .int (lc_i (z2)), .int (lc_i (w3)), .int (lc_i (bw))]) : lc_Cel) ∧ ∀ i : Nat, i ≠ 50 → σ2 i = σ i) := by
  obtain ⟨h0R, h1R, h2R, h3R, h4R, h5R, h6R, h7R⟩ := id hR
  have h0R : N 0 = s := h0R
  have h1R : N 1 = q := h1R
  have h4R : N 4 = m := h4R
  have h5R : N 5 = ct := h5R
  have h6R : ∀ p : Int, 0 ≤ p → p < 36 → N (6 + p) = f p := h6R
  have hff := hf fr hfr.1 hfr.2
  refine lc_con RX11 false (by decide) rfl (fun h => absurd h (by decide)) (Nat.le_of_ble_eq_true rfl) ?_
  suffices H : ∀ Q : lc_QT, (∀ v n2 σ2, (fun v n2 σ2 => ∃ (set : Int64) (z1 z2 : Int), v = some (.long set) ∧ n = n2 ∧ lc_bs set (fun j => lc_cap f fr j) ∧ σ2 (50) = some (.inr (11, [.ref (51), .ref (52), .ref (53), .ref (54), .ref (55), .int (lc_i (kept)), .ref (56), .int (lc_i (if bs = true then 1 else 0)), .ref (57), .int (lc_i (z)), .int (lc_i (at9)), .int (lc_i (sn)), .int (lc_i (sr)), .int (lc_i (z1)), .int (lc_i (z2)), .int (lc_i (w3)), .int (lc_i (bw))]) : lc_Cel) ∧ ∀ i : Nat, i ≠ 50 → σ2 i = σ i : lc_QT) v n2 σ2 → Q v n2 σ2) → lc_V l RX11 cX11_targets 10 (some .long) false (lc_Rd 2) (lc_G Q 0 0) lc_E0 0 0 n 0 [(0, .ref (50)), (1, .ref (a)), (2, .int (lc_i (fr)))] [] σ from H _ (fun _ _ _ h => h)
  intro Q hQ
  refine lc_lconst (x := 0) dX11_targets_0 (by decide) ?_
  refine lc_lstore_n (lv' := [(0, .ref (50)), (1, .ref (a)), (2, .int (lc_i (fr))), (3, .long ((0 : Int64)))]) dX11_targets_1 rfl (by decide) rfl ?_
  refine lc_aload_n dX11_targets_2 rfl 1 rfl ?_
  refine lc_bipush dX11_targets_3 (by decide) ?_
  refine lc_iload_n dX11_targets_5 rfl 2 rfl ?_
  refine lc_iadd dX11_targets_6 ?_
  refine lc_iald dX11_targets_7 h0_1 (by omega) (by decide) ?_
  refine lc_top (congrArg (fun z => Value.int (lc_i z)) (show ((N) ((6) + (fr)) : Int) = f fr from h6R fr (by omega) (by omega))) ?_
  refine lc_istore (lv' := [(0, .ref (50)), (1, .ref (a)), (2, .int (lc_i (fr))), (3, .long ((0 : Int64))), (5, .int (lc_i (f fr)))]) dX11_targets_8 (by decide) rfl ?_
  refine lc_iconst dX11_targets_10 ?_
  refine lc_istore (lv' := [(0, .ref (50)), (1, .ref (a)), (2, .int (lc_i (fr))), (3, .long ((0 : Int64))), (5, .int (lc_i (f fr))), (6, .int (lc_i (0)))]) dX11_targets_11 (by decide) rfl ?_
  have loop2 : ∀ (N1 : Nat) (k : Nat) (x : Int64) (y1 : Int) (y2 : Int) (σ4 : lc_S), (σ4 (50) = some (.inr (11, [.ref (51), .ref (52), .ref (53), .ref (54), .ref (55), .int (lc_i (kept)), .ref (56), .int (lc_i (if bs = true then 1 else 0)), .ref (57), .int (lc_i (z)), .int (lc_i (at9)), .int (lc_i (sn)), .int (lc_i (sr)), .int (lc_i (y1)), .int (lc_i (y2)), .int (lc_i (w3)), .int (lc_i (bw))]) : lc_Cel)) → (∀ i : Nat, i ≠ 50 → σ4 i = σ i) → (k ≤ 96) → (lc_bs x (lc_tgr f fr k)) → (f fr ≤ 0 → k = 0) → 96 - (k : Int) < (N1 : Int) → lc_V l RX11 cX11_targets 10 (some .long) false (lc_Rd 2) (lc_G Q 0 0) lc_E0 0 0 n 13 [(0, .ref (50)), (1, .ref (a)), (2, .int (lc_i (fr))), (3, .long (x)), (5, .int (lc_i (f fr))), (6, .int (lc_i ((k : Int))))] [] σ4 := by
    intro N1
    induction N1 with
    | zero =>
      intro k x y1 y2 σ4 h5 fr6 hk hx hz hm7
      exact absurd hm7 (by omega)
    | succ N1 ih3 =>
      intro k x y1 y2 σ4 h5 fr6 hk hx hz hm7
      have h8 : σ4 (a) = some (lc_aI 222 (N)) := (fr6 _ (by omega)).trans h0_1
      refine lc_iload dX11_targets_13 5 rfl ?_
      refine lc_bipush dX11_targets_15 (by decide) ?_
      refine lc_icmp_ge (tgt := 118) dX11_targets_17 (by decide) (by omega) (fun h_17_8 => ?_) (fun h_17_8 => ?_)
      · skip
        refine lc_lload_n dX11_targets_118 rfl 3 rfl ?_
        exact lc_lret dX11_targets_119 rfl (Nat.le_of_ble_eq_true rfl) (Nat.le_of_ble_eq_true rfl) (hQ _ _ _ ⟨x, y1, y2, rfl, rfl, lc_bs_ext hx (fun j h1 h2 => by rw [show k = 96 from by omega]; exact lc_tgr_cap hf hfr (fun h9 => by have := hz (by omega); omega) h1 h2), h5, (fun i _ => (fr6 i (by omega)))⟩)
      · skip
        have hpk := lc_pt_r (x := (k : Int) / 2) (by omega)
        refine lc_iload dX11_targets_20 4 rfl ?_
        refine lc_if_le (tgt := 118) dX11_targets_22 (by decide) (by omega) (fun h_22_9 => ?_) (fun h_22_9 => ?_)
        · skip
          refine lc_lload_n dX11_targets_118 rfl 3 rfl ?_
          exact lc_lret dX11_targets_119 rfl (Nat.le_of_ble_eq_true rfl) (Nat.le_of_ble_eq_true rfl) (hQ _ _ _ ⟨x, y1, y2, rfl, rfl, lc_bs_ext hx (fun j h1 h2 => by rw [hz (by omega), lc_cap_0 (by omega)]; rfl), h5, (fun i _ => (fr6 i (by omega)))⟩)
        · skip
          refine lc_iload dX11_targets_25 5 rfl ?_
          refine lc_bipush dX11_targets_27 (by decide) ?_
          refine lc_idiv dX11_targets_29 (by omega) ?_
          refine lc_top (congrArg (fun z => Value.int (lc_i z)) (show (((k : Int)) / (48) : Int) = (k : Int) / 2 / 24 from by omega)) ?_
          refine lc_istore (lv' := [(0, .ref (50)), (1, .ref (a)), (2, .int (lc_i (fr))), (3, .long (x)), (5, .int (lc_i (f fr))), (6, .int (lc_i ((k : Int)))), (7, .int (lc_i ((k : Int) / 2 / 24)))]) dX11_targets_30 (by decide) rfl ?_
          refine lc_iload dX11_targets_32 5 rfl ?_
          refine lc_iconst dX11_targets_34 ?_
          refine lc_idiv dX11_targets_35 (by omega) ?_
          refine lc_bipush dX11_targets_36 (by decide) ?_
          refine lc_irem dX11_targets_38 (by omega) ?_
          refine lc_istore (lv' := [(0, .ref (50)), (1, .ref (a)), (2, .int (lc_i (fr))), (3, .long (x)), (5, .int (lc_i (f fr))), (6, .int (lc_i ((k : Int)))), (7, .int (lc_i ((k : Int) / 2 / 24))), (8, .int (lc_i ((((k : Int)) / (2)) % (24))))]) dX11_targets_39 (by decide) rfl ?_
          refine lc_iload dX11_targets_41 6 rfl ?_
          refine lc_iload dX11_targets_43 7 rfl ?_
          refine lc_callS (As := [.int (lc_i ((k : Int) / 2 / 24)), .int (lc_i ((((k : Int)) / (2)) % (24)))]) (stk := []) dX11_targets_45 lc_mX11_77 lc_yX11_pointAt (lc_cX11_pointAt l n ((k : Int) / 2 / 24) ((((k : Int)) / (2)) % (24)) σ4 (by omega) (by omega)) rfl ⟨Nat.le_of_ble_eq_true rfl, Nat.le_of_ble_eq_true rfl⟩ ⟨Nat.le_of_ble_eq_true rfl, Nat.le_of_ble_eq_true rfl⟩ rfl (Nat.le_of_ble_eq_true rfl) (fun v11 n12 σ13 q14 => ?_)
          obtain ⟨rfl, rfl, rfl⟩ := q14
          refine lc_top (congrArg (fun z => Value.int (lc_i z)) (show (lc_pa ((k : Int) / 2 / 24) ((((k : Int)) / (2)) % (24)) : Int) = lc_pt ((k : Int) / 2) from rfl)) ?_
          refine lc_iload_n dX11_targets_48 rfl 2 rfl ?_
          refine lc_icmp_ne (tgt := 76) dX11_targets_49 (by decide) (by omega) (fun h_49_14 => ?_) (fun h_49_14 => ?_)
          · skip
            refine lc_bipush dX11_targets_76 (by decide) ?_
            refine lc_istore (lv' := [(0, .ref (50)), (1, .ref (a)), (2, .int (lc_i (fr))), (3, .long (x)), (5, .int (lc_i (f fr))), (6, .int (lc_i ((k : Int)))), (7, .int (lc_i ((k : Int) / 2 / 24))), (8, .int (lc_i ((((k : Int)) / (2)) % (24)))), (9, .int (lc_i ((-105))))]) dX11_targets_78 (by decide) rfl ?_
            refine lc_lload_n dX11_targets_80 rfl 3 rfl ?_
            refine lc_iload dX11_targets_81 8 rfl ?_
            refine lc_bipush dX11_targets_83 (by decide) ?_
            refine lc_icmp_eq (tgt := 109) dX11_targets_85 (by decide) (by omega) (fun h_85_15 => ?_) (fun h_85_15 => ?_)
            · skip
              refine lc_lconst (x := 0) dX11_targets_109 (by decide) ?_
              refine lc_lor dX11_targets_110 ?_
              refine lc_lstore_n (lv' := [(0, .ref (50)), (1, .ref (a)), (2, .int (lc_i (fr))), (3, .long ((x) ||| ((0 : Int64)))), (5, .int (lc_i (f fr))), (6, .int (lc_i ((k : Int)))), (7, .int (lc_i ((k : Int) / 2 / 24))), (8, .int (lc_i ((((k : Int)) / (2)) % (24)))), (9, .int (lc_i ((-105))))]) dX11_targets_111 rfl (by decide) rfl ?_
              refine lc_iinc (lv' := [(0, .ref (50)), (1, .ref (a)), (2, .int (lc_i (fr))), (3, .long ((x) ||| ((0 : Int64)))), (5, .int (lc_i (f fr))), (6, .int (lc_i ((k : Int) + 1))), (7, .int (lc_i ((k : Int) / 2 / 24))), (8, .int (lc_i ((((k : Int)) / (2)) % (24)))), (9, .int (lc_i ((-105))))]) dX11_targets_112 5 rfl (by decide) rfl ?_
              refine lc_goto (tgt := 13) dX11_targets_115 (by decide) ?_
              refine lc_pick (lv' := [(0, .ref (50)), (1, .ref (a)), (2, .int (lc_i (fr))), (3, .long ((x) ||| ((0 : Int64)))), (5, .int (lc_i (f fr))), (6, .int (lc_i ((k : Int) + 1)))]) [0, 1, 2, 3, 4, 5] rfl ?_
              refine lc_lveq (lv' := [(0, .ref (50)), (1, .ref (a)), (2, .int (lc_i (fr))), (3, .long ((x) ||| ((0 : Int64)))), (5, .int (lc_i (f fr))), (6, .int (lc_i (((k + 1 : Nat) : Int))))]) (by rw [show ((k + 1 : Nat) : Int) = (k : Int) + 1 from by omega]) ?_
              exact ih3 (k + 1) ((x) ||| ((0 : Int64))) (y1) (y2) σ4 h5 (fun i _ => (fr6 i (by omega))) (by omega) (lc_bs_ext (lc_bs_id hx) (fun j _ _ => lc_tgr_0 (fun h9 => h_49_14 (of_decide_eq_true h9).1))) (fun h9 => by omega) (by omega)
            · exact absurd rfl h_85_15
          · skip
            refine lc_aload_n dX11_targets_52 rfl 0 rfl ?_
            refine lc_aload_n dX11_targets_53 rfl 1 rfl ?_
            refine lc_iload dX11_targets_54 6 rfl ?_
            refine lc_iload dX11_targets_56 7 rfl ?_
            refine lc_iload dX11_targets_58 5 rfl ?_
            refine lc_iconst dX11_targets_60 ?_
            refine lc_irem dX11_targets_61 (by omega) ?_
            refine lc_if_ne (tgt := 69) dX11_targets_62 (by decide) (by omega) (fun h_62_16 => ?_) (fun h_62_16 => ?_)
            · skip
              refine lc_iconst dX11_targets_69 ?_
              refine lc_callV (As := [.ref (a), .int (lc_i ((k : Int) / 2 / 24)), .int (lc_i ((((k : Int)) / (2)) % (24))), .int (lc_i (0))]) (stk := []) (b := 50) dX11_targets_70 lc_mX11_87 lc_yX11_goes h5 rfl (lc_cX11_goes l n (a) (N) (f) (s) (q) (m) (mo) (ca) (ct) (po) (kept) (bs) (z) (at9) (sn) (sr) (y1) (y2) (w3) (bw) ((k : Int) / 2) ((-1)) σ4 h5 h8 (ha) (hf) (hR) (by omega) (by decide)) rfl ⟨Nat.le_of_ble_eq_true rfl, Nat.le_of_ble_eq_true rfl⟩ ⟨Nat.le_of_ble_eq_true rfl, Nat.le_of_ble_eq_true rfl⟩ rfl (Nat.le_of_ble_eq_true rfl) (fun v20 n21 σ22 q23 => ?_)
              obtain ⟨rfl, rfl, h19, fr18⟩ := q23
              have h24 : σ22 (a) = some (lc_aI 222 (N)) := (fr18 _ (by omega)).trans h8
              refine lc_goto (tgt := 78) dX11_targets_73 (by decide) ?_
              have hgr := lc_go_r (f := f) (d := (-1)) (x := (k : Int) / 2) (by omega)
              refine lc_istore (lv' := [(0, .ref (50)), (1, .ref (a)), (2, .int (lc_i (fr))), (3, .long (x)), (5, .int (lc_i (f fr))), (6, .int (lc_i ((k : Int)))), (7, .int (lc_i ((k : Int) / 2 / 24))), (8, .int (lc_i ((((k : Int)) / (2)) % (24)))), (9, .int (lc_i (lc_go (f) ((k : Int) / 2) ((-1)))))]) dX11_targets_78 (by decide) rfl ?_
              refine lc_lload_n dX11_targets_80 rfl 3 rfl ?_
              refine lc_iload dX11_targets_81 8 rfl ?_
              refine lc_bipush dX11_targets_83 (by decide) ?_
              refine lc_icmp_eq (tgt := 109) dX11_targets_85 (by decide) (by omega) (fun h_85_24 => ?_) (fun h_85_24 => ?_)
              · skip
                refine lc_lconst (x := 0) dX11_targets_109 (by decide) ?_
                refine lc_lor dX11_targets_110 ?_
                refine lc_lstore_n (lv' := [(0, .ref (50)), (1, .ref (a)), (2, .int (lc_i (fr))), (3, .long ((x) ||| ((0 : Int64)))), (5, .int (lc_i (f fr))), (6, .int (lc_i ((k : Int)))), (7, .int (lc_i ((k : Int) / 2 / 24))), (8, .int (lc_i ((((k : Int)) / (2)) % (24)))), (9, .int (lc_i (lc_go (f) ((k : Int) / 2) ((-1)))))]) dX11_targets_111 rfl (by decide) rfl ?_
                refine lc_iinc (lv' := [(0, .ref (50)), (1, .ref (a)), (2, .int (lc_i (fr))), (3, .long ((x) ||| ((0 : Int64)))), (5, .int (lc_i (f fr))), (6, .int (lc_i ((k : Int) + 1))), (7, .int (lc_i ((k : Int) / 2 / 24))), (8, .int (lc_i ((((k : Int)) / (2)) % (24)))), (9, .int (lc_i (lc_go (f) ((k : Int) / 2) ((-1)))))]) dX11_targets_112 5 rfl (by decide) rfl ?_
                refine lc_goto (tgt := 13) dX11_targets_115 (by decide) ?_
                refine lc_pick (lv' := [(0, .ref (50)), (1, .ref (a)), (2, .int (lc_i (fr))), (3, .long ((x) ||| ((0 : Int64)))), (5, .int (lc_i (f fr))), (6, .int (lc_i ((k : Int) + 1)))]) [0, 1, 2, 3, 4, 5] rfl ?_
                refine lc_lveq (lv' := [(0, .ref (50)), (1, .ref (a)), (2, .int (lc_i (fr))), (3, .long ((x) ||| ((0 : Int64)))), (5, .int (lc_i (f fr))), (6, .int (lc_i (((k + 1 : Nat) : Int))))]) (by rw [show ((k + 1 : Nat) : Int) = (k : Int) + 1 from by omega]) ?_
                exact ih3 (k + 1) ((x) ||| ((0 : Int64))) (lc_Lo (f) ((k : Int) / 2) ((-1))) (lc_Kp (f) ((k : Int) / 2) ((-1))) σ22 h19 (fun i _ => ((fr18 i (by omega)).trans (fr6 i (by omega)))) (by omega) (lc_bs_ext (lc_bs_id hx) (fun j _ _ => lc_tgr_0 (fun h9 => by have h8 := (of_decide_eq_true h9).2.1; rw [show lc_dk k = (-1) from if_neg (by omega)] at h8; exact h8 h_85_24))) (fun h9 => by omega) (by omega)
              · skip
                refine lc_aload_n dX11_targets_88 rfl 1 rfl ?_
                refine lc_bipush dX11_targets_89 (by decide) ?_
                refine lc_iload dX11_targets_91 8 rfl ?_
                refine lc_iadd dX11_targets_93 ?_
                refine lc_iald dX11_targets_94 h24 (by omega) (by decide) ?_
                refine lc_top (congrArg (fun z => Value.int (lc_i z)) (show ((N) ((6) + (lc_go (f) ((k : Int) / 2) ((-1)))) : Int) = f (lc_go f ((k : Int) / 2) (-1)) from h6R _ (by omega) (by omega))) ?_
                refine lc_iconst dX11_targets_95 ?_
                refine lc_iload dX11_targets_96 4 rfl ?_
                refine lc_isub dX11_targets_98 ?_
                have hfg := hf (lc_go f ((k : Int) / 2) (-1)) (by omega) (by omega)
                refine lc_icmp_ne (tgt := 109) dX11_targets_99 (by decide) (by omega) (fun h_99_25 => ?_) (fun h_99_25 => ?_)
                · skip
                  refine lc_lconst (x := 0) dX11_targets_109 (by decide) ?_
                  refine lc_lor dX11_targets_110 ?_
                  refine lc_lstore_n (lv' := [(0, .ref (50)), (1, .ref (a)), (2, .int (lc_i (fr))), (3, .long ((x) ||| ((0 : Int64)))), (5, .int (lc_i (f fr))), (6, .int (lc_i ((k : Int)))), (7, .int (lc_i ((k : Int) / 2 / 24))), (8, .int (lc_i ((((k : Int)) / (2)) % (24)))), (9, .int (lc_i (lc_go (f) ((k : Int) / 2) ((-1)))))]) dX11_targets_111 rfl (by decide) rfl ?_
                  refine lc_iinc (lv' := [(0, .ref (50)), (1, .ref (a)), (2, .int (lc_i (fr))), (3, .long ((x) ||| ((0 : Int64)))), (5, .int (lc_i (f fr))), (6, .int (lc_i ((k : Int) + 1))), (7, .int (lc_i ((k : Int) / 2 / 24))), (8, .int (lc_i ((((k : Int)) / (2)) % (24)))), (9, .int (lc_i (lc_go (f) ((k : Int) / 2) ((-1)))))]) dX11_targets_112 5 rfl (by decide) rfl ?_
                  refine lc_goto (tgt := 13) dX11_targets_115 (by decide) ?_
                  refine lc_pick (lv' := [(0, .ref (50)), (1, .ref (a)), (2, .int (lc_i (fr))), (3, .long ((x) ||| ((0 : Int64)))), (5, .int (lc_i (f fr))), (6, .int (lc_i ((k : Int) + 1)))]) [0, 1, 2, 3, 4, 5] rfl ?_
                  refine lc_lveq (lv' := [(0, .ref (50)), (1, .ref (a)), (2, .int (lc_i (fr))), (3, .long ((x) ||| ((0 : Int64)))), (5, .int (lc_i (f fr))), (6, .int (lc_i (((k + 1 : Nat) : Int))))]) (by rw [show ((k + 1 : Nat) : Int) = (k : Int) + 1 from by omega]) ?_
                  exact ih3 (k + 1) ((x) ||| ((0 : Int64))) (lc_Lo (f) ((k : Int) / 2) ((-1))) (lc_Kp (f) ((k : Int) / 2) ((-1))) σ22 h19 (fun i _ => ((fr18 i (by omega)).trans (fr6 i (by omega)))) (by omega) (lc_bs_ext (lc_bs_id hx) (fun j _ _ => lc_tgr_0 (fun h9 => by have h8 := (of_decide_eq_true h9).2.2.1; rw [show lc_dk k = (-1) from if_neg (by omega)] at h8; exact h_99_25 h8))) (fun h9 => by omega) (by omega)
                · skip
                  refine lc_lconst (x := 1) dX11_targets_102 (by decide) ?_
                  refine lc_iload dX11_targets_103 8 rfl ?_
                  refine lc_lshl dX11_targets_105 rfl ?_
                  refine lc_goto (tgt := 110) dX11_targets_106 (by decide) ?_
                  refine lc_lor dX11_targets_110 ?_
                  refine lc_lstore_n (lv' := [(0, .ref (50)), (1, .ref (a)), (2, .int (lc_i (fr))), (3, .long ((x) ||| (((1 : Int64)) <<< ((lc_i (lc_go (f) ((k : Int) / 2) ((-1)))).toInt64 &&& 63)))), (5, .int (lc_i (f fr))), (6, .int (lc_i ((k : Int)))), (7, .int (lc_i ((k : Int) / 2 / 24))), (8, .int (lc_i ((((k : Int)) / (2)) % (24)))), (9, .int (lc_i (lc_go (f) ((k : Int) / 2) ((-1)))))]) dX11_targets_111 rfl (by decide) rfl ?_
                  refine lc_iinc (lv' := [(0, .ref (50)), (1, .ref (a)), (2, .int (lc_i (fr))), (3, .long ((x) ||| (((1 : Int64)) <<< ((lc_i (lc_go (f) ((k : Int) / 2) ((-1)))).toInt64 &&& 63)))), (5, .int (lc_i (f fr))), (6, .int (lc_i ((k : Int) + 1))), (7, .int (lc_i ((k : Int) / 2 / 24))), (8, .int (lc_i ((((k : Int)) / (2)) % (24)))), (9, .int (lc_i (lc_go (f) ((k : Int) / 2) ((-1)))))]) dX11_targets_112 5 rfl (by decide) rfl ?_
                  refine lc_goto (tgt := 13) dX11_targets_115 (by decide) ?_
                  refine lc_pick (lv' := [(0, .ref (50)), (1, .ref (a)), (2, .int (lc_i (fr))), (3, .long ((x) ||| (((1 : Int64)) <<< ((lc_i (lc_go (f) ((k : Int) / 2) ((-1)))).toInt64 &&& 63)))), (5, .int (lc_i (f fr))), (6, .int (lc_i ((k : Int) + 1)))]) [0, 1, 2, 3, 4, 5] rfl ?_
                  refine lc_lveq (lv' := [(0, .ref (50)), (1, .ref (a)), (2, .int (lc_i (fr))), (3, .long ((x) ||| (((1 : Int64)) <<< ((lc_i (lc_go (f) ((k : Int) / 2) ((-1)))).toInt64 &&& 63)))), (5, .int (lc_i (f fr))), (6, .int (lc_i (((k + 1 : Nat) : Int))))]) (by rw [show ((k + 1 : Nat) : Int) = (k : Int) + 1 from by omega]) ?_
                  exact ih3 (k + 1) ((x) ||| (((1 : Int64)) <<< ((lc_i (lc_go (f) ((k : Int) / 2) ((-1)))).toInt64 &&& 63))) (lc_Lo (f) ((k : Int) / 2) ((-1))) (lc_Kp (f) ((k : Int) / 2) ((-1))) σ22 h19 (fun i _ => ((fr18 i (by omega)).trans (fr6 i (by omega)))) (by omega) (lc_bs_ext (lc_bs_or hx (by omega)) (fun j _ _ => lc_tgr_1 (d := (-1)) (show lc_dk k = (-1) from if_neg (by omega)).symm h_49_14 h_85_24 h_99_25)) (fun h9 => by omega) (by omega)
            · skip
              refine lc_iconst dX11_targets_65 ?_
              refine lc_goto (tgt := 70) dX11_targets_66 (by decide) ?_
              refine lc_callV (As := [.ref (a), .int (lc_i ((k : Int) / 2 / 24)), .int (lc_i ((((k : Int)) / (2)) % (24))), .int (lc_i (1))]) (stk := []) (b := 50) dX11_targets_70 lc_mX11_87 lc_yX11_goes h5 rfl (lc_cX11_goes l n (a) (N) (f) (s) (q) (m) (mo) (ca) (ct) (po) (kept) (bs) (z) (at9) (sn) (sr) (y1) (y2) (w3) (bw) ((k : Int) / 2) (1) σ4 h5 h8 (ha) (hf) (hR) (by omega) (by decide)) rfl ⟨Nat.le_of_ble_eq_true rfl, Nat.le_of_ble_eq_true rfl⟩ ⟨Nat.le_of_ble_eq_true rfl, Nat.le_of_ble_eq_true rfl⟩ rfl (Nat.le_of_ble_eq_true rfl) (fun v29 n30 σ31 q32 => ?_)
              obtain ⟨rfl, rfl, h28, fr27⟩ := q32
              have h33 : σ31 (a) = some (lc_aI 222 (N)) := (fr27 _ (by omega)).trans h8
              refine lc_goto (tgt := 78) dX11_targets_73 (by decide) ?_
              have hgr := lc_go_r (f := f) (d := 1) (x := (k : Int) / 2) (by omega)
              refine lc_istore (lv' := [(0, .ref (50)), (1, .ref (a)), (2, .int (lc_i (fr))), (3, .long (x)), (5, .int (lc_i (f fr))), (6, .int (lc_i ((k : Int)))), (7, .int (lc_i ((k : Int) / 2 / 24))), (8, .int (lc_i ((((k : Int)) / (2)) % (24)))), (9, .int (lc_i (lc_go (f) ((k : Int) / 2) (1))))]) dX11_targets_78 (by decide) rfl ?_
              refine lc_lload_n dX11_targets_80 rfl 3 rfl ?_
              refine lc_iload dX11_targets_81 8 rfl ?_
              refine lc_bipush dX11_targets_83 (by decide) ?_
              refine lc_icmp_eq (tgt := 109) dX11_targets_85 (by decide) (by omega) (fun h_85_33 => ?_) (fun h_85_33 => ?_)
              · skip
                refine lc_lconst (x := 0) dX11_targets_109 (by decide) ?_
                refine lc_lor dX11_targets_110 ?_
                refine lc_lstore_n (lv' := [(0, .ref (50)), (1, .ref (a)), (2, .int (lc_i (fr))), (3, .long ((x) ||| ((0 : Int64)))), (5, .int (lc_i (f fr))), (6, .int (lc_i ((k : Int)))), (7, .int (lc_i ((k : Int) / 2 / 24))), (8, .int (lc_i ((((k : Int)) / (2)) % (24)))), (9, .int (lc_i (lc_go (f) ((k : Int) / 2) (1))))]) dX11_targets_111 rfl (by decide) rfl ?_
                refine lc_iinc (lv' := [(0, .ref (50)), (1, .ref (a)), (2, .int (lc_i (fr))), (3, .long ((x) ||| ((0 : Int64)))), (5, .int (lc_i (f fr))), (6, .int (lc_i ((k : Int) + 1))), (7, .int (lc_i ((k : Int) / 2 / 24))), (8, .int (lc_i ((((k : Int)) / (2)) % (24)))), (9, .int (lc_i (lc_go (f) ((k : Int) / 2) (1))))]) dX11_targets_112 5 rfl (by decide) rfl ?_
                refine lc_goto (tgt := 13) dX11_targets_115 (by decide) ?_
                refine lc_pick (lv' := [(0, .ref (50)), (1, .ref (a)), (2, .int (lc_i (fr))), (3, .long ((x) ||| ((0 : Int64)))), (5, .int (lc_i (f fr))), (6, .int (lc_i ((k : Int) + 1)))]) [0, 1, 2, 3, 4, 5] rfl ?_
                refine lc_lveq (lv' := [(0, .ref (50)), (1, .ref (a)), (2, .int (lc_i (fr))), (3, .long ((x) ||| ((0 : Int64)))), (5, .int (lc_i (f fr))), (6, .int (lc_i (((k + 1 : Nat) : Int))))]) (by rw [show ((k + 1 : Nat) : Int) = (k : Int) + 1 from by omega]) ?_
                exact ih3 (k + 1) ((x) ||| ((0 : Int64))) (lc_Lo (f) ((k : Int) / 2) (1)) (lc_Kp (f) ((k : Int) / 2) (1)) σ31 h28 (fun i _ => ((fr27 i (by omega)).trans (fr6 i (by omega)))) (by omega) (lc_bs_ext (lc_bs_id hx) (fun j _ _ => lc_tgr_0 (fun h9 => by have h8 := (of_decide_eq_true h9).2.1; rw [show lc_dk k = 1 from if_pos (by omega)] at h8; exact h8 h_85_33))) (fun h9 => by omega) (by omega)
              · skip
                refine lc_aload_n dX11_targets_88 rfl 1 rfl ?_
                refine lc_bipush dX11_targets_89 (by decide) ?_
                refine lc_iload dX11_targets_91 8 rfl ?_
                refine lc_iadd dX11_targets_93 ?_
                refine lc_iald dX11_targets_94 h33 (by omega) (by decide) ?_
                refine lc_top (congrArg (fun z => Value.int (lc_i z)) (show ((N) ((6) + (lc_go (f) ((k : Int) / 2) (1))) : Int) = f (lc_go f ((k : Int) / 2) 1) from h6R _ (by omega) (by omega))) ?_
                refine lc_iconst dX11_targets_95 ?_
                refine lc_iload dX11_targets_96 4 rfl ?_
                refine lc_isub dX11_targets_98 ?_
                have hfg := hf (lc_go f ((k : Int) / 2) 1) (by omega) (by omega)
                refine lc_icmp_ne (tgt := 109) dX11_targets_99 (by decide) (by omega) (fun h_99_34 => ?_) (fun h_99_34 => ?_)
                · skip
                  refine lc_lconst (x := 0) dX11_targets_109 (by decide) ?_
                  refine lc_lor dX11_targets_110 ?_
                  refine lc_lstore_n (lv' := [(0, .ref (50)), (1, .ref (a)), (2, .int (lc_i (fr))), (3, .long ((x) ||| ((0 : Int64)))), (5, .int (lc_i (f fr))), (6, .int (lc_i ((k : Int)))), (7, .int (lc_i ((k : Int) / 2 / 24))), (8, .int (lc_i ((((k : Int)) / (2)) % (24)))), (9, .int (lc_i (lc_go (f) ((k : Int) / 2) (1))))]) dX11_targets_111 rfl (by decide) rfl ?_
                  refine lc_iinc (lv' := [(0, .ref (50)), (1, .ref (a)), (2, .int (lc_i (fr))), (3, .long ((x) ||| ((0 : Int64)))), (5, .int (lc_i (f fr))), (6, .int (lc_i ((k : Int) + 1))), (7, .int (lc_i ((k : Int) / 2 / 24))), (8, .int (lc_i ((((k : Int)) / (2)) % (24)))), (9, .int (lc_i (lc_go (f) ((k : Int) / 2) (1))))]) dX11_targets_112 5 rfl (by decide) rfl ?_
                  refine lc_goto (tgt := 13) dX11_targets_115 (by decide) ?_
                  refine lc_pick (lv' := [(0, .ref (50)), (1, .ref (a)), (2, .int (lc_i (fr))), (3, .long ((x) ||| ((0 : Int64)))), (5, .int (lc_i (f fr))), (6, .int (lc_i ((k : Int) + 1)))]) [0, 1, 2, 3, 4, 5] rfl ?_
                  refine lc_lveq (lv' := [(0, .ref (50)), (1, .ref (a)), (2, .int (lc_i (fr))), (3, .long ((x) ||| ((0 : Int64)))), (5, .int (lc_i (f fr))), (6, .int (lc_i (((k + 1 : Nat) : Int))))]) (by rw [show ((k + 1 : Nat) : Int) = (k : Int) + 1 from by omega]) ?_
                  exact ih3 (k + 1) ((x) ||| ((0 : Int64))) (lc_Lo (f) ((k : Int) / 2) (1)) (lc_Kp (f) ((k : Int) / 2) (1)) σ31 h28 (fun i _ => ((fr27 i (by omega)).trans (fr6 i (by omega)))) (by omega) (lc_bs_ext (lc_bs_id hx) (fun j _ _ => lc_tgr_0 (fun h9 => by have h8 := (of_decide_eq_true h9).2.2.1; rw [show lc_dk k = 1 from if_pos (by omega)] at h8; exact h_99_34 h8))) (fun h9 => by omega) (by omega)
                · skip
                  refine lc_lconst (x := 1) dX11_targets_102 (by decide) ?_
                  refine lc_iload dX11_targets_103 8 rfl ?_
                  refine lc_lshl dX11_targets_105 rfl ?_
                  refine lc_goto (tgt := 110) dX11_targets_106 (by decide) ?_
                  refine lc_lor dX11_targets_110 ?_
                  refine lc_lstore_n (lv' := [(0, .ref (50)), (1, .ref (a)), (2, .int (lc_i (fr))), (3, .long ((x) ||| (((1 : Int64)) <<< ((lc_i (lc_go (f) ((k : Int) / 2) (1))).toInt64 &&& 63)))), (5, .int (lc_i (f fr))), (6, .int (lc_i ((k : Int)))), (7, .int (lc_i ((k : Int) / 2 / 24))), (8, .int (lc_i ((((k : Int)) / (2)) % (24)))), (9, .int (lc_i (lc_go (f) ((k : Int) / 2) (1))))]) dX11_targets_111 rfl (by decide) rfl ?_
                  refine lc_iinc (lv' := [(0, .ref (50)), (1, .ref (a)), (2, .int (lc_i (fr))), (3, .long ((x) ||| (((1 : Int64)) <<< ((lc_i (lc_go (f) ((k : Int) / 2) (1))).toInt64 &&& 63)))), (5, .int (lc_i (f fr))), (6, .int (lc_i ((k : Int) + 1))), (7, .int (lc_i ((k : Int) / 2 / 24))), (8, .int (lc_i ((((k : Int)) / (2)) % (24)))), (9, .int (lc_i (lc_go (f) ((k : Int) / 2) (1))))]) dX11_targets_112 5 rfl (by decide) rfl ?_
                  refine lc_goto (tgt := 13) dX11_targets_115 (by decide) ?_
                  refine lc_pick (lv' := [(0, .ref (50)), (1, .ref (a)), (2, .int (lc_i (fr))), (3, .long ((x) ||| (((1 : Int64)) <<< ((lc_i (lc_go (f) ((k : Int) / 2) (1))).toInt64 &&& 63)))), (5, .int (lc_i (f fr))), (6, .int (lc_i ((k : Int) + 1)))]) [0, 1, 2, 3, 4, 5] rfl ?_
                  refine lc_lveq (lv' := [(0, .ref (50)), (1, .ref (a)), (2, .int (lc_i (fr))), (3, .long ((x) ||| (((1 : Int64)) <<< ((lc_i (lc_go (f) ((k : Int) / 2) (1))).toInt64 &&& 63)))), (5, .int (lc_i (f fr))), (6, .int (lc_i (((k + 1 : Nat) : Int))))]) (by rw [show ((k + 1 : Nat) : Int) = (k : Int) + 1 from by omega]) ?_
                  exact ih3 (k + 1) ((x) ||| (((1 : Int64)) <<< ((lc_i (lc_go (f) ((k : Int) / 2) (1))).toInt64 &&& 63))) (lc_Lo (f) ((k : Int) / 2) (1)) (lc_Kp (f) ((k : Int) / 2) (1)) σ31 h28 (fun i _ => ((fr27 i (by omega)).trans (fr6 i (by omega)))) (by omega) (lc_bs_ext (lc_bs_or hx (by omega)) (fun j _ _ => lc_tgr_1 (d := 1) (show lc_dk k = 1 from if_pos (by omega)).symm h_49_14 h_85_33 h_99_34)) (fun h9 => by omega) (by omega)
  exact loop2 1000 (0) ((0 : Int64)) (w1) (w2) σ h0_0 (fun _ _ => rfl) (by omega) (lc_bs_0) (fun _ => rfl) (by omega)
