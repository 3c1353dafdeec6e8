/-! looking ahead -/
theorem lc_rm {j k nL : Nat} (h : j + 1 ≤ k) (hn : nL ≤ 41) : (lc_Rd j).frames + 1 ≤ (lc_Rd k).frames ∧ 8 + (nL + 11) + (lc_Rd j).locals ≤ (lc_Rd k).locals := by
  show j + 1 ≤ k ∧ 8 + (nL + 11) + 60 * j ≤ 60 * k
  omega
def lc_wth (f : Int → Int) (s : Int) : Int := if s = 1 then lc_cnt f 1 36 - lc_cnt f 2 36 else lc_cnt f 2 36 - lc_cnt f 1 36
def lc_mf (f : Int → Int) (s mv : Int) : Int → Int := lc_u (lc_u f (mv % 100) s) (mv / 100) 0
def lc_mq (f : Int → Int) (q mv : Int) : Int := if f (mv % 100) = 0 then q + 1 else 0
def lc_st (V : (Int → Int) → Int → Int → Int) (f : Int → Int) (s q : Int) (a : Int × Int) (mv : Int) : Int × Int := if a.1 < -(V (lc_mf f s mv) (3 - s) (lc_mq f q mv)) then (-(V (lc_mf f s mv) (3 - s) (lc_mq f q mv)), mv) else a
def lc_sv (m : Int) : Nat → (Int → Int) → Int → Int → Int × Int
  | 0, f, s, _ => (lc_wth f s, -1)
  | d + 1, f, s, q => (if ((lc_mv f s q m).foldl (lc_st (fun f s q => (lc_sv m d f s q).1) f s q) (-1000, -1)).2 = -1 then lc_wth f s else ((lc_mv f s q m).foldl (lc_st (fun f s q => (lc_sv m d f s q).1) f s q) (-1000, -1)).1, ((lc_mv f s q m).foldl (lc_st (fun f s q => (lc_sv m d f s q).1) f s q) (-1000, -1)).2)
def lc_fd (m : Int) (d : Nat) (f : Int → Int) (s q : Int) (k : Nat) : Int × Int := ((lc_mv f s q m).take k).foldl (lc_st (fun f s q => (lc_sv m d f s q).1) f s q) (-1000, -1)
theorem lc_sv_s {m : Int} {d : Nat} {f : Int → Int} {s q : Int} {k : Nat} (hk : (lc_mv f s q m).length ≤ k) : lc_sv m (d + 1) f s q = (if (lc_fd m d f s q k).2 = -1 then lc_wth f s else (lc_fd m d f s q k).1, (lc_fd m d f s q k).2) := by
  unfold lc_fd
  rw [List.take_of_length_le hk]
  rfl
theorem lc_fd_s {m : Int} {d : Nat} {f : Int → Int} {s q : Int} {k : Nat} (hk : k < (lc_mv f s q m).length) : lc_fd m d f s q (k + 1) = lc_st (fun f s q => (lc_sv m d f s q).1) f s q (lc_fd m d f s q k) ((lc_mv f s q m).getD k 0) := by
  unfold lc_fd
  rw [List.take_add_one, List.foldl_append, List.getElem?_eq_getElem hk, List.getD_eq_getElem?_getD, List.getElem?_eq_getElem hk]
  rfl
theorem lc_fd_t {m : Int} {d : Nat} {f : Int → Int} {s q mv : Int} {k : Nat} (hk : k < (lc_mv f s q m).length) (hm : mv = (lc_mv f s q m).getD k 0) (h : (lc_fd m d f s q k).1 < -(lc_sv m d (lc_mf f s mv) (3 - s) (lc_mq f q mv)).1) : lc_fd m d f s q (k + 1) = (-(lc_sv m d (lc_mf f s mv) (3 - s) (lc_mq f q mv)).1, mv) := by
  rw [lc_fd_s hk, ← hm]
  unfold lc_st
  rw [if_pos h]
theorem lc_fd_n {m : Int} {d : Nat} {f : Int → Int} {s q mv : Int} {k : Nat} (hk : k < (lc_mv f s q m).length) (hm : mv = (lc_mv f s q m).getD k 0) (h : -(lc_sv m d (lc_mf f s mv) (3 - s) (lc_mq f q mv)).1 ≤ (lc_fd m d f s q k).1) : lc_fd m d f s q (k + 1) = lc_fd m d f s q k := by
  rw [lc_fd_s hk, ← hm]
  unfold lc_st
  rw [if_neg (show ¬ ((lc_fd m d f s q k).1 < -(lc_sv m d (lc_mf f s mv) (3 - s) (lc_mq f q mv)).1) by omega)]
theorem lc_mv_mem {f : Int → Int} {s q m mv : Int} (hs : 1 ≤ s) (h : mv ∈ lc_mv f s q m) : ((0 ≤ mv / 100 ∧ mv / 100 < 36) ∧ (0 ≤ mv % 100 ∧ mv % 100 < 36)) ∧ f (mv / 100) = s ∧ mv / 100 ≠ mv % 100 ∧ lc_res (lc_cnt f 1 36) (lc_cnt f 2 36) q m = 0 := by
  unfold lc_mv at h
  by_cases hr : lc_res (lc_cnt f 1 36) (lc_cnt f 2 36) q m = 0
  · rw [if_pos hr] at h
    rcases List.mem_append.mp h with h1 | h1
    · obtain ⟨fr, to, h2, h3, h4, rfl⟩ := lc_aal_mem.mp h1
      obtain ⟨h5, h6⟩ := lc_PC_iff.mp h4
      have h7 := lc_cap_iff.mp h6
      have e1 : (fr * 100 + to) / 100 = fr := by omega
      have e2 : (fr * 100 + to) % 100 = to := by omega
      rw [e1, e2]
      exact ⟨⟨h2, h3⟩, h5, fun e => h7.1.2 (by rw [e]), hr⟩
    · obtain ⟨fr, to, h2, h3, h4, rfl⟩ := lc_aal_mem.mp h1
      obtain ⟨h5, h6⟩ := lc_PQ_iff.mp h4
      have h7 := lc_step_iff.mp h6
      have e1 : (fr * 100 + to) / 100 = fr := by omega
      have e2 : (fr * 100 + to) % 100 = to := by omega
      rw [e1, e2]
      exact ⟨⟨h2, h3⟩, h5, fun e => by rw [e] at h5; omega, hr⟩
  · rw [if_neg hr] at h
    exact absurd h List.not_mem_nil
theorem lc_getD_mem {L : List Int} {k : Nat} (hk : k < L.length) : L.getD k 0 ∈ L := by
  rw [List.getD_eq_getElem?_getD, List.getElem?_eq_getElem hk]
  exact List.getElem_mem hk
theorem lc_mf_ok {f : Int → Int} {s mv : Int} (hf : ∀ j : Int, 0 ≤ j → j < 36 → 0 ≤ f j ∧ f j ≤ 2) (hs : 1 ≤ s ∧ s ≤ 2) : ∀ j : Int, 0 ≤ j → j < 36 → 0 ≤ lc_mf f s mv j ∧ lc_mf f s mv j ≤ 2 := by
  intro j h1 h2
  have h3 := hf j h1 h2
  unfold lc_mf lc_u
  (repeat' split) <;> omega
theorem lc_wth_r (f : Int → Int) (s : Int) : -36 ≤ lc_wth f s ∧ lc_wth f s ≤ 36 := by
  have h1 := lc_cnt_r f 1 36
  have h2 := lc_cnt_r f 2 36
  unfold lc_wth
  split <;> omega
theorem lc_mv_r {f : Int → Int} {s q m mv : Int} (h : mv ∈ lc_mv f s q m) : 0 ≤ mv ∧ mv < 3600 := by
  unfold lc_mv at h
  by_cases hr : lc_res (lc_cnt f 1 36) (lc_cnt f 2 36) q m = 0
  · rw [if_pos hr] at h
    rcases List.mem_append.mp h with h1 | h1
    · obtain ⟨fr, to, h2, h3, -, rfl⟩ := lc_aal_mem.mp h1
      omega
    · obtain ⟨fr, to, h2, h3, -, rfl⟩ := lc_aal_mem.mp h1
      omega
  · rw [if_neg hr] at h
    exact absurd h List.not_mem_nil
theorem lc_fold_r {V : (Int → Int) → Int → Int → Int} {f : Int → Int} {s q : Int} (hV : ∀ f s q, -36 ≤ V f s q ∧ V f s q ≤ 36) : ∀ (L : List Int) (a : Int × Int), (∀ mv ∈ L, 0 ≤ mv ∧ mv < 3600) → ((-1000 ≤ a.1 ∧ a.1 ≤ 36) ∧ (-1 ≤ a.2 ∧ a.2 < 3600) ∧ (a.2 = -1 ∨ -36 ≤ a.1)) → ((-1000 ≤ (L.foldl (lc_st V f s q) a).1 ∧ (L.foldl (lc_st V f s q) a).1 ≤ 36) ∧ (-1 ≤ (L.foldl (lc_st V f s q) a).2 ∧ (L.foldl (lc_st V f s q) a).2 < 3600) ∧ ((L.foldl (lc_st V f s q) a).2 = -1 ∨ -36 ≤ (L.foldl (lc_st V f s q) a).1))
  | [], _, _, h => h
  | x :: r, a, hL, h => by
    refine lc_fold_r hV r (lc_st V f s q a x) (fun mv hm => hL mv (List.mem_cons_of_mem _ hm)) ?_
    have h1 := hL x List.mem_cons_self
    have h2 := hV (lc_mf f s x) (3 - s) (lc_mq f q x)
    unfold lc_st
    split
    · exact ⟨by show -1000 ≤ -(V _ _ _) ∧ -(V _ _ _) ≤ 36; omega, by show -1 ≤ x ∧ x < 3600; omega, Or.inr (by show -36 ≤ -(V _ _ _); omega)⟩
    · exact h
theorem lc_sv_r (m : Int) : ∀ (d : Nat) (f : Int → Int) (s q : Int), -36 ≤ (lc_sv m d f s q).1 ∧ (lc_sv m d f s q).1 ≤ 36
  | 0, f, s, q => lc_wth_r f s
  | d + 1, f, s, q => by
    have h := lc_fold_r (V := fun f s q => (lc_sv m d f s q).1) (f := f) (s := s) (q := q) (lc_sv_r m d) (lc_mv f s q m) (-1000, -1) (fun mv hm => lc_mv_r hm) ⟨by decide, by decide, Or.inl rfl⟩
    have w := lc_wth_r f s
    show -36 ≤ (if ((lc_mv f s q m).foldl (lc_st (fun f s q => (lc_sv m d f s q).1) f s q) (-1000, -1)).2 = -1 then lc_wth f s else ((lc_mv f s q m).foldl (lc_st (fun f s q => (lc_sv m d f s q).1) f s q) (-1000, -1)).1) ∧ (if ((lc_mv f s q m).foldl (lc_st (fun f s q => (lc_sv m d f s q).1) f s q) (-1000, -1)).2 = -1 then lc_wth f s else ((lc_mv f s q m).foldl (lc_st (fun f s q => (lc_sv m d f s q).1) f s q) (-1000, -1)).1) ≤ 36
    split
    · exact w
    · omega
theorem lc_fd_r (m : Int) (d : Nat) (f : Int → Int) (s q : Int) (k : Nat) : (-1000 ≤ (lc_fd m d f s q k).1 ∧ (lc_fd m d f s q k).1 ≤ 36) ∧ (-1 ≤ (lc_fd m d f s q k).2 ∧ (lc_fd m d f s q k).2 < 3600) := by
  have h := lc_fold_r (V := fun f s q => (lc_sv m d f s q).1) (f := f) (s := s) (q := q) (lc_sv_r m d) ((lc_mv f s q m).take k) (-1000, -1) (fun mv hm => lc_mv_r (List.mem_of_mem_take hm)) ⟨by decide, by decide, Or.inl rfl⟩
  exact ⟨h.1, h.2.1⟩
theorem lc_back {f : Int → Int} {s x y : Int} (h1 : f x = s) (h2 : x ≠ y) : lc_u (lc_u (lc_u (lc_u f y s) x 0) x (3 - (3 - s))) y (f y) = f := by
  funext j
  by_cases e1 : j = y
  · rw [e1, lc_u_s]
  · rw [lc_u_n _ _ e1]
    by_cases e2 : j = x
    · rw [e2, lc_u_s]; omega
    · rw [lc_u_n _ _ e2, lc_u_n _ _ e2, lc_u_n _ _ e1]

set_option maxRecDepth 100000 in
set_option maxHeartbeats 4000000 in
theorem lc_cX3_search_0 (l : Launch) (n : Nat) (k0 : Nat) (ch a1 a2 a3 : Int) (f : Int → Int) (s q m : Int) (σ : lc_S) (h0_0 : σ (11) = some (.inr (3, [.ref (7), .ref (12), .ref (14), .ref (16), .int (lc_i (ch))]) : lc_Cel)) (h0_1 : σ (7) = some (.inr (6, [.ref (2), .ref (8), .ref (5)]) : lc_Cel)) (h0_2 : σ (2) = some (.inr (1, [.ref (3), .ref (4)]) : lc_Cel)) (h0_3 : σ (3) = some (lc_aI 48 (lc_pt))) (h0_4 : σ (4) = some (lc_aI 72 (lc_sp))) (h0_5 : σ (8) = some (.inr (8, [.ref (2), .int (lc_i (a1)), .int (lc_i (a2)), .int (lc_i (a3))]) : lc_Cel)) (h0_6 : σ (12) = some (.inr (0, [.ref (13), .int (lc_i (lc_cnt (f) 1 36)), .int (lc_i (lc_cnt (f) 2 36)), .int (lc_i (s)), .int (lc_i (q)), .int (lc_i (m))]) : lc_Cel)) (h0_7 : σ (13) = some (lc_aI 36 (f))) (hk0 : 4 ≤ k0) (hs : 1 ≤ s ∧ s ≤ 2) : lc_Con l yX3_search cX3_search 9 (some .int) (lc_Rd k0) [.ref (11), .int (lc_i (0))] n σ (fun v n2 σ2 => v = some (.int (lc_i ((lc_sv m 0 f s q).1))) ∧ n = n2 ∧ σ = σ2) := by
  refine lc_con RX3 false (by decide) rfl (fun h => absurd h (by decide)) (Nat.le_of_ble_eq_true rfl) ?_
  suffices H : ∀ Q : lc_QT, (∀ v n2 σ2, (fun v n2 σ2 => v = some (.int (lc_i ((lc_sv m 0 f s q).1))) ∧ n = n2 ∧ σ = σ2 : lc_QT) v n2 σ2 → Q v n2 σ2) → lc_V l RX3 cX3_search 9 (some .int) false (lc_Rd k0) (lc_G Q 0 0) lc_E0 0 0 n 0 [(0, .ref (11)), (1, .int (lc_i (0)))] [] σ from H _ (fun _ _ _ h => h)
  intro Q hQ
  refine lc_iload_n dX3_search_0 rfl 1 rfl ?_
  refine lc_if_le (tgt := 9) dX3_search_1 (by decide) (by omega) (fun h_1_0 => ?_) (fun h_1_0 => ?_)
  · skip
    refine lc_aload_n dX3_search_9 rfl 0 rfl ?_
    refine lc_get dX3_search_10 lc_fX3_12 h0_0 rfl ?_
    refine lc_callV (As := []) (stk := []) (b := 12) dX3_search_13 lc_mX3_44 lc_yX0_worth h0_6 rfl (lc_cX0_worth l n (12) (f) (lc_cnt (f) 1 36) (lc_cnt (f) 2 36) (s) (q) (m) σ h0_6 (by omega)) rfl (lc_rm (by omega) (by decide)) ⟨Nat.le_of_ble_eq_true rfl, Nat.le_of_ble_eq_true rfl⟩ rfl (Nat.le_of_ble_eq_true rfl) (fun v2 n3 σ4 q5 => ?_)
    obtain ⟨rfl, rfl, rfl⟩ := q5
    exact lc_iret dX3_search_16 rfl (Nat.le_of_ble_eq_true rfl) (Nat.le_of_ble_eq_true rfl) (hQ _ _ _ ⟨lc_some (rfl), rfl, rfl⟩)
  · exact absurd h_1_0 (by decide)

set_option maxRecDepth 100000 in
set_option maxHeartbeats 4000000 in
/-- Lookahead.searchBehind, depth 0 -/
theorem lc_cX3_searchBehind_0 (l : Launch) (n : Nat) (k0 : Nat) (ch a1 a2 a3 : Int) (f : Int → Int) (s q m : Int) (mv : Int) (σ : lc_S) (h0_0 : σ (11) = some (.inr (3, [.ref (7), .ref (12), .ref (14), .ref (16), .int (lc_i (ch))]) : lc_Cel)) (h0_1 : σ (7) = some (.inr (6, [.ref (2), .ref (8), .ref (5)]) : lc_Cel)) (h0_2 : σ (2) = some (.inr (1, [.ref (3), .ref (4)]) : lc_Cel)) (h0_3 : σ (3) = some (lc_aI 48 (lc_pt))) (h0_4 : σ (4) = some (lc_aI 72 (lc_sp))) (h0_5 : σ (8) = some (.inr (8, [.ref (2), .int (lc_i (a1)), .int (lc_i (a2)), .int (lc_i (a3))]) : lc_Cel)) (h0_6 : σ (12) = some (.inr (0, [.ref (13), .int (lc_i (lc_cnt (f) 1 36)), .int (lc_i (lc_cnt (f) 2 36)), .int (lc_i (s)), .int (lc_i (q)), .int (lc_i (m))]) : lc_Cel)) (h0_7 : σ (13) = some (lc_aI 36 (f))) (hk0 : 5 ≤ k0) (hf : ∀ j : Int, 0 ≤ j → j < 36 → 0 ≤ f j ∧ f j ≤ 2) (hs : 1 ≤ s ∧ s ≤ 2) (hq : 0 ≤ q ∧ q ≤ 1001) (hm : 0 ≤ m ∧ m ≤ 1000) (hmr : 0 ≤ mv ∧ mv < 3600) (hmm : ((0 ≤ mv / 100 ∧ mv / 100 < 36) ∧ (0 ≤ mv % 100 ∧ mv % 100 < 36)) ∧ f (mv / 100) = s ∧ mv / 100 ≠ mv % 100) : lc_Con l yX3_searchBehind cX3_searchBehind 8 (some .int) (lc_Rd k0) [.ref (11), .int (lc_i (mv)), .int (lc_i (0))] n σ (fun v n2 σ2 => v = some (.int (lc_i ((lc_sv m 0 (lc_mf f s mv) (3 - s) (lc_mq f q mv)).1))) ∧ n = n2 ∧ σ2 (12) = some (.inr (0, [.ref (13), .int (lc_i (lc_cnt (f) 1 36)), .int (lc_i (lc_cnt (f) 2 36)), .int (lc_i (s)), .int (lc_i (q)), .int (lc_i (m))]) : lc_Cel) ∧ σ2 (13) = some (lc_aI 36 (f)) ∧ ∀ i : Nat, i ≠ 12 → i ≠ 13 → σ2 i = σ i) := by
  refine lc_con RX3 false (by decide) rfl (fun h => absurd h (by decide)) (Nat.le_of_ble_eq_true rfl) ?_
  suffices H : ∀ Q : lc_QT, (∀ v n2 σ2, (fun v n2 σ2 => v = some (.int (lc_i ((lc_sv m 0 (lc_mf f s mv) (3 - s) (lc_mq f q mv)).1))) ∧ n = n2 ∧ σ2 (12) = some (.inr (0, [.ref (13), .int (lc_i (lc_cnt (f) 1 36)), .int (lc_i (lc_cnt (f) 2 36)), .int (lc_i (s)), .int (lc_i (q)), .int (lc_i (m))]) : lc_Cel) ∧ σ2 (13) = some (lc_aI 36 (f)) ∧ ∀ i : Nat, i ≠ 12 → i ≠ 13 → σ2 i = σ i : lc_QT) v n2 σ2 → Q v n2 σ2) → lc_V l RX3 cX3_searchBehind 8 (some .int) false (lc_Rd k0) (lc_G Q 0 0) lc_E0 0 0 n 0 [(0, .ref (11)), (1, .int (lc_i (mv))), (2, .int (lc_i (0)))] [] σ from H _ (fun _ _ _ h => h)
  intro Q hQ
  have hfm := lc_mf_ok (mv := mv) hf hs
  have hft := hf (mv % 100) hmm.1.2.1 hmm.1.2.2
  have hmq : 0 ≤ lc_mq f q mv ∧ lc_mq f q mv ≤ q + 1 := (by unfold lc_mq; split <;> omega)
  refine lc_iload_n dX3_searchBehind_0 rfl 1 rfl ?_
  refine lc_bipush dX3_searchBehind_1 (by decide) ?_
  refine lc_idiv dX3_searchBehind_3 (by omega) ?_
  refine lc_top (congrArg (fun z => Value.int (lc_i z)) (show ((mv) / (100) : Int) = mv / 100 from rfl)) ?_
  refine lc_istore_n (lv' := [(0, .ref (11)), (1, .int (lc_i (mv))), (2, .int (lc_i (0))), (3, .int (lc_i (mv / 100)))]) dX3_searchBehind_4 rfl (by decide) rfl ?_
  refine lc_iload_n dX3_searchBehind_5 rfl 1 rfl ?_
  refine lc_bipush dX3_searchBehind_6 (by decide) ?_
  refine lc_irem dX3_searchBehind_8 (by omega) ?_
  refine lc_top (congrArg (fun z => Value.int (lc_i z)) (show ((mv) % (100) : Int) = mv % 100 from rfl)) ?_
  refine lc_istore (lv' := [(0, .ref (11)), (1, .int (lc_i (mv))), (2, .int (lc_i (0))), (3, .int (lc_i (mv / 100))), (4, .int (lc_i (mv % 100)))]) dX3_searchBehind_9 (by decide) rfl ?_
  refine lc_aload_n dX3_searchBehind_11 rfl 0 rfl ?_
  refine lc_get dX3_searchBehind_12 lc_fX3_12 h0_0 rfl ?_
  refine lc_callV (As := []) (stk := []) (b := 12) dX3_searchBehind_15 lc_mX3_64 lc_yX0_quietMoves h0_6 rfl (lc_cX0_quietMoves l n (12) (f) (lc_cnt (f) 1 36) (lc_cnt (f) 2 36) (s) (q) (m) σ h0_6) rfl (lc_rm (by omega) (by decide)) ⟨Nat.le_of_ble_eq_true rfl, Nat.le_of_ble_eq_true rfl⟩ rfl (Nat.le_of_ble_eq_true rfl) (fun v1 n2 σ3 q4 => ?_)
  obtain ⟨rfl, rfl, rfl⟩ := q4
  refine lc_istore (lv' := [(0, .ref (11)), (1, .int (lc_i (mv))), (2, .int (lc_i (0))), (3, .int (lc_i (mv / 100))), (4, .int (lc_i (mv % 100))), (5, .int (lc_i (q)))]) dX3_searchBehind_18 (by decide) rfl ?_
  refine lc_aload_n dX3_searchBehind_20 rfl 0 rfl ?_
  refine lc_get dX3_searchBehind_21 lc_fX3_12 h0_0 rfl ?_
  refine lc_iload_n dX3_searchBehind_24 rfl 3 rfl ?_
  refine lc_iload dX3_searchBehind_25 4 rfl ?_
  refine lc_callV (As := [.int (lc_i (mv / 100)), .int (lc_i (mv % 100))]) (stk := []) (b := 12) dX3_searchBehind_27 lc_mX3_67 lc_yX0_make h0_6 rfl (lc_cX0_make l n (12) (f) (s) (q) (m) (mv / 100) (mv % 100) σ h0_6 h0_7 (hf) (hs) (by omega)) rfl (lc_rm (by omega) (by decide)) ⟨Nat.le_of_ble_eq_true rfl, Nat.le_of_ble_eq_true rfl⟩ rfl (Nat.le_of_ble_eq_true rfl) (fun v8 n9 σ10 q11 => ?_)
  obtain ⟨rfl, rfl, h6, h7, fr5⟩ := q11
  have h12 : σ10 (11) = some (.inr (3, [.ref (7), .ref (12), .ref (14), .ref (16), .int (lc_i (ch))]) : lc_Cel) := (fr5 _ (by omega) (by omega)).trans h0_0
  have h13 : σ10 (7) = some (.inr (6, [.ref (2), .ref (8), .ref (5)]) : lc_Cel) := (fr5 _ (by omega) (by omega)).trans h0_1
  have h14 : σ10 (2) = some (.inr (1, [.ref (3), .ref (4)]) : lc_Cel) := (fr5 _ (by omega) (by omega)).trans h0_2
  have h15 : σ10 (3) = some (lc_aI 48 (lc_pt)) := (fr5 _ (by omega) (by omega)).trans h0_3
  have h16 : σ10 (4) = some (lc_aI 72 (lc_sp)) := (fr5 _ (by omega) (by omega)).trans h0_4
  have h17 : σ10 (8) = some (.inr (8, [.ref (2), .int (lc_i (a1)), .int (lc_i (a2)), .int (lc_i (a3))]) : lc_Cel) := (fr5 _ (by omega) (by omega)).trans h0_5
  refine lc_istore (lv' := [(0, .ref (11)), (1, .int (lc_i (mv))), (2, .int (lc_i (0))), (3, .int (lc_i (mv / 100))), (4, .int (lc_i (mv % 100))), (5, .int (lc_i (q))), (6, .int (lc_i ((f) (mv % 100))))]) dX3_searchBehind_30 (by decide) rfl ?_
  have h18 : σ10 (12) = some (.inr (0, [.ref (13), .int (lc_i (lc_cnt (lc_mf f s mv) 1 36)), .int (lc_i (lc_cnt (lc_mf f s mv) 2 36)), .int (lc_i (3 - s)), .int (lc_i (lc_mq f q mv)), .int (lc_i (m))]) : lc_Cel) := h6
  have h19 : σ10 (13) = some (lc_aI 36 (lc_mf f s mv)) := h7
  refine lc_aload_n dX3_searchBehind_32 rfl 0 rfl ?_
  refine lc_iload_n dX3_searchBehind_33 rfl 2 rfl ?_
  refine lc_callV (As := [.int (lc_i (0))]) (stk := []) (b := 11) dX3_searchBehind_34 lc_mX3_36 lc_yX3_search h12 rfl (lc_cX3_search_0 l n (k0 - 1) (ch) (a1) (a2) (a3) (lc_mf f s mv) (3 - s) (lc_mq f q mv) (m) σ10 h12 h13 h14 h15 h16 h17 h18 h19 (by omega) (by omega)) rfl (lc_rm (by omega) (by decide)) ⟨Nat.le_of_ble_eq_true rfl, Nat.le_of_ble_eq_true rfl⟩ rfl (Nat.le_of_ble_eq_true rfl) (fun v20 n21 σ22 q23 => ?_)
  obtain ⟨rfl, rfl, rfl⟩ := q23
  refine lc_istore (lv' := [(0, .ref (11)), (1, .int (lc_i (mv))), (2, .int (lc_i (0))), (3, .int (lc_i (mv / 100))), (4, .int (lc_i (mv % 100))), (5, .int (lc_i (q))), (6, .int (lc_i ((f) (mv % 100)))), (7, .int (lc_i ((lc_sv m 0 (lc_mf f s mv) (3 - s) (lc_mq f q mv)).1)))]) dX3_searchBehind_37 (by decide) rfl ?_
  refine lc_aload_n dX3_searchBehind_39 rfl 0 rfl ?_
  refine lc_get dX3_searchBehind_40 lc_fX3_12 h12 rfl ?_
  refine lc_iload_n dX3_searchBehind_43 rfl 3 rfl ?_
  refine lc_iload dX3_searchBehind_44 4 rfl ?_
  refine lc_iload dX3_searchBehind_46 6 rfl ?_
  refine lc_iload dX3_searchBehind_48 5 rfl ?_
  refine lc_callV (As := [.int (lc_i (mv / 100)), .int (lc_i (mv % 100)), .int (lc_i ((f) (mv % 100))), .int (lc_i (q))]) (stk := []) (b := 12) dX3_searchBehind_50 lc_mX3_70 lc_yX0_takeBack h18 rfl (lc_cX0_takeBack l n (12) (lc_mf f s mv) (3 - s) (lc_mq f q mv) (m) (mv / 100) (mv % 100) ((f) (mv % 100)) (q) σ10 h18 h19 (hfm) (by omega) (by omega) (by omega)) rfl (lc_rm (by omega) (by decide)) ⟨Nat.le_of_ble_eq_true rfl, Nat.le_of_ble_eq_true rfl⟩ rfl (Nat.le_of_ble_eq_true rfl) (fun v27 n28 σ29 q30 => ?_)
  obtain ⟨rfl, rfl, h25, h26, fr24⟩ := q30
  have h31 : σ29 (11) = some (.inr (3, [.ref (7), .ref (12), .ref (14), .ref (16), .int (lc_i (ch))]) : lc_Cel) := (fr24 _ (by omega) (by omega)).trans h12
  have h32 : σ29 (7) = some (.inr (6, [.ref (2), .ref (8), .ref (5)]) : lc_Cel) := (fr24 _ (by omega) (by omega)).trans h13
  have h33 : σ29 (2) = some (.inr (1, [.ref (3), .ref (4)]) : lc_Cel) := (fr24 _ (by omega) (by omega)).trans h14
  have h34 : σ29 (3) = some (lc_aI 48 (lc_pt)) := (fr24 _ (by omega) (by omega)).trans h15
  have h35 : σ29 (4) = some (lc_aI 72 (lc_sp)) := (fr24 _ (by omega) (by omega)).trans h16
  have h36 : σ29 (8) = some (.inr (8, [.ref (2), .int (lc_i (a1)), .int (lc_i (a2)), .int (lc_i (a3))]) : lc_Cel) := (fr24 _ (by omega) (by omega)).trans h17
  have eR := lc_back hmm.2.1 hmm.2.2
  have eS : 3 - (3 - s) = s := (by omega)
  have h37 : σ29 (12) = some (.inr (0, [.ref (13), .int (lc_i (lc_cnt (f) 1 36)), .int (lc_i (lc_cnt (f) 2 36)), .int (lc_i (s)), .int (lc_i (q)), .int (lc_i (m))]) : lc_Cel) := (by have h9 := h25; rw [show lc_mf f s mv = lc_u (lc_u f (mv % 100) s) (mv / 100) 0 from rfl, eR, eS] at h9; exact h9)
  have h38 : σ29 (13) = some (lc_aI 36 (f)) := (by have h9 := h26; rw [show lc_mf f s mv = lc_u (lc_u f (mv % 100) s) (mv / 100) 0 from rfl, eR] at h9; exact h9)
  refine lc_iload dX3_searchBehind_53 7 rfl ?_
  exact lc_iret dX3_searchBehind_55 rfl (Nat.le_of_ble_eq_true rfl) (Nat.le_of_ble_eq_true rfl) (hQ _ _ _ ⟨rfl, rfl, h37, h38, (fun i _ _ => ((fr24 i (by omega) (by omega)).trans (fr5 i (by omega) (by omega))))⟩)

set_option maxRecDepth 100000 in
set_option maxHeartbeats 4000000 in
/-- Lookahead.search, depth 1 -/
theorem lc_cX3_search_1 (l : Launch) (n : Nat) (k0 : Nat) (ch a1 a2 a3 : Int) (f : Int → Int) (s q m : Int) (y1 y2 : Int) (g1 : Int → Int) (σ : lc_S) (h0_0 : σ (11) = some (.inr (3, [.ref (7), .ref (12), .ref (14), .ref (16), .int (lc_i (ch))]) : lc_Cel)) (h0_1 : σ (7) = some (.inr (6, [.ref (2), .ref (8), .ref (5)]) : lc_Cel)) (h0_2 : σ (2) = some (.inr (1, [.ref (3), .ref (4)]) : lc_Cel)) (h0_3 : σ (3) = some (lc_aI 48 (lc_pt))) (h0_4 : σ (4) = some (lc_aI 72 (lc_sp))) (h0_5 : σ (8) = some (.inr (8, [.ref (2), .int (lc_i (a1)), .int (lc_i (a2)), .int (lc_i (a3))]) : lc_Cel)) (h0_6 : σ (12) = some (.inr (0, [.ref (13), .int (lc_i (lc_cnt (f) 1 36)), .int (lc_i (lc_cnt (f) 2 36)), .int (lc_i (s)), .int (lc_i (q)), .int (lc_i (m))]) : lc_Cel)) (h0_7 : σ (13) = some (lc_aI 36 (f))) (h0_8 : σ (14) = some (.inr (4, [.ref (15), .int (lc_i (y1)), .int (lc_i (y2))]) : lc_Cel)) (h0_9 : σ (15) = some (lc_aI 364 (g1))) (hk0 : 6 ≤ k0) (hf : ∀ j : Int, 0 ≤ j → j < 36 → 0 ≤ f j ∧ f j ≤ 2) (hs : 1 ≤ s ∧ s ≤ 2) (hq : 0 ≤ q ∧ q ≤ 1001) (hm : 0 ≤ m ∧ m ≤ 1000) : lc_Con l yX3_search cX3_search 9 (some .int) (lc_Rd k0) [.ref (11), .int (lc_i (1))] n σ (fun v n2 σ2 => ∃ (c1 c2 c3 z1 z2 : Int) (g3 : Int → Int), v = some (.int (lc_i ((lc_sv m 1 f s q).1))) ∧ n = n2 ∧ σ2 (8) = some (.inr (8, [.ref (2), .int (lc_i (c1)), .int (lc_i (c2)), .int (lc_i (c3))]) : lc_Cel) ∧ σ2 (11) = some (.inr (3, [.ref (7), .ref (12), .ref (14), .ref (16), .int (lc_i ((lc_sv m 1 f s q).2))]) : lc_Cel) ∧ σ2 (12) = some (.inr (0, [.ref (13), .int (lc_i (lc_cnt (f) 1 36)), .int (lc_i (lc_cnt (f) 2 36)), .int (lc_i (s)), .int (lc_i (q)), .int (lc_i (m))]) : lc_Cel) ∧ σ2 (13) = some (lc_aI 36 (f)) ∧ σ2 (14) = some (.inr (4, [.ref (15), .int (lc_i (z1)), .int (lc_i (z2))]) : lc_Cel) ∧ σ2 (15) = some (lc_aI 364 (g3)) ∧ ∀ i : Nat, i ≠ 8 → i ≠ 11 → i ≠ 12 → i ≠ 13 → i ≠ 14 → i ≠ 15 → σ2 i = σ i) := by
  refine lc_con RX3 false (by decide) rfl (fun h => absurd h (by decide)) (Nat.le_of_ble_eq_true rfl) ?_
  suffices H : ∀ Q : lc_QT, (∀ v n2 σ2, (fun v n2 σ2 => ∃ (c1 c2 c3 z1 z2 : Int) (g3 : Int → Int), v = some (.int (lc_i ((lc_sv m 1 f s q).1))) ∧ n = n2 ∧ σ2 (8) = some (.inr (8, [.ref (2), .int (lc_i (c1)), .int (lc_i (c2)), .int (lc_i (c3))]) : lc_Cel) ∧ σ2 (11) = some (.inr (3, [.ref (7), .ref (12), .ref (14), .ref (16), .int (lc_i ((lc_sv m 1 f s q).2))]) : lc_Cel) ∧ σ2 (12) = some (.inr (0, [.ref (13), .int (lc_i (lc_cnt (f) 1 36)), .int (lc_i (lc_cnt (f) 2 36)), .int (lc_i (s)), .int (lc_i (q)), .int (lc_i (m))]) : lc_Cel) ∧ σ2 (13) = some (lc_aI 36 (f)) ∧ σ2 (14) = some (.inr (4, [.ref (15), .int (lc_i (z1)), .int (lc_i (z2))]) : lc_Cel) ∧ σ2 (15) = some (lc_aI 364 (g3)) ∧ ∀ i : Nat, i ≠ 8 → i ≠ 11 → i ≠ 12 → i ≠ 13 → i ≠ 14 → i ≠ 15 → σ2 i = σ i : lc_QT) v n2 σ2 → Q v n2 σ2) → lc_V l RX3 cX3_search 9 (some .int) false (lc_Rd k0) (lc_G Q 0 0) lc_E0 0 0 n 0 [(0, .ref (11)), (1, .int (lc_i (1)))] [] σ from H _ (fun _ _ _ h => h)
  intro Q hQ
  refine lc_iload_n dX3_search_0 rfl 1 rfl ?_
  refine lc_if_le (tgt := 9) dX3_search_1 (by decide) (by omega) (fun h_1_0 => ?_) (fun h_1_0 => ?_)
  · exact absurd h_1_0 (by decide)
  · skip
    refine lc_iload_n dX3_search_4 rfl 1 rfl ?_
    refine lc_iconst dX3_search_5 ?_
    refine lc_icmp_le (tgt := 17) dX3_search_6 (by decide) (by omega) (fun h_6_1 => ?_) (fun h_6_1 => ?_)
    · skip
      refine lc_iload_n dX3_search_17 rfl 1 rfl ?_
      refine lc_iconst dX3_search_18 ?_
      refine lc_icmp_ne (tgt := 29) dX3_search_19 (by decide) (by omega) (fun h_19_2 => ?_) (fun h_19_2 => ?_)
      · exact absurd rfl h_19_2
      · skip
        refine lc_aload_n dX3_search_22 rfl 0 rfl ?_
        refine lc_get dX3_search_23 lc_fX3_21 h0_0 rfl ?_
        refine lc_goto (tgt := 33) dX3_search_26 (by decide) ?_
        refine lc_astore_n (lv' := [(0, .ref (11)), (1, .int (lc_i (1))), (2, .ref (14))]) dX3_search_33 rfl (by decide) rfl ?_
        refine lc_aload_n dX3_search_34 rfl 0 rfl ?_
        refine lc_get dX3_search_35 lc_fX3_28 h0_0 rfl ?_
        refine lc_aload_n dX3_search_38 rfl 0 rfl ?_
        refine lc_get dX3_search_39 lc_fX3_12 h0_0 rfl ?_
        refine lc_aload_n dX3_search_42 rfl 2 rfl ?_
        refine lc_callV (As := [.ref (12), .ref (14)]) (stk := []) (b := 7) dX3_search_43 lc_mX3_48 lc_yX6_listMoves h0_1 rfl (lc_cX6_listMoves l n (a1) (a2) (a3) (12) (f) (s) (q) (m) (14) (g1) (y1) (y2) σ h0_1 h0_2 h0_3 h0_4 h0_5 h0_6 h0_7 h0_8 h0_9 (hf) (by omega) (hs) (by omega) (by omega) (by omega)) rfl (lc_rm (by omega) (by decide)) ⟨Nat.le_of_ble_eq_true rfl, Nat.le_of_ble_eq_true rfl⟩ rfl (Nat.le_of_ble_eq_true rfl) (fun v13 n14 σ15 q16 => ?_)
        obtain ⟨c10, c11, c12, g9, rfl, rfl, h4, h5, h6, hl7, fr8⟩ := q16
        have h17 : σ15 (11) = some (.inr (3, [.ref (7), .ref (12), .ref (14), .ref (16), .int (lc_i (ch))]) : lc_Cel) := (fr8 _ (by omega) (by omega) (by omega)).trans h0_0
        have h18 : σ15 (7) = some (.inr (6, [.ref (2), .ref (8), .ref (5)]) : lc_Cel) := (fr8 _ (by omega) (by omega) (by omega)).trans h0_1
        have h19 : σ15 (2) = some (.inr (1, [.ref (3), .ref (4)]) : lc_Cel) := (fr8 _ (by omega) (by omega) (by omega)).trans h0_2
        have h20 : σ15 (3) = some (lc_aI 48 (lc_pt)) := (fr8 _ (by omega) (by omega) (by omega)).trans h0_3
        have h21 : σ15 (4) = some (lc_aI 72 (lc_sp)) := (fr8 _ (by omega) (by omega) (by omega)).trans h0_4
        have h22 : σ15 (12) = some (.inr (0, [.ref (13), .int (lc_i (lc_cnt (f) 1 36)), .int (lc_i (lc_cnt (f) 2 36)), .int (lc_i (s)), .int (lc_i (q)), .int (lc_i (m))]) : lc_Cel) := (fr8 _ (by omega) (by omega) (by omega)).trans h0_6
        have h23 : σ15 (13) = some (lc_aI 36 (f)) := (fr8 _ (by omega) (by omega) (by omega)).trans h0_7
        refine lc_aload_n dX3_search_46 rfl 2 rfl ?_
        refine lc_callV (As := []) (stk := []) (b := 14) dX3_search_47 lc_mX3_54 lc_yX4_size h5 rfl (lc_cX4_size l n (14) (g9) (((lc_mv (f) (s) (q) (m)).length : Int)) (((lc_caps (f) (s) (q) (m)).length : Int)) σ15 h5) rfl (lc_rm (by omega) (by decide)) ⟨Nat.le_of_ble_eq_true rfl, Nat.le_of_ble_eq_true rfl⟩ rfl (Nat.le_of_ble_eq_true rfl) (fun v24 n25 σ26 q27 => ?_)
        obtain ⟨rfl, rfl, rfl⟩ := q27
        refine lc_istore_n (lv' := [(0, .ref (11)), (1, .int (lc_i (1))), (2, .ref (14)), (3, .int (lc_i (((lc_mv (f) (s) (q) (m)).length : Int))))]) dX3_search_50 rfl (by decide) rfl ?_
        refine lc_sipush dX3_search_51 (by decide) ?_
        refine lc_istore (lv' := [(0, .ref (11)), (1, .int (lc_i (1))), (2, .ref (14)), (3, .int (lc_i (((lc_mv (f) (s) (q) (m)).length : Int)))), (4, .int (lc_i ((-1000))))]) dX3_search_54 (by decide) rfl ?_
        refine lc_iconst dX3_search_56 ?_
        refine lc_istore (lv' := [(0, .ref (11)), (1, .int (lc_i (1))), (2, .ref (14)), (3, .int (lc_i (((lc_mv (f) (s) (q) (m)).length : Int)))), (4, .int (lc_i ((-1000)))), (5, .int (lc_i ((-1))))]) dX3_search_57 (by decide) rfl ?_
        refine lc_iconst dX3_search_59 ?_
        refine lc_istore (lv' := [(0, .ref (11)), (1, .int (lc_i (1))), (2, .ref (14)), (3, .int (lc_i (((lc_mv (f) (s) (q) (m)).length : Int)))), (4, .int (lc_i ((-1000)))), (5, .int (lc_i ((-1)))), (6, .int (lc_i (0)))]) dX3_search_60 (by decide) rfl ?_
        have loop29 : ∀ (N28 : Nat) (k : Nat) (σ31 : lc_S), (σ31 (12) = some (.inr (0, [.ref (13), .int (lc_i (lc_cnt (f) 1 36)), .int (lc_i (lc_cnt (f) 2 36)), .int (lc_i (s)), .int (lc_i (q)), .int (lc_i (m))]) : lc_Cel)) → (σ31 (13) = some (lc_aI 36 (f))) → (∀ i : Nat, i ≠ 12 → i ≠ 13 → σ31 i = σ15 i) → (k ≤ (lc_mv f s q m).length) → 364 - (k : Int) < (N28 : Int) → lc_V l RX3 cX3_search 9 (some .int) false (lc_Rd k0) (lc_G Q 0 0) lc_E0 0 0 n 62 [(0, .ref (11)), (1, .int (lc_i (1))), (2, .ref (14)), (3, .int (lc_i (((lc_mv f s q m).length : Int)))), (4, .int (lc_i ((lc_fd m 0 f s q k).1))), (5, .int (lc_i ((lc_fd m 0 f s q k).2))), (6, .int (lc_i ((k : Int))))] [] σ31 := by
          intro N28
          induction N28 with
          | zero =>
            intro k σ31 h32 h33 fr34 hk hm35
            exact absurd hm35 (by omega)
          | succ N28 ih30 =>
            intro k σ31 h32 h33 fr34 hk hm35
            have h36 : σ31 (11) = some (.inr (3, [.ref (7), .ref (12), .ref (14), .ref (16), .int (lc_i (ch))]) : lc_Cel) := (fr34 _ (by omega) (by omega)).trans h17
            have h37 : σ31 (7) = some (.inr (6, [.ref (2), .ref (8), .ref (5)]) : lc_Cel) := (fr34 _ (by omega) (by omega)).trans h18
            have h38 : σ31 (2) = some (.inr (1, [.ref (3), .ref (4)]) : lc_Cel) := (fr34 _ (by omega) (by omega)).trans h19
            have h39 : σ31 (3) = some (lc_aI 48 (lc_pt)) := (fr34 _ (by omega) (by omega)).trans h20
            have h40 : σ31 (4) = some (lc_aI 72 (lc_sp)) := (fr34 _ (by omega) (by omega)).trans h21
            have h41 : σ31 (8) = some (.inr (8, [.ref (2), .int (lc_i (c10)), .int (lc_i (c11)), .int (lc_i (c12))]) : lc_Cel) := (fr34 _ (by omega) (by omega)).trans h4
            have h42 : σ31 (14) = some (.inr (4, [.ref (15), .int (lc_i (((lc_mv (f) (s) (q) (m)).length : Int))), .int (lc_i (((lc_caps (f) (s) (q) (m)).length : Int)))]) : lc_Cel) := (fr34 _ (by omega) (by omega)).trans h5
            have h43 : σ31 (15) = some (lc_aI 364 (g9)) := (fr34 _ (by omega) (by omega)).trans h6
            have hfd := lc_fd_r m 0 f s q k
            refine lc_iload dX3_search_62 6 rfl ?_
            refine lc_iload_n dX3_search_64 rfl 3 rfl ?_
            refine lc_icmp_ge (tgt := 109) dX3_search_65 (by decide) (by omega) (fun h_65_43 => ?_) (fun h_65_43 => ?_)
            · skip
              refine lc_aload_n dX3_search_109 rfl 0 rfl ?_
              refine lc_iload dX3_search_110 5 rfl ?_
              refine lc_wI (vs' := [.ref (7), .ref (12), .ref (14), .ref (16), .int (lc_i ((lc_fd m 0 f s q k).2))]) dX3_search_112 lc_fX3_40 h36 (Nat.le_of_ble_eq_true rfl) rfl rfl rfl (fun σ45 h46 fr47 => ?_)
              have h48 : σ45 (7) = some (.inr (6, [.ref (2), .ref (8), .ref (5)]) : lc_Cel) := (fr47 _ (by omega)).trans h37
              have h49 : σ45 (2) = some (.inr (1, [.ref (3), .ref (4)]) : lc_Cel) := (fr47 _ (by omega)).trans h38
              have h50 : σ45 (3) = some (lc_aI 48 (lc_pt)) := (fr47 _ (by omega)).trans h39
              have h51 : σ45 (4) = some (lc_aI 72 (lc_sp)) := (fr47 _ (by omega)).trans h40
              have h52 : σ45 (8) = some (.inr (8, [.ref (2), .int (lc_i (c10)), .int (lc_i (c11)), .int (lc_i (c12))]) : lc_Cel) := (fr47 _ (by omega)).trans h41
              have h53 : σ45 (14) = some (.inr (4, [.ref (15), .int (lc_i (((lc_mv (f) (s) (q) (m)).length : Int))), .int (lc_i (((lc_caps (f) (s) (q) (m)).length : Int)))]) : lc_Cel) := (fr47 _ (by omega)).trans h42
              have h54 : σ45 (15) = some (lc_aI 364 (g9)) := (fr47 _ (by omega)).trans h43
              have h55 : σ45 (12) = some (.inr (0, [.ref (13), .int (lc_i (lc_cnt (f) 1 36)), .int (lc_i (lc_cnt (f) 2 36)), .int (lc_i (s)), .int (lc_i (q)), .int (lc_i (m))]) : lc_Cel) := (fr47 _ (by omega)).trans h32
              have h56 : σ45 (13) = some (lc_aI 36 (f)) := (fr47 _ (by omega)).trans h33
              refine lc_iload dX3_search_115 5 rfl ?_
              refine lc_iconst dX3_search_117 ?_
              refine lc_icmp_ne (tgt := 131) dX3_search_118 (by decide) (by omega) (fun h_118_56 => ?_) (fun h_118_56 => ?_)
              · skip
                refine lc_iload dX3_search_131 4 rfl ?_
                have esv := lc_sv_s (d := 0) (m := m) (f := f) (s := s) (q := q) (k := k) (by omega)
                exact lc_iret dX3_search_133 rfl (Nat.le_of_ble_eq_true rfl) (Nat.le_of_ble_eq_true rfl) (hQ _ _ _ ⟨(c10), (c11), (c12), (((lc_mv (f) (s) (q) (m)).length : Int)), (((lc_caps (f) (s) (q) (m)).length : Int)), (g9), (by rw [esv]; exact congrArg (fun z => some (Value.int (lc_i z))) (if_neg h_118_56).symm), rfl, h52, (by rw [esv]; exact h46), h55, h56, h53, h54, (fun i _ _ _ _ _ _ => ((fr47 i (by omega)).trans ((fr34 i (by omega) (by omega)).trans (fr8 i (by omega) (by omega) (by omega)))))⟩)
              · skip
                refine lc_aload_n dX3_search_121 rfl 0 rfl ?_
                refine lc_get dX3_search_122 lc_fX3_12 h46 rfl ?_
                refine lc_callV (As := []) (stk := []) (b := 12) dX3_search_125 lc_mX3_44 lc_yX0_worth h55 rfl (lc_cX0_worth l n (12) (f) (lc_cnt (f) 1 36) (lc_cnt (f) 2 36) (s) (q) (m) σ45 h55 (by omega)) rfl (lc_rm (by omega) (by decide)) ⟨Nat.le_of_ble_eq_true rfl, Nat.le_of_ble_eq_true rfl⟩ rfl (Nat.le_of_ble_eq_true rfl) (fun v58 n59 σ60 q61 => ?_)
                obtain ⟨rfl, rfl, rfl⟩ := q61
                refine lc_goto (tgt := 133) dX3_search_128 (by decide) ?_
                have esv := lc_sv_s (d := 0) (m := m) (f := f) (s := s) (q := q) (k := k) (by omega)
                exact lc_iret dX3_search_133 rfl (Nat.le_of_ble_eq_true rfl) (Nat.le_of_ble_eq_true rfl) (hQ _ _ _ ⟨(c10), (c11), (c12), (((lc_mv (f) (s) (q) (m)).length : Int)), (((lc_caps (f) (s) (q) (m)).length : Int)), (g9), (by rw [esv]; exact congrArg (fun z => some (Value.int (lc_i z))) (if_pos h_118_56).symm), rfl, h52, (by rw [esv]; exact h46), h55, h56, h53, h54, (fun i _ _ _ _ _ _ => ((fr47 i (by omega)).trans ((fr34 i (by omega) (by omega)).trans (fr8 i (by omega) (by omega) (by omega)))))⟩)
            · skip
              have hkl : k < (lc_mv f s q m).length := (by omega)
              obtain ⟨mv, hmv⟩ : ∃ x, x = (lc_mv f s q m).getD k 0 := ⟨_, rfl⟩
              have hme : mv ∈ lc_mv f s q m := hmv ▸ lc_getD_mem hkl
              have hmm := lc_mv_mem hs.1 hme
              have hmr := lc_mv_r hme
              refine lc_aload_n dX3_search_68 rfl 2 rfl ?_
              refine lc_iload dX3_search_69 6 rfl ?_
              refine lc_callV (As := [.int (lc_i ((k : Int)))]) (stk := []) (b := 14) dX3_search_71 lc_mX3_57 lc_yX4_get h42 rfl (lc_cX4_get l n (14) (g9) (((lc_mv (f) (s) (q) (m)).length : Int)) (((lc_caps (f) (s) (q) (m)).length : Int)) ((k : Int)) σ31 h42 h43 (by omega) (by omega)) rfl (lc_rm (by omega) (by decide)) ⟨Nat.le_of_ble_eq_true rfl, Nat.le_of_ble_eq_true rfl⟩ rfl (Nat.le_of_ble_eq_true rfl) (fun v62 n63 σ64 q65 => ?_)
              obtain ⟨rfl, rfl, rfl⟩ := q65
              refine lc_top (congrArg (fun z => Value.int (lc_i z)) (show (if 0 ≤ ((k : Int)) ∧ ((k : Int)) < ((lc_mv (f) (s) (q) (m)).length : Int) then (g9) ((k : Int)) else -1 : Int) = mv from by rw [if_pos (by omega), hmv]; exact hl7.1 k hkl)) ?_
              refine lc_istore (lv' := [(0, .ref (11)), (1, .int (lc_i (1))), (2, .ref (14)), (3, .int (lc_i (((lc_mv f s q m).length : Int)))), (4, .int (lc_i ((lc_fd m 0 f s q k).1))), (5, .int (lc_i ((lc_fd m 0 f s q k).2))), (6, .int (lc_i ((k : Int)))), (7, .int (lc_i (mv)))]) dX3_search_74 (by decide) rfl ?_
              refine lc_aload_n dX3_search_76 rfl 0 rfl ?_
              refine lc_iload dX3_search_77 7 rfl ?_
              refine lc_iload_n dX3_search_79 rfl 1 rfl ?_
              refine lc_iconst dX3_search_80 ?_
              refine lc_isub dX3_search_81 ?_
              refine lc_top (congrArg (fun z => Value.int (lc_i z)) (show ((1) - (1) : Int) = 0 from rfl)) ?_
              refine lc_callV (As := [.int (lc_i (mv)), .int (lc_i (0))]) (stk := []) (b := 11) dX3_search_82 lc_mX3_60 lc_yX3_searchBehind h36 rfl (lc_cX3_searchBehind_0 l n (k0 - 1) (ch) (c10) (c11) (c12) (f) (s) (q) (m) (mv) σ31 h36 h37 h38 h39 h40 h41 h32 h33 (by omega) hf hs (by omega) (by omega) hmr ⟨hmm.1, hmm.2.1, hmm.2.2.1⟩) rfl (lc_rm (by omega) (by decide)) ⟨Nat.le_of_ble_eq_true rfl, Nat.le_of_ble_eq_true rfl⟩ rfl (Nat.le_of_ble_eq_true rfl) (fun v69 n70 σ71 q72 => ?_)
              obtain ⟨rfl, rfl, h66, h67, fr68⟩ := q72
              have h73 : σ71 (11) = some (.inr (3, [.ref (7), .ref (12), .ref (14), .ref (16), .int (lc_i (ch))]) : lc_Cel) := (fr68 _ (by omega) (by omega)).trans h36
              have h74 : σ71 (7) = some (.inr (6, [.ref (2), .ref (8), .ref (5)]) : lc_Cel) := (fr68 _ (by omega) (by omega)).trans h37
              have h75 : σ71 (2) = some (.inr (1, [.ref (3), .ref (4)]) : lc_Cel) := (fr68 _ (by omega) (by omega)).trans h38
              have h76 : σ71 (3) = some (lc_aI 48 (lc_pt)) := (fr68 _ (by omega) (by omega)).trans h39
              have h77 : σ71 (4) = some (lc_aI 72 (lc_sp)) := (fr68 _ (by omega) (by omega)).trans h40
              have h78 : σ71 (8) = some (.inr (8, [.ref (2), .int (lc_i (c10)), .int (lc_i (c11)), .int (lc_i (c12))]) : lc_Cel) := (fr68 _ (by omega) (by omega)).trans h41
              have h79 : σ71 (14) = some (.inr (4, [.ref (15), .int (lc_i (((lc_mv (f) (s) (q) (m)).length : Int))), .int (lc_i (((lc_caps (f) (s) (q) (m)).length : Int)))]) : lc_Cel) := (fr68 _ (by omega) (by omega)).trans h42
              have h80 : σ71 (15) = some (lc_aI 364 (g9)) := (fr68 _ (by omega) (by omega)).trans h43
              have hsr := lc_sv_r m 0 (lc_mf f s mv) (3 - s) (lc_mq f q mv)
              refine lc_ineg dX3_search_85 ?_
              refine lc_istore (lv' := [(0, .ref (11)), (1, .int (lc_i (1))), (2, .ref (14)), (3, .int (lc_i (((lc_mv f s q m).length : Int)))), (4, .int (lc_i ((lc_fd m 0 f s q k).1))), (5, .int (lc_i ((lc_fd m 0 f s q k).2))), (6, .int (lc_i ((k : Int)))), (7, .int (lc_i (mv))), (8, .int (lc_i (-((lc_sv m 0 (lc_mf f s mv) (3 - s) (lc_mq f q mv)).1))))]) dX3_search_86 (by decide) rfl ?_
              refine lc_iload dX3_search_88 8 rfl ?_
              refine lc_iload dX3_search_90 4 rfl ?_
              refine lc_icmp_le (tgt := 103) dX3_search_92 (by decide) (by omega) (fun h_92_80 => ?_) (fun h_92_80 => ?_)
              · skip
                refine lc_iinc (lv' := [(0, .ref (11)), (1, .int (lc_i (1))), (2, .ref (14)), (3, .int (lc_i (((lc_mv f s q m).length : Int)))), (4, .int (lc_i ((lc_fd m 0 f s q k).1))), (5, .int (lc_i ((lc_fd m 0 f s q k).2))), (6, .int (lc_i ((k : Int) + 1))), (7, .int (lc_i (mv))), (8, .int (lc_i (-((lc_sv m 0 (lc_mf f s mv) (3 - s) (lc_mq f q mv)).1))))]) dX3_search_103 6 rfl (by decide) rfl ?_
                refine lc_goto (tgt := 62) dX3_search_106 (by decide) ?_
                refine lc_pick (lv' := [(0, .ref (11)), (1, .int (lc_i (1))), (2, .ref (14)), (3, .int (lc_i (((lc_mv f s q m).length : Int)))), (4, .int (lc_i ((lc_fd m 0 f s q k).1))), (5, .int (lc_i ((lc_fd m 0 f s q k).2))), (6, .int (lc_i ((k : Int) + 1)))]) [0, 1, 2, 3, 4, 5, 6] rfl ?_
                refine lc_lveq (lv' := [(0, .ref (11)), (1, .int (lc_i (1))), (2, .ref (14)), (3, .int (lc_i (((lc_mv f s q m).length : Int)))), (4, .int (lc_i ((lc_fd m 0 f s q (k + 1)).1))), (5, .int (lc_i ((lc_fd m 0 f s q (k + 1)).2))), (6, .int (lc_i (((k + 1 : Nat) : Int))))]) (by rw [lc_fd_n hkl hmv h_92_80, show ((k + 1 : Nat) : Int) = (k : Int) + 1 from by omega]) ?_
                exact ih30 (k + 1) σ71 h66 h67 (fun i _ _ => ((fr68 i (by omega) (by omega)).trans (fr34 i (by omega) (by omega)))) (by omega) (by omega)
              · skip
                refine lc_iload dX3_search_95 8 rfl ?_
                refine lc_istore (lv' := [(0, .ref (11)), (1, .int (lc_i (1))), (2, .ref (14)), (3, .int (lc_i (((lc_mv f s q m).length : Int)))), (4, .int (lc_i (-((lc_sv m 0 (lc_mf f s mv) (3 - s) (lc_mq f q mv)).1)))), (5, .int (lc_i ((lc_fd m 0 f s q k).2))), (6, .int (lc_i ((k : Int)))), (7, .int (lc_i (mv))), (8, .int (lc_i (-((lc_sv m 0 (lc_mf f s mv) (3 - s) (lc_mq f q mv)).1))))]) dX3_search_97 (by decide) rfl ?_
                refine lc_iload dX3_search_99 7 rfl ?_
                refine lc_istore (lv' := [(0, .ref (11)), (1, .int (lc_i (1))), (2, .ref (14)), (3, .int (lc_i (((lc_mv f s q m).length : Int)))), (4, .int (lc_i (-((lc_sv m 0 (lc_mf f s mv) (3 - s) (lc_mq f q mv)).1)))), (5, .int (lc_i (mv))), (6, .int (lc_i ((k : Int)))), (7, .int (lc_i (mv))), (8, .int (lc_i (-((lc_sv m 0 (lc_mf f s mv) (3 - s) (lc_mq f q mv)).1))))]) dX3_search_101 (by decide) rfl ?_
                refine lc_iinc (lv' := [(0, .ref (11)), (1, .int (lc_i (1))), (2, .ref (14)), (3, .int (lc_i (((lc_mv f s q m).length : Int)))), (4, .int (lc_i (-((lc_sv m 0 (lc_mf f s mv) (3 - s) (lc_mq f q mv)).1)))), (5, .int (lc_i (mv))), (6, .int (lc_i ((k : Int) + 1))), (7, .int (lc_i (mv))), (8, .int (lc_i (-((lc_sv m 0 (lc_mf f s mv) (3 - s) (lc_mq f q mv)).1))))]) dX3_search_103 6 rfl (by decide) rfl ?_
                refine lc_goto (tgt := 62) dX3_search_106 (by decide) ?_
                refine lc_pick (lv' := [(0, .ref (11)), (1, .int (lc_i (1))), (2, .ref (14)), (3, .int (lc_i (((lc_mv f s q m).length : Int)))), (4, .int (lc_i (-((lc_sv m 0 (lc_mf f s mv) (3 - s) (lc_mq f q mv)).1)))), (5, .int (lc_i (mv))), (6, .int (lc_i ((k : Int) + 1)))]) [0, 1, 2, 3, 4, 5, 6] rfl ?_
                refine lc_lveq (lv' := [(0, .ref (11)), (1, .int (lc_i (1))), (2, .ref (14)), (3, .int (lc_i (((lc_mv f s q m).length : Int)))), (4, .int (lc_i ((lc_fd m 0 f s q (k + 1)).1))), (5, .int (lc_i ((lc_fd m 0 f s q (k + 1)).2))), (6, .int (lc_i (((k + 1 : Nat) : Int))))]) (by rw [lc_fd_t hkl hmv h_92_80, show ((k + 1 : Nat) : Int) = (k : Int) + 1 from by omega]) ?_
                exact ih30 (k + 1) σ71 h66 h67 (fun i _ _ => ((fr68 i (by omega) (by omega)).trans (fr34 i (by omega) (by omega)))) (by omega) (by omega)
        exact loop29 1000 (0) σ15 h22 h23 (fun _ _ _ => rfl) (by omega) (by omega)
    · exact absurd h_6_1 (by decide)

set_option maxRecDepth 100000 in
set_option maxHeartbeats 4000000 in
/-- Lookahead.searchBehind, depth 1 -/
theorem lc_cX3_searchBehind_1 (l : Launch) (n : Nat) (k0 : Nat) (ch a1 a2 a3 : Int) (f : Int → Int) (s q m : Int) (mv : Int) (y1 y2 : Int) (g1 : Int → Int) (σ : lc_S) (h0_0 : σ (11) = some (.inr (3, [.ref (7), .ref (12), .ref (14), .ref (16), .int (lc_i (ch))]) : lc_Cel)) (h0_1 : σ (7) = some (.inr (6, [.ref (2), .ref (8), .ref (5)]) : lc_Cel)) (h0_2 : σ (2) = some (.inr (1, [.ref (3), .ref (4)]) : lc_Cel)) (h0_3 : σ (3) = some (lc_aI 48 (lc_pt))) (h0_4 : σ (4) = some (lc_aI 72 (lc_sp))) (h0_5 : σ (8) = some (.inr (8, [.ref (2), .int (lc_i (a1)), .int (lc_i (a2)), .int (lc_i (a3))]) : lc_Cel)) (h0_6 : σ (12) = some (.inr (0, [.ref (13), .int (lc_i (lc_cnt (f) 1 36)), .int (lc_i (lc_cnt (f) 2 36)), .int (lc_i (s)), .int (lc_i (q)), .int (lc_i (m))]) : lc_Cel)) (h0_7 : σ (13) = some (lc_aI 36 (f))) (h0_8 : σ (14) = some (.inr (4, [.ref (15), .int (lc_i (y1)), .int (lc_i (y2))]) : lc_Cel)) (h0_9 : σ (15) = some (lc_aI 364 (g1))) (hk0 : 7 ≤ k0) (hf : ∀ j : Int, 0 ≤ j → j < 36 → 0 ≤ f j ∧ f j ≤ 2) (hs : 1 ≤ s ∧ s ≤ 2) (hq : 0 ≤ q ∧ q ≤ 1000) (hm : 0 ≤ m ∧ m ≤ 1000) (hmr : 0 ≤ mv ∧ mv < 3600) (hmm : ((0 ≤ mv / 100 ∧ mv / 100 < 36) ∧ (0 ≤ mv % 100 ∧ mv % 100 < 36)) ∧ f (mv / 100) = s ∧ mv / 100 ≠ mv % 100) : lc_Con l yX3_searchBehind cX3_searchBehind 8 (some .int) (lc_Rd k0) [.ref (11), .int (lc_i (mv)), .int (lc_i (1))] n σ (fun v n2 σ2 => ∃ (c1 c2 c3 z1 z2 : Int) (g3 : Int → Int), v = some (.int (lc_i ((lc_sv m 1 (lc_mf f s mv) (3 - s) (lc_mq f q mv)).1))) ∧ n = n2 ∧ σ2 (8) = some (.inr (8, [.ref (2), .int (lc_i (c1)), .int (lc_i (c2)), .int (lc_i (c3))]) : lc_Cel) ∧ σ2 (11) = some (.inr (3, [.ref (7), .ref (12), .ref (14), .ref (16), .int (lc_i ((lc_sv m 1 (lc_mf f s mv) (3 - s) (lc_mq f q mv)).2))]) : lc_Cel) ∧ σ2 (12) = some (.inr (0, [.ref (13), .int (lc_i (lc_cnt (f) 1 36)), .int (lc_i (lc_cnt (f) 2 36)), .int (lc_i (s)), .int (lc_i (q)), .int (lc_i (m))]) : lc_Cel) ∧ σ2 (13) = some (lc_aI 36 (f)) ∧ σ2 (14) = some (.inr (4, [.ref (15), .int (lc_i (z1)), .int (lc_i (z2))]) : lc_Cel) ∧ σ2 (15) = some (lc_aI 364 (g3)) ∧ ∀ i : Nat, i ≠ 8 → i ≠ 11 → i ≠ 12 → i ≠ 13 → i ≠ 14 → i ≠ 15 → σ2 i = σ i) := by
  refine lc_con RX3 false (by decide) rfl (fun h => absurd h (by decide)) (Nat.le_of_ble_eq_true rfl) ?_
  suffices H : ∀ Q : lc_QT, (∀ v n2 σ2, (fun v n2 σ2 => ∃ (c1 c2 c3 z1 z2 : Int) (g3 : Int → Int), v = some (.int (lc_i ((lc_sv m 1 (lc_mf f s mv) (3 - s) (lc_mq f q mv)).1))) ∧ n = n2 ∧ σ2 (8) = some (.inr (8, [.ref (2), .int (lc_i (c1)), .int (lc_i (c2)), .int (lc_i (c3))]) : lc_Cel) ∧ σ2 (11) = some (.inr (3, [.ref (7), .ref (12), .ref (14), .ref (16), .int (lc_i ((lc_sv m 1 (lc_mf f s mv) (3 - s) (lc_mq f q mv)).2))]) : lc_Cel) ∧ σ2 (12) = some (.inr (0, [.ref (13), .int (lc_i (lc_cnt (f) 1 36)), .int (lc_i (lc_cnt (f) 2 36)), .int (lc_i (s)), .int (lc_i (q)), .int (lc_i (m))]) : lc_Cel) ∧ σ2 (13) = some (lc_aI 36 (f)) ∧ σ2 (14) = some (.inr (4, [.ref (15), .int (lc_i (z1)), .int (lc_i (z2))]) : lc_Cel) ∧ σ2 (15) = some (lc_aI 364 (g3)) ∧ ∀ i : Nat, i ≠ 8 → i ≠ 11 → i ≠ 12 → i ≠ 13 → i ≠ 14 → i ≠ 15 → σ2 i = σ i : lc_QT) v n2 σ2 → Q v n2 σ2) → lc_V l RX3 cX3_searchBehind 8 (some .int) false (lc_Rd k0) (lc_G Q 0 0) lc_E0 0 0 n 0 [(0, .ref (11)), (1, .int (lc_i (mv))), (2, .int (lc_i (1)))] [] σ from H _ (fun _ _ _ h => h)
  intro Q hQ
  have hfm := lc_mf_ok (mv := mv) hf hs
  have hft := hf (mv % 100) hmm.1.2.1 hmm.1.2.2
  have hmq : 0 ≤ lc_mq f q mv ∧ lc_mq f q mv ≤ q + 1 := (by unfold lc_mq; split <;> omega)
  refine lc_iload_n dX3_searchBehind_0 rfl 1 rfl ?_
  refine lc_bipush dX3_searchBehind_1 (by decide) ?_
  refine lc_idiv dX3_searchBehind_3 (by omega) ?_
  refine lc_top (congrArg (fun z => Value.int (lc_i z)) (show ((mv) / (100) : Int) = mv / 100 from rfl)) ?_
  refine lc_istore_n (lv' := [(0, .ref (11)), (1, .int (lc_i (mv))), (2, .int (lc_i (1))), (3, .int (lc_i (mv / 100)))]) dX3_searchBehind_4 rfl (by decide) rfl ?_
  refine lc_iload_n dX3_searchBehind_5 rfl 1 rfl ?_
  refine lc_bipush dX3_searchBehind_6 (by decide) ?_
  refine lc_irem dX3_searchBehind_8 (by omega) ?_
  refine lc_top (congrArg (fun z => Value.int (lc_i z)) (show ((mv) % (100) : Int) = mv % 100 from rfl)) ?_
  refine lc_istore (lv' := [(0, .ref (11)), (1, .int (lc_i (mv))), (2, .int (lc_i (1))), (3, .int (lc_i (mv / 100))), (4, .int (lc_i (mv % 100)))]) dX3_searchBehind_9 (by decide) rfl ?_
  refine lc_aload_n dX3_searchBehind_11 rfl 0 rfl ?_
  refine lc_get dX3_searchBehind_12 lc_fX3_12 h0_0 rfl ?_
  refine lc_callV (As := []) (stk := []) (b := 12) dX3_searchBehind_15 lc_mX3_64 lc_yX0_quietMoves h0_6 rfl (lc_cX0_quietMoves l n (12) (f) (lc_cnt (f) 1 36) (lc_cnt (f) 2 36) (s) (q) (m) σ h0_6) rfl (lc_rm (by omega) (by decide)) ⟨Nat.le_of_ble_eq_true rfl, Nat.le_of_ble_eq_true rfl⟩ rfl (Nat.le_of_ble_eq_true rfl) (fun v1 n2 σ3 q4 => ?_)
  obtain ⟨rfl, rfl, rfl⟩ := q4
  refine lc_istore (lv' := [(0, .ref (11)), (1, .int (lc_i (mv))), (2, .int (lc_i (1))), (3, .int (lc_i (mv / 100))), (4, .int (lc_i (mv % 100))), (5, .int (lc_i (q)))]) dX3_searchBehind_18 (by decide) rfl ?_
  refine lc_aload_n dX3_searchBehind_20 rfl 0 rfl ?_
  refine lc_get dX3_searchBehind_21 lc_fX3_12 h0_0 rfl ?_
  refine lc_iload_n dX3_searchBehind_24 rfl 3 rfl ?_
  refine lc_iload dX3_searchBehind_25 4 rfl ?_
  refine lc_callV (As := [.int (lc_i (mv / 100)), .int (lc_i (mv % 100))]) (stk := []) (b := 12) dX3_searchBehind_27 lc_mX3_67 lc_yX0_make h0_6 rfl (lc_cX0_make l n (12) (f) (s) (q) (m) (mv / 100) (mv % 100) σ h0_6 h0_7 (hf) (hs) (by omega)) rfl (lc_rm (by omega) (by decide)) ⟨Nat.le_of_ble_eq_true rfl, Nat.le_of_ble_eq_true rfl⟩ rfl (Nat.le_of_ble_eq_true rfl) (fun v8 n9 σ10 q11 => ?_)
  obtain ⟨rfl, rfl, h6, h7, fr5⟩ := q11
  have h12 : σ10 (11) = some (.inr (3, [.ref (7), .ref (12), .ref (14), .ref (16), .int (lc_i (ch))]) : lc_Cel) := (fr5 _ (by omega) (by omega)).trans h0_0
  have h13 : σ10 (7) = some (.inr (6, [.ref (2), .ref (8), .ref (5)]) : lc_Cel) := (fr5 _ (by omega) (by omega)).trans h0_1
  have h14 : σ10 (2) = some (.inr (1, [.ref (3), .ref (4)]) : lc_Cel) := (fr5 _ (by omega) (by omega)).trans h0_2
  have h15 : σ10 (3) = some (lc_aI 48 (lc_pt)) := (fr5 _ (by omega) (by omega)).trans h0_3
  have h16 : σ10 (4) = some (lc_aI 72 (lc_sp)) := (fr5 _ (by omega) (by omega)).trans h0_4
  have h17 : σ10 (8) = some (.inr (8, [.ref (2), .int (lc_i (a1)), .int (lc_i (a2)), .int (lc_i (a3))]) : lc_Cel) := (fr5 _ (by omega) (by omega)).trans h0_5
  have h18 : σ10 (14) = some (.inr (4, [.ref (15), .int (lc_i (y1)), .int (lc_i (y2))]) : lc_Cel) := (fr5 _ (by omega) (by omega)).trans h0_8
  have h19 : σ10 (15) = some (lc_aI 364 (g1)) := (fr5 _ (by omega) (by omega)).trans h0_9
  refine lc_istore (lv' := [(0, .ref (11)), (1, .int (lc_i (mv))), (2, .int (lc_i (1))), (3, .int (lc_i (mv / 100))), (4, .int (lc_i (mv % 100))), (5, .int (lc_i (q))), (6, .int (lc_i ((f) (mv % 100))))]) dX3_searchBehind_30 (by decide) rfl ?_
  have h20 : σ10 (12) = some (.inr (0, [.ref (13), .int (lc_i (lc_cnt (lc_mf f s mv) 1 36)), .int (lc_i (lc_cnt (lc_mf f s mv) 2 36)), .int (lc_i (3 - s)), .int (lc_i (lc_mq f q mv)), .int (lc_i (m))]) : lc_Cel) := h6
  have h21 : σ10 (13) = some (lc_aI 36 (lc_mf f s mv)) := h7
  refine lc_aload_n dX3_searchBehind_32 rfl 0 rfl ?_
  refine lc_iload_n dX3_searchBehind_33 rfl 2 rfl ?_
  refine lc_callV (As := [.int (lc_i (1))]) (stk := []) (b := 11) dX3_searchBehind_34 lc_mX3_36 lc_yX3_search h12 rfl (lc_cX3_search_1 l n (k0 - 1) (ch) (a1) (a2) (a3) (lc_mf f s mv) (3 - s) (lc_mq f q mv) (m) (y1) (y2) (g1) σ10 h12 h13 h14 h15 h16 h17 h20 h21 h18 h19 (by omega) hfm (by omega) (by omega) (by omega)) rfl (lc_rm (by omega) (by decide)) ⟨Nat.le_of_ble_eq_true rfl, Nat.le_of_ble_eq_true rfl⟩ rfl (Nat.le_of_ble_eq_true rfl) (fun v35 n36 σ37 q38 => ?_)
  obtain ⟨c29, c30, c31, y32, y33, g34, rfl, rfl, h22, h23, h24, h25, h26, h27, fr28⟩ := q38
  have h39 : σ37 (7) = some (.inr (6, [.ref (2), .ref (8), .ref (5)]) : lc_Cel) := (fr28 _ (by omega) (by omega) (by omega) (by omega) (by omega) (by omega)).trans h13
  have h40 : σ37 (2) = some (.inr (1, [.ref (3), .ref (4)]) : lc_Cel) := (fr28 _ (by omega) (by omega) (by omega) (by omega) (by omega) (by omega)).trans h14
  have h41 : σ37 (3) = some (lc_aI 48 (lc_pt)) := (fr28 _ (by omega) (by omega) (by omega) (by omega) (by omega) (by omega)).trans h15
  have h42 : σ37 (4) = some (lc_aI 72 (lc_sp)) := (fr28 _ (by omega) (by omega) (by omega) (by omega) (by omega) (by omega)).trans h16
  refine lc_istore (lv' := [(0, .ref (11)), (1, .int (lc_i (mv))), (2, .int (lc_i (1))), (3, .int (lc_i (mv / 100))), (4, .int (lc_i (mv % 100))), (5, .int (lc_i (q))), (6, .int (lc_i ((f) (mv % 100)))), (7, .int (lc_i ((lc_sv m 1 (lc_mf f s mv) (3 - s) (lc_mq f q mv)).1)))]) dX3_searchBehind_37 (by decide) rfl ?_
  refine lc_aload_n dX3_searchBehind_39 rfl 0 rfl ?_
  refine lc_get dX3_searchBehind_40 lc_fX3_12 h23 rfl ?_
  refine lc_iload_n dX3_searchBehind_43 rfl 3 rfl ?_
  refine lc_iload dX3_searchBehind_44 4 rfl ?_
  refine lc_iload dX3_searchBehind_46 6 rfl ?_
  refine lc_iload dX3_searchBehind_48 5 rfl ?_
  refine lc_callV (As := [.int (lc_i (mv / 100)), .int (lc_i (mv % 100)), .int (lc_i ((f) (mv % 100))), .int (lc_i (q))]) (stk := []) (b := 12) dX3_searchBehind_50 lc_mX3_70 lc_yX0_takeBack h24 rfl (lc_cX0_takeBack l n (12) (lc_mf f s mv) (3 - s) (lc_mq f q mv) (m) (mv / 100) (mv % 100) ((f) (mv % 100)) (q) σ37 h24 h25 (hfm) (by omega) (by omega) (by omega)) rfl (lc_rm (by omega) (by decide)) ⟨Nat.le_of_ble_eq_true rfl, Nat.le_of_ble_eq_true rfl⟩ rfl (Nat.le_of_ble_eq_true rfl) (fun v46 n47 σ48 q49 => ?_)
  obtain ⟨rfl, rfl, h44, h45, fr43⟩ := q49
  have h50 : σ48 (7) = some (.inr (6, [.ref (2), .ref (8), .ref (5)]) : lc_Cel) := (fr43 _ (by omega) (by omega)).trans h39
  have h51 : σ48 (2) = some (.inr (1, [.ref (3), .ref (4)]) : lc_Cel) := (fr43 _ (by omega) (by omega)).trans h40
  have h52 : σ48 (3) = some (lc_aI 48 (lc_pt)) := (fr43 _ (by omega) (by omega)).trans h41
  have h53 : σ48 (4) = some (lc_aI 72 (lc_sp)) := (fr43 _ (by omega) (by omega)).trans h42
  have h54 : σ48 (8) = some (.inr (8, [.ref (2), .int (lc_i (c29)), .int (lc_i (c30)), .int (lc_i (c31))]) : lc_Cel) := (fr43 _ (by omega) (by omega)).trans h22
  have h55 : σ48 (11) = some (.inr (3, [.ref (7), .ref (12), .ref (14), .ref (16), .int (lc_i ((lc_sv m 1 (lc_mf f s mv) (3 - s) (lc_mq f q mv)).2))]) : lc_Cel) := (fr43 _ (by omega) (by omega)).trans h23
  have h56 : σ48 (14) = some (.inr (4, [.ref (15), .int (lc_i (y32)), .int (lc_i (y33))]) : lc_Cel) := (fr43 _ (by omega) (by omega)).trans h26
  have h57 : σ48 (15) = some (lc_aI 364 (g34)) := (fr43 _ (by omega) (by omega)).trans h27
  have eR := lc_back hmm.2.1 hmm.2.2
  have eS : 3 - (3 - s) = s := (by omega)
  have h58 : σ48 (12) = some (.inr (0, [.ref (13), .int (lc_i (lc_cnt (f) 1 36)), .int (lc_i (lc_cnt (f) 2 36)), .int (lc_i (s)), .int (lc_i (q)), .int (lc_i (m))]) : lc_Cel) := (by have h9 := h44; rw [show lc_mf f s mv = lc_u (lc_u f (mv % 100) s) (mv / 100) 0 from rfl, eR, eS] at h9; exact h9)
  have h59 : σ48 (13) = some (lc_aI 36 (f)) := (by have h9 := h45; rw [show lc_mf f s mv = lc_u (lc_u f (mv % 100) s) (mv / 100) 0 from rfl, eR] at h9; exact h9)
  refine lc_iload dX3_searchBehind_53 7 rfl ?_
  exact lc_iret dX3_searchBehind_55 rfl (Nat.le_of_ble_eq_true rfl) (Nat.le_of_ble_eq_true rfl) (hQ _ _ _ ⟨(c29), (c30), (c31), (y32), (y33), (g34), rfl, rfl, h54, h55, h58, h59, h56, h57, (fun i _ _ _ _ _ _ => ((fr43 i (by omega) (by omega)).trans ((fr28 i (by omega) (by omega) (by omega) (by omega) (by omega) (by omega)).trans (fr5 i (by omega) (by omega)))))⟩)

set_option maxRecDepth 100000 in
set_option maxHeartbeats 4000000 in
/-- Lookahead.search, depth 2 -/
theorem lc_cX3_search_2 (l : Launch) (n : Nat) (k0 : Nat) (ch a1 a2 a3 : Int) (f : Int → Int) (s q m : Int) (y1 y2 : Int) (g1 : Int → Int) (x1 x2 : Int) (g2 : Int → Int) (σ : lc_S) (h0_0 : σ (11) = some (.inr (3, [.ref (7), .ref (12), .ref (14), .ref (16), .int (lc_i (ch))]) : lc_Cel)) (h0_1 : σ (7) = some (.inr (6, [.ref (2), .ref (8), .ref (5)]) : lc_Cel)) (h0_2 : σ (2) = some (.inr (1, [.ref (3), .ref (4)]) : lc_Cel)) (h0_3 : σ (3) = some (lc_aI 48 (lc_pt))) (h0_4 : σ (4) = some (lc_aI 72 (lc_sp))) (h0_5 : σ (8) = some (.inr (8, [.ref (2), .int (lc_i (a1)), .int (lc_i (a2)), .int (lc_i (a3))]) : lc_Cel)) (h0_6 : σ (12) = some (.inr (0, [.ref (13), .int (lc_i (lc_cnt (f) 1 36)), .int (lc_i (lc_cnt (f) 2 36)), .int (lc_i (s)), .int (lc_i (q)), .int (lc_i (m))]) : lc_Cel)) (h0_7 : σ (13) = some (lc_aI 36 (f))) (h0_8 : σ (14) = some (.inr (4, [.ref (15), .int (lc_i (y1)), .int (lc_i (y2))]) : lc_Cel)) (h0_9 : σ (15) = some (lc_aI 364 (g1))) (h0_10 : σ (16) = some (.inr (4, [.ref (17), .int (lc_i (x1)), .int (lc_i (x2))]) : lc_Cel)) (h0_11 : σ (17) = some (lc_aI 364 (g2))) (hk0 : 8 ≤ k0) (hf : ∀ j : Int, 0 ≤ j → j < 36 → 0 ≤ f j ∧ f j ≤ 2) (hs : 1 ≤ s ∧ s ≤ 2) (hq : 0 ≤ q ∧ q ≤ 1000) (hm : 0 ≤ m ∧ m ≤ 1000) : lc_Con l yX3_search cX3_search 9 (some .int) (lc_Rd k0) [.ref (11), .int (lc_i (2))] n σ (fun v n2 σ2 => ∃ (c1 c2 c3 z1 z2 : Int) (g3 : Int → Int) (z3 z4 : Int) (g4 : Int → Int), v = some (.int (lc_i ((lc_sv m 2 f s q).1))) ∧ n = n2 ∧ σ2 (8) = some (.inr (8, [.ref (2), .int (lc_i (c1)), .int (lc_i (c2)), .int (lc_i (c3))]) : lc_Cel) ∧ σ2 (11) = some (.inr (3, [.ref (7), .ref (12), .ref (14), .ref (16), .int (lc_i ((lc_sv m 2 f s q).2))]) : lc_Cel) ∧ σ2 (12) = some (.inr (0, [.ref (13), .int (lc_i (lc_cnt (f) 1 36)), .int (lc_i (lc_cnt (f) 2 36)), .int (lc_i (s)), .int (lc_i (q)), .int (lc_i (m))]) : lc_Cel) ∧ σ2 (13) = some (lc_aI 36 (f)) ∧ σ2 (14) = some (.inr (4, [.ref (15), .int (lc_i (z1)), .int (lc_i (z2))]) : lc_Cel) ∧ σ2 (15) = some (lc_aI 364 (g3)) ∧ σ2 (16) = some (.inr (4, [.ref (17), .int (lc_i (z3)), .int (lc_i (z4))]) : lc_Cel) ∧ σ2 (17) = some (lc_aI 364 (g4)) ∧ ∀ i : Nat, i ≠ 8 → i ≠ 11 → i ≠ 12 → i ≠ 13 → i ≠ 14 → i ≠ 15 → i ≠ 16 → i ≠ 17 → σ2 i = σ i) := by
  refine lc_con RX3 false (by decide) rfl (fun h => absurd h (by decide)) (Nat.le_of_ble_eq_true rfl) ?_
  suffices H : ∀ Q : lc_QT, (∀ v n2 σ2, (fun v n2 σ2 => ∃ (c1 c2 c3 z1 z2 : Int) (g3 : Int → Int) (z3 z4 : Int) (g4 : Int → Int), v = some (.int (lc_i ((lc_sv m 2 f s q).1))) ∧ n = n2 ∧ σ2 (8) = some (.inr (8, [.ref (2), .int (lc_i (c1)), .int (lc_i (c2)), .int (lc_i (c3))]) : lc_Cel) ∧ σ2 (11) = some (.inr (3, [.ref (7), .ref (12), .ref (14), .ref (16), .int (lc_i ((lc_sv m 2 f s q).2))]) : lc_Cel) ∧ σ2 (12) = some (.inr (0, [.ref (13), .int (lc_i (lc_cnt (f) 1 36)), .int (lc_i (lc_cnt (f) 2 36)), .int (lc_i (s)), .int (lc_i (q)), .int (lc_i (m))]) : lc_Cel) ∧ σ2 (13) = some (lc_aI 36 (f)) ∧ σ2 (14) = some (.inr (4, [.ref (15), .int (lc_i (z1)), .int (lc_i (z2))]) : lc_Cel) ∧ σ2 (15) = some (lc_aI 364 (g3)) ∧ σ2 (16) = some (.inr (4, [.ref (17), .int (lc_i (z3)), .int (lc_i (z4))]) : lc_Cel) ∧ σ2 (17) = some (lc_aI 364 (g4)) ∧ ∀ i : Nat, i ≠ 8 → i ≠ 11 → i ≠ 12 → i ≠ 13 → i ≠ 14 → i ≠ 15 → i ≠ 16 → i ≠ 17 → σ2 i = σ i : lc_QT) v n2 σ2 → Q v n2 σ2) → lc_V l RX3 cX3_search 9 (some .int) false (lc_Rd k0) (lc_G Q 0 0) lc_E0 0 0 n 0 [(0, .ref (11)), (1, .int (lc_i (2)))] [] σ from H _ (fun _ _ _ h => h)
  intro Q hQ
  refine lc_iload_n dX3_search_0 rfl 1 rfl ?_
  refine lc_if_le (tgt := 9) dX3_search_1 (by decide) (by omega) (fun h_1_0 => ?_) (fun h_1_0 => ?_)
  · exact absurd h_1_0 (by decide)
  · skip
    refine lc_iload_n dX3_search_4 rfl 1 rfl ?_
    refine lc_iconst dX3_search_5 ?_
    refine lc_icmp_le (tgt := 17) dX3_search_6 (by decide) (by omega) (fun h_6_1 => ?_) (fun h_6_1 => ?_)
    · skip
      refine lc_iload_n dX3_search_17 rfl 1 rfl ?_
      refine lc_iconst dX3_search_18 ?_
      refine lc_icmp_ne (tgt := 29) dX3_search_19 (by decide) (by omega) (fun h_19_2 => ?_) (fun h_19_2 => ?_)
      · skip
        refine lc_aload_n dX3_search_29 rfl 0 rfl ?_
        refine lc_get dX3_search_30 lc_fX3_25 h0_0 rfl ?_
        refine lc_astore_n (lv' := [(0, .ref (11)), (1, .int (lc_i (2))), (2, .ref (16))]) dX3_search_33 rfl (by decide) rfl ?_
        refine lc_aload_n dX3_search_34 rfl 0 rfl ?_
        refine lc_get dX3_search_35 lc_fX3_28 h0_0 rfl ?_
        refine lc_aload_n dX3_search_38 rfl 0 rfl ?_
        refine lc_get dX3_search_39 lc_fX3_12 h0_0 rfl ?_
        refine lc_aload_n dX3_search_42 rfl 2 rfl ?_
        refine lc_callV (As := [.ref (12), .ref (16)]) (stk := []) (b := 7) dX3_search_43 lc_mX3_48 lc_yX6_listMoves h0_1 rfl (lc_cX6_listMoves l n (a1) (a2) (a3) (12) (f) (s) (q) (m) (16) (g2) (x1) (x2) σ h0_1 h0_2 h0_3 h0_4 h0_5 h0_6 h0_7 h0_10 h0_11 (hf) (by omega) (hs) (by omega) (by omega) (by omega)) rfl (lc_rm (by omega) (by decide)) ⟨Nat.le_of_ble_eq_true rfl, Nat.le_of_ble_eq_true rfl⟩ rfl (Nat.le_of_ble_eq_true rfl) (fun v13 n14 σ15 q16 => ?_)
        obtain ⟨c10, c11, c12, g9, rfl, rfl, h4, h5, h6, hl7, fr8⟩ := q16
        have h17 : σ15 (11) = some (.inr (3, [.ref (7), .ref (12), .ref (14), .ref (16), .int (lc_i (ch))]) : lc_Cel) := (fr8 _ (by omega) (by omega) (by omega)).trans h0_0
        have h18 : σ15 (7) = some (.inr (6, [.ref (2), .ref (8), .ref (5)]) : lc_Cel) := (fr8 _ (by omega) (by omega) (by omega)).trans h0_1
        have h19 : σ15 (2) = some (.inr (1, [.ref (3), .ref (4)]) : lc_Cel) := (fr8 _ (by omega) (by omega) (by omega)).trans h0_2
        have h20 : σ15 (3) = some (lc_aI 48 (lc_pt)) := (fr8 _ (by omega) (by omega) (by omega)).trans h0_3
        have h21 : σ15 (4) = some (lc_aI 72 (lc_sp)) := (fr8 _ (by omega) (by omega) (by omega)).trans h0_4
        have h22 : σ15 (12) = some (.inr (0, [.ref (13), .int (lc_i (lc_cnt (f) 1 36)), .int (lc_i (lc_cnt (f) 2 36)), .int (lc_i (s)), .int (lc_i (q)), .int (lc_i (m))]) : lc_Cel) := (fr8 _ (by omega) (by omega) (by omega)).trans h0_6
        have h23 : σ15 (13) = some (lc_aI 36 (f)) := (fr8 _ (by omega) (by omega) (by omega)).trans h0_7
        have h24 : σ15 (14) = some (.inr (4, [.ref (15), .int (lc_i (y1)), .int (lc_i (y2))]) : lc_Cel) := (fr8 _ (by omega) (by omega) (by omega)).trans h0_8
        have h25 : σ15 (15) = some (lc_aI 364 (g1)) := (fr8 _ (by omega) (by omega) (by omega)).trans h0_9
        refine lc_aload_n dX3_search_46 rfl 2 rfl ?_
        refine lc_callV (As := []) (stk := []) (b := 16) dX3_search_47 lc_mX3_54 lc_yX4_size h5 rfl (lc_cX4_size l n (16) (g9) (((lc_mv (f) (s) (q) (m)).length : Int)) (((lc_caps (f) (s) (q) (m)).length : Int)) σ15 h5) rfl (lc_rm (by omega) (by decide)) ⟨Nat.le_of_ble_eq_true rfl, Nat.le_of_ble_eq_true rfl⟩ rfl (Nat.le_of_ble_eq_true rfl) (fun v26 n27 σ28 q29 => ?_)
        obtain ⟨rfl, rfl, rfl⟩ := q29
        refine lc_istore_n (lv' := [(0, .ref (11)), (1, .int (lc_i (2))), (2, .ref (16)), (3, .int (lc_i (((lc_mv (f) (s) (q) (m)).length : Int))))]) dX3_search_50 rfl (by decide) rfl ?_
        refine lc_sipush dX3_search_51 (by decide) ?_
        refine lc_istore (lv' := [(0, .ref (11)), (1, .int (lc_i (2))), (2, .ref (16)), (3, .int (lc_i (((lc_mv (f) (s) (q) (m)).length : Int)))), (4, .int (lc_i ((-1000))))]) dX3_search_54 (by decide) rfl ?_
        refine lc_iconst dX3_search_56 ?_
        refine lc_istore (lv' := [(0, .ref (11)), (1, .int (lc_i (2))), (2, .ref (16)), (3, .int (lc_i (((lc_mv (f) (s) (q) (m)).length : Int)))), (4, .int (lc_i ((-1000)))), (5, .int (lc_i ((-1))))]) dX3_search_57 (by decide) rfl ?_
        refine lc_iconst dX3_search_59 ?_
        refine lc_istore (lv' := [(0, .ref (11)), (1, .int (lc_i (2))), (2, .ref (16)), (3, .int (lc_i (((lc_mv (f) (s) (q) (m)).length : Int)))), (4, .int (lc_i ((-1000)))), (5, .int (lc_i ((-1)))), (6, .int (lc_i (0)))]) dX3_search_60 (by decide) rfl ?_
        have loop31 : ∀ (N30 : Nat) (k : Nat) (ck : Int) (e1 : Int) (e2 : Int) (e3 : Int) (w1 : Int) (w2 : Int) (gw : Int → Int) (σ33 : lc_S), (σ33 (8) = some (.inr (8, [.ref (2), .int (lc_i (e1)), .int (lc_i (e2)), .int (lc_i (e3))]) : lc_Cel)) → (σ33 (11) = some (.inr (3, [.ref (7), .ref (12), .ref (14), .ref (16), .int (lc_i (ck))]) : lc_Cel)) → (σ33 (12) = some (.inr (0, [.ref (13), .int (lc_i (lc_cnt (f) 1 36)), .int (lc_i (lc_cnt (f) 2 36)), .int (lc_i (s)), .int (lc_i (q)), .int (lc_i (m))]) : lc_Cel)) → (σ33 (13) = some (lc_aI 36 (f))) → (σ33 (14) = some (.inr (4, [.ref (15), .int (lc_i (w1)), .int (lc_i (w2))]) : lc_Cel)) → (σ33 (15) = some (lc_aI 364 (gw))) → (∀ i : Nat, i ≠ 8 → i ≠ 11 → i ≠ 12 → i ≠ 13 → i ≠ 14 → i ≠ 15 → σ33 i = σ15 i) → (k ≤ (lc_mv f s q m).length) → 364 - (k : Int) < (N30 : Int) → lc_V l RX3 cX3_search 9 (some .int) false (lc_Rd k0) (lc_G Q 0 0) lc_E0 0 0 n 62 [(0, .ref (11)), (1, .int (lc_i (2))), (2, .ref (16)), (3, .int (lc_i (((lc_mv f s q m).length : Int)))), (4, .int (lc_i ((lc_fd m 1 f s q k).1))), (5, .int (lc_i ((lc_fd m 1 f s q k).2))), (6, .int (lc_i ((k : Int))))] [] σ33 := by
          intro N30
          induction N30 with
          | zero =>
            intro k ck e1 e2 e3 w1 w2 gw σ33 h34 h35 h36 h37 h38 h39 fr40 hk hm41
            exact absurd hm41 (by omega)
          | succ N30 ih32 =>
            intro k ck e1 e2 e3 w1 w2 gw σ33 h34 h35 h36 h37 h38 h39 fr40 hk hm41
            have h42 : σ33 (7) = some (.inr (6, [.ref (2), .ref (8), .ref (5)]) : lc_Cel) := (fr40 _ (by omega) (by omega) (by omega) (by omega) (by omega) (by omega)).trans h18
            have h43 : σ33 (2) = some (.inr (1, [.ref (3), .ref (4)]) : lc_Cel) := (fr40 _ (by omega) (by omega) (by omega) (by omega) (by omega) (by omega)).trans h19
            have h44 : σ33 (3) = some (lc_aI 48 (lc_pt)) := (fr40 _ (by omega) (by omega) (by omega) (by omega) (by omega) (by omega)).trans h20
            have h45 : σ33 (4) = some (lc_aI 72 (lc_sp)) := (fr40 _ (by omega) (by omega) (by omega) (by omega) (by omega) (by omega)).trans h21
            have h46 : σ33 (16) = some (.inr (4, [.ref (17), .int (lc_i (((lc_mv (f) (s) (q) (m)).length : Int))), .int (lc_i (((lc_caps (f) (s) (q) (m)).length : Int)))]) : lc_Cel) := (fr40 _ (by omega) (by omega) (by omega) (by omega) (by omega) (by omega)).trans h5
            have h47 : σ33 (17) = some (lc_aI 364 (g9)) := (fr40 _ (by omega) (by omega) (by omega) (by omega) (by omega) (by omega)).trans h6
            have hfd := lc_fd_r m 1 f s q k
            refine lc_iload dX3_search_62 6 rfl ?_
            refine lc_iload_n dX3_search_64 rfl 3 rfl ?_
            refine lc_icmp_ge (tgt := 109) dX3_search_65 (by decide) (by omega) (fun h_65_47 => ?_) (fun h_65_47 => ?_)
            · skip
              refine lc_aload_n dX3_search_109 rfl 0 rfl ?_
              refine lc_iload dX3_search_110 5 rfl ?_
              refine lc_wI (vs' := [.ref (7), .ref (12), .ref (14), .ref (16), .int (lc_i ((lc_fd m 1 f s q k).2))]) dX3_search_112 lc_fX3_40 h35 (Nat.le_of_ble_eq_true rfl) rfl rfl rfl (fun σ49 h50 fr51 => ?_)
              have h52 : σ49 (7) = some (.inr (6, [.ref (2), .ref (8), .ref (5)]) : lc_Cel) := (fr51 _ (by omega)).trans h42
              have h53 : σ49 (2) = some (.inr (1, [.ref (3), .ref (4)]) : lc_Cel) := (fr51 _ (by omega)).trans h43
              have h54 : σ49 (3) = some (lc_aI 48 (lc_pt)) := (fr51 _ (by omega)).trans h44
              have h55 : σ49 (4) = some (lc_aI 72 (lc_sp)) := (fr51 _ (by omega)).trans h45
              have h56 : σ49 (16) = some (.inr (4, [.ref (17), .int (lc_i (((lc_mv (f) (s) (q) (m)).length : Int))), .int (lc_i (((lc_caps (f) (s) (q) (m)).length : Int)))]) : lc_Cel) := (fr51 _ (by omega)).trans h46
              have h57 : σ49 (17) = some (lc_aI 364 (g9)) := (fr51 _ (by omega)).trans h47
              have h58 : σ49 (8) = some (.inr (8, [.ref (2), .int (lc_i (e1)), .int (lc_i (e2)), .int (lc_i (e3))]) : lc_Cel) := (fr51 _ (by omega)).trans h34
              have h59 : σ49 (12) = some (.inr (0, [.ref (13), .int (lc_i (lc_cnt (f) 1 36)), .int (lc_i (lc_cnt (f) 2 36)), .int (lc_i (s)), .int (lc_i (q)), .int (lc_i (m))]) : lc_Cel) := (fr51 _ (by omega)).trans h36
              have h60 : σ49 (13) = some (lc_aI 36 (f)) := (fr51 _ (by omega)).trans h37
              have h61 : σ49 (14) = some (.inr (4, [.ref (15), .int (lc_i (w1)), .int (lc_i (w2))]) : lc_Cel) := (fr51 _ (by omega)).trans h38
              have h62 : σ49 (15) = some (lc_aI 364 (gw)) := (fr51 _ (by omega)).trans h39
              refine lc_iload dX3_search_115 5 rfl ?_
              refine lc_iconst dX3_search_117 ?_
              refine lc_icmp_ne (tgt := 131) dX3_search_118 (by decide) (by omega) (fun h_118_62 => ?_) (fun h_118_62 => ?_)
              · skip
                refine lc_iload dX3_search_131 4 rfl ?_
                have esv := lc_sv_s (d := 1) (m := m) (f := f) (s := s) (q := q) (k := k) (by omega)
                exact lc_iret dX3_search_133 rfl (Nat.le_of_ble_eq_true rfl) (Nat.le_of_ble_eq_true rfl) (hQ _ _ _ ⟨(e1), (e2), (e3), (w1), (w2), (gw), (((lc_mv (f) (s) (q) (m)).length : Int)), (((lc_caps (f) (s) (q) (m)).length : Int)), (g9), (by rw [esv]; exact congrArg (fun z => some (Value.int (lc_i z))) (if_neg h_118_62).symm), rfl, h58, (by rw [esv]; exact h50), h59, h60, h61, h62, h56, h57, (fun i _ _ _ _ _ _ _ _ => ((fr51 i (by omega)).trans ((fr40 i (by omega) (by omega) (by omega) (by omega) (by omega) (by omega)).trans (fr8 i (by omega) (by omega) (by omega)))))⟩)
              · skip
                refine lc_aload_n dX3_search_121 rfl 0 rfl ?_
                refine lc_get dX3_search_122 lc_fX3_12 h50 rfl ?_
                refine lc_callV (As := []) (stk := []) (b := 12) dX3_search_125 lc_mX3_44 lc_yX0_worth h59 rfl (lc_cX0_worth l n (12) (f) (lc_cnt (f) 1 36) (lc_cnt (f) 2 36) (s) (q) (m) σ49 h59 (by omega)) rfl (lc_rm (by omega) (by decide)) ⟨Nat.le_of_ble_eq_true rfl, Nat.le_of_ble_eq_true rfl⟩ rfl (Nat.le_of_ble_eq_true rfl) (fun v64 n65 σ66 q67 => ?_)
                obtain ⟨rfl, rfl, rfl⟩ := q67
                refine lc_goto (tgt := 133) dX3_search_128 (by decide) ?_
                have esv := lc_sv_s (d := 1) (m := m) (f := f) (s := s) (q := q) (k := k) (by omega)
                exact lc_iret dX3_search_133 rfl (Nat.le_of_ble_eq_true rfl) (Nat.le_of_ble_eq_true rfl) (hQ _ _ _ ⟨(e1), (e2), (e3), (w1), (w2), (gw), (((lc_mv (f) (s) (q) (m)).length : Int)), (((lc_caps (f) (s) (q) (m)).length : Int)), (g9), (by rw [esv]; exact congrArg (fun z => some (Value.int (lc_i z))) (if_pos h_118_62).symm), rfl, h58, (by rw [esv]; exact h50), h59, h60, h61, h62, h56, h57, (fun i _ _ _ _ _ _ _ _ => ((fr51 i (by omega)).trans ((fr40 i (by omega) (by omega) (by omega) (by omega) (by omega) (by omega)).trans (fr8 i (by omega) (by omega) (by omega)))))⟩)
            · skip
              have hkl : k < (lc_mv f s q m).length := (by omega)
              obtain ⟨mv, hmv⟩ : ∃ x, x = (lc_mv f s q m).getD k 0 := ⟨_, rfl⟩
              have hme : mv ∈ lc_mv f s q m := hmv ▸ lc_getD_mem hkl
              have hmm := lc_mv_mem hs.1 hme
              have hmr := lc_mv_r hme
              refine lc_aload_n dX3_search_68 rfl 2 rfl ?_
              refine lc_iload dX3_search_69 6 rfl ?_
              refine lc_callV (As := [.int (lc_i ((k : Int)))]) (stk := []) (b := 16) dX3_search_71 lc_mX3_57 lc_yX4_get h46 rfl (lc_cX4_get l n (16) (g9) (((lc_mv (f) (s) (q) (m)).length : Int)) (((lc_caps (f) (s) (q) (m)).length : Int)) ((k : Int)) σ33 h46 h47 (by omega) (by omega)) rfl (lc_rm (by omega) (by decide)) ⟨Nat.le_of_ble_eq_true rfl, Nat.le_of_ble_eq_true rfl⟩ rfl (Nat.le_of_ble_eq_true rfl) (fun v68 n69 σ70 q71 => ?_)
              obtain ⟨rfl, rfl, rfl⟩ := q71
              refine lc_top (congrArg (fun z => Value.int (lc_i z)) (show (if 0 ≤ ((k : Int)) ∧ ((k : Int)) < ((lc_mv (f) (s) (q) (m)).length : Int) then (g9) ((k : Int)) else -1 : Int) = mv from by rw [if_pos (by omega), hmv]; exact hl7.1 k hkl)) ?_
              refine lc_istore (lv' := [(0, .ref (11)), (1, .int (lc_i (2))), (2, .ref (16)), (3, .int (lc_i (((lc_mv f s q m).length : Int)))), (4, .int (lc_i ((lc_fd m 1 f s q k).1))), (5, .int (lc_i ((lc_fd m 1 f s q k).2))), (6, .int (lc_i ((k : Int)))), (7, .int (lc_i (mv)))]) dX3_search_74 (by decide) rfl ?_
              refine lc_aload_n dX3_search_76 rfl 0 rfl ?_
              refine lc_iload dX3_search_77 7 rfl ?_
              refine lc_iload_n dX3_search_79 rfl 1 rfl ?_
              refine lc_iconst dX3_search_80 ?_
              refine lc_isub dX3_search_81 ?_
              refine lc_top (congrArg (fun z => Value.int (lc_i z)) (show ((2) - (1) : Int) = 1 from rfl)) ?_
              refine lc_callV (As := [.int (lc_i (mv)), .int (lc_i (1))]) (stk := []) (b := 11) dX3_search_82 lc_mX3_60 lc_yX3_searchBehind h35 rfl (lc_cX3_searchBehind_1 l n (k0 - 1) (ck) (e1) (e2) (e3) (f) (s) (q) (m) (mv) (w1) (w2) (gw) σ33 h35 h42 h43 h44 h45 h34 h36 h37 h38 h39 (by omega) hf hs (by omega) (by omega) hmr ⟨hmm.1, hmm.2.1, hmm.2.2.1⟩) rfl (lc_rm (by omega) (by decide)) ⟨Nat.le_of_ble_eq_true rfl, Nat.le_of_ble_eq_true rfl⟩ rfl (Nat.le_of_ble_eq_true rfl) (fun v85 n86 σ87 q88 => ?_)
              obtain ⟨c79, c80, c81, y82, y83, g84, rfl, rfl, h72, h73, h74, h75, h76, h77, fr78⟩ := q88
              have h89 : σ87 (7) = some (.inr (6, [.ref (2), .ref (8), .ref (5)]) : lc_Cel) := (fr78 _ (by omega) (by omega) (by omega) (by omega) (by omega) (by omega)).trans h42
              have h90 : σ87 (2) = some (.inr (1, [.ref (3), .ref (4)]) : lc_Cel) := (fr78 _ (by omega) (by omega) (by omega) (by omega) (by omega) (by omega)).trans h43
              have h91 : σ87 (3) = some (lc_aI 48 (lc_pt)) := (fr78 _ (by omega) (by omega) (by omega) (by omega) (by omega) (by omega)).trans h44
              have h92 : σ87 (4) = some (lc_aI 72 (lc_sp)) := (fr78 _ (by omega) (by omega) (by omega) (by omega) (by omega) (by omega)).trans h45
              have h93 : σ87 (16) = some (.inr (4, [.ref (17), .int (lc_i (((lc_mv (f) (s) (q) (m)).length : Int))), .int (lc_i (((lc_caps (f) (s) (q) (m)).length : Int)))]) : lc_Cel) := (fr78 _ (by omega) (by omega) (by omega) (by omega) (by omega) (by omega)).trans h46
              have h94 : σ87 (17) = some (lc_aI 364 (g9)) := (fr78 _ (by omega) (by omega) (by omega) (by omega) (by omega) (by omega)).trans h47
              have hsr := lc_sv_r m 1 (lc_mf f s mv) (3 - s) (lc_mq f q mv)
              refine lc_ineg dX3_search_85 ?_
              refine lc_istore (lv' := [(0, .ref (11)), (1, .int (lc_i (2))), (2, .ref (16)), (3, .int (lc_i (((lc_mv f s q m).length : Int)))), (4, .int (lc_i ((lc_fd m 1 f s q k).1))), (5, .int (lc_i ((lc_fd m 1 f s q k).2))), (6, .int (lc_i ((k : Int)))), (7, .int (lc_i (mv))), (8, .int (lc_i (-((lc_sv m 1 (lc_mf f s mv) (3 - s) (lc_mq f q mv)).1))))]) dX3_search_86 (by decide) rfl ?_
              refine lc_iload dX3_search_88 8 rfl ?_
              refine lc_iload dX3_search_90 4 rfl ?_
              refine lc_icmp_le (tgt := 103) dX3_search_92 (by decide) (by omega) (fun h_92_94 => ?_) (fun h_92_94 => ?_)
              · skip
                refine lc_iinc (lv' := [(0, .ref (11)), (1, .int (lc_i (2))), (2, .ref (16)), (3, .int (lc_i (((lc_mv f s q m).length : Int)))), (4, .int (lc_i ((lc_fd m 1 f s q k).1))), (5, .int (lc_i ((lc_fd m 1 f s q k).2))), (6, .int (lc_i ((k : Int) + 1))), (7, .int (lc_i (mv))), (8, .int (lc_i (-((lc_sv m 1 (lc_mf f s mv) (3 - s) (lc_mq f q mv)).1))))]) dX3_search_103 6 rfl (by decide) rfl ?_
                refine lc_goto (tgt := 62) dX3_search_106 (by decide) ?_
                refine lc_pick (lv' := [(0, .ref (11)), (1, .int (lc_i (2))), (2, .ref (16)), (3, .int (lc_i (((lc_mv f s q m).length : Int)))), (4, .int (lc_i ((lc_fd m 1 f s q k).1))), (5, .int (lc_i ((lc_fd m 1 f s q k).2))), (6, .int (lc_i ((k : Int) + 1)))]) [0, 1, 2, 3, 4, 5, 6] rfl ?_
                refine lc_lveq (lv' := [(0, .ref (11)), (1, .int (lc_i (2))), (2, .ref (16)), (3, .int (lc_i (((lc_mv f s q m).length : Int)))), (4, .int (lc_i ((lc_fd m 1 f s q (k + 1)).1))), (5, .int (lc_i ((lc_fd m 1 f s q (k + 1)).2))), (6, .int (lc_i (((k + 1 : Nat) : Int))))]) (by rw [lc_fd_n hkl hmv h_92_94, show ((k + 1 : Nat) : Int) = (k : Int) + 1 from by omega]) ?_
                exact ih32 (k + 1) ((lc_sv m 1 (lc_mf f s mv) (3 - s) (lc_mq f q mv)).2) (c79) (c80) (c81) (y82) (y83) (g84) σ87 h72 h73 h74 h75 h76 h77 (fun i _ _ _ _ _ _ => ((fr78 i (by omega) (by omega) (by omega) (by omega) (by omega) (by omega)).trans (fr40 i (by omega) (by omega) (by omega) (by omega) (by omega) (by omega)))) (by omega) (by omega)
              · skip
                refine lc_iload dX3_search_95 8 rfl ?_
                refine lc_istore (lv' := [(0, .ref (11)), (1, .int (lc_i (2))), (2, .ref (16)), (3, .int (lc_i (((lc_mv f s q m).length : Int)))), (4, .int (lc_i (-((lc_sv m 1 (lc_mf f s mv) (3 - s) (lc_mq f q mv)).1)))), (5, .int (lc_i ((lc_fd m 1 f s q k).2))), (6, .int (lc_i ((k : Int)))), (7, .int (lc_i (mv))), (8, .int (lc_i (-((lc_sv m 1 (lc_mf f s mv) (3 - s) (lc_mq f q mv)).1))))]) dX3_search_97 (by decide) rfl ?_
                refine lc_iload dX3_search_99 7 rfl ?_
                refine lc_istore (lv' := [(0, .ref (11)), (1, .int (lc_i (2))), (2, .ref (16)), (3, .int (lc_i (((lc_mv f s q m).length : Int)))), (4, .int (lc_i (-((lc_sv m 1 (lc_mf f s mv) (3 - s) (lc_mq f q mv)).1)))), (5, .int (lc_i (mv))), (6, .int (lc_i ((k : Int)))), (7, .int (lc_i (mv))), (8, .int (lc_i (-((lc_sv m 1 (lc_mf f s mv) (3 - s) (lc_mq f q mv)).1))))]) dX3_search_101 (by decide) rfl ?_
                refine lc_iinc (lv' := [(0, .ref (11)), (1, .int (lc_i (2))), (2, .ref (16)), (3, .int (lc_i (((lc_mv f s q m).length : Int)))), (4, .int (lc_i (-((lc_sv m 1 (lc_mf f s mv) (3 - s) (lc_mq f q mv)).1)))), (5, .int (lc_i (mv))), (6, .int (lc_i ((k : Int) + 1))), (7, .int (lc_i (mv))), (8, .int (lc_i (-((lc_sv m 1 (lc_mf f s mv) (3 - s) (lc_mq f q mv)).1))))]) dX3_search_103 6 rfl (by decide) rfl ?_
                refine lc_goto (tgt := 62) dX3_search_106 (by decide) ?_
                refine lc_pick (lv' := [(0, .ref (11)), (1, .int (lc_i (2))), (2, .ref (16)), (3, .int (lc_i (((lc_mv f s q m).length : Int)))), (4, .int (lc_i (-((lc_sv m 1 (lc_mf f s mv) (3 - s) (lc_mq f q mv)).1)))), (5, .int (lc_i (mv))), (6, .int (lc_i ((k : Int) + 1)))]) [0, 1, 2, 3, 4, 5, 6] rfl ?_
                refine lc_lveq (lv' := [(0, .ref (11)), (1, .int (lc_i (2))), (2, .ref (16)), (3, .int (lc_i (((lc_mv f s q m).length : Int)))), (4, .int (lc_i ((lc_fd m 1 f s q (k + 1)).1))), (5, .int (lc_i ((lc_fd m 1 f s q (k + 1)).2))), (6, .int (lc_i (((k + 1 : Nat) : Int))))]) (by rw [lc_fd_t hkl hmv h_92_94, show ((k + 1 : Nat) : Int) = (k : Int) + 1 from by omega]) ?_
                exact ih32 (k + 1) ((lc_sv m 1 (lc_mf f s mv) (3 - s) (lc_mq f q mv)).2) (c79) (c80) (c81) (y82) (y83) (g84) σ87 h72 h73 h74 h75 h76 h77 (fun i _ _ _ _ _ _ => ((fr78 i (by omega) (by omega) (by omega) (by omega) (by omega) (by omega)).trans (fr40 i (by omega) (by omega) (by omega) (by omega) (by omega) (by omega)))) (by omega) (by omega)
        exact loop31 1000 (0) (ch) (c10) (c11) (c12) (y1) (y2) (g1) σ15 h4 h17 h22 h23 h24 h25 (fun _ _ _ _ _ _ _ => rfl) (by omega) (by omega)
      · exact absurd h_19_2 (by decide)
    · exact absurd h_6_1 (by decide)
