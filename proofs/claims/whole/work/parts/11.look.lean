/-! looking ahead -/
theorem lc_rm {j k nL : Nat} (h : j + 1 ≤ k) (hn : nL ≤ 41) : (lc_Rd j).frames + 1 ≤ (lc_Rd k).frames ∧ 8 + (nL + 11) + (lc_Rd j).locals ≤ (lc_Rd k).locals := by
  show j + 1 ≤ k ∧ 8 + (nL + 11) + 60 * j ≤ 60 * k
  omega
def lc_wth (f : Int → Int) (s : Int) : Int := if s = 1 then lc_cnt f 1 36 - lc_cnt f 2 36 else lc_cnt f 2 36 - lc_cnt f 1 36
def lc_mf (f : Int → Int) (s mv : Int) : Int → Int := lc_u (lc_u f (mv % 100) s) (mv / 100) 0
def lc_mq (f : Int → Int) (q mv : Int) : Int := if f (mv % 100) = 0 then q + 1 else 0
def lc_st (V : (Int → Int) → Int → Int → Int) (f : Int → Int) (s q : Int) (a : Int × Int) (mv : Int) : Int × Int := if a.1 < -(V (lc_mf f s mv) (3 - s) (lc_mq f q mv)) then (-(V (lc_mf f s mv) (3 - s) (lc_mq f q mv)), mv) else a
def lc_sv (m : Int) : Nat → (Int → Int) → Int → Int → Int × Int
  | 0, f, s, _ => (lc_wth f s, -1)
  | d + 1, f, s, q => (if ((lc_mv f s q m).foldl (lc_st (fun f s q => (lc_sv m d f s q).1) f s q) (-1000, -1)).2 = -1 then lc_wth f s else ((lc_mv f s q m).foldl (lc_st (fun f s q => (lc_sv m d f s q).1) f s q) (-1000, -1)).1, ((lc_mv f s q m).foldl (lc_st (fun f s q => (lc_sv m d f s q).1) f s q) (-1000, -1)).2)
def lc_fd (m : Int) (d : Nat) (f : Int → Int) (s q : Int) (k : Nat) : Int × Int := ((lc_mv f s q m).take k).foldl (lc_st (fun f s q => (lc_sv m d f s q).1) f s q) (-1000, -1)
theorem lc_sv_s {m : Int} {d : Nat} {f : Int → Int} {s q : Int} {k : Nat} (hk : (lc_mv f s q m).length ≤ k) : lc_sv m (d + 1) f s q = (if (lc_fd m d f s q k).2 = -1 then lc_wth f s else (lc_fd m d f s q k).1, (lc_fd m d f s q k).2) := by
  unfold lc_fd
  rw [List.take_of_length_le hk]
  rfl
theorem lc_fd_s {m : Int} {d : Nat} {f : Int → Int} {s q : Int} {k : Nat} (hk : k < (lc_mv f s q m).length) : lc_fd m d f s q (k + 1) = lc_st (fun f s q => (lc_sv m d f s q).1) f s q (lc_fd m d f s q k) ((lc_mv f s q m).getD k 0) := by
  unfold lc_fd
  rw [List.take_add_one, List.foldl_append, List.getElem?_eq_getElem hk, List.getD_eq_getElem?_getD, List.getElem?_eq_getElem hk]
  rfl
theorem lc_fd_t {m : Int} {d : Nat} {f : Int → Int} {s q mv : Int} {k : Nat} (hk : k < (lc_mv f s q m).length) (hm : mv = (lc_mv f s q m).getD k 0) (h : (lc_fd m d f s q k).1 < -(lc_sv m d (lc_mf f s mv) (3 - s) (lc_mq f q mv)).1) : lc_fd m d f s q (k + 1) = (-(lc_sv m d (lc_mf f s mv) (3 - s) (lc_mq f q mv)).1, mv) := by
  rw [lc_fd_s hk, ← hm]
  unfold lc_st
  rw [if_pos h]
theorem lc_fd_n {m : Int} {d : Nat} {f : Int → Int} {s q mv : Int} {k : Nat} (hk : k < (lc_mv f s q m).length) (hm : mv = (lc_mv f s q m).getD k 0) (h : -(lc_sv m d (lc_mf f s mv) (3 - s) (lc_mq f q mv)).1 ≤ (lc_fd m d f s q k).1) : lc_fd m d f s q (k + 1) = lc_fd m d f s q k := by
  rw [lc_fd_s hk, ← hm]
  unfold lc_st
  rw [if_neg (show ¬ ((lc_fd m d f s q k).1 < -(lc_sv m d (lc_mf f s mv) (3 - s) (lc_mq f q mv)).1) by omega)]
theorem lc_mv_mem {f : Int → Int} {s q m mv : Int} (hs : 1 ≤ s) (h : mv ∈ lc_mv f s q m) : ((0 ≤ mv / 100 ∧ mv / 100 < 36) ∧ (0 ≤ mv % 100 ∧ mv % 100 < 36)) ∧ f (mv / 100) = s ∧ mv / 100 ≠ mv % 100 ∧ lc_res (lc_cnt f 1 36) (lc_cnt f 2 36) q m = 0 := by
  unfold lc_mv at h
  by_cases hr : lc_res (lc_cnt f 1 36) (lc_cnt f 2 36) q m = 0
  · rw [if_pos hr] at h
    rcases List.mem_append.mp h with h1 | h1
    · obtain ⟨fr, to, h2, h3, h4, rfl⟩ := lc_aal_mem.mp h1
      obtain ⟨h5, h6⟩ := lc_PC_iff.mp h4
      have h7 := lc_cap_iff.mp h6
      have e1 : (fr * 100 + to) / 100 = fr := by omega
      have e2 : (fr * 100 + to) % 100 = to := by omega
      rw [e1, e2]
      exact ⟨⟨h2, h3⟩, h5, fun e => h7.1.2 (by rw [e]), hr⟩
    · obtain ⟨fr, to, h2, h3, h4, rfl⟩ := lc_aal_mem.mp h1
      obtain ⟨h5, h6⟩ := lc_PQ_iff.mp h4
      have h7 := lc_step_iff.mp h6
      have e1 : (fr * 100 + to) / 100 = fr := by omega
      have e2 : (fr * 100 + to) % 100 = to := by omega
      rw [e1, e2]
      exact ⟨⟨h2, h3⟩, h5, fun e => by rw [e] at h5; omega, hr⟩
  · rw [if_neg hr] at h
    exact absurd h List.not_mem_nil
theorem lc_getD_mem {L : List Int} {k : Nat} (hk : k < L.length) : L.getD k 0 ∈ L := by
  rw [List.getD_eq_getElem?_getD, List.getElem?_eq_getElem hk]
  exact List.getElem_mem hk
theorem lc_mf_ok {f : Int → Int} {s mv : Int} (hf : ∀ j : Int, 0 ≤ j → j < 36 → 0 ≤ f j ∧ f j ≤ 2) (hs : 1 ≤ s ∧ s ≤ 2) : ∀ j : Int, 0 ≤ j → j < 36 → 0 ≤ lc_mf f s mv j ∧ lc_mf f s mv j ≤ 2 := by
  intro j h1 h2
  have h3 := hf j h1 h2
  unfold lc_mf lc_u
  (repeat' split) <;> omega
theorem lc_wth_r (f : Int → Int) (s : Int) : -36 ≤ lc_wth f s ∧ lc_wth f s ≤ 36 := by
  have h1 := lc_cnt_r f 1 36
  have h2 := lc_cnt_r f 2 36
  unfold lc_wth
  split <;> omega
theorem lc_mv_r {f : Int → Int} {s q m mv : Int} (h : mv ∈ lc_mv f s q m) : 0 ≤ mv ∧ mv < 3600 := by
  unfold lc_mv at h
  by_cases hr : lc_res (lc_cnt f 1 36) (lc_cnt f 2 36) q m = 0
  · rw [if_pos hr] at h
    rcases List.mem_append.mp h with h1 | h1
    · obtain ⟨fr, to, h2, h3, -, rfl⟩ := lc_aal_mem.mp h1
      omega
    · obtain ⟨fr, to, h2, h3, -, rfl⟩ := lc_aal_mem.mp h1
      omega
  · rw [if_neg hr] at h
    exact absurd h List.not_mem_nil
theorem lc_fold_r {V : (Int → Int) → Int → Int → Int} {f : Int → Int} {s q : Int} (hV : ∀ f s q, -36 ≤ V f s q ∧ V f s q ≤ 36) : ∀ (L : List Int) (a : Int × Int), (∀ mv ∈ L, 0 ≤ mv ∧ mv < 3600) → ((-1000 ≤ a.1 ∧ a.1 ≤ 36) ∧ (-1 ≤ a.2 ∧ a.2 < 3600) ∧ (a.2 = -1 ∨ -36 ≤ a.1)) → ((-1000 ≤ (L.foldl (lc_st V f s q) a).1 ∧ (L.foldl (lc_st V f s q) a).1 ≤ 36) ∧ (-1 ≤ (L.foldl (lc_st V f s q) a).2 ∧ (L.foldl (lc_st V f s q) a).2 < 3600) ∧ ((L.foldl (lc_st V f s q) a).2 = -1 ∨ -36 ≤ (L.foldl (lc_st V f s q) a).1))
  | [], _, _, h => h
  | x :: r, a, hL, h => by
    refine lc_fold_r hV r (lc_st V f s q a x) (fun mv hm => hL mv (List.mem_cons_of_mem _ hm)) ?_
    have h1 := hL x List.mem_cons_self
    have h2 := hV (lc_mf f s x) (3 - s) (lc_mq f q x)
    unfold lc_st
    split
    · exact ⟨by show -1000 ≤ -(V _ _ _) ∧ -(V _ _ _) ≤ 36; omega, by show -1 ≤ x ∧ x < 3600; omega, Or.inr (by show -36 ≤ -(V _ _ _); omega)⟩
    · exact h
theorem lc_sv_r (m : Int) : ∀ (d : Nat) (f : Int → Int) (s q : Int), -36 ≤ (lc_sv m d f s q).1 ∧ (lc_sv m d f s q).1 ≤ 36
  | 0, f, s, q => lc_wth_r f s
  | d + 1, f, s, q => by
    have h := lc_fold_r (V := fun f s q => (lc_sv m d f s q).1) (f := f) (s := s) (q := q) (lc_sv_r m d) (lc_mv f s q m) (-1000, -1) (fun mv hm => lc_mv_r hm) ⟨by decide, by decide, Or.inl rfl⟩
    have w := lc_wth_r f s
    show -36 ≤ (if ((lc_mv f s q m).foldl (lc_st (fun f s q => (lc_sv m d f s q).1) f s q) (-1000, -1)).2 = -1 then lc_wth f s else ((lc_mv f s q m).foldl (lc_st (fun f s q => (lc_sv m d f s q).1) f s q) (-1000, -1)).1) ∧ (if ((lc_mv f s q m).foldl (lc_st (fun f s q => (lc_sv m d f s q).1) f s q) (-1000, -1)).2 = -1 then lc_wth f s else ((lc_mv f s q m).foldl (lc_st (fun f s q => (lc_sv m d f s q).1) f s q) (-1000, -1)).1) ≤ 36
    split
    · exact w
    · omega
theorem lc_fd_r (m : Int) (d : Nat) (f : Int → Int) (s q : Int) (k : Nat) : (-1000 ≤ (lc_fd m d f s q k).1 ∧ (lc_fd m d f s q k).1 ≤ 36) ∧ (-1 ≤ (lc_fd m d f s q k).2 ∧ (lc_fd m d f s q k).2 < 3600) := by
  have h := lc_fold_r (V := fun f s q => (lc_sv m d f s q).1) (f := f) (s := s) (q := q) (lc_sv_r m d) ((lc_mv f s q m).take k) (-1000, -1) (fun mv hm => lc_mv_r (List.mem_of_mem_take hm)) ⟨by decide, by decide, Or.inl rfl⟩
  exact ⟨h.1, h.2.1⟩
theorem lc_back {f : Int → Int} {s x y : Int} (h1 : f x = s) (h2 : x ≠ y) : lc_u (lc_u (lc_u (lc_u f y s) x 0) x (3 - (3 - s))) y (f y) = f := by
  funext j
  by_cases e1 : j = y
  · rw [e1, lc_u_s]
  · rw [lc_u_n _ _ e1]
    by_cases e2 : j = x
    · rw [e2, lc_u_s]; omega
    · rw [lc_u_n _ _ e2, lc_u_n _ _ e2, lc_u_n _ _ e1]

set_option maxRecDepth 100000 in
set_option maxHeartbeats 4000000 in
theorem lc_cX3_search_0 (l : Launch) (n : Nat) (k0 : Nat) (ch a1 a2 a3 : Int) (f : Int → Int) (s q m : Int) (σ : lc_S) (h0_0 : σ (11) = some (.inr (3, [.ref (7), .ref (12), .ref (14), .ref (16), .int (lc_i (ch))]) : lc_Cel)) (h0_1 : σ (7) = some (.inr (6, [.ref (2), .ref (8), .ref (5)]) : lc_Cel)) (h0_2 : σ (2) = some (.inr (1, [.ref (3), .ref (4)]) : lc_Cel)) (h0_3 : σ (3) = some (lc_aI 48 (lc_pt))) (h0_4 : σ (4) = some (lc_aI 72 (lc_sp))) (h0_5 : σ (8) = some (.inr (8, [.ref (2), .int (lc_i (a1)), .int (lc_i (a2)), .int (lc_i (a3))]) : lc_Cel)) (h0_6 : σ (12) = some (.inr (0, [.ref (13), .int (lc_i (lc_cnt (f) 1 36)), .int (lc_i (lc_cnt (f) 2 36)), .int (lc_i (s)), .int (lc_i (q)), .int (lc_i (m))]) : lc_Cel)) (h0_7 : σ (13) = some (lc_aI 36 (f))) (hk0 : 4 ≤ k0) (hs : 1 ≤ s ∧ s ≤ 2) : lc_Con l yX3_search cX3_search 12 (some .int) (lc_Rd k0) [.ref (11), .int (lc_i (0))] n σ (fun v n2 σ2 => v = some (.int (lc_i ((lc_sv m 0 f s q).1))) ∧ n = n2 ∧ σ = σ2) := by
  refine lc_con RX3 false (by decide) rfl (fun h => absurd h (by decide)) (Nat.le_of_ble_eq_true rfl) ?_
  suffices H : ∀ Q : lc_QT, (∀ v n2 σ2, (fun v n2 σ2 => v = some (.int (lc_i ((lc_sv m 0 f s q).1))) ∧ n = n2 ∧ σ = σ2 : lc_QT) v n2 σ2 → Q v n2 σ2) → lc_V l RX3 cX3_search 12 (some .int) false (lc_Rd k0) (lc_G Q 0 0) lc_E0 0 0 n 0 [(0, .ref (11)), (1, .int (lc_i (0)))] [] σ from H _ (fun _ _ _ h => h)
  intro Q hQ
  refine lc_iload_n dX3_search_0 rfl 1 rfl ?_
  refine lc_if_le (tgt := 9) dX3_search_1 (by decide) (by omega) (fun h_1_0 => ?_) (fun h_1_0 => ?_)
  · skip
    refine lc_aload_n dX3_search_9 rfl 0 rfl ?_
    refine lc_get dX3_search_10 lc_fX3_12 h0_0 rfl ?_
    refine lc_callV (As := []) (stk := []) (b := 12) dX3_search_13 lc_mX3_44 lc_yX0_worth h0_6 rfl (lc_cX0_worth l n (12) (f) (lc_cnt (f) 1 36) (lc_cnt (f) 2 36) (s) (q) (m) σ h0_6 (by omega)) rfl (lc_rm (by omega) (by decide)) ⟨Nat.le_of_ble_eq_true rfl, Nat.le_of_ble_eq_true rfl⟩ rfl (Nat.le_of_ble_eq_true rfl) (fun v2 n3 σ4 q5 => ?_)
    obtain ⟨rfl, rfl, rfl⟩ := q5
    exact lc_iret dX3_search_16 rfl (Nat.le_of_ble_eq_true rfl) (Nat.le_of_ble_eq_true rfl) (hQ _ _ _ ⟨lc_some (rfl), rfl, rfl⟩)
  · exact absurd h_1_0 (by decide)

set_option maxRecDepth 100000 in
set_option maxHeartbeats 4000000 in
/-- Lookahead.search, depth 1 -/
theorem lc_cX3_search_1 (l : Launch) (n : Nat) (k0 : Nat) (ch a1 a2 a3 : Int) (f : Int → Int) (s q m : Int) (y1 y2 : Int) (g1 : Int → Int) (σ : lc_S) (h0_0 : σ (11) = some (.inr (3, [.ref (7), .ref (12), .ref (14), .ref (16), .int (lc_i (ch))]) : lc_Cel)) (h0_1 : σ (7) = some (.inr (6, [.ref (2), .ref (8), .ref (5)]) : lc_Cel)) (h0_2 : σ (2) = some (.inr (1, [.ref (3), .ref (4)]) : lc_Cel)) (h0_3 : σ (3) = some (lc_aI 48 (lc_pt))) (h0_4 : σ (4) = some (lc_aI 72 (lc_sp))) (h0_5 : σ (8) = some (.inr (8, [.ref (2), .int (lc_i (a1)), .int (lc_i (a2)), .int (lc_i (a3))]) : lc_Cel)) (h0_6 : σ (12) = some (.inr (0, [.ref (13), .int (lc_i (lc_cnt (f) 1 36)), .int (lc_i (lc_cnt (f) 2 36)), .int (lc_i (s)), .int (lc_i (q)), .int (lc_i (m))]) : lc_Cel)) (h0_7 : σ (13) = some (lc_aI 36 (f))) (h0_8 : σ (14) = some (.inr (4, [.ref (15), .int (lc_i (y1)), .int (lc_i (y2))]) : lc_Cel)) (h0_9 : σ (15) = some (lc_aI 364 (g1))) (hk0 : 5 ≤ k0) (hf : ∀ j : Int, 0 ≤ j → j < 36 → 0 ≤ f j ∧ f j ≤ 2) (hs : 1 ≤ s ∧ s ≤ 2) (hq : 0 ≤ q ∧ q ≤ 1001) (hm : 0 ≤ m ∧ m ≤ 1000) : lc_Con l yX3_search cX3_search 12 (some .int) (lc_Rd k0) [.ref (11), .int (lc_i (1))] n σ (fun v n2 σ2 => ∃ (c1 c2 c3 z1 z2 : Int) (g3 : Int → Int), v = some (.int (lc_i ((lc_sv m 1 f s q).1))) ∧ n = n2 ∧ σ2 (8) = some (.inr (8, [.ref (2), .int (lc_i (c1)), .int (lc_i (c2)), .int (lc_i (c3))]) : lc_Cel) ∧ σ2 (11) = some (.inr (3, [.ref (7), .ref (12), .ref (14), .ref (16), .int (lc_i ((lc_sv m 1 f s q).2))]) : lc_Cel) ∧ σ2 (12) = some (.inr (0, [.ref (13), .int (lc_i (lc_cnt (f) 1 36)), .int (lc_i (lc_cnt (f) 2 36)), .int (lc_i (s)), .int (lc_i (q)), .int (lc_i (m))]) : lc_Cel) ∧ σ2 (13) = some (lc_aI 36 (f)) ∧ σ2 (14) = some (.inr (4, [.ref (15), .int (lc_i (z1)), .int (lc_i (z2))]) : lc_Cel) ∧ σ2 (15) = some (lc_aI 364 (g3)) ∧ ∀ i : Nat, i ≠ 8 → i ≠ 11 → i ≠ 12 → i ≠ 13 → i ≠ 14 → i ≠ 15 → σ2 i = σ i) := by
  refine lc_con RX3 false (by decide) rfl (fun h => absurd h (by decide)) (Nat.le_of_ble_eq_true rfl) ?_
  suffices H : ∀ Q : lc_QT, (∀ v n2 σ2, (fun v n2 σ2 => ∃ (c1 c2 c3 z1 z2 : Int) (g3 : Int → Int), v = some (.int (lc_i ((lc_sv m 1 f s q).1))) ∧ n = n2 ∧ σ2 (8) = some (.inr (8, [.ref (2), .int (lc_i (c1)), .int (lc_i (c2)), .int (lc_i (c3))]) : lc_Cel) ∧ σ2 (11) = some (.inr (3, [.ref (7), .ref (12), .ref (14), .ref (16), .int (lc_i ((lc_sv m 1 f s q).2))]) : lc_Cel) ∧ σ2 (12) = some (.inr (0, [.ref (13), .int (lc_i (lc_cnt (f) 1 36)), .int (lc_i (lc_cnt (f) 2 36)), .int (lc_i (s)), .int (lc_i (q)), .int (lc_i (m))]) : lc_Cel) ∧ σ2 (13) = some (lc_aI 36 (f)) ∧ σ2 (14) = some (.inr (4, [.ref (15), .int (lc_i (z1)), .int (lc_i (z2))]) : lc_Cel) ∧ σ2 (15) = some (lc_aI 364 (g3)) ∧ ∀ i : Nat, i ≠ 8 → i ≠ 11 → i ≠ 12 → i ≠ 13 → i ≠ 14 → i ≠ 15 → σ2 i = σ i : lc_QT) v n2 σ2 → Q v n2 σ2) → lc_V l RX3 cX3_search 12 (some .int) false (lc_Rd k0) (lc_G Q 0 0) lc_E0 0 0 n 0 [(0, .ref (11)), (1, .int (lc_i (1)))] [] σ from H _ (fun _ _ _ h => h)
  intro Q hQ
  refine lc_iload_n dX3_search_0 rfl 1 rfl ?_
  refine lc_if_le (tgt := 9) dX3_search_1 (by decide) (by omega) (fun h_1_0 => ?_) (fun h_1_0 => ?_)
  · exact absurd h_1_0 (by decide)
  · skip
    refine lc_iload_n dX3_search_4 rfl 1 rfl ?_
    refine lc_iconst dX3_search_5 ?_
    refine lc_icmp_le (tgt := 17) dX3_search_6 (by decide) (by omega) (fun h_6_1 => ?_) (fun h_6_1 => ?_)
    · skip
      refine lc_iload_n dX3_search_17 rfl 1 rfl ?_
      refine lc_iconst dX3_search_18 ?_
      refine lc_icmp_ne (tgt := 29) dX3_search_19 (by decide) (by omega) (fun h_19_2 => ?_) (fun h_19_2 => ?_)
      · exact absurd rfl h_19_2
      · skip
        refine lc_aload_n dX3_search_22 rfl 0 rfl ?_
        refine lc_get dX3_search_23 lc_fX3_21 h0_0 rfl ?_
        refine lc_goto (tgt := 33) dX3_search_26 (by decide) ?_
        refine lc_astore_n (lv' := [(0, .ref (11)), (1, .int (lc_i (1))), (2, .ref (14))]) dX3_search_33 rfl (by decide) rfl ?_
        refine lc_aload_n dX3_search_34 rfl 0 rfl ?_
        refine lc_get dX3_search_35 lc_fX3_28 h0_0 rfl ?_
        refine lc_aload_n dX3_search_38 rfl 0 rfl ?_
        refine lc_get dX3_search_39 lc_fX3_12 h0_0 rfl ?_
        refine lc_aload_n dX3_search_42 rfl 2 rfl ?_
        refine lc_callV (As := [.ref (12), .ref (14)]) (stk := []) (b := 7) dX3_search_43 lc_mX3_48 lc_yX6_listMoves h0_1 rfl (lc_cX6_listMoves l n (a1) (a2) (a3) (12) (f) (s) (q) (m) (14) (g1) (y1) (y2) σ h0_1 h0_2 h0_3 h0_4 h0_5 h0_6 h0_7 h0_8 h0_9 (hf) (by omega) (hs) (by omega) (by omega) (by omega)) rfl (lc_rm (by omega) (by decide)) ⟨Nat.le_of_ble_eq_true rfl, Nat.le_of_ble_eq_true rfl⟩ rfl (Nat.le_of_ble_eq_true rfl) (fun v13 n14 σ15 q16 => ?_)
        obtain ⟨c10, c11, c12, g9, rfl, rfl, h4, h5, h6, hl7, fr8⟩ := q16
        have h17 : σ15 (11) = some (.inr (3, [.ref (7), .ref (12), .ref (14), .ref (16), .int (lc_i (ch))]) : lc_Cel) := (fr8 _ (by omega) (by omega) (by omega)).trans h0_0
        have h18 : σ15 (7) = some (.inr (6, [.ref (2), .ref (8), .ref (5)]) : lc_Cel) := (fr8 _ (by omega) (by omega) (by omega)).trans h0_1
        have h19 : σ15 (2) = some (.inr (1, [.ref (3), .ref (4)]) : lc_Cel) := (fr8 _ (by omega) (by omega) (by omega)).trans h0_2
        have h20 : σ15 (3) = some (lc_aI 48 (lc_pt)) := (fr8 _ (by omega) (by omega) (by omega)).trans h0_3
        have h21 : σ15 (4) = some (lc_aI 72 (lc_sp)) := (fr8 _ (by omega) (by omega) (by omega)).trans h0_4
        have h22 : σ15 (12) = some (.inr (0, [.ref (13), .int (lc_i (lc_cnt (f) 1 36)), .int (lc_i (lc_cnt (f) 2 36)), .int (lc_i (s)), .int (lc_i (q)), .int (lc_i (m))]) : lc_Cel) := (fr8 _ (by omega) (by omega) (by omega)).trans h0_6
        have h23 : σ15 (13) = some (lc_aI 36 (f)) := (fr8 _ (by omega) (by omega) (by omega)).trans h0_7
        refine lc_aload_n dX3_search_46 rfl 0 rfl ?_
        refine lc_get dX3_search_47 lc_fX3_12 h17 rfl ?_
        refine lc_callV (As := []) (stk := []) (b := 12) dX3_search_50 lc_mX3_54 lc_yX0_quietMoves h22 rfl (lc_cX0_quietMoves l n (12) (f) (lc_cnt (f) 1 36) (lc_cnt (f) 2 36) (s) (q) (m) σ15 h22) rfl (lc_rm (by omega) (by decide)) ⟨Nat.le_of_ble_eq_true rfl, Nat.le_of_ble_eq_true rfl⟩ rfl (Nat.le_of_ble_eq_true rfl) (fun v24 n25 σ26 q27 => ?_)
        obtain ⟨rfl, rfl, rfl⟩ := q27
        refine lc_istore_n (lv' := [(0, .ref (11)), (1, .int (lc_i (1))), (2, .ref (14)), (3, .int (lc_i (q)))]) dX3_search_53 rfl (by decide) rfl ?_
        refine lc_sipush dX3_search_54 (by decide) ?_
        refine lc_istore (lv' := [(0, .ref (11)), (1, .int (lc_i (1))), (2, .ref (14)), (3, .int (lc_i (q))), (4, .int (lc_i ((-1000))))]) dX3_search_57 (by decide) rfl ?_
        refine lc_iconst dX3_search_59 ?_
        refine lc_istore (lv' := [(0, .ref (11)), (1, .int (lc_i (1))), (2, .ref (14)), (3, .int (lc_i (q))), (4, .int (lc_i ((-1000)))), (5, .int (lc_i ((-1))))]) dX3_search_60 (by decide) rfl ?_
        refine lc_iconst dX3_search_62 ?_
        refine lc_istore (lv' := [(0, .ref (11)), (1, .int (lc_i (1))), (2, .ref (14)), (3, .int (lc_i (q))), (4, .int (lc_i ((-1000)))), (5, .int (lc_i ((-1)))), (6, .int (lc_i (0)))]) dX3_search_63 (by decide) rfl ?_
        have loop29 : ∀ (N28 : Nat) (k : Nat) (σ31 : lc_S), (σ31 (12) = some (.inr (0, [.ref (13), .int (lc_i (lc_cnt (f) 1 36)), .int (lc_i (lc_cnt (f) 2 36)), .int (lc_i (s)), .int (lc_i (q)), .int (lc_i (m))]) : lc_Cel)) → (σ31 (13) = some (lc_aI 36 (f))) → (∀ i : Nat, i ≠ 12 → i ≠ 13 → σ31 i = σ15 i) → (k ≤ (lc_mv f s q m).length) → 364 - (k : Int) < (N28 : Int) → lc_V l RX3 cX3_search 12 (some .int) false (lc_Rd k0) (lc_G Q 0 0) lc_E0 0 0 n 65 [(0, .ref (11)), (1, .int (lc_i (1))), (2, .ref (14)), (3, .int (lc_i (q))), (4, .int (lc_i ((lc_fd m 0 f s q k).1))), (5, .int (lc_i ((lc_fd m 0 f s q k).2))), (6, .int (lc_i ((k : Int))))] [] σ31 := by
          intro N28
          induction N28 with
          | zero =>
            intro k σ31 h32 h33 fr34 hk hm35
            exact absurd hm35 (by omega)
          | succ N28 ih30 =>
            intro k σ31 h32 h33 fr34 hk hm35
            have h36 : σ31 (11) = some (.inr (3, [.ref (7), .ref (12), .ref (14), .ref (16), .int (lc_i (ch))]) : lc_Cel) := (fr34 _ (by omega) (by omega)).trans h17
            have h37 : σ31 (7) = some (.inr (6, [.ref (2), .ref (8), .ref (5)]) : lc_Cel) := (fr34 _ (by omega) (by omega)).trans h18
            have h38 : σ31 (2) = some (.inr (1, [.ref (3), .ref (4)]) : lc_Cel) := (fr34 _ (by omega) (by omega)).trans h19
            have h39 : σ31 (3) = some (lc_aI 48 (lc_pt)) := (fr34 _ (by omega) (by omega)).trans h20
            have h40 : σ31 (4) = some (lc_aI 72 (lc_sp)) := (fr34 _ (by omega) (by omega)).trans h21
            have h41 : σ31 (8) = some (.inr (8, [.ref (2), .int (lc_i (c10)), .int (lc_i (c11)), .int (lc_i (c12))]) : lc_Cel) := (fr34 _ (by omega) (by omega)).trans h4
            have h42 : σ31 (14) = some (.inr (4, [.ref (15), .int (lc_i (((lc_mv (f) (s) (q) (m)).length : Int))), .int (lc_i (((lc_caps (f) (s) (q) (m)).length : Int)))]) : lc_Cel) := (fr34 _ (by omega) (by omega)).trans h5
            have h43 : σ31 (15) = some (lc_aI 364 (g9)) := (fr34 _ (by omega) (by omega)).trans h6
            have hfd := lc_fd_r m 0 f s q k
            refine lc_iload dX3_search_65 6 rfl ?_
            refine lc_aload_n dX3_search_67 rfl 2 rfl ?_
            refine lc_callV (As := []) (stk := [.int (lc_i ((k : Int)))]) (b := 14) dX3_search_68 lc_mX3_57 lc_yX4_size h42 rfl (lc_cX4_size l n (14) (g9) (((lc_mv (f) (s) (q) (m)).length : Int)) (((lc_caps (f) (s) (q) (m)).length : Int)) σ31 h42) rfl (lc_rm (by omega) (by decide)) ⟨Nat.le_of_ble_eq_true rfl, Nat.le_of_ble_eq_true rfl⟩ rfl (Nat.le_of_ble_eq_true rfl) (fun v44 n45 σ46 q47 => ?_)
            obtain ⟨rfl, rfl, rfl⟩ := q47
            refine lc_icmp_ge (tgt := 154) dX3_search_71 (by decide) (by omega) (fun h_71_47 => ?_) (fun h_71_47 => ?_)
            · skip
              refine lc_aload_n dX3_search_154 rfl 0 rfl ?_
              refine lc_iload dX3_search_155 5 rfl ?_
              refine lc_wI (vs' := [.ref (7), .ref (12), .ref (14), .ref (16), .int (lc_i ((lc_fd m 0 f s q k).2))]) dX3_search_157 lc_fX3_40 h36 (Nat.le_of_ble_eq_true rfl) rfl rfl rfl (fun σ49 h50 fr51 => ?_)
              have h52 : σ49 (7) = some (.inr (6, [.ref (2), .ref (8), .ref (5)]) : lc_Cel) := (fr51 _ (by omega)).trans h37
              have h53 : σ49 (2) = some (.inr (1, [.ref (3), .ref (4)]) : lc_Cel) := (fr51 _ (by omega)).trans h38
              have h54 : σ49 (3) = some (lc_aI 48 (lc_pt)) := (fr51 _ (by omega)).trans h39
              have h55 : σ49 (4) = some (lc_aI 72 (lc_sp)) := (fr51 _ (by omega)).trans h40
              have h56 : σ49 (8) = some (.inr (8, [.ref (2), .int (lc_i (c10)), .int (lc_i (c11)), .int (lc_i (c12))]) : lc_Cel) := (fr51 _ (by omega)).trans h41
              have h57 : σ49 (14) = some (.inr (4, [.ref (15), .int (lc_i (((lc_mv (f) (s) (q) (m)).length : Int))), .int (lc_i (((lc_caps (f) (s) (q) (m)).length : Int)))]) : lc_Cel) := (fr51 _ (by omega)).trans h42
              have h58 : σ49 (15) = some (lc_aI 364 (g9)) := (fr51 _ (by omega)).trans h43
              have h59 : σ49 (12) = some (.inr (0, [.ref (13), .int (lc_i (lc_cnt (f) 1 36)), .int (lc_i (lc_cnt (f) 2 36)), .int (lc_i (s)), .int (lc_i (q)), .int (lc_i (m))]) : lc_Cel) := (fr51 _ (by omega)).trans h32
              have h60 : σ49 (13) = some (lc_aI 36 (f)) := (fr51 _ (by omega)).trans h33
              refine lc_iload dX3_search_160 5 rfl ?_
              refine lc_iconst dX3_search_162 ?_
              refine lc_icmp_ne (tgt := 176) dX3_search_163 (by decide) (by omega) (fun h_163_60 => ?_) (fun h_163_60 => ?_)
              · skip
                refine lc_iload dX3_search_176 4 rfl ?_
                have esv := lc_sv_s (d := 0) (m := m) (f := f) (s := s) (q := q) (k := k) (by omega)
                exact lc_iret dX3_search_178 rfl (Nat.le_of_ble_eq_true rfl) (Nat.le_of_ble_eq_true rfl) (hQ _ _ _ ⟨(c10), (c11), (c12), (((lc_mv (f) (s) (q) (m)).length : Int)), (((lc_caps (f) (s) (q) (m)).length : Int)), (g9), (by rw [esv]; exact congrArg (fun z => some (Value.int (lc_i z))) (if_neg h_163_60).symm), rfl, h56, (by rw [esv]; exact h50), h59, h60, h57, h58, (fun i _ _ _ _ _ _ => ((fr51 i (by omega)).trans ((fr34 i (by omega) (by omega)).trans (fr8 i (by omega) (by omega) (by omega)))))⟩)
              · skip
                refine lc_aload_n dX3_search_166 rfl 0 rfl ?_
                refine lc_get dX3_search_167 lc_fX3_12 h50 rfl ?_
                refine lc_callV (As := []) (stk := []) (b := 12) dX3_search_170 lc_mX3_44 lc_yX0_worth h59 rfl (lc_cX0_worth l n (12) (f) (lc_cnt (f) 1 36) (lc_cnt (f) 2 36) (s) (q) (m) σ49 h59 (by omega)) rfl (lc_rm (by omega) (by decide)) ⟨Nat.le_of_ble_eq_true rfl, Nat.le_of_ble_eq_true rfl⟩ rfl (Nat.le_of_ble_eq_true rfl) (fun v62 n63 σ64 q65 => ?_)
                obtain ⟨rfl, rfl, rfl⟩ := q65
                refine lc_goto (tgt := 178) dX3_search_173 (by decide) ?_
                have esv := lc_sv_s (d := 0) (m := m) (f := f) (s := s) (q := q) (k := k) (by omega)
                exact lc_iret dX3_search_178 rfl (Nat.le_of_ble_eq_true rfl) (Nat.le_of_ble_eq_true rfl) (hQ _ _ _ ⟨(c10), (c11), (c12), (((lc_mv (f) (s) (q) (m)).length : Int)), (((lc_caps (f) (s) (q) (m)).length : Int)), (g9), (by rw [esv]; exact congrArg (fun z => some (Value.int (lc_i z))) (if_pos h_163_60).symm), rfl, h56, (by rw [esv]; exact h50), h59, h60, h57, h58, (fun i _ _ _ _ _ _ => ((fr51 i (by omega)).trans ((fr34 i (by omega) (by omega)).trans (fr8 i (by omega) (by omega) (by omega)))))⟩)
            · skip
              have hkl : k < (lc_mv f s q m).length := (by omega)
              obtain ⟨mv, hmv⟩ : ∃ x, x = (lc_mv f s q m).getD k 0 := ⟨_, rfl⟩
              have hme : mv ∈ lc_mv f s q m := hmv ▸ lc_getD_mem hkl
              have hmm := lc_mv_mem hs.1 hme
              have hmr := lc_mv_r hme
              have hfm := lc_mf_ok (mv := mv) hf hs
              have hft := hf (mv % 100) hmm.1.2.1 hmm.1.2.2
              have hmq : 0 ≤ lc_mq f q mv ∧ lc_mq f q mv ≤ q + 1 := (by unfold lc_mq; split <;> omega)
              refine lc_aload_n dX3_search_74 rfl 2 rfl ?_
              refine lc_iload dX3_search_75 6 rfl ?_
              refine lc_callV (As := [.int (lc_i ((k : Int)))]) (stk := []) (b := 14) dX3_search_77 lc_mX3_60 lc_yX4_get h42 rfl (lc_cX4_get l n (14) (g9) (((lc_mv (f) (s) (q) (m)).length : Int)) (((lc_caps (f) (s) (q) (m)).length : Int)) ((k : Int)) σ31 h42 h43 (by omega) (by omega)) rfl (lc_rm (by omega) (by decide)) ⟨Nat.le_of_ble_eq_true rfl, Nat.le_of_ble_eq_true rfl⟩ rfl (Nat.le_of_ble_eq_true rfl) (fun v66 n67 σ68 q69 => ?_)
              obtain ⟨rfl, rfl, rfl⟩ := q69
              refine lc_top (congrArg (fun z => Value.int (lc_i z)) (show (if 0 ≤ ((k : Int)) ∧ ((k : Int)) < ((lc_mv (f) (s) (q) (m)).length : Int) then (g9) ((k : Int)) else -1 : Int) = mv from by rw [if_pos (by omega), hmv]; exact hl7.1 k hkl)) ?_
              refine lc_istore (lv' := [(0, .ref (11)), (1, .int (lc_i (1))), (2, .ref (14)), (3, .int (lc_i (q))), (4, .int (lc_i ((lc_fd m 0 f s q k).1))), (5, .int (lc_i ((lc_fd m 0 f s q k).2))), (6, .int (lc_i ((k : Int)))), (7, .int (lc_i (mv)))]) dX3_search_80 (by decide) rfl ?_
              refine lc_iload dX3_search_82 7 rfl ?_
              refine lc_bipush dX3_search_84 (by decide) ?_
              refine lc_idiv dX3_search_86 (by omega) ?_
              refine lc_top (congrArg (fun z => Value.int (lc_i z)) (show ((mv) / (100) : Int) = mv / 100 from rfl)) ?_
              refine lc_istore (lv' := [(0, .ref (11)), (1, .int (lc_i (1))), (2, .ref (14)), (3, .int (lc_i (q))), (4, .int (lc_i ((lc_fd m 0 f s q k).1))), (5, .int (lc_i ((lc_fd m 0 f s q k).2))), (6, .int (lc_i ((k : Int)))), (7, .int (lc_i (mv))), (8, .int (lc_i (mv / 100)))]) dX3_search_87 (by decide) rfl ?_
              refine lc_iload dX3_search_89 7 rfl ?_
              refine lc_bipush dX3_search_91 (by decide) ?_
              refine lc_irem dX3_search_93 (by omega) ?_
              refine lc_top (congrArg (fun z => Value.int (lc_i z)) (show ((mv) % (100) : Int) = mv % 100 from rfl)) ?_
              refine lc_istore (lv' := [(0, .ref (11)), (1, .int (lc_i (1))), (2, .ref (14)), (3, .int (lc_i (q))), (4, .int (lc_i ((lc_fd m 0 f s q k).1))), (5, .int (lc_i ((lc_fd m 0 f s q k).2))), (6, .int (lc_i ((k : Int)))), (7, .int (lc_i (mv))), (8, .int (lc_i (mv / 100))), (9, .int (lc_i (mv % 100)))]) dX3_search_94 (by decide) rfl ?_
              refine lc_aload_n dX3_search_96 rfl 0 rfl ?_
              refine lc_get dX3_search_97 lc_fX3_12 h36 rfl ?_
              refine lc_iload dX3_search_100 8 rfl ?_
              refine lc_iload dX3_search_102 9 rfl ?_
              refine lc_callV (As := [.int (lc_i (mv / 100)), .int (lc_i (mv % 100))]) (stk := []) (b := 12) dX3_search_104 lc_mX3_63 lc_yX0_make h32 rfl (lc_cX0_make l n (12) (f) (s) (q) (m) (mv / 100) (mv % 100) σ31 h32 h33 (hf) (hs) (by omega)) rfl (lc_rm (by omega) (by decide)) ⟨Nat.le_of_ble_eq_true rfl, Nat.le_of_ble_eq_true rfl⟩ rfl (Nat.le_of_ble_eq_true rfl) (fun v73 n74 σ75 q76 => ?_)
              obtain ⟨rfl, rfl, h71, h72, fr70⟩ := q76
              have h77 : σ75 (11) = some (.inr (3, [.ref (7), .ref (12), .ref (14), .ref (16), .int (lc_i (ch))]) : lc_Cel) := (fr70 _ (by omega) (by omega)).trans h36
              have h78 : σ75 (7) = some (.inr (6, [.ref (2), .ref (8), .ref (5)]) : lc_Cel) := (fr70 _ (by omega) (by omega)).trans h37
              have h79 : σ75 (2) = some (.inr (1, [.ref (3), .ref (4)]) : lc_Cel) := (fr70 _ (by omega) (by omega)).trans h38
              have h80 : σ75 (3) = some (lc_aI 48 (lc_pt)) := (fr70 _ (by omega) (by omega)).trans h39
              have h81 : σ75 (4) = some (lc_aI 72 (lc_sp)) := (fr70 _ (by omega) (by omega)).trans h40
              have h82 : σ75 (8) = some (.inr (8, [.ref (2), .int (lc_i (c10)), .int (lc_i (c11)), .int (lc_i (c12))]) : lc_Cel) := (fr70 _ (by omega) (by omega)).trans h41
              have h83 : σ75 (14) = some (.inr (4, [.ref (15), .int (lc_i (((lc_mv (f) (s) (q) (m)).length : Int))), .int (lc_i (((lc_caps (f) (s) (q) (m)).length : Int)))]) : lc_Cel) := (fr70 _ (by omega) (by omega)).trans h42
              have h84 : σ75 (15) = some (lc_aI 364 (g9)) := (fr70 _ (by omega) (by omega)).trans h43
              have h85 : σ75 (12) = some (.inr (0, [.ref (13), .int (lc_i (lc_cnt (lc_mf f s mv) 1 36)), .int (lc_i (lc_cnt (lc_mf f s mv) 2 36)), .int (lc_i (3 - s)), .int (lc_i (lc_mq f q mv)), .int (lc_i (m))]) : lc_Cel) := h71
              have h86 : σ75 (13) = some (lc_aI 36 (lc_mf f s mv)) := h72
              refine lc_istore (lv' := [(0, .ref (11)), (1, .int (lc_i (1))), (2, .ref (14)), (3, .int (lc_i (q))), (4, .int (lc_i ((lc_fd m 0 f s q k).1))), (5, .int (lc_i ((lc_fd m 0 f s q k).2))), (6, .int (lc_i ((k : Int)))), (7, .int (lc_i (mv))), (8, .int (lc_i (mv / 100))), (9, .int (lc_i (mv % 100))), (10, .int (lc_i ((f) (mv % 100))))]) dX3_search_107 (by decide) rfl ?_
              refine lc_aload_n dX3_search_109 rfl 0 rfl ?_
              refine lc_iload_n dX3_search_110 rfl 1 rfl ?_
              refine lc_iconst dX3_search_111 ?_
              refine lc_isub dX3_search_112 ?_
              refine lc_top (congrArg (fun z => Value.int (lc_i z)) (show ((1) - (1) : Int) = 0 from rfl)) ?_
              refine lc_callV (As := [.int (lc_i (0))]) (stk := []) (b := 11) dX3_search_113 lc_mX3_36 lc_yX3_search h77 rfl (lc_cX3_search_0 l n (k0 - 1) (ch) (c10) (c11) (c12) (lc_mf f s mv) (3 - s) (lc_mq f q mv) (m) σ75 h77 h78 h79 h80 h81 h82 h85 h86 (by omega) (by omega)) rfl (lc_rm (by omega) (by decide)) ⟨Nat.le_of_ble_eq_true rfl, Nat.le_of_ble_eq_true rfl⟩ rfl (Nat.le_of_ble_eq_true rfl) (fun v87 n88 σ89 q90 => ?_)
              obtain ⟨rfl, rfl, rfl⟩ := q90
              refine lc_ineg dX3_search_116 ?_
              refine lc_istore (lv' := [(0, .ref (11)), (1, .int (lc_i (1))), (2, .ref (14)), (3, .int (lc_i (q))), (4, .int (lc_i ((lc_fd m 0 f s q k).1))), (5, .int (lc_i ((lc_fd m 0 f s q k).2))), (6, .int (lc_i ((k : Int)))), (7, .int (lc_i (mv))), (8, .int (lc_i (mv / 100))), (9, .int (lc_i (mv % 100))), (10, .int (lc_i ((f) (mv % 100)))), (11, .int (lc_i (-((lc_sv m 0 (lc_mf f s mv) (3 - s) (lc_mq f q mv)).1))))]) dX3_search_117 (by decide) rfl ?_
              have hsr := lc_sv_r m 0 (lc_mf f s mv) (3 - s) (lc_mq f q mv)
              refine lc_aload_n dX3_search_119 rfl 0 rfl ?_
              refine lc_get dX3_search_120 lc_fX3_12 h77 rfl ?_
              refine lc_iload dX3_search_123 8 rfl ?_
              refine lc_iload dX3_search_125 9 rfl ?_
              refine lc_iload dX3_search_127 10 rfl ?_
              refine lc_iload_n dX3_search_129 rfl 3 rfl ?_
              refine lc_callV (As := [.int (lc_i (mv / 100)), .int (lc_i (mv % 100)), .int (lc_i ((f) (mv % 100))), .int (lc_i (q))]) (stk := []) (b := 12) dX3_search_130 lc_mX3_67 lc_yX0_takeBack h85 rfl (lc_cX0_takeBack l n (12) (lc_mf f s mv) (3 - s) (lc_mq f q mv) (m) (mv / 100) (mv % 100) ((f) (mv % 100)) (q) σ75 h85 h86 (hfm) (by omega) (by omega) (by omega)) rfl (lc_rm (by omega) (by decide)) ⟨Nat.le_of_ble_eq_true rfl, Nat.le_of_ble_eq_true rfl⟩ rfl (Nat.le_of_ble_eq_true rfl) (fun v94 n95 σ96 q97 => ?_)
              obtain ⟨rfl, rfl, h92, h93, fr91⟩ := q97
              have h98 : σ96 (11) = some (.inr (3, [.ref (7), .ref (12), .ref (14), .ref (16), .int (lc_i (ch))]) : lc_Cel) := (fr91 _ (by omega) (by omega)).trans h77
              have h99 : σ96 (7) = some (.inr (6, [.ref (2), .ref (8), .ref (5)]) : lc_Cel) := (fr91 _ (by omega) (by omega)).trans h78
              have h100 : σ96 (2) = some (.inr (1, [.ref (3), .ref (4)]) : lc_Cel) := (fr91 _ (by omega) (by omega)).trans h79
              have h101 : σ96 (3) = some (lc_aI 48 (lc_pt)) := (fr91 _ (by omega) (by omega)).trans h80
              have h102 : σ96 (4) = some (lc_aI 72 (lc_sp)) := (fr91 _ (by omega) (by omega)).trans h81
              have h103 : σ96 (8) = some (.inr (8, [.ref (2), .int (lc_i (c10)), .int (lc_i (c11)), .int (lc_i (c12))]) : lc_Cel) := (fr91 _ (by omega) (by omega)).trans h82
              have h104 : σ96 (14) = some (.inr (4, [.ref (15), .int (lc_i (((lc_mv (f) (s) (q) (m)).length : Int))), .int (lc_i (((lc_caps (f) (s) (q) (m)).length : Int)))]) : lc_Cel) := (fr91 _ (by omega) (by omega)).trans h83
              have h105 : σ96 (15) = some (lc_aI 364 (g9)) := (fr91 _ (by omega) (by omega)).trans h84
              have eR := lc_back hmm.2.1 hmm.2.2.1
              have eS : 3 - (3 - s) = s := (by omega)
              have h106 : σ96 (12) = some (.inr (0, [.ref (13), .int (lc_i (lc_cnt (f) 1 36)), .int (lc_i (lc_cnt (f) 2 36)), .int (lc_i (s)), .int (lc_i (q)), .int (lc_i (m))]) : lc_Cel) := (by have h9 := h92; rw [show lc_mf f s mv = lc_u (lc_u f (mv % 100) s) (mv / 100) 0 from rfl, eR, eS] at h9; exact h9)
              have h107 : σ96 (13) = some (lc_aI 36 (f)) := (by have h9 := h93; rw [show lc_mf f s mv = lc_u (lc_u f (mv % 100) s) (mv / 100) 0 from rfl, eR] at h9; exact h9)
              refine lc_iload dX3_search_133 11 rfl ?_
              refine lc_iload dX3_search_135 4 rfl ?_
              refine lc_icmp_le (tgt := 148) dX3_search_137 (by decide) (by omega) (fun h_137_107 => ?_) (fun h_137_107 => ?_)
              · skip
                refine lc_iinc (lv' := [(0, .ref (11)), (1, .int (lc_i (1))), (2, .ref (14)), (3, .int (lc_i (q))), (4, .int (lc_i ((lc_fd m 0 f s q k).1))), (5, .int (lc_i ((lc_fd m 0 f s q k).2))), (6, .int (lc_i ((k : Int) + 1))), (7, .int (lc_i (mv))), (8, .int (lc_i (mv / 100))), (9, .int (lc_i (mv % 100))), (10, .int (lc_i ((f) (mv % 100)))), (11, .int (lc_i (-((lc_sv m 0 (lc_mf f s mv) (3 - s) (lc_mq f q mv)).1))))]) dX3_search_148 6 rfl (by decide) rfl ?_
                refine lc_goto (tgt := 65) dX3_search_151 (by decide) ?_
                refine lc_pick (lv' := [(0, .ref (11)), (1, .int (lc_i (1))), (2, .ref (14)), (3, .int (lc_i (q))), (4, .int (lc_i ((lc_fd m 0 f s q k).1))), (5, .int (lc_i ((lc_fd m 0 f s q k).2))), (6, .int (lc_i ((k : Int) + 1)))]) [0, 1, 2, 3, 4, 5, 6] rfl ?_
                refine lc_lveq (lv' := [(0, .ref (11)), (1, .int (lc_i (1))), (2, .ref (14)), (3, .int (lc_i (q))), (4, .int (lc_i ((lc_fd m 0 f s q (k + 1)).1))), (5, .int (lc_i ((lc_fd m 0 f s q (k + 1)).2))), (6, .int (lc_i (((k + 1 : Nat) : Int))))]) (by rw [lc_fd_n hkl hmv h_137_107, show ((k + 1 : Nat) : Int) = (k : Int) + 1 from by omega]) ?_
                exact ih30 (k + 1) σ96 h106 h107 (fun i _ _ => ((fr91 i (by omega) (by omega)).trans ((fr70 i (by omega) (by omega)).trans (fr34 i (by omega) (by omega))))) (by omega) (by omega)
              · skip
                refine lc_iload dX3_search_140 11 rfl ?_
                refine lc_istore (lv' := [(0, .ref (11)), (1, .int (lc_i (1))), (2, .ref (14)), (3, .int (lc_i (q))), (4, .int (lc_i (-((lc_sv m 0 (lc_mf f s mv) (3 - s) (lc_mq f q mv)).1)))), (5, .int (lc_i ((lc_fd m 0 f s q k).2))), (6, .int (lc_i ((k : Int)))), (7, .int (lc_i (mv))), (8, .int (lc_i (mv / 100))), (9, .int (lc_i (mv % 100))), (10, .int (lc_i ((f) (mv % 100)))), (11, .int (lc_i (-((lc_sv m 0 (lc_mf f s mv) (3 - s) (lc_mq f q mv)).1))))]) dX3_search_142 (by decide) rfl ?_
                refine lc_iload dX3_search_144 7 rfl ?_
                refine lc_istore (lv' := [(0, .ref (11)), (1, .int (lc_i (1))), (2, .ref (14)), (3, .int (lc_i (q))), (4, .int (lc_i (-((lc_sv m 0 (lc_mf f s mv) (3 - s) (lc_mq f q mv)).1)))), (5, .int (lc_i (mv))), (6, .int (lc_i ((k : Int)))), (7, .int (lc_i (mv))), (8, .int (lc_i (mv / 100))), (9, .int (lc_i (mv % 100))), (10, .int (lc_i ((f) (mv % 100)))), (11, .int (lc_i (-((lc_sv m 0 (lc_mf f s mv) (3 - s) (lc_mq f q mv)).1))))]) dX3_search_146 (by decide) rfl ?_
                refine lc_iinc (lv' := [(0, .ref (11)), (1, .int (lc_i (1))), (2, .ref (14)), (3, .int (lc_i (q))), (4, .int (lc_i (-((lc_sv m 0 (lc_mf f s mv) (3 - s) (lc_mq f q mv)).1)))), (5, .int (lc_i (mv))), (6, .int (lc_i ((k : Int) + 1))), (7, .int (lc_i (mv))), (8, .int (lc_i (mv / 100))), (9, .int (lc_i (mv % 100))), (10, .int (lc_i ((f) (mv % 100)))), (11, .int (lc_i (-((lc_sv m 0 (lc_mf f s mv) (3 - s) (lc_mq f q mv)).1))))]) dX3_search_148 6 rfl (by decide) rfl ?_
                refine lc_goto (tgt := 65) dX3_search_151 (by decide) ?_
                refine lc_pick (lv' := [(0, .ref (11)), (1, .int (lc_i (1))), (2, .ref (14)), (3, .int (lc_i (q))), (4, .int (lc_i (-((lc_sv m 0 (lc_mf f s mv) (3 - s) (lc_mq f q mv)).1)))), (5, .int (lc_i (mv))), (6, .int (lc_i ((k : Int) + 1)))]) [0, 1, 2, 3, 4, 5, 6] rfl ?_
                refine lc_lveq (lv' := [(0, .ref (11)), (1, .int (lc_i (1))), (2, .ref (14)), (3, .int (lc_i (q))), (4, .int (lc_i ((lc_fd m 0 f s q (k + 1)).1))), (5, .int (lc_i ((lc_fd m 0 f s q (k + 1)).2))), (6, .int (lc_i (((k + 1 : Nat) : Int))))]) (by rw [lc_fd_t hkl hmv h_137_107, show ((k + 1 : Nat) : Int) = (k : Int) + 1 from by omega]) ?_
                exact ih30 (k + 1) σ96 h106 h107 (fun i _ _ => ((fr91 i (by omega) (by omega)).trans ((fr70 i (by omega) (by omega)).trans (fr34 i (by omega) (by omega))))) (by omega) (by omega)
        exact loop29 1000 (0) σ15 h22 h23 (fun _ _ _ => rfl) (by omega) (by omega)
    · exact absurd h_6_1 (by decide)

set_option maxRecDepth 100000 in
set_option maxHeartbeats 4000000 in
/-- Lookahead.search, depth 2 -/
theorem lc_cX3_search_2 (l : Launch) (n : Nat) (k0 : Nat) (ch a1 a2 a3 : Int) (f : Int → Int) (s q m : Int) (y1 y2 : Int) (g1 : Int → Int) (x1 x2 : Int) (g2 : Int → Int) (σ : lc_S) (h0_0 : σ (11) = some (.inr (3, [.ref (7), .ref (12), .ref (14), .ref (16), .int (lc_i (ch))]) : lc_Cel)) (h0_1 : σ (7) = some (.inr (6, [.ref (2), .ref (8), .ref (5)]) : lc_Cel)) (h0_2 : σ (2) = some (.inr (1, [.ref (3), .ref (4)]) : lc_Cel)) (h0_3 : σ (3) = some (lc_aI 48 (lc_pt))) (h0_4 : σ (4) = some (lc_aI 72 (lc_sp))) (h0_5 : σ (8) = some (.inr (8, [.ref (2), .int (lc_i (a1)), .int (lc_i (a2)), .int (lc_i (a3))]) : lc_Cel)) (h0_6 : σ (12) = some (.inr (0, [.ref (13), .int (lc_i (lc_cnt (f) 1 36)), .int (lc_i (lc_cnt (f) 2 36)), .int (lc_i (s)), .int (lc_i (q)), .int (lc_i (m))]) : lc_Cel)) (h0_7 : σ (13) = some (lc_aI 36 (f))) (h0_8 : σ (14) = some (.inr (4, [.ref (15), .int (lc_i (y1)), .int (lc_i (y2))]) : lc_Cel)) (h0_9 : σ (15) = some (lc_aI 364 (g1))) (h0_10 : σ (16) = some (.inr (4, [.ref (17), .int (lc_i (x1)), .int (lc_i (x2))]) : lc_Cel)) (h0_11 : σ (17) = some (lc_aI 364 (g2))) (hk0 : 6 ≤ k0) (hf : ∀ j : Int, 0 ≤ j → j < 36 → 0 ≤ f j ∧ f j ≤ 2) (hs : 1 ≤ s ∧ s ≤ 2) (hq : 0 ≤ q ∧ q ≤ 1000) (hm : 0 ≤ m ∧ m ≤ 1000) : lc_Con l yX3_search cX3_search 12 (some .int) (lc_Rd k0) [.ref (11), .int (lc_i (2))] n σ (fun v n2 σ2 => ∃ (c1 c2 c3 z1 z2 : Int) (g3 : Int → Int) (z3 z4 : Int) (g4 : Int → Int), v = some (.int (lc_i ((lc_sv m 2 f s q).1))) ∧ n = n2 ∧ σ2 (8) = some (.inr (8, [.ref (2), .int (lc_i (c1)), .int (lc_i (c2)), .int (lc_i (c3))]) : lc_Cel) ∧ σ2 (11) = some (.inr (3, [.ref (7), .ref (12), .ref (14), .ref (16), .int (lc_i ((lc_sv m 2 f s q).2))]) : lc_Cel) ∧ σ2 (12) = some (.inr (0, [.ref (13), .int (lc_i (lc_cnt (f) 1 36)), .int (lc_i (lc_cnt (f) 2 36)), .int (lc_i (s)), .int (lc_i (q)), .int (lc_i (m))]) : lc_Cel) ∧ σ2 (13) = some (lc_aI 36 (f)) ∧ σ2 (14) = some (.inr (4, [.ref (15), .int (lc_i (z1)), .int (lc_i (z2))]) : lc_Cel) ∧ σ2 (15) = some (lc_aI 364 (g3)) ∧ σ2 (16) = some (.inr (4, [.ref (17), .int (lc_i (z3)), .int (lc_i (z4))]) : lc_Cel) ∧ σ2 (17) = some (lc_aI 364 (g4)) ∧ ∀ i : Nat, i ≠ 8 → i ≠ 11 → i ≠ 12 → i ≠ 13 → i ≠ 14 → i ≠ 15 → i ≠ 16 → i ≠ 17 → σ2 i = σ i) := by
  refine lc_con RX3 false (by decide) rfl (fun h => absurd h (by decide)) (Nat.le_of_ble_eq_true rfl) ?_
  suffices H : ∀ Q : lc_QT, (∀ v n2 σ2, (fun v n2 σ2 => ∃ (c1 c2 c3 z1 z2 : Int) (g3 : Int → Int) (z3 z4 : Int) (g4 : Int → Int), v = some (.int (lc_i ((lc_sv m 2 f s q).1))) ∧ n = n2 ∧ σ2 (8) = some (.inr (8, [.ref (2), .int (lc_i (c1)), .int (lc_i (c2)), .int (lc_i (c3))]) : lc_Cel) ∧ σ2 (11) = some (.inr (3, [.ref (7), .ref (12), .ref (14), .ref (16), .int (lc_i ((lc_sv m 2 f s q).2))]) : lc_Cel) ∧ σ2 (12) = some (.inr (0, [.ref (13), .int (lc_i (lc_cnt (f) 1 36)), .int (lc_i (lc_cnt (f) 2 36)), .int (lc_i (s)), .int (lc_i (q)), .int (lc_i (m))]) : lc_Cel) ∧ σ2 (13) = some (lc_aI 36 (f)) ∧ σ2 (14) = some (.inr (4, [.ref (15), .int (lc_i (z1)), .int (lc_i (z2))]) : lc_Cel) ∧ σ2 (15) = some (lc_aI 364 (g3)) ∧ σ2 (16) = some (.inr (4, [.ref (17), .int (lc_i (z3)), .int (lc_i (z4))]) : lc_Cel) ∧ σ2 (17) = some (lc_aI 364 (g4)) ∧ ∀ i : Nat, i ≠ 8 → i ≠ 11 → i ≠ 12 → i ≠ 13 → i ≠ 14 → i ≠ 15 → i ≠ 16 → i ≠ 17 → σ2 i = σ i : lc_QT) v n2 σ2 → Q v n2 σ2) → lc_V l RX3 cX3_search 12 (some .int) false (lc_Rd k0) (lc_G Q 0 0) lc_E0 0 0 n 0 [(0, .ref (11)), (1, .int (lc_i (2)))] [] σ from H _ (fun _ _ _ h => h)
  intro Q hQ
  refine lc_iload_n dX3_search_0 rfl 1 rfl ?_
  refine lc_if_le (tgt := 9) dX3_search_1 (by decide) (by omega) (fun h_1_0 => ?_) (fun h_1_0 => ?_)
  · exact absurd h_1_0 (by decide)
  · skip
    refine lc_iload_n dX3_search_4 rfl 1 rfl ?_
    refine lc_iconst dX3_search_5 ?_
    refine lc_icmp_le (tgt := 17) dX3_search_6 (by decide) (by omega) (fun h_6_1 => ?_) (fun h_6_1 => ?_)
    · skip
      refine lc_iload_n dX3_search_17 rfl 1 rfl ?_
      refine lc_iconst dX3_search_18 ?_
      refine lc_icmp_ne (tgt := 29) dX3_search_19 (by decide) (by omega) (fun h_19_2 => ?_) (fun h_19_2 => ?_)
      · skip
        refine lc_aload_n dX3_search_29 rfl 0 rfl ?_
        refine lc_get dX3_search_30 lc_fX3_25 h0_0 rfl ?_
        refine lc_astore_n (lv' := [(0, .ref (11)), (1, .int (lc_i (2))), (2, .ref (16))]) dX3_search_33 rfl (by decide) rfl ?_
        refine lc_aload_n dX3_search_34 rfl 0 rfl ?_
        refine lc_get dX3_search_35 lc_fX3_28 h0_0 rfl ?_
        refine lc_aload_n dX3_search_38 rfl 0 rfl ?_
        refine lc_get dX3_search_39 lc_fX3_12 h0_0 rfl ?_
        refine lc_aload_n dX3_search_42 rfl 2 rfl ?_
        refine lc_callV (As := [.ref (12), .ref (16)]) (stk := []) (b := 7) dX3_search_43 lc_mX3_48 lc_yX6_listMoves h0_1 rfl (lc_cX6_listMoves l n (a1) (a2) (a3) (12) (f) (s) (q) (m) (16) (g2) (x1) (x2) σ h0_1 h0_2 h0_3 h0_4 h0_5 h0_6 h0_7 h0_10 h0_11 (hf) (by omega) (hs) (by omega) (by omega) (by omega)) rfl (lc_rm (by omega) (by decide)) ⟨Nat.le_of_ble_eq_true rfl, Nat.le_of_ble_eq_true rfl⟩ rfl (Nat.le_of_ble_eq_true rfl) (fun v13 n14 σ15 q16 => ?_)
        obtain ⟨c10, c11, c12, g9, rfl, rfl, h4, h5, h6, hl7, fr8⟩ := q16
        have h17 : σ15 (11) = some (.inr (3, [.ref (7), .ref (12), .ref (14), .ref (16), .int (lc_i (ch))]) : lc_Cel) := (fr8 _ (by omega) (by omega) (by omega)).trans h0_0
        have h18 : σ15 (7) = some (.inr (6, [.ref (2), .ref (8), .ref (5)]) : lc_Cel) := (fr8 _ (by omega) (by omega) (by omega)).trans h0_1
        have h19 : σ15 (2) = some (.inr (1, [.ref (3), .ref (4)]) : lc_Cel) := (fr8 _ (by omega) (by omega) (by omega)).trans h0_2
        have h20 : σ15 (3) = some (lc_aI 48 (lc_pt)) := (fr8 _ (by omega) (by omega) (by omega)).trans h0_3
        have h21 : σ15 (4) = some (lc_aI 72 (lc_sp)) := (fr8 _ (by omega) (by omega) (by omega)).trans h0_4
        have h22 : σ15 (12) = some (.inr (0, [.ref (13), .int (lc_i (lc_cnt (f) 1 36)), .int (lc_i (lc_cnt (f) 2 36)), .int (lc_i (s)), .int (lc_i (q)), .int (lc_i (m))]) : lc_Cel) := (fr8 _ (by omega) (by omega) (by omega)).trans h0_6
        have h23 : σ15 (13) = some (lc_aI 36 (f)) := (fr8 _ (by omega) (by omega) (by omega)).trans h0_7
        have h24 : σ15 (14) = some (.inr (4, [.ref (15), .int (lc_i (y1)), .int (lc_i (y2))]) : lc_Cel) := (fr8 _ (by omega) (by omega) (by omega)).trans h0_8
        have h25 : σ15 (15) = some (lc_aI 364 (g1)) := (fr8 _ (by omega) (by omega) (by omega)).trans h0_9
        refine lc_aload_n dX3_search_46 rfl 0 rfl ?_
        refine lc_get dX3_search_47 lc_fX3_12 h17 rfl ?_
        refine lc_callV (As := []) (stk := []) (b := 12) dX3_search_50 lc_mX3_54 lc_yX0_quietMoves h22 rfl (lc_cX0_quietMoves l n (12) (f) (lc_cnt (f) 1 36) (lc_cnt (f) 2 36) (s) (q) (m) σ15 h22) rfl (lc_rm (by omega) (by decide)) ⟨Nat.le_of_ble_eq_true rfl, Nat.le_of_ble_eq_true rfl⟩ rfl (Nat.le_of_ble_eq_true rfl) (fun v26 n27 σ28 q29 => ?_)
        obtain ⟨rfl, rfl, rfl⟩ := q29
        refine lc_istore_n (lv' := [(0, .ref (11)), (1, .int (lc_i (2))), (2, .ref (16)), (3, .int (lc_i (q)))]) dX3_search_53 rfl (by decide) rfl ?_
        refine lc_sipush dX3_search_54 (by decide) ?_
        refine lc_istore (lv' := [(0, .ref (11)), (1, .int (lc_i (2))), (2, .ref (16)), (3, .int (lc_i (q))), (4, .int (lc_i ((-1000))))]) dX3_search_57 (by decide) rfl ?_
        refine lc_iconst dX3_search_59 ?_
        refine lc_istore (lv' := [(0, .ref (11)), (1, .int (lc_i (2))), (2, .ref (16)), (3, .int (lc_i (q))), (4, .int (lc_i ((-1000)))), (5, .int (lc_i ((-1))))]) dX3_search_60 (by decide) rfl ?_
        refine lc_iconst dX3_search_62 ?_
        refine lc_istore (lv' := [(0, .ref (11)), (1, .int (lc_i (2))), (2, .ref (16)), (3, .int (lc_i (q))), (4, .int (lc_i ((-1000)))), (5, .int (lc_i ((-1)))), (6, .int (lc_i (0)))]) dX3_search_63 (by decide) rfl ?_
        have loop31 : ∀ (N30 : Nat) (k : Nat) (ck : Int) (e1 : Int) (e2 : Int) (e3 : Int) (w1 : Int) (w2 : Int) (gw : Int → Int) (σ33 : lc_S), (σ33 (8) = some (.inr (8, [.ref (2), .int (lc_i (e1)), .int (lc_i (e2)), .int (lc_i (e3))]) : lc_Cel)) → (σ33 (11) = some (.inr (3, [.ref (7), .ref (12), .ref (14), .ref (16), .int (lc_i (ck))]) : lc_Cel)) → (σ33 (12) = some (.inr (0, [.ref (13), .int (lc_i (lc_cnt (f) 1 36)), .int (lc_i (lc_cnt (f) 2 36)), .int (lc_i (s)), .int (lc_i (q)), .int (lc_i (m))]) : lc_Cel)) → (σ33 (13) = some (lc_aI 36 (f))) → (σ33 (14) = some (.inr (4, [.ref (15), .int (lc_i (w1)), .int (lc_i (w2))]) : lc_Cel)) → (σ33 (15) = some (lc_aI 364 (gw))) → (∀ i : Nat, i ≠ 8 → i ≠ 11 → i ≠ 12 → i ≠ 13 → i ≠ 14 → i ≠ 15 → σ33 i = σ15 i) → (k ≤ (lc_mv f s q m).length) → 364 - (k : Int) < (N30 : Int) → lc_V l RX3 cX3_search 12 (some .int) false (lc_Rd k0) (lc_G Q 0 0) lc_E0 0 0 n 65 [(0, .ref (11)), (1, .int (lc_i (2))), (2, .ref (16)), (3, .int (lc_i (q))), (4, .int (lc_i ((lc_fd m 1 f s q k).1))), (5, .int (lc_i ((lc_fd m 1 f s q k).2))), (6, .int (lc_i ((k : Int))))] [] σ33 := by
          intro N30
          induction N30 with
          | zero =>
            intro k ck e1 e2 e3 w1 w2 gw σ33 h34 h35 h36 h37 h38 h39 fr40 hk hm41
            exact absurd hm41 (by omega)
          | succ N30 ih32 =>
            intro k ck e1 e2 e3 w1 w2 gw σ33 h34 h35 h36 h37 h38 h39 fr40 hk hm41
            have h42 : σ33 (7) = some (.inr (6, [.ref (2), .ref (8), .ref (5)]) : lc_Cel) := (fr40 _ (by omega) (by omega) (by omega) (by omega) (by omega) (by omega)).trans h18
            have h43 : σ33 (2) = some (.inr (1, [.ref (3), .ref (4)]) : lc_Cel) := (fr40 _ (by omega) (by omega) (by omega) (by omega) (by omega) (by omega)).trans h19
            have h44 : σ33 (3) = some (lc_aI 48 (lc_pt)) := (fr40 _ (by omega) (by omega) (by omega) (by omega) (by omega) (by omega)).trans h20
            have h45 : σ33 (4) = some (lc_aI 72 (lc_sp)) := (fr40 _ (by omega) (by omega) (by omega) (by omega) (by omega) (by omega)).trans h21
            have h46 : σ33 (16) = some (.inr (4, [.ref (17), .int (lc_i (((lc_mv (f) (s) (q) (m)).length : Int))), .int (lc_i (((lc_caps (f) (s) (q) (m)).length : Int)))]) : lc_Cel) := (fr40 _ (by omega) (by omega) (by omega) (by omega) (by omega) (by omega)).trans h5
            have h47 : σ33 (17) = some (lc_aI 364 (g9)) := (fr40 _ (by omega) (by omega) (by omega) (by omega) (by omega) (by omega)).trans h6
            have hfd := lc_fd_r m 1 f s q k
            refine lc_iload dX3_search_65 6 rfl ?_
            refine lc_aload_n dX3_search_67 rfl 2 rfl ?_
            refine lc_callV (As := []) (stk := [.int (lc_i ((k : Int)))]) (b := 16) dX3_search_68 lc_mX3_57 lc_yX4_size h46 rfl (lc_cX4_size l n (16) (g9) (((lc_mv (f) (s) (q) (m)).length : Int)) (((lc_caps (f) (s) (q) (m)).length : Int)) σ33 h46) rfl (lc_rm (by omega) (by decide)) ⟨Nat.le_of_ble_eq_true rfl, Nat.le_of_ble_eq_true rfl⟩ rfl (Nat.le_of_ble_eq_true rfl) (fun v48 n49 σ50 q51 => ?_)
            obtain ⟨rfl, rfl, rfl⟩ := q51
            refine lc_icmp_ge (tgt := 154) dX3_search_71 (by decide) (by omega) (fun h_71_51 => ?_) (fun h_71_51 => ?_)
            · skip
              refine lc_aload_n dX3_search_154 rfl 0 rfl ?_
              refine lc_iload dX3_search_155 5 rfl ?_
              refine lc_wI (vs' := [.ref (7), .ref (12), .ref (14), .ref (16), .int (lc_i ((lc_fd m 1 f s q k).2))]) dX3_search_157 lc_fX3_40 h35 (Nat.le_of_ble_eq_true rfl) rfl rfl rfl (fun σ53 h54 fr55 => ?_)
              have h56 : σ53 (7) = some (.inr (6, [.ref (2), .ref (8), .ref (5)]) : lc_Cel) := (fr55 _ (by omega)).trans h42
              have h57 : σ53 (2) = some (.inr (1, [.ref (3), .ref (4)]) : lc_Cel) := (fr55 _ (by omega)).trans h43
              have h58 : σ53 (3) = some (lc_aI 48 (lc_pt)) := (fr55 _ (by omega)).trans h44
              have h59 : σ53 (4) = some (lc_aI 72 (lc_sp)) := (fr55 _ (by omega)).trans h45
              have h60 : σ53 (16) = some (.inr (4, [.ref (17), .int (lc_i (((lc_mv (f) (s) (q) (m)).length : Int))), .int (lc_i (((lc_caps (f) (s) (q) (m)).length : Int)))]) : lc_Cel) := (fr55 _ (by omega)).trans h46
              have h61 : σ53 (17) = some (lc_aI 364 (g9)) := (fr55 _ (by omega)).trans h47
              have h62 : σ53 (8) = some (.inr (8, [.ref (2), .int (lc_i (e1)), .int (lc_i (e2)), .int (lc_i (e3))]) : lc_Cel) := (fr55 _ (by omega)).trans h34
              have h63 : σ53 (12) = some (.inr (0, [.ref (13), .int (lc_i (lc_cnt (f) 1 36)), .int (lc_i (lc_cnt (f) 2 36)), .int (lc_i (s)), .int (lc_i (q)), .int (lc_i (m))]) : lc_Cel) := (fr55 _ (by omega)).trans h36
              have h64 : σ53 (13) = some (lc_aI 36 (f)) := (fr55 _ (by omega)).trans h37
              have h65 : σ53 (14) = some (.inr (4, [.ref (15), .int (lc_i (w1)), .int (lc_i (w2))]) : lc_Cel) := (fr55 _ (by omega)).trans h38
              have h66 : σ53 (15) = some (lc_aI 364 (gw)) := (fr55 _ (by omega)).trans h39
              refine lc_iload dX3_search_160 5 rfl ?_
              refine lc_iconst dX3_search_162 ?_
              refine lc_icmp_ne (tgt := 176) dX3_search_163 (by decide) (by omega) (fun h_163_66 => ?_) (fun h_163_66 => ?_)
              · skip
                refine lc_iload dX3_search_176 4 rfl ?_
                have esv := lc_sv_s (d := 1) (m := m) (f := f) (s := s) (q := q) (k := k) (by omega)
                exact lc_iret dX3_search_178 rfl (Nat.le_of_ble_eq_true rfl) (Nat.le_of_ble_eq_true rfl) (hQ _ _ _ ⟨(e1), (e2), (e3), (w1), (w2), (gw), (((lc_mv (f) (s) (q) (m)).length : Int)), (((lc_caps (f) (s) (q) (m)).length : Int)), (g9), (by rw [esv]; exact congrArg (fun z => some (Value.int (lc_i z))) (if_neg h_163_66).symm), rfl, h62, (by rw [esv]; exact h54), h63, h64, h65, h66, h60, h61, (fun i _ _ _ _ _ _ _ _ => ((fr55 i (by omega)).trans ((fr40 i (by omega) (by omega) (by omega) (by omega) (by omega) (by omega)).trans (fr8 i (by omega) (by omega) (by omega)))))⟩)
              · skip
                refine lc_aload_n dX3_search_166 rfl 0 rfl ?_
                refine lc_get dX3_search_167 lc_fX3_12 h54 rfl ?_
                refine lc_callV (As := []) (stk := []) (b := 12) dX3_search_170 lc_mX3_44 lc_yX0_worth h63 rfl (lc_cX0_worth l n (12) (f) (lc_cnt (f) 1 36) (lc_cnt (f) 2 36) (s) (q) (m) σ53 h63 (by omega)) rfl (lc_rm (by omega) (by decide)) ⟨Nat.le_of_ble_eq_true rfl, Nat.le_of_ble_eq_true rfl⟩ rfl (Nat.le_of_ble_eq_true rfl) (fun v68 n69 σ70 q71 => ?_)
                obtain ⟨rfl, rfl, rfl⟩ := q71
                refine lc_goto (tgt := 178) dX3_search_173 (by decide) ?_
                have esv := lc_sv_s (d := 1) (m := m) (f := f) (s := s) (q := q) (k := k) (by omega)
                exact lc_iret dX3_search_178 rfl (Nat.le_of_ble_eq_true rfl) (Nat.le_of_ble_eq_true rfl) (hQ _ _ _ ⟨(e1), (e2), (e3), (w1), (w2), (gw), (((lc_mv (f) (s) (q) (m)).length : Int)), (((lc_caps (f) (s) (q) (m)).length : Int)), (g9), (by rw [esv]; exact congrArg (fun z => some (Value.int (lc_i z))) (if_pos h_163_66).symm), rfl, h62, (by rw [esv]; exact h54), h63, h64, h65, h66, h60, h61, (fun i _ _ _ _ _ _ _ _ => ((fr55 i (by omega)).trans ((fr40 i (by omega) (by omega) (by omega) (by omega) (by omega) (by omega)).trans (fr8 i (by omega) (by omega) (by omega)))))⟩)
            · skip
              have hkl : k < (lc_mv f s q m).length := (by omega)
              obtain ⟨mv, hmv⟩ : ∃ x, x = (lc_mv f s q m).getD k 0 := ⟨_, rfl⟩
              have hme : mv ∈ lc_mv f s q m := hmv ▸ lc_getD_mem hkl
              have hmm := lc_mv_mem hs.1 hme
              have hmr := lc_mv_r hme
              have hfm := lc_mf_ok (mv := mv) hf hs
              have hft := hf (mv % 100) hmm.1.2.1 hmm.1.2.2
              have hmq : 0 ≤ lc_mq f q mv ∧ lc_mq f q mv ≤ q + 1 := (by unfold lc_mq; split <;> omega)
              refine lc_aload_n dX3_search_74 rfl 2 rfl ?_
              refine lc_iload dX3_search_75 6 rfl ?_
              refine lc_callV (As := [.int (lc_i ((k : Int)))]) (stk := []) (b := 16) dX3_search_77 lc_mX3_60 lc_yX4_get h46 rfl (lc_cX4_get l n (16) (g9) (((lc_mv (f) (s) (q) (m)).length : Int)) (((lc_caps (f) (s) (q) (m)).length : Int)) ((k : Int)) σ33 h46 h47 (by omega) (by omega)) rfl (lc_rm (by omega) (by decide)) ⟨Nat.le_of_ble_eq_true rfl, Nat.le_of_ble_eq_true rfl⟩ rfl (Nat.le_of_ble_eq_true rfl) (fun v72 n73 σ74 q75 => ?_)
              obtain ⟨rfl, rfl, rfl⟩ := q75
              refine lc_top (congrArg (fun z => Value.int (lc_i z)) (show (if 0 ≤ ((k : Int)) ∧ ((k : Int)) < ((lc_mv (f) (s) (q) (m)).length : Int) then (g9) ((k : Int)) else -1 : Int) = mv from by rw [if_pos (by omega), hmv]; exact hl7.1 k hkl)) ?_
              refine lc_istore (lv' := [(0, .ref (11)), (1, .int (lc_i (2))), (2, .ref (16)), (3, .int (lc_i (q))), (4, .int (lc_i ((lc_fd m 1 f s q k).1))), (5, .int (lc_i ((lc_fd m 1 f s q k).2))), (6, .int (lc_i ((k : Int)))), (7, .int (lc_i (mv)))]) dX3_search_80 (by decide) rfl ?_
              refine lc_iload dX3_search_82 7 rfl ?_
              refine lc_bipush dX3_search_84 (by decide) ?_
              refine lc_idiv dX3_search_86 (by omega) ?_
              refine lc_top (congrArg (fun z => Value.int (lc_i z)) (show ((mv) / (100) : Int) = mv / 100 from rfl)) ?_
              refine lc_istore (lv' := [(0, .ref (11)), (1, .int (lc_i (2))), (2, .ref (16)), (3, .int (lc_i (q))), (4, .int (lc_i ((lc_fd m 1 f s q k).1))), (5, .int (lc_i ((lc_fd m 1 f s q k).2))), (6, .int (lc_i ((k : Int)))), (7, .int (lc_i (mv))), (8, .int (lc_i (mv / 100)))]) dX3_search_87 (by decide) rfl ?_
              refine lc_iload dX3_search_89 7 rfl ?_
              refine lc_bipush dX3_search_91 (by decide) ?_
              refine lc_irem dX3_search_93 (by omega) ?_
              refine lc_top (congrArg (fun z => Value.int (lc_i z)) (show ((mv) % (100) : Int) = mv % 100 from rfl)) ?_
              refine lc_istore (lv' := [(0, .ref (11)), (1, .int (lc_i (2))), (2, .ref (16)), (3, .int (lc_i (q))), (4, .int (lc_i ((lc_fd m 1 f s q k).1))), (5, .int (lc_i ((lc_fd m 1 f s q k).2))), (6, .int (lc_i ((k : Int)))), (7, .int (lc_i (mv))), (8, .int (lc_i (mv / 100))), (9, .int (lc_i (mv % 100)))]) dX3_search_94 (by decide) rfl ?_
              refine lc_aload_n dX3_search_96 rfl 0 rfl ?_
              refine lc_get dX3_search_97 lc_fX3_12 h35 rfl ?_
              refine lc_iload dX3_search_100 8 rfl ?_
              refine lc_iload dX3_search_102 9 rfl ?_
              refine lc_callV (As := [.int (lc_i (mv / 100)), .int (lc_i (mv % 100))]) (stk := []) (b := 12) dX3_search_104 lc_mX3_63 lc_yX0_make h36 rfl (lc_cX0_make l n (12) (f) (s) (q) (m) (mv / 100) (mv % 100) σ33 h36 h37 (hf) (hs) (by omega)) rfl (lc_rm (by omega) (by decide)) ⟨Nat.le_of_ble_eq_true rfl, Nat.le_of_ble_eq_true rfl⟩ rfl (Nat.le_of_ble_eq_true rfl) (fun v79 n80 σ81 q82 => ?_)
              obtain ⟨rfl, rfl, h77, h78, fr76⟩ := q82
              have h83 : σ81 (7) = some (.inr (6, [.ref (2), .ref (8), .ref (5)]) : lc_Cel) := (fr76 _ (by omega) (by omega)).trans h42
              have h84 : σ81 (2) = some (.inr (1, [.ref (3), .ref (4)]) : lc_Cel) := (fr76 _ (by omega) (by omega)).trans h43
              have h85 : σ81 (3) = some (lc_aI 48 (lc_pt)) := (fr76 _ (by omega) (by omega)).trans h44
              have h86 : σ81 (4) = some (lc_aI 72 (lc_sp)) := (fr76 _ (by omega) (by omega)).trans h45
              have h87 : σ81 (16) = some (.inr (4, [.ref (17), .int (lc_i (((lc_mv (f) (s) (q) (m)).length : Int))), .int (lc_i (((lc_caps (f) (s) (q) (m)).length : Int)))]) : lc_Cel) := (fr76 _ (by omega) (by omega)).trans h46
              have h88 : σ81 (17) = some (lc_aI 364 (g9)) := (fr76 _ (by omega) (by omega)).trans h47
              have h89 : σ81 (8) = some (.inr (8, [.ref (2), .int (lc_i (e1)), .int (lc_i (e2)), .int (lc_i (e3))]) : lc_Cel) := (fr76 _ (by omega) (by omega)).trans h34
              have h90 : σ81 (11) = some (.inr (3, [.ref (7), .ref (12), .ref (14), .ref (16), .int (lc_i (ck))]) : lc_Cel) := (fr76 _ (by omega) (by omega)).trans h35
              have h91 : σ81 (14) = some (.inr (4, [.ref (15), .int (lc_i (w1)), .int (lc_i (w2))]) : lc_Cel) := (fr76 _ (by omega) (by omega)).trans h38
              have h92 : σ81 (15) = some (lc_aI 364 (gw)) := (fr76 _ (by omega) (by omega)).trans h39
              have h93 : σ81 (12) = some (.inr (0, [.ref (13), .int (lc_i (lc_cnt (lc_mf f s mv) 1 36)), .int (lc_i (lc_cnt (lc_mf f s mv) 2 36)), .int (lc_i (3 - s)), .int (lc_i (lc_mq f q mv)), .int (lc_i (m))]) : lc_Cel) := h77
              have h94 : σ81 (13) = some (lc_aI 36 (lc_mf f s mv)) := h78
              refine lc_istore (lv' := [(0, .ref (11)), (1, .int (lc_i (2))), (2, .ref (16)), (3, .int (lc_i (q))), (4, .int (lc_i ((lc_fd m 1 f s q k).1))), (5, .int (lc_i ((lc_fd m 1 f s q k).2))), (6, .int (lc_i ((k : Int)))), (7, .int (lc_i (mv))), (8, .int (lc_i (mv / 100))), (9, .int (lc_i (mv % 100))), (10, .int (lc_i ((f) (mv % 100))))]) dX3_search_107 (by decide) rfl ?_
              refine lc_aload_n dX3_search_109 rfl 0 rfl ?_
              refine lc_iload_n dX3_search_110 rfl 1 rfl ?_
              refine lc_iconst dX3_search_111 ?_
              refine lc_isub dX3_search_112 ?_
              refine lc_top (congrArg (fun z => Value.int (lc_i z)) (show ((2) - (1) : Int) = 1 from rfl)) ?_
              refine lc_callV (As := [.int (lc_i (1))]) (stk := []) (b := 11) dX3_search_113 lc_mX3_36 lc_yX3_search h90 rfl (lc_cX3_search_1 l n (k0 - 1) (ck) (e1) (e2) (e3) (lc_mf f s mv) (3 - s) (lc_mq f q mv) (m) (w1) (w2) (gw) σ81 h90 h83 h84 h85 h86 h89 h93 h94 h91 h92 (by omega) hfm (by omega) (by omega) (by omega)) rfl (lc_rm (by omega) (by decide)) ⟨Nat.le_of_ble_eq_true rfl, Nat.le_of_ble_eq_true rfl⟩ rfl (Nat.le_of_ble_eq_true rfl) (fun v108 n109 σ110 q111 => ?_)
              obtain ⟨c102, c103, c104, y105, y106, g107, rfl, rfl, h95, h96, h97, h98, h99, h100, fr101⟩ := q111
              have h112 : σ110 (7) = some (.inr (6, [.ref (2), .ref (8), .ref (5)]) : lc_Cel) := (fr101 _ (by omega) (by omega) (by omega) (by omega) (by omega) (by omega)).trans h83
              have h113 : σ110 (2) = some (.inr (1, [.ref (3), .ref (4)]) : lc_Cel) := (fr101 _ (by omega) (by omega) (by omega) (by omega) (by omega) (by omega)).trans h84
              have h114 : σ110 (3) = some (lc_aI 48 (lc_pt)) := (fr101 _ (by omega) (by omega) (by omega) (by omega) (by omega) (by omega)).trans h85
              have h115 : σ110 (4) = some (lc_aI 72 (lc_sp)) := (fr101 _ (by omega) (by omega) (by omega) (by omega) (by omega) (by omega)).trans h86
              have h116 : σ110 (16) = some (.inr (4, [.ref (17), .int (lc_i (((lc_mv (f) (s) (q) (m)).length : Int))), .int (lc_i (((lc_caps (f) (s) (q) (m)).length : Int)))]) : lc_Cel) := (fr101 _ (by omega) (by omega) (by omega) (by omega) (by omega) (by omega)).trans h87
              have h117 : σ110 (17) = some (lc_aI 364 (g9)) := (fr101 _ (by omega) (by omega) (by omega) (by omega) (by omega) (by omega)).trans h88
              refine lc_ineg dX3_search_116 ?_
              refine lc_istore (lv' := [(0, .ref (11)), (1, .int (lc_i (2))), (2, .ref (16)), (3, .int (lc_i (q))), (4, .int (lc_i ((lc_fd m 1 f s q k).1))), (5, .int (lc_i ((lc_fd m 1 f s q k).2))), (6, .int (lc_i ((k : Int)))), (7, .int (lc_i (mv))), (8, .int (lc_i (mv / 100))), (9, .int (lc_i (mv % 100))), (10, .int (lc_i ((f) (mv % 100)))), (11, .int (lc_i (-((lc_sv m 1 (lc_mf f s mv) (3 - s) (lc_mq f q mv)).1))))]) dX3_search_117 (by decide) rfl ?_
              have hsr := lc_sv_r m 1 (lc_mf f s mv) (3 - s) (lc_mq f q mv)
              refine lc_aload_n dX3_search_119 rfl 0 rfl ?_
              refine lc_get dX3_search_120 lc_fX3_12 h96 rfl ?_
              refine lc_iload dX3_search_123 8 rfl ?_
              refine lc_iload dX3_search_125 9 rfl ?_
              refine lc_iload dX3_search_127 10 rfl ?_
              refine lc_iload_n dX3_search_129 rfl 3 rfl ?_
              refine lc_callV (As := [.int (lc_i (mv / 100)), .int (lc_i (mv % 100)), .int (lc_i ((f) (mv % 100))), .int (lc_i (q))]) (stk := []) (b := 12) dX3_search_130 lc_mX3_67 lc_yX0_takeBack h97 rfl (lc_cX0_takeBack l n (12) (lc_mf f s mv) (3 - s) (lc_mq f q mv) (m) (mv / 100) (mv % 100) ((f) (mv % 100)) (q) σ110 h97 h98 (hfm) (by omega) (by omega) (by omega)) rfl (lc_rm (by omega) (by decide)) ⟨Nat.le_of_ble_eq_true rfl, Nat.le_of_ble_eq_true rfl⟩ rfl (Nat.le_of_ble_eq_true rfl) (fun v121 n122 σ123 q124 => ?_)
              obtain ⟨rfl, rfl, h119, h120, fr118⟩ := q124
              have h125 : σ123 (7) = some (.inr (6, [.ref (2), .ref (8), .ref (5)]) : lc_Cel) := (fr118 _ (by omega) (by omega)).trans h112
              have h126 : σ123 (2) = some (.inr (1, [.ref (3), .ref (4)]) : lc_Cel) := (fr118 _ (by omega) (by omega)).trans h113
              have h127 : σ123 (3) = some (lc_aI 48 (lc_pt)) := (fr118 _ (by omega) (by omega)).trans h114
              have h128 : σ123 (4) = some (lc_aI 72 (lc_sp)) := (fr118 _ (by omega) (by omega)).trans h115
              have h129 : σ123 (16) = some (.inr (4, [.ref (17), .int (lc_i (((lc_mv (f) (s) (q) (m)).length : Int))), .int (lc_i (((lc_caps (f) (s) (q) (m)).length : Int)))]) : lc_Cel) := (fr118 _ (by omega) (by omega)).trans h116
              have h130 : σ123 (17) = some (lc_aI 364 (g9)) := (fr118 _ (by omega) (by omega)).trans h117
              have h131 : σ123 (8) = some (.inr (8, [.ref (2), .int (lc_i (c102)), .int (lc_i (c103)), .int (lc_i (c104))]) : lc_Cel) := (fr118 _ (by omega) (by omega)).trans h95
              have h132 : σ123 (11) = some (.inr (3, [.ref (7), .ref (12), .ref (14), .ref (16), .int (lc_i ((lc_sv m 1 (lc_mf f s mv) (3 - s) (lc_mq f q mv)).2))]) : lc_Cel) := (fr118 _ (by omega) (by omega)).trans h96
              have h133 : σ123 (14) = some (.inr (4, [.ref (15), .int (lc_i (y105)), .int (lc_i (y106))]) : lc_Cel) := (fr118 _ (by omega) (by omega)).trans h99
              have h134 : σ123 (15) = some (lc_aI 364 (g107)) := (fr118 _ (by omega) (by omega)).trans h100
              have eR := lc_back hmm.2.1 hmm.2.2.1
              have eS : 3 - (3 - s) = s := (by omega)
              have h135 : σ123 (12) = some (.inr (0, [.ref (13), .int (lc_i (lc_cnt (f) 1 36)), .int (lc_i (lc_cnt (f) 2 36)), .int (lc_i (s)), .int (lc_i (q)), .int (lc_i (m))]) : lc_Cel) := (by have h9 := h119; rw [show lc_mf f s mv = lc_u (lc_u f (mv % 100) s) (mv / 100) 0 from rfl, eR, eS] at h9; exact h9)
              have h136 : σ123 (13) = some (lc_aI 36 (f)) := (by have h9 := h120; rw [show lc_mf f s mv = lc_u (lc_u f (mv % 100) s) (mv / 100) 0 from rfl, eR] at h9; exact h9)
              refine lc_iload dX3_search_133 11 rfl ?_
              refine lc_iload dX3_search_135 4 rfl ?_
              refine lc_icmp_le (tgt := 148) dX3_search_137 (by decide) (by omega) (fun h_137_136 => ?_) (fun h_137_136 => ?_)
              · skip
                refine lc_iinc (lv' := [(0, .ref (11)), (1, .int (lc_i (2))), (2, .ref (16)), (3, .int (lc_i (q))), (4, .int (lc_i ((lc_fd m 1 f s q k).1))), (5, .int (lc_i ((lc_fd m 1 f s q k).2))), (6, .int (lc_i ((k : Int) + 1))), (7, .int (lc_i (mv))), (8, .int (lc_i (mv / 100))), (9, .int (lc_i (mv % 100))), (10, .int (lc_i ((f) (mv % 100)))), (11, .int (lc_i (-((lc_sv m 1 (lc_mf f s mv) (3 - s) (lc_mq f q mv)).1))))]) dX3_search_148 6 rfl (by decide) rfl ?_
                refine lc_goto (tgt := 65) dX3_search_151 (by decide) ?_
                refine lc_pick (lv' := [(0, .ref (11)), (1, .int (lc_i (2))), (2, .ref (16)), (3, .int (lc_i (q))), (4, .int (lc_i ((lc_fd m 1 f s q k).1))), (5, .int (lc_i ((lc_fd m 1 f s q k).2))), (6, .int (lc_i ((k : Int) + 1)))]) [0, 1, 2, 3, 4, 5, 6] rfl ?_
                refine lc_lveq (lv' := [(0, .ref (11)), (1, .int (lc_i (2))), (2, .ref (16)), (3, .int (lc_i (q))), (4, .int (lc_i ((lc_fd m 1 f s q (k + 1)).1))), (5, .int (lc_i ((lc_fd m 1 f s q (k + 1)).2))), (6, .int (lc_i (((k + 1 : Nat) : Int))))]) (by rw [lc_fd_n hkl hmv h_137_136, show ((k + 1 : Nat) : Int) = (k : Int) + 1 from by omega]) ?_
                exact ih32 (k + 1) ((lc_sv m 1 (lc_mf f s mv) (3 - s) (lc_mq f q mv)).2) (c102) (c103) (c104) (y105) (y106) (g107) σ123 h131 h132 h135 h136 h133 h134 (fun i _ _ _ _ _ _ => ((fr118 i (by omega) (by omega)).trans ((fr101 i (by omega) (by omega) (by omega) (by omega) (by omega) (by omega)).trans ((fr76 i (by omega) (by omega)).trans (fr40 i (by omega) (by omega) (by omega) (by omega) (by omega) (by omega)))))) (by omega) (by omega)
              · skip
                refine lc_iload dX3_search_140 11 rfl ?_
                refine lc_istore (lv' := [(0, .ref (11)), (1, .int (lc_i (2))), (2, .ref (16)), (3, .int (lc_i (q))), (4, .int (lc_i (-((lc_sv m 1 (lc_mf f s mv) (3 - s) (lc_mq f q mv)).1)))), (5, .int (lc_i ((lc_fd m 1 f s q k).2))), (6, .int (lc_i ((k : Int)))), (7, .int (lc_i (mv))), (8, .int (lc_i (mv / 100))), (9, .int (lc_i (mv % 100))), (10, .int (lc_i ((f) (mv % 100)))), (11, .int (lc_i (-((lc_sv m 1 (lc_mf f s mv) (3 - s) (lc_mq f q mv)).1))))]) dX3_search_142 (by decide) rfl ?_
                refine lc_iload dX3_search_144 7 rfl ?_
                refine lc_istore (lv' := [(0, .ref (11)), (1, .int (lc_i (2))), (2, .ref (16)), (3, .int (lc_i (q))), (4, .int (lc_i (-((lc_sv m 1 (lc_mf f s mv) (3 - s) (lc_mq f q mv)).1)))), (5, .int (lc_i (mv))), (6, .int (lc_i ((k : Int)))), (7, .int (lc_i (mv))), (8, .int (lc_i (mv / 100))), (9, .int (lc_i (mv % 100))), (10, .int (lc_i ((f) (mv % 100)))), (11, .int (lc_i (-((lc_sv m 1 (lc_mf f s mv) (3 - s) (lc_mq f q mv)).1))))]) dX3_search_146 (by decide) rfl ?_
                refine lc_iinc (lv' := [(0, .ref (11)), (1, .int (lc_i (2))), (2, .ref (16)), (3, .int (lc_i (q))), (4, .int (lc_i (-((lc_sv m 1 (lc_mf f s mv) (3 - s) (lc_mq f q mv)).1)))), (5, .int (lc_i (mv))), (6, .int (lc_i ((k : Int) + 1))), (7, .int (lc_i (mv))), (8, .int (lc_i (mv / 100))), (9, .int (lc_i (mv % 100))), (10, .int (lc_i ((f) (mv % 100)))), (11, .int (lc_i (-((lc_sv m 1 (lc_mf f s mv) (3 - s) (lc_mq f q mv)).1))))]) dX3_search_148 6 rfl (by decide) rfl ?_
                refine lc_goto (tgt := 65) dX3_search_151 (by decide) ?_
                refine lc_pick (lv' := [(0, .ref (11)), (1, .int (lc_i (2))), (2, .ref (16)), (3, .int (lc_i (q))), (4, .int (lc_i (-((lc_sv m 1 (lc_mf f s mv) (3 - s) (lc_mq f q mv)).1)))), (5, .int (lc_i (mv))), (6, .int (lc_i ((k : Int) + 1)))]) [0, 1, 2, 3, 4, 5, 6] rfl ?_
                refine lc_lveq (lv' := [(0, .ref (11)), (1, .int (lc_i (2))), (2, .ref (16)), (3, .int (lc_i (q))), (4, .int (lc_i ((lc_fd m 1 f s q (k + 1)).1))), (5, .int (lc_i ((lc_fd m 1 f s q (k + 1)).2))), (6, .int (lc_i (((k + 1 : Nat) : Int))))]) (by rw [lc_fd_t hkl hmv h_137_136, show ((k + 1 : Nat) : Int) = (k : Int) + 1 from by omega]) ?_
                exact ih32 (k + 1) ((lc_sv m 1 (lc_mf f s mv) (3 - s) (lc_mq f q mv)).2) (c102) (c103) (c104) (y105) (y106) (g107) σ123 h131 h132 h135 h136 h133 h134 (fun i _ _ _ _ _ _ => ((fr118 i (by omega) (by omega)).trans ((fr101 i (by omega) (by omega) (by omega) (by omega) (by omega) (by omega)).trans ((fr76 i (by omega) (by omega)).trans (fr40 i (by omega) (by omega) (by omega) (by omega) (by omega) (by omega)))))) (by omega) (by omega)
        exact loop31 1000 (0) (ch) (c10) (c11) (c12) (y1) (y2) (g1) σ15 h4 h17 h22 h23 h24 h25 (fun _ _ _ _ _ _ _ => rfl) (by omega) (by omega)
      · exact absurd h_19_2 (by decide)
    · exact absurd h_6_1 (by decide)
