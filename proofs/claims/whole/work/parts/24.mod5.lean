/-! the reference's order of moves -/
def lc_pre (f : Int → Int) (s : Int) (k t : Nat) : List Int := if k < 36 then lc_aal (lc_PC f s) 36 k ++ lc_row (lc_PC f s) (k : Int) t else lc_aal (lc_PC f s) 36 36 ++ (lc_aal (lc_PQ f s) 36 (k - 36) ++ lc_row (lc_PQ f s) ((k - 36 : Nat) : Int) t)
def lc_bit (f : Int → Int) (s : Int) (k t : Nat) : Prop := lc_en f s (decide ((k : Int) < 36)) ((k : Int) % 36) (t : Int) = true
theorem lc_bit_c {f : Int → Int} {s : Int} {k t : Nat} (hk : k < 36) : lc_bit f s k t ↔ lc_PC f s (k : Int) (t : Int) = true := by
  unfold lc_bit
  rw [decide_eq_true (show (k : Int) < 36 by omega), show (k : Int) % 36 = k by omega]
  exact Iff.rfl
theorem lc_bit_q {f : Int → Int} {s : Int} {k t : Nat} (hk : ¬ k < 36) (hk2 : k < 72) : lc_bit f s k t ↔ lc_PQ f s ((k - 36 : Nat) : Int) (t : Int) = true := by
  unfold lc_bit
  rw [decide_eq_false (show ¬ (k : Int) < 36 by omega), show (k : Int) % 36 = ((k - 36 : Nat) : Int) by omega]
  exact Iff.rfl
theorem lc_row_1 {P : Int → Int → Bool} {fr : Int} {t : Nat} (h : P fr t = true) : lc_row P fr (t + 1) = lc_row P fr t ++ [fr * 100 + (t : Int)] := by
  show lc_row P fr t ++ (if P fr t = true then [fr * 100 + (t : Int)] else []) = _
  rw [if_pos h]
theorem lc_row_0 {P : Int → Int → Bool} {fr : Int} {t : Nat} (h : ¬ P fr t = true) : lc_row P fr (t + 1) = lc_row P fr t := by
  show lc_row P fr t ++ (if P fr t = true then [fr * 100 + (t : Int)] else []) = _
  rw [if_neg h, List.append_nil]
theorem lc_pre_1 {f : Int → Int} {s : Int} {k t : Nat} (hk : k < 72) (h : lc_bit f s k t) : lc_pre f s k (t + 1) = lc_pre f s k t ++ [((k : Int) % 36) * 100 + (t : Int)] := by
  unfold lc_pre
  by_cases e : k < 36
  · rw [if_pos e, if_pos e, lc_row_1 ((lc_bit_c e).mp h), List.append_assoc, show (k : Int) % 36 = k by omega]
  · rw [if_neg e, if_neg e, lc_row_1 ((lc_bit_q e hk).mp h), List.append_assoc, List.append_assoc, show (k : Int) % 36 = ((k - 36 : Nat) : Int) by omega]
theorem lc_pre_n {f : Int → Int} {s : Int} {k t : Nat} (hk : k < 72) (h : ¬ lc_bit f s k t) : lc_pre f s k (t + 1) = lc_pre f s k t := by
  unfold lc_pre
  by_cases e : k < 36
  · rw [if_pos e, if_pos e, lc_row_0 (fun q => h ((lc_bit_c e).mpr q))]
  · rw [if_neg e, if_neg e, lc_row_0 (fun q => h ((lc_bit_q e hk).mpr q))]
theorem lc_pre_k {f : Int → Int} {s : Int} {k : Nat} : lc_pre f s k 36 = lc_pre f s (k + 1) 0 := by
  unfold lc_pre
  by_cases e : k < 36
  · rw [if_pos e]
    by_cases e2 : k + 1 < 36
    · rw [if_pos e2, lc_aal_s]
      exact (List.append_nil _).symm
    · rw [if_neg e2]
      have e3 : k = 35 := by omega
      subst e3
      show lc_aal (lc_PC f s) 36 36 = lc_aal (lc_PC f s) 36 36 ++ ([] ++ [])
      rw [List.append_nil, List.append_nil]
  · rw [if_neg e, if_neg (show ¬ k + 1 < 36 by omega), show k + 1 - 36 = (k - 36) + 1 by omega, lc_aal_s]
    show _ = _ ++ ((lc_aal (lc_PQ f s) 36 (k - 36) ++ lc_row (lc_PQ f s) ((k - 36 : Nat) : Int) 36) ++ [])
    rw [List.append_nil]
theorem lc_pre_0 (f : Int → Int) (s : Int) : lc_pre f s 0 0 = [] := rfl
theorem lc_pre_m {f : Int → Int} {s q m : Int} (h : lc_res (lc_cnt f 1 36) (lc_cnt f 2 36) q m = 0) : lc_mv f s q m = lc_pre f s 72 0 := by
  unfold lc_mv lc_pre
  rw [if_pos h, if_neg (by decide)]
  show _ = _ ++ (lc_aal (lc_PQ f s) 36 36 ++ [])
  rw [List.append_nil]
theorem lc_pre_t {f : Int → Int} {s : Int} {k t : Nat} (hk : k < 72) : ∃ r, lc_pre f s k (t + 1) = lc_pre f s k t ++ r := by
  by_cases h : lc_bit f s k t
  · exact ⟨_, lc_pre_1 hk h⟩
  · exact ⟨[], by rw [lc_pre_n hk h, List.append_nil]⟩
theorem lc_pre_t2 {f : Int → Int} {s : Int} {k t : Nat} (hk : k < 72) : ∀ n : Nat, ∃ r, lc_pre f s k (t + n) = lc_pre f s k t ++ r
  | 0 => ⟨[], (List.append_nil _).symm⟩
  | n + 1 => by
    obtain ⟨r, h1⟩ := lc_pre_t2 (f := f) (s := s) (t := t) hk n
    obtain ⟨r2, h2⟩ := lc_pre_t (f := f) (s := s) (t := t + n) hk
    exact ⟨r ++ r2, by rw [show t + (n + 1) = t + n + 1 from rfl, h2, h1, List.append_assoc]⟩
theorem lc_pre_k2 {f : Int → Int} {s : Int} {k : Nat} : ∀ n : Nat, k + n ≤ 72 → ∃ r, lc_pre f s (k + n) 0 = lc_pre f s k 0 ++ r
  | 0, _ => ⟨[], (List.append_nil _).symm⟩
  | n + 1, h => by
    obtain ⟨r, h1⟩ := lc_pre_k2 (f := f) (s := s) (k := k) n (by omega)
    obtain ⟨r2, h2⟩ := lc_pre_t2 (f := f) (s := s) (k := k + n) (t := 0) (by omega) 36
    rw [Nat.zero_add, lc_pre_k] at h2
    exact ⟨r ++ r2, by rw [show k + (n + 1) = k + n + 1 from rfl, h2, h1, List.append_assoc]⟩
theorem lc_pre_p {f : Int → Int} {s : Int} {k t : Nat} (hk : k < 72) (ht : t ≤ 36) : ∃ r, lc_pre f s 72 0 = lc_pre f s k t ++ r := by
  obtain ⟨r, h1⟩ := lc_pre_t2 (f := f) (s := s) (t := t) hk (36 - t)
  rw [show t + (36 - t) = 36 by omega, lc_pre_k] at h1
  obtain ⟨r2, h2⟩ := lc_pre_k2 (f := f) (s := s) (k := k + 1) (72 - (k + 1)) (by omega)
  rw [show k + 1 + (72 - (k + 1)) = 72 by omega] at h2
  exact ⟨r ++ r2, by rw [h2, h1, List.append_assoc]⟩
theorem lc_pre_g {f : Int → Int} {s q m : Int} (h : lc_res (lc_cnt f 1 36) (lc_cnt f 2 36) q m = 0) {k t : Nat} (hk : k < 72) (ht : t < 36) (hb : lc_bit f s k t) : (lc_pre f s k t).length < (lc_mv f s q m).length ∧ (lc_mv f s q m).getD (lc_pre f s k t).length 0 = ((k : Int) % 36) * 100 + (t : Int) := by
  obtain ⟨r, h1⟩ := lc_pre_p (f := f) (s := s) (t := t + 1) hk (by omega)
  rw [lc_pre_m h, h1, lc_pre_1 hk hb]
  constructor
  · simp only [List.length_append, List.length_cons, List.length_nil]
    omega
  · rw [List.append_assoc, List.getD_eq_getElem?_getD, List.getElem?_append_right (Nat.le_refl _), Nat.sub_self]
    rfl
theorem lc_len_1 {f : Int → Int} {s : Int} {k t : Nat} (hk : k < 72) (h : lc_bit f s k t) : ((lc_pre f s k (t + 1)).length : Int) = ((lc_pre f s k t).length : Int) + 1 := by
  rw [lc_pre_1 hk h, List.length_append]
  simp
theorem lc_len_n {f : Int → Int} {s : Int} {k t : Nat} (hk : k < 72) (h : ¬ lc_bit f s k t) : ((lc_pre f s k (t + 1)).length : Int) = ((lc_pre f s k t).length : Int) := by
  rw [lc_pre_n hk h]
/-! moves, one behind the other -/
def lc_fo (V : (Int → Int) → Int → Int → Int) (f : Int → Int) (s q : Int) (k t : Nat) : Int × Int := (lc_pre f s k t).foldl (lc_st V f s q) (-1000, -1)
theorem lc_fo_n {V : (Int → Int) → Int → Int → Int} {f : Int → Int} {s q : Int} {k t : Nat} (hk : k < 72) (h : ¬ lc_bit f s k t) : lc_fo V f s q k (t + 1) = lc_fo V f s q k t := by
  unfold lc_fo
  rw [lc_pre_n hk h]
theorem lc_fo_1 {V : (Int → Int) → Int → Int → Int} {f : Int → Int} {s q : Int} {k t : Nat} (hk : k < 72) (h : lc_bit f s k t) : lc_fo V f s q k (t + 1) = lc_st V f s q (lc_fo V f s q k t) (((k : Int) % 36) * 100 + (t : Int)) := by
  unfold lc_fo
  rw [lc_pre_1 hk h, List.foldl_append]
  rfl
theorem lc_fo_36 {V : (Int → Int) → Int → Int → Int} {f : Int → Int} {s q : Int} {k : Nat} : lc_fo V f s q k 36 = lc_fo V f s q (k + 1) 0 := by
  unfold lc_fo
  rw [lc_pre_k]
theorem lc_bit_r {f : Int → Int} (hf : ∀ j : Int, 0 ≤ j → j < 36 → 0 ≤ f j ∧ f j ≤ 2) {s : Int} (hs : 1 ≤ s ∧ s ≤ 2) {k t : Nat} (hk : k < 72) (ht : t < 36) (h : lc_bit f s k t) : f ((k : Int) % 36) = s ∧ (k : Int) % 36 ≠ (t : Int) ∧ f (t : Int) = if (k : Int) < 36 then 3 - s else 0 := by
  have h3 := hf ((k : Int) % 36) (by omega) (by omega)
  have h4 := hf (t : Int) (by omega) (by omega)
  have hb := h
  unfold lc_bit lc_en at hb
  have h1 : f ((k : Int) % 36) = s := of_decide_eq_true (lc_bnd_1 hb)
  by_cases e : (k : Int) < 36
  · rw [decide_eq_true e] at hb
    have h2 := lc_cap_iff.mp (lc_bnd_2 hb)
    refine ⟨h1, fun q => h2.1.2 (by rw [q]), ?_⟩
    rw [if_pos e]
    omega
  · rw [decide_eq_false e] at hb
    have h2 := lc_step_iff.mp (lc_bnd_2 hb)
    refine ⟨h1, fun q => by rw [q] at h1; omega, ?_⟩
    rw [if_neg e]
    exact h2.1
theorem lc_mf_mv {f : Int → Int} {s x y : Int} (hx : 0 ≤ x) (hy : 0 ≤ y ∧ y < 36) : lc_mf f s (x * 100 + y) = lc_mvf f s x y := by
  unfold lc_mf lc_mvf
  rw [show (x * 100 + y) % 100 = y by omega, show (x * 100 + y) / 100 = x by omega]
theorem lc_mq_mv {f : Int → Int} {q x y : Int} (hx : 0 ≤ x) (hy : 0 ≤ y ∧ y < 36) : lc_mq f q (x * 100 + y) = lc_mvq f q y := by
  unfold lc_mq lc_mvq
  rw [show (x * 100 + y) % 100 = y by omega]
theorem lc_wth_mv {f : Int → Int} {s x y g : Int} (hs : 1 ≤ s ∧ s ≤ 2) (hx : 0 ≤ x ∧ x < 36) (hy : 0 ≤ y ∧ y < 36) (hxy : x ≠ y) (h1 : f x = s) (h2 : (g = 1 ∧ f y = 3 - s) ∨ (g = 0 ∧ f y = 0)) : -(lc_wth (lc_mvf f s x y) (3 - s)) = lc_wth f s + g := by
  have e : ∀ k : Int, k ≠ 0 → lc_cnt (lc_mvf f s x y) k 36 = lc_cnt f k 36 - lc_d (f y) k := by
    intro k hk
    unfold lc_mvf
    rw [lc_cnt_u 36 hx.1 (by omega), lc_cnt_u 36 hy.1 (by omega), lc_u_n _ _ hxy, h1]
    have : lc_d 0 k = 0 := if_neg (fun q => hk q.symm)
    omega
  unfold lc_wth
  rw [e 1 (by decide), e 2 (by decide)]
  unfold lc_d
  (repeat' split) <;> omega
theorem lc_fold_u {V : (Int → Int) → Int → Int → Int} {f : Int → Int} {s q : Int} : ∀ (L : List Int) (a : Int × Int), (∀ mv ∈ L, 0 ≤ mv) → (L.foldl (lc_st V f s q) a).2 = -1 → L.foldl (lc_st V f s q) a = a
  | [], _, _, _ => rfl
  | x :: r, a, hL, h => by
    have h1 := lc_fold_u r (lc_st V f s q a x) (fun mv hm => hL mv (List.mem_cons_of_mem _ hm)) h
    show r.foldl (lc_st V f s q) (lc_st V f s q a x) = a
    rw [h1]
    have h2 : (r.foldl (lc_st V f s q) (lc_st V f s q a x)).2 = -1 := h
    rw [h1] at h2
    revert h2
    unfold lc_st
    split
    · intro h3
      have h4 := hL x List.mem_cons_self
      have h5 : x = -1 := h3
      omega
    · intro _; rfl
theorem lc_pre_mv {f : Int → Int} {s q m : Int} {k t : Nat} (h : lc_res (lc_cnt f 1 36) (lc_cnt f 2 36) q m = 0) (hk : k < 72) (ht : t ≤ 36) : ∀ mv ∈ lc_pre f s k t, 0 ≤ mv ∧ mv < 3600 := by
  intro mv hm
  obtain ⟨r, h1⟩ := lc_pre_p (f := f) (s := s) hk ht
  refine lc_mv_r (f := f) (s := s) (q := q) (m := m) ?_
  rw [lc_pre_m h, h1]
  exact List.mem_append_left _ hm
def lc_fnd (a : Int × Int) : Int := if a.2 = -1 then -105 else a.2
def lc_bst (f : Int → Int) (s : Int) (a : Int × Int) : Int := if a.2 = -1 then lc_wth f s else a.1
def lc_sV (m : Int) (d : Nat) : (Int → Int) → Int → Int → Int := fun f s q => (lc_sv m d f s q).1
theorem lc_fo_r {f : Int → Int} {s q m : Int} {d k t : Nat} (h : lc_res (lc_cnt f 1 36) (lc_cnt f 2 36) q m = 0) (hk : k < 72) (ht : t ≤ 36) : ((-1000 ≤ (lc_fo (lc_sV m d) f s q k t).1 ∧ (lc_fo (lc_sV m d) f s q k t).1 ≤ 36) ∧ (-1 ≤ (lc_fo (lc_sV m d) f s q k t).2 ∧ (lc_fo (lc_sV m d) f s q k t).2 < 3600) ∧ ((lc_fo (lc_sV m d) f s q k t).2 = -1 ∨ -36 ≤ (lc_fo (lc_sV m d) f s q k t).1)) ∧ ((lc_fo (lc_sV m d) f s q k t).2 = -1 → (lc_fo (lc_sV m d) f s q k t).1 = -1000) := by
  have h1 := lc_pre_mv (s := s) h hk ht
  refine ⟨lc_fold_r (V := lc_sV m d) (lc_sv_r m d) (lc_pre f s k t) (-1000, -1) h1 ⟨by decide, by decide, Or.inl rfl⟩, fun q9 => ?_⟩
  unfold lc_fo at q9 ⊢
  rw [lc_fold_u _ _ (fun mv hm => (h1 mv hm).1) q9]
theorem lc_st_1 {V : (Int → Int) → Int → Int → Int} {f : Int → Int} {s q x y its : Int} {a : Int × Int} (hx : 0 ≤ x) (hy : 0 ≤ y ∧ y < 36) (e : its = -(V (lc_mvf f s x y) (3 - s) (lc_mvq f q y))) (h : a.1 < its) : lc_st V f s q a (x * 100 + y) = (its, x * 100 + y) := by
  unfold lc_st
  rw [lc_mf_mv hx hy, lc_mq_mv hx hy, ← e, if_pos h]
theorem lc_st_0 {V : (Int → Int) → Int → Int → Int} {f : Int → Int} {s q x y its : Int} {a : Int × Int} (hx : 0 ≤ x) (hy : 0 ≤ y ∧ y < 36) (e : its = -(V (lc_mvf f s x y) (3 - s) (lc_mvq f q y))) (h : its ≤ a.1) : lc_st V f s q a (x * 100 + y) = a := by
  unfold lc_st
  rw [lc_mf_mv hx hy, lc_mq_mv hx hy, ← e, if_neg (by omega)]
theorem lc_fo_u {f : Int → Int} {s q m its : Int} {d k t : Nat} (hr : lc_res (lc_cnt f 1 36) (lc_cnt f 2 36) q m = 0) (hk : k < 72) (ht : t < 36) (hb : lc_bit f s k t) (e : its = -(lc_sV m d (lc_mvf f s ((k : Int) % 36) (t : Int)) (3 - s) (lc_mvq f q (t : Int)))) (h : (lc_fo (lc_sV m d) f s q k t).1 < its) : lc_fo (lc_sV m d) f s q k (t + 1) = (its, ((k : Int) % 36) * 100 + (t : Int)) := by
  rw [lc_fo_1 hk hb]
  exact lc_st_1 (by omega) (by omega) e h
theorem lc_fo_v {f : Int → Int} {s q m its : Int} {d k t : Nat} (hk : k < 72) (ht : t < 36) (hb : lc_bit f s k t) (e : its = -(lc_sV m d (lc_mvf f s ((k : Int) % 36) (t : Int)) (3 - s) (lc_mvq f q (t : Int)))) (h : its ≤ (lc_fo (lc_sV m d) f s q k t).1) : lc_fo (lc_sV m d) f s q k (t + 1) = lc_fo (lc_sV m d) f s q k t := by
  rw [lc_fo_1 hk hb]
  exact lc_st_0 (by omega) (by omega) e h
/-- as bestOf tells it: the first move is taken in any case -/
theorem lc_bst_u {f : Int → Int} {s q m its : Int} {d k t : Nat} (hr : lc_res (lc_cnt f 1 36) (lc_cnt f 2 36) q m = 0) (hk : k < 72) (ht : t < 36) (hb : lc_bit f s k t) (e : its = -(lc_sV m d (lc_mvf f s ((k : Int) % 36) (t : Int)) (3 - s) (lc_mvq f q (t : Int)))) (h : lc_fnd (lc_fo (lc_sV m d) f s q k t) = -105 ∨ lc_bst f s (lc_fo (lc_sV m d) f s q k t) < its) : lc_fnd (lc_fo (lc_sV m d) f s q k (t + 1)) = ((k : Int) % 36) * 100 + (t : Int) ∧ lc_bst f s (lc_fo (lc_sV m d) f s q k (t + 1)) = its := by
  have h1 := lc_fo_r (d := d) (s := s) hr hk (Nat.le_of_lt ht)
  have h2 := lc_sv_r m d (lc_mvf f s ((k : Int) % 36) (t : Int)) (3 - s) (lc_mvq f q (t : Int))
  have e2 : its = -((lc_sv m d (lc_mvf f s ((k : Int) % 36) (t : Int)) (3 - s) (lc_mvq f q (t : Int))).1) := e
  have h3 : (lc_fo (lc_sV m d) f s q k t).1 < its := by
    by_cases e1 : (lc_fo (lc_sV m d) f s q k t).2 = -1
    · have := h1.2 e1
      omega
    · rcases h with h | h
      · unfold lc_fnd at h
        rw [if_neg e1] at h
        omega
      · unfold lc_bst at h
        rw [if_neg e1] at h
        exact h
  rw [lc_fo_u hr hk ht hb e h3]
  have e3 : ¬ ((k : Int) % 36) * 100 + (t : Int) = -1 := by omega
  exact ⟨if_neg e3, if_neg e3⟩
theorem lc_bst_v {f : Int → Int} {s q m its : Int} {d k t : Nat} (hk : k < 72) (ht : t < 36) (hb : lc_bit f s k t) (e : its = -(lc_sV m d (lc_mvf f s ((k : Int) % 36) (t : Int)) (3 - s) (lc_mvq f q (t : Int)))) (h1 : lc_fnd (lc_fo (lc_sV m d) f s q k t) ≠ -105) (h : its ≤ lc_bst f s (lc_fo (lc_sV m d) f s q k t)) : lc_fo (lc_sV m d) f s q k (t + 1) = lc_fo (lc_sV m d) f s q k t := by
  refine lc_fo_v hk ht hb e ?_
  by_cases e1 : (lc_fo (lc_sV m d) f s q k t).2 = -1
  · exact absurd (if_pos e1) h1
  · unfold lc_bst at h
    rw [if_neg e1] at h
    exact h
theorem lc_fo_e {f : Int → Int} {s q m : Int} {d : Nat} (hr : lc_res (lc_cnt f 1 36) (lc_cnt f 2 36) q m = 0) : lc_bst f s (lc_fo (lc_sV m d) f s q 72 0) = (lc_sv m (d + 1) f s q).1 ∧ (lc_fo (lc_sV m d) f s q 72 0).2 = (lc_sv m (d + 1) f s q).2 := by
  unfold lc_bst lc_fo
  rw [← lc_pre_m hr]
  exact ⟨rfl, rfl⟩
theorem lc_fo_z {f : Int → Int} {s q m : Int} {d : Nat} (hr : lc_res (lc_cnt f 1 36) (lc_cnt f 2 36) q m ≠ 0) : lc_sv m (d + 1) f s q = (lc_wth f s, -1) := by
  rw [lc_sv_s (k := 0) (by rw [(lc_mv_0 hr).1]; exact Nat.le_refl 0)]
  rfl
/-- as deep tells it -/
theorem lc_fo_d {f : Int → Int} {s q m : Int} {d : Nat} (hr : lc_res (lc_cnt f 1 36) (lc_cnt f 2 36) q m = 0) : (lc_sv m (d + 1) f s q).1 = if (lc_fo (lc_sV m d) f s q 72 0).1 = -1000 then lc_wth f s else (lc_fo (lc_sV m d) f s q 72 0).1 := by
  have h1 : ∀ mv ∈ lc_pre f s 72 0, 0 ≤ mv ∧ mv < 3600 := fun mv hm => lc_mv_r (f := f) (s := s) (q := q) (m := m) (by rw [lc_pre_m hr]; exact hm)
  have h2 := lc_fold_r (V := lc_sV m d) (f := f) (s := s) (q := q) (lc_sv_r m d) (lc_pre f s 72 0) (-1000, -1) h1 ⟨by decide, by decide, Or.inl rfl⟩
  have h3 := lc_fold_u (V := lc_sV m d) (f := f) (s := s) (q := q) (lc_pre f s 72 0) (-1000, -1) (fun mv hm => (h1 mv hm).1)
  rw [← (lc_fo_e (d := d) (s := s) hr).1]
  unfold lc_bst lc_fo
  by_cases e : (List.foldl (lc_st (lc_sV m d) f s q) (-1000, -1) (lc_pre f s 72 0)).2 = -1
  · rw [if_pos e, h3 e, if_pos rfl]
  · rw [if_neg e, if_neg (by omega)]
/-! counts of moves -/
def lc_sm (f : Int → Int) (s : Int) (c : Bool) : Nat → Int
  | 0 => 0
  | p + 1 => lc_sm f s c p + lc_num (fun j : Int => lc_en f s c (p : Int) j) 36
theorem lc_sm_s {f : Int → Int} {s : Int} {c : Bool} {i : Int} (hi : 0 ≤ i) : lc_sm f s c (i + 1).toNat = lc_sm f s c i.toNat + lc_num (fun j : Int => lc_en f s c i j) 36 := by
  rw [show (i + 1).toNat = i.toNat + 1 by omega]
  show lc_sm f s c i.toNat + lc_num (fun j : Int => lc_en f s c ((i.toNat : Nat) : Int) j) 36 = _
  rw [show ((i.toNat : Nat) : Int) = i by omega]
theorem lc_sm_r (f : Int → Int) (s : Int) (c : Bool) : ∀ p : Nat, 0 ≤ lc_sm f s c p ∧ lc_sm f s c p ≤ 36 * p
  | 0 => by show (0 : Int) ≤ 0 ∧ (0 : Int) ≤ 36 * ((0 : Nat) : Int); omega
  | p + 1 => by
    have h1 := lc_sm_r f s c p
    have h2 := lc_num_r (fun j : Int => lc_en f s c (p : Int) j) 36
    show 0 ≤ lc_sm f s c p + _ ∧ lc_sm f s c p + _ ≤ 36 * ((p + 1 : Nat) : Int)
    omega
theorem lc_row_l {P : Int → Int → Bool} {fr : Int} : ∀ N : Nat, ((lc_row P fr N).length : Int) = lc_num (fun j : Int => P fr j) N
  | 0 => rfl
  | N + 1 => by
    unfold lc_row lc_num
    rw [List.length_append]
    have h := lc_row_l (P := P) (fr := fr) N
    by_cases e : P fr N = true
    · rw [if_pos e, if_pos e]; simp; omega
    · rw [if_neg e, if_neg e]; simp; omega
theorem lc_aal_l {f : Int → Int} {s : Int} {c : Bool} {P : Int → Int → Bool} (hP : ∀ x y : Int, P x y = lc_en f s c x y) : ∀ N : Nat, ((lc_aal P 36 N).length : Int) = lc_sm f s c N
  | 0 => rfl
  | N + 1 => by
    rw [lc_aal_s, List.length_append]
    have h1 := lc_aal_l hP N
    have h2 := lc_row_l (P := P) (fr := (N : Int)) 36
    rw [lc_num_ext (Q := fun j : Int => lc_en f s c (N : Int) j) 36 (fun i _ _ => hP _ _)] at h2
    show _ = lc_sm f s c N + lc_num (fun j : Int => lc_en f s c (N : Int) j) 36
    omega
def lc_mny (f : Int → Int) (s q m : Int) (c : Bool) : Int := if lc_res (lc_cnt f 1 36) (lc_cnt f 2 36) q m = 0 then lc_sm f s c 36 else 0
theorem lc_mny_t (f : Int → Int) (s q m : Int) : lc_mny f s q m true = ((lc_caps f s q m).length : Int) := by
  unfold lc_mny lc_caps
  split
  · exact (lc_aal_l (fun _ _ => rfl) 36).symm
  · rfl
theorem lc_mny_f (f : Int → Int) (s q m : Int) : lc_mny f s q m false = ((lc_mv f s q m).length : Int) - ((lc_caps f s q m).length : Int) := by
  unfold lc_mny lc_caps lc_mv
  split
  · have h := lc_aal_l (f := f) (s := s) (c := false) (P := lc_PQ f s) (fun _ _ => rfl) 36
    rw [List.length_append]
    omega
  · rfl

set_option maxRecDepth 100000 in
set_option maxHeartbeats 600000 in
theorem lc_cX11_many (l : Launch) (n : Nat) (N : Int → Int) (f : Int → Int) (s q m mo ca ct : Int) (po : Int → Int) (kept : Int) (bs : Bool) (z at9 sn sr w1 w2 w3 bw : Int) (c : Bool) (σ : lc_S) (h0_0 : σ (50) = some (.inr (11, [.ref (51), .ref (52), .ref (53), .ref (54), .ref (55), .int (lc_i (kept)), .ref (56), .int (lc_i (if bs = true then 1 else 0)), .ref (57), .int (lc_i (z)), .int (lc_i (at9)), .int (lc_i (sn)), .int (lc_i (sr)), .int (lc_i (w1)), .int (lc_i (w2)), .int (lc_i (w3)), .int (lc_i (bw))]) : lc_Cel)) (h0_1 : σ (51) = some (lc_aI 222 (N))) (hf : ∀ j : Int, 0 ≤ j → j < 36 → 0 ≤ f j ∧ f j ≤ 2) (hs : 1 ≤ s ∧ s ≤ 2) (hq : -2147483648 ≤ q ∧ q < 2147483648) (hm : -2147483648 ≤ m ∧ m < 2147483648) (hR : lc_RM N (f, s, q, m, mo, ca, ct, po)) : lc_Con l yX11_many cX11_many 4 (some .int) (lc_Rd 4) [.ref (50), .int (lc_i (if c = true then 1 else 0))] n σ (fun v n2 σ2 => ∃ (z1 z2 : Int), v = some (.int (lc_i (lc_mny f s q m c))) ∧ n = n2 ∧ σ2 (50) = some (.inr (11, [.ref (51), .ref (52), .ref (53), .ref (54), .ref (55), .int (lc_i (kept)), .ref (56), .int (lc_i (if bs = true then 1 else 0)), .ref (57), .int (lc_i (z)), .int (lc_i (at9)), .int (lc_i (sn)), .int (lc_i (sr)), .int (lc_i (z1)), .int (lc_i (z2)), .int (lc_i (w3)), .int (lc_i (bw))]) : lc_Cel) ∧ ∀ i : Nat, i ≠ 50 → σ2 i = σ i) := by
  obtain ⟨h0R, h1R, h2R, h3R, h4R, h5R, h6R, h7R⟩ := id hR
  have h0R : N 0 = s := h0R
  have h1R : N 1 = q := h1R
  have h4R : N 4 = m := h4R
  have h5R : N 5 = ct := h5R
  have h6R : ∀ p : Int, 0 ≤ p → p < 36 → N (6 + p) = f p := h6R
  have hr1 := lc_res_r (lc_cnt f 1 36) (lc_cnt f 2 36) q m
  refine lc_con RX11 false (by decide) rfl (fun h => absurd h (by decide)) (Nat.le_of_ble_eq_true rfl) ?_
  suffices H : ∀ Q : lc_QT, (∀ v n2 σ2, (fun v n2 σ2 => ∃ (z1 z2 : Int), v = some (.int (lc_i (lc_mny f s q m c))) ∧ n = n2 ∧ σ2 (50) = some (.inr (11, [.ref (51), .ref (52), .ref (53), .ref (54), .ref (55), .int (lc_i (kept)), .ref (56), .int (lc_i (if bs = true then 1 else 0)), .ref (57), .int (lc_i (z)), .int (lc_i (at9)), .int (lc_i (sn)), .int (lc_i (sr)), .int (lc_i (z1)), .int (lc_i (z2)), .int (lc_i (w3)), .int (lc_i (bw))]) : lc_Cel) ∧ ∀ i : Nat, i ≠ 50 → σ2 i = σ i : lc_QT) v n2 σ2 → Q v n2 σ2) → lc_V l RX11 cX11_many 4 (some .int) false (lc_Rd 4) (lc_G Q 0 0) lc_E0 0 0 n 0 [(0, .ref (50)), (1, .int (lc_i (if c = true then 1 else 0)))] [] σ from H _ (fun _ _ _ h => h)
  intro Q hQ
  refine lc_iconst dX11_many_0 ?_
  refine lc_top (congrArg (fun z => Value.int (lc_i z)) (show (0 : Int) = lc_sm f s c (0 : Int).toNat from rfl)) ?_
  refine lc_istore_n (lv' := [(0, .ref (50)), (1, .int (lc_i (if c = true then 1 else 0))), (2, .int (lc_i (lc_sm f s c (0 : Int).toNat)))]) dX11_many_1 rfl (by decide) rfl ?_
  refine lc_iconst dX11_many_2 ?_
  refine lc_istore_n (lv' := [(0, .ref (50)), (1, .int (lc_i (if c = true then 1 else 0))), (2, .int (lc_i (lc_sm f s c (0 : Int).toNat))), (3, .int (lc_i (0)))]) dX11_many_3 rfl (by decide) rfl ?_
  have loop2 : ∀ (N1 : Nat) (i : Int) (y1 : Int) (y2 : Int) (σ4 : lc_S), (σ4 (50) = some (.inr (11, [.ref (51), .ref (52), .ref (53), .ref (54), .ref (55), .int (lc_i (kept)), .ref (56), .int (lc_i (if bs = true then 1 else 0)), .ref (57), .int (lc_i (z)), .int (lc_i (at9)), .int (lc_i (sn)), .int (lc_i (sr)), .int (lc_i (y1)), .int (lc_i (y2)), .int (lc_i (w3)), .int (lc_i (bw))]) : lc_Cel)) → (∀ i : Nat, i ≠ 50 → σ4 i = σ i) → (0 ≤ i ∧ i ≤ 36) → (lc_res (lc_cnt f 1 36) (lc_cnt f 2 36) q m ≠ 0 → i = 0) → 36 - i < (N1 : Int) → lc_V l RX11 cX11_many 4 (some .int) false (lc_Rd 4) (lc_G Q 0 0) lc_E0 0 0 n 4 [(0, .ref (50)), (1, .int (lc_i (if c = true then 1 else 0))), (2, .int (lc_i (lc_sm f s c (i).toNat))), (3, .int (lc_i (i)))] [] σ4 := by
    intro N1
    induction N1 with
    | zero =>
      intro i y1 y2 σ4 h5 fr6 hi hz hm7
      exact absurd hm7 (by omega)
    | succ N1 ih3 =>
      intro i y1 y2 σ4 h5 fr6 hi hz hm7
      have h8 : σ4 (51) = some (lc_aI 222 (N)) := (fr6 _ (by omega)).trans h0_1
      have hsm := lc_sm_r f s c i.toNat
      refine lc_iload_n dX11_many_4 rfl 3 rfl ?_
      refine lc_bipush dX11_many_5 (by decide) ?_
      refine lc_icmp_ge (tgt := 42) dX11_many_7 (by decide) (by omega) (fun h_7_8 => ?_) (fun h_7_8 => ?_)
      · skip
        refine lc_iload_n dX11_many_42 rfl 2 rfl ?_
        exact lc_iret dX11_many_43 rfl (Nat.le_of_ble_eq_true rfl) (Nat.le_of_ble_eq_true rfl) (hQ _ _ _ ⟨y1, y2, lc_some (by unfold lc_mny; rw [show i = 36 from by omega, if_pos (show lc_res (lc_cnt f 1 36) (lc_cnt f 2 36) q m = 0 from by by_cases q9 : lc_res (lc_cnt f 1 36) (lc_cnt f 2 36) q m = 0; (exact q9); (have := hz q9; omega))]; rfl), rfl, h5, (fun i _ => (fr6 i (by omega)))⟩)
      · skip
        refine lc_aload_n dX11_many_10 rfl 0 rfl ?_
        refine lc_get dX11_many_11 lc_fX11_7 h5 rfl ?_
        refine lc_callS (As := [.ref (51)]) (stk := []) dX11_many_14 lc_mX11_94 lc_yX11_result (lc_cX11_result l n (51) (N) (f) (s) (q) (m) (mo) (ca) (ct) (po) σ4 h8 (hf) (hR) (by omega) (by omega)) rfl ⟨Nat.le_of_ble_eq_true rfl, Nat.le_of_ble_eq_true rfl⟩ ⟨Nat.le_of_ble_eq_true rfl, Nat.le_of_ble_eq_true rfl⟩ rfl (Nat.le_of_ble_eq_true rfl) (fun v10 n11 σ12 q13 => ?_)
        obtain ⟨rfl, rfl, rfl⟩ := q13
        refine lc_if_ne (tgt := 42) dX11_many_17 (by decide) (by omega) (fun h_17_13 => ?_) (fun h_17_13 => ?_)
        · skip
          refine lc_iload_n dX11_many_42 rfl 2 rfl ?_
          exact lc_iret dX11_many_43 rfl (Nat.le_of_ble_eq_true rfl) (Nat.le_of_ble_eq_true rfl) (hQ _ _ _ ⟨y1, y2, lc_some (by unfold lc_mny; rw [if_neg (show ¬ lc_res (lc_cnt f 1 36) (lc_cnt f 2 36) q m = 0 from h_17_13), hz h_17_13]; rfl), rfl, h5, (fun i _ => (fr6 i (by omega)))⟩)
        · skip
          refine lc_iload_n dX11_many_20 rfl 2 rfl ?_
          refine lc_aload_n dX11_many_21 rfl 0 rfl ?_
          refine lc_aload_n dX11_many_22 rfl 0 rfl ?_
          refine lc_get dX11_many_23 lc_fX11_7 h5 rfl ?_
          refine lc_iload_n dX11_many_26 rfl 3 rfl ?_
          refine lc_iload_n dX11_many_27 rfl 1 rfl ?_
          refine lc_callV (As := [.ref (51), .int (lc_i (i)), .int (lc_i (if c = true then 1 else 0))]) (stk := [.int (lc_i (lc_sm f s c (i).toNat))]) (b := 50) dX11_many_28 lc_mX11_121 lc_yX11_ends h5 rfl (lc_cX11_ends l n (51) (N) (f) (s) (q) (m) (mo) (ca) (ct) (po) (kept) (bs) (z) (at9) (sn) (sr) (y1) (y2) (w3) (bw) (i) (c) σ4 h5 h8 (by omega) (hf) (hs) (hR) (by omega)) rfl ⟨Nat.le_of_ble_eq_true rfl, Nat.le_of_ble_eq_true rfl⟩ ⟨Nat.le_of_ble_eq_true rfl, Nat.le_of_ble_eq_true rfl⟩ rfl (Nat.le_of_ble_eq_true rfl) (fun v21 n22 σ23 q24 => ?_)
          obtain ⟨set19, z15, z16, rfl, rfl, hs20, h18, fr17⟩ := q24
          have h25 : σ23 (51) = some (lc_aI 222 (N)) := (fr17 _ (by omega)).trans h8
          refine lc_callS (As := [.long (set19)]) (stk := [.int (lc_i (lc_sm f s c (i).toNat))]) dX11_many_31 lc_mX11_161 lc_yX11_ones (lc_cX11_ones l n (set19) (fun j : Int => lc_en (f) (s) (c) (i) j) σ23 hs20) rfl ⟨Nat.le_of_ble_eq_true rfl, Nat.le_of_ble_eq_true rfl⟩ ⟨Nat.le_of_ble_eq_true rfl, Nat.le_of_ble_eq_true rfl⟩ rfl (Nat.le_of_ble_eq_true rfl) (fun v26 n27 σ28 q29 => ?_)
          obtain ⟨rfl, rfl, rfl⟩ := q29
          refine lc_iadd dX11_many_34 ?_
          refine lc_istore_n (lv' := [(0, .ref (50)), (1, .int (lc_i (if c = true then 1 else 0))), (2, .int (lc_i ((lc_sm f s c (i).toNat) + (lc_num (fun j : Int => lc_en (f) (s) (c) (i) j) 36)))), (3, .int (lc_i (i)))]) dX11_many_35 rfl (by decide) rfl ?_
          refine lc_iinc (lv' := [(0, .ref (50)), (1, .int (lc_i (if c = true then 1 else 0))), (2, .int (lc_i ((lc_sm f s c (i).toNat) + (lc_num (fun j : Int => lc_en (f) (s) (c) (i) j) 36)))), (3, .int (lc_i (i + 1)))]) dX11_many_36 3 rfl (by decide) rfl ?_
          refine lc_goto (tgt := 4) dX11_many_39 (by decide) ?_
          refine lc_lveq (lv' := [(0, .ref (50)), (1, .int (lc_i (if c = true then 1 else 0))), (2, .int (lc_i (lc_sm f s c (i + 1).toNat))), (3, .int (lc_i (i + 1)))]) (by rw [lc_sm_s (f := f) (s := s) (c := c) hi.1]) ?_
          exact ih3 (i + 1) (z15) (z16) σ23 h18 (fun i _ => ((fr17 i (by omega)).trans (fr6 i (by omega)))) (by omega) (fun q9 => absurd h_17_13 q9) (by omega)
  exact loop2 1000 (0) (w1) (w2) σ h0_0 (fun _ _ => rfl) (by omega) (fun _ => rfl) (by omega)

set_option maxRecDepth 100000 in
set_option maxHeartbeats 600000 in
theorem lc_cX11_possible (l : Launch) (n : Nat) (N : Int → Int) (f : Int → Int) (s q m mo ca ct : Int) (po : Int → Int) (kept : Int) (bs : Bool) (z at9 sn sr w1 w2 w3 bw : Int) (x0 : Int) (σ : lc_S) (h0_0 : σ (50) = some (.inr (11, [.ref (51), .ref (52), .ref (53), .ref (54), .ref (55), .int (lc_i (kept)), .ref (56), .int (lc_i (if bs = true then 1 else 0)), .ref (57), .int (lc_i (z)), .int (lc_i (at9)), .int (lc_i (sn)), .int (lc_i (sr)), .int (lc_i (w1)), .int (lc_i (w2)), .int (lc_i (w3)), .int (lc_i (bw))]) : lc_Cel)) (h0_1 : σ (51) = some (lc_aI 222 (N))) (hf : ∀ j : Int, 0 ≤ j → j < 36 → 0 ≤ f j ∧ f j ≤ 2) (hs : 1 ≤ s ∧ s ≤ 2) (hq : -2147483648 ≤ q ∧ q < 2147483648) (hm : -2147483648 ≤ m ∧ m < 2147483648) (hR : lc_RM N (f, s, q, m, mo, ca, ct, po)) (hxr : -2147483648 ≤ x0 ∧ x0 < 2147483648) : lc_Con l yX11_possible cX11_possible 8 (some .int) (lc_Rd 4) [.ref (50), .int (lc_i (x0))] n σ (fun v n2 σ2 => ∃ (z1 z2 : Int), v = some (.int (lc_i (if x0 < 0 then -102 else if x0 < ((lc_mv f s q m).length : Int) then (lc_mv f s q m).getD x0.toNat 0 else -105))) ∧ n = n2 ∧ σ2 (50) = some (.inr (11, [.ref (51), .ref (52), .ref (53), .ref (54), .ref (55), .int (lc_i (kept)), .ref (56), .int (lc_i (if bs = true then 1 else 0)), .ref (57), .int (lc_i (z)), .int (lc_i (at9)), .int (lc_i (sn)), .int (lc_i (sr)), .int (lc_i (z1)), .int (lc_i (z2)), .int (lc_i (w3)), .int (lc_i (bw))]) : lc_Cel) ∧ ∀ i : Nat, i ≠ 50 → σ2 i = σ i) := by
  obtain ⟨h0R, h1R, h2R, h3R, h4R, h5R, h6R, h7R⟩ := id hR
  have h0R : N 0 = s := h0R
  have h1R : N 1 = q := h1R
  have h4R : N 4 = m := h4R
  have h5R : N 5 = ct := h5R
  have h6R : ∀ p : Int, 0 ≤ p → p < 36 → N (6 + p) = f p := h6R
  have hr1 := lc_res_r (lc_cnt f 1 36) (lc_cnt f 2 36) q m
  refine lc_con RX11 false (by decide) rfl (fun h => absurd h (by decide)) (Nat.le_of_ble_eq_true rfl) ?_
  suffices H : ∀ Q : lc_QT, (∀ v n2 σ2, (fun v n2 σ2 => ∃ (z1 z2 : Int), v = some (.int (lc_i (if x0 < 0 then -102 else if x0 < ((lc_mv f s q m).length : Int) then (lc_mv f s q m).getD x0.toNat 0 else -105))) ∧ n = n2 ∧ σ2 (50) = some (.inr (11, [.ref (51), .ref (52), .ref (53), .ref (54), .ref (55), .int (lc_i (kept)), .ref (56), .int (lc_i (if bs = true then 1 else 0)), .ref (57), .int (lc_i (z)), .int (lc_i (at9)), .int (lc_i (sn)), .int (lc_i (sr)), .int (lc_i (z1)), .int (lc_i (z2)), .int (lc_i (w3)), .int (lc_i (bw))]) : lc_Cel) ∧ ∀ i : Nat, i ≠ 50 → σ2 i = σ i : lc_QT) v n2 σ2 → Q v n2 σ2) → lc_V l RX11 cX11_possible 8 (some .int) false (lc_Rd 4) (lc_G Q 0 0) lc_E0 0 0 n 0 [(0, .ref (50)), (1, .int (lc_i (x0)))] [] σ from H _ (fun _ _ _ h => h)
  intro Q hQ
  refine lc_iload_n dX11_possible_0 rfl 1 rfl ?_
  refine lc_if_ge (tgt := 7) dX11_possible_1 (by decide) (by omega) (fun h_1_0 => ?_) (fun h_1_0 => ?_)
  · skip
    have hx0 : 0 ≤ x0 ∧ x0 < 2147483648 := by omega
    refine lc_iload_n dX11_possible_7 rfl 1 rfl ?_
    refine lc_top (congrArg (fun z => Value.int (lc_i z)) (show (x0 : Int) = x0 - ((lc_pre f s 0 0).length : Int) from by rw [lc_pre_0]; exact (Int.sub_zero _).symm)) ?_
    refine lc_istore_n (lv' := [(0, .ref (50)), (1, .int (lc_i (x0))), (2, .int (lc_i (x0 - ((lc_pre f s 0 0).length : Int))))]) dX11_possible_8 rfl (by decide) rfl ?_
    refine lc_iconst dX11_possible_9 ?_
    refine lc_istore_n (lv' := [(0, .ref (50)), (1, .int (lc_i (x0))), (2, .int (lc_i (x0 - ((lc_pre f s 0 0).length : Int)))), (3, .int (lc_i (0)))]) dX11_possible_10 rfl (by decide) rfl ?_
    have loop3 : ∀ (N2 : Nat) (k : Nat) (y1 : Int) (y2 : Int) (σ5 : lc_S), (σ5 (50) = some (.inr (11, [.ref (51), .ref (52), .ref (53), .ref (54), .ref (55), .int (lc_i (kept)), .ref (56), .int (lc_i (if bs = true then 1 else 0)), .ref (57), .int (lc_i (z)), .int (lc_i (at9)), .int (lc_i (sn)), .int (lc_i (sr)), .int (lc_i (y1)), .int (lc_i (y2)), .int (lc_i (w3)), .int (lc_i (bw))]) : lc_Cel)) → (∀ i : Nat, i ≠ 50 → σ5 i = σ i) → (k ≤ 72) → (lc_res (lc_cnt f 1 36) (lc_cnt f 2 36) q m ≠ 0 → k = 0) → (((lc_pre f s k 0).length : Int) ≤ x0) → 72 - (k : Int) < (N2 : Int) → lc_V l RX11 cX11_possible 8 (some .int) false (lc_Rd 4) (lc_G Q 0 0) lc_E0 0 0 n 11 [(0, .ref (50)), (1, .int (lc_i (x0))), (2, .int (lc_i (x0 - ((lc_pre f s k 0).length : Int)))), (3, .int (lc_i (((k : Nat) : Int))))] [] σ5 := by
      intro N2
      induction N2 with
      | zero =>
        intro k y1 y2 σ5 h6 fr7 hk hz hle hm8
        exact absurd hm8 (by omega)
      | succ N2 ih4 =>
        intro k y1 y2 σ5 h6 fr7 hk hz hle hm8
        have h9 : σ5 (51) = some (lc_aI 222 (N)) := (fr7 _ (by omega)).trans h0_1
        refine lc_iload_n dX11_possible_11 rfl 3 rfl ?_
        refine lc_bipush dX11_possible_12 (by decide) ?_
        refine lc_icmp_ge (tgt := 106) dX11_possible_14 (by decide) (by omega) (fun h_14_9 => ?_) (fun h_14_9 => ?_)
        · skip
          refine lc_bipush dX11_possible_106 (by decide) ?_
          have hres : lc_res (lc_cnt f 1 36) (lc_cnt f 2 36) q m = 0 := by by_cases q9 : lc_res (lc_cnt f 1 36) (lc_cnt f 2 36) q m = 0; (exact q9); (have := hz q9; omega)
          exact lc_iret dX11_possible_108 rfl (Nat.le_of_ble_eq_true rfl) (Nat.le_of_ble_eq_true rfl) (hQ _ _ _ ⟨y1, y2, lc_some (by rw [if_neg (show ¬ x0 < 0 from by omega), lc_pre_m hres, if_neg (show ¬ x0 < _ from by rw [show k = 72 from by omega] at hle; omega)]), rfl, h6, (fun i _ => (fr7 i (by omega)))⟩)
        · skip
          refine lc_aload_n dX11_possible_17 rfl 0 rfl ?_
          refine lc_get dX11_possible_18 lc_fX11_7 h6 rfl ?_
          refine lc_callS (As := [.ref (51)]) (stk := []) dX11_possible_21 lc_mX11_94 lc_yX11_result (lc_cX11_result l n (51) (N) (f) (s) (q) (m) (mo) (ca) (ct) (po) σ5 h9 (hf) (hR) (by omega) (by omega)) rfl ⟨Nat.le_of_ble_eq_true rfl, Nat.le_of_ble_eq_true rfl⟩ ⟨Nat.le_of_ble_eq_true rfl, Nat.le_of_ble_eq_true rfl⟩ rfl (Nat.le_of_ble_eq_true rfl) (fun v11 n12 σ13 q14 => ?_)
          obtain ⟨rfl, rfl, rfl⟩ := q14
          refine lc_if_ne (tgt := 106) dX11_possible_24 (by decide) (by omega) (fun h_24_14 => ?_) (fun h_24_14 => ?_)
          · skip
            refine lc_bipush dX11_possible_106 (by decide) ?_
            exact lc_iret dX11_possible_108 rfl (Nat.le_of_ble_eq_true rfl) (Nat.le_of_ble_eq_true rfl) (hQ _ _ _ ⟨y1, y2, lc_some (by rw [if_neg (show ¬ x0 < 0 from by omega), (lc_mv_0 h_24_14).1, if_neg (show ¬ x0 < (([] : List Int).length : Int) from by show ¬ x0 < 0; omega)]), rfl, h6, (fun i _ => (fr7 i (by omega)))⟩)
          · skip
            have hres : lc_res (lc_cnt f 1 36) (lc_cnt f 2 36) q m = 0 := h_24_14
            refine lc_iload_n dX11_possible_27 rfl 3 rfl ?_
            refine lc_bipush dX11_possible_28 (by decide) ?_
            refine lc_irem dX11_possible_30 (by omega) ?_
            refine lc_top (congrArg (fun z => Value.int (lc_i z)) (show ((((k : Nat) : Int)) % (36) : Int) = (k : Int) % 36 from rfl)) ?_
            refine lc_istore (lv' := [(0, .ref (50)), (1, .int (lc_i (x0))), (2, .int (lc_i (x0 - ((lc_pre f s k 0).length : Int)))), (3, .int (lc_i (((k : Nat) : Int)))), (4, .int (lc_i ((k : Int) % 36)))]) dX11_possible_31 (by decide) rfl ?_
            refine lc_aload_n dX11_possible_33 rfl 0 rfl ?_
            refine lc_aload_n dX11_possible_34 rfl 0 rfl ?_
            refine lc_get dX11_possible_35 lc_fX11_7 h6 rfl ?_
            refine lc_iload dX11_possible_38 4 rfl ?_
            refine lc_iload_n dX11_possible_40 rfl 3 rfl ?_
            refine lc_bipush dX11_possible_41 (by decide) ?_
            refine lc_icmp_ge (tgt := 50) dX11_possible_43 (by decide) (by omega) (fun h_43_15 => ?_) (fun h_43_15 => ?_)
            · skip
              refine lc_iconst dX11_possible_50 ?_
              refine lc_callV (As := [.ref (51), .int (lc_i ((k : Int) % 36)), .int (lc_i (0))]) (stk := []) (b := 50) dX11_possible_51 lc_mX11_121 lc_yX11_ends h6 rfl (lc_cX11_ends l n (51) (N) (f) (s) (q) (m) (mo) (ca) (ct) (po) (kept) (bs) (z) (at9) (sn) (sr) (y1) (y2) (w3) (bw) ((k : Int) % 36) (false) σ5 h6 h9 (by omega) (hf) (hs) (hR) (by omega)) rfl ⟨Nat.le_of_ble_eq_true rfl, Nat.le_of_ble_eq_true rfl⟩ ⟨Nat.le_of_ble_eq_true rfl, Nat.le_of_ble_eq_true rfl⟩ rfl (Nat.le_of_ble_eq_true rfl) (fun v23 n24 σ25 q26 => ?_)
              obtain ⟨set21, z17, z18, rfl, rfl, hs22, h20, fr19⟩ := q26
              have h27 : σ25 (51) = some (lc_aI 222 (N)) := (fr19 _ (by omega)).trans h9
              refine lc_lstore (lv' := [(0, .ref (50)), (1, .int (lc_i (x0))), (2, .int (lc_i (x0 - ((lc_pre f s k 0).length : Int)))), (3, .int (lc_i (((k : Nat) : Int)))), (4, .int (lc_i ((k : Int) % 36))), (5, .long (set21))]) dX11_possible_54 (by decide) rfl ?_
              refine lc_iconst dX11_possible_56 ?_
              refine lc_istore (lv' := [(0, .ref (50)), (1, .int (lc_i (x0))), (2, .int (lc_i (x0 - ((lc_pre f s k 0).length : Int)))), (3, .int (lc_i (((k : Nat) : Int)))), (4, .int (lc_i ((k : Int) % 36))), (5, .long (set21)), (7, .int (lc_i (0)))]) dX11_possible_57 (by decide) rfl ?_
              have loop29 : ∀ (N28 : Nat) (t : Nat) (x : Int64), (t ≤ 36) → (lc_bs x (fun j : Int => lc_en f s (decide ((k : Int) < 36)) ((k : Int) % 36) j)) → (((lc_pre f s k t).length : Int) ≤ x0) → 36 - (t : Int) < (N28 : Int) → lc_V l RX11 cX11_possible 8 (some .int) false (lc_Rd 4) (lc_G Q 0 0) lc_E0 0 0 n 59 [(0, .ref (50)), (1, .int (lc_i (x0))), (2, .int (lc_i (x0 - ((lc_pre f s k t).length : Int)))), (3, .int (lc_i (((k : Nat) : Int)))), (4, .int (lc_i ((k : Int) % 36))), (5, .long (x)), (7, .int (lc_i (((t : Nat) : Int))))] [] σ25 := by
                intro N28
                induction N28 with
                | zero =>
                  intro t x ht hst hle hm31
                  exact absurd hm31 (by omega)
                | succ N28 ih30 =>
                  intro t x ht hst hle hm31
                  refine lc_iload dX11_possible_59 6 rfl ?_
                  refine lc_bipush dX11_possible_61 (by decide) ?_
                  refine lc_icmp_ge (tgt := 100) dX11_possible_63 (by decide) (by omega) (fun h_63_31 => ?_) (fun h_63_31 => ?_)
                  · skip
                    refine lc_iinc (lv' := [(0, .ref (50)), (1, .int (lc_i (x0))), (2, .int (lc_i (x0 - ((lc_pre f s k t).length : Int)))), (3, .int (lc_i (((k : Nat) : Int) + 1))), (4, .int (lc_i ((k : Int) % 36))), (5, .long (x)), (7, .int (lc_i (((t : Nat) : Int))))]) dX11_possible_100 3 rfl (by decide) rfl ?_
                    refine lc_goto (tgt := 11) dX11_possible_103 (by decide) ?_
                    refine lc_pick (lv' := [(0, .ref (50)), (1, .int (lc_i (x0))), (2, .int (lc_i (x0 - ((lc_pre f s k t).length : Int)))), (3, .int (lc_i (((k : Nat) : Int) + 1)))]) [0, 1, 2, 3] rfl ?_
                    refine lc_lveq (lv' := [(0, .ref (50)), (1, .int (lc_i (x0))), (2, .int (lc_i (x0 - ((lc_pre f s (k + 1) 0).length : Int)))), (3, .int (lc_i (((k + 1 : Nat) : Int))))]) (by rw [show ((k + 1 : Nat) : Int) = (k : Int) + 1 from by omega, show ((lc_pre f s k t).length : Int) = ((lc_pre f s (k + 1) 0).length : Int) from by rw [show t = 36 from by omega, lc_pre_k]]) ?_
                    exact ih4 (k + 1) (z17) (z18) σ25 h20 (fun i _ => ((fr19 i (by omega)).trans (fr7 i (by omega)))) (by omega) (fun q9 => absurd hres q9) (by rw [← lc_pre_k, ← show t = 36 from by omega]; exact hle) (by omega)
                  · skip
                    refine lc_lload dX11_possible_66 5 rfl ?_
                    refine lc_iload dX11_possible_68 6 rfl ?_
                    refine lc_lshr dX11_possible_70 rfl ?_
                    refine lc_lconst (x := 1) dX11_possible_71 (by decide) ?_
                    refine lc_land dX11_possible_72 ?_
                    refine lc_lconst (x := 1) dX11_possible_73 (by decide) ?_
                    refine lc_lcmp dX11_possible_74 ?_
                    refine lc_if_neR (tgt := 94) dX11_possible_75 (by decide) (fun h_75_32 => ?_) (fun h_75_32 => ?_)
                    · skip
                      refine lc_iinc (lv' := [(0, .ref (50)), (1, .int (lc_i (x0))), (2, .int (lc_i (x0 - ((lc_pre f s k t).length : Int)))), (3, .int (lc_i (((k : Nat) : Int)))), (4, .int (lc_i ((k : Int) % 36))), (5, .long (x)), (7, .int (lc_i (((t : Nat) : Int) + 1)))]) dX11_possible_94 6 rfl (by decide) rfl ?_
                      refine lc_goto (tgt := 59) dX11_possible_97 (by decide) ?_
                      refine lc_lveq (lv' := [(0, .ref (50)), (1, .int (lc_i (x0))), (2, .int (lc_i (x0 - ((lc_pre f s k (t + 1)).length : Int)))), (3, .int (lc_i (((k : Nat) : Int)))), (4, .int (lc_i ((k : Int) % 36))), (5, .long (x)), (7, .int (lc_i (((t + 1 : Nat) : Int))))]) (by rw [show ((t + 1 : Nat) : Int) = (t : Int) + 1 from by omega, lc_len_n (f := f) (s := s) (k := k) (t := t) (by omega) (fun q9 : lc_bit f s k t => h_75_32 (lc_cmp0.mpr ((lc_bs_t hst (by omega)).mpr q9)))]) ?_
                      exact ih30 (t + 1) (x) (by omega) (hst) (by rw [lc_len_n (f := f) (s := s) (k := k) (t := t) (by omega) (fun q9 : lc_bit f s k t => h_75_32 (lc_cmp0.mpr ((lc_bs_t hst (by omega)).mpr q9)))]; exact hle) (by omega)
                    · skip
                      refine lc_iload_n dX11_possible_78 rfl 2 rfl ?_
                      refine lc_if_ne (tgt := 91) dX11_possible_79 (by decide) (by omega) (fun h_79_33 => ?_) (fun h_79_33 => ?_)
                      · skip
                        refine lc_iinc (lv' := [(0, .ref (50)), (1, .int (lc_i (x0))), (2, .int (lc_i (x0 - ((lc_pre f s k t).length : Int) + (-1)))), (3, .int (lc_i (((k : Nat) : Int)))), (4, .int (lc_i ((k : Int) % 36))), (5, .long (x)), (7, .int (lc_i (((t : Nat) : Int))))]) dX11_possible_91 2 rfl (by decide) rfl ?_
                        refine lc_iinc (lv' := [(0, .ref (50)), (1, .int (lc_i (x0))), (2, .int (lc_i (x0 - ((lc_pre f s k t).length : Int) + (-1)))), (3, .int (lc_i (((k : Nat) : Int)))), (4, .int (lc_i ((k : Int) % 36))), (5, .long (x)), (7, .int (lc_i (((t : Nat) : Int) + 1)))]) dX11_possible_94 6 rfl (by decide) rfl ?_
                        refine lc_goto (tgt := 59) dX11_possible_97 (by decide) ?_
                        refine lc_lveq (lv' := [(0, .ref (50)), (1, .int (lc_i (x0))), (2, .int (lc_i (x0 - ((lc_pre f s k (t + 1)).length : Int)))), (3, .int (lc_i (((k : Nat) : Int)))), (4, .int (lc_i ((k : Int) % 36))), (5, .long (x)), (7, .int (lc_i (((t + 1 : Nat) : Int))))]) (by rw [show ((t + 1 : Nat) : Int) = (t : Int) + 1 from by omega, show x0 - ((lc_pre f s k (t + 1)).length : Int) = x0 - ((lc_pre f s k t).length : Int) + (-1) from by have := lc_len_1 (f := f) (s := s) (k := k) (t := t) (by omega) ((lc_bs_t hst (by omega)).mp (lc_cmp0.mp h_75_32) : lc_bit f s k t); omega]) ?_
                        exact ih30 (t + 1) (x) (by omega) (hst) (by have := lc_len_1 (f := f) (s := s) (k := k) (t := t) (by omega) ((lc_bs_t hst (by omega)).mp (lc_cmp0.mp h_75_32) : lc_bit f s k t); omega) (by omega)
                      · skip
                        refine lc_bipush dX11_possible_82 (by decide) ?_
                        refine lc_iload dX11_possible_84 4 rfl ?_
                        refine lc_imul dX11_possible_86 ?_
                        refine lc_iload dX11_possible_87 6 rfl ?_
                        refine lc_iadd dX11_possible_89 ?_
                        have hg := lc_pre_g (m := m) hres (by omega) (by omega) ((lc_bs_t hst (by omega)).mp (lc_cmp0.mp h_75_32) : lc_bit f s k t)
                        exact lc_iret dX11_possible_90 rfl (Nat.le_of_ble_eq_true rfl) (Nat.le_of_ble_eq_true rfl) (hQ _ _ _ ⟨z17, z18, lc_some (by rw [if_neg (show ¬ x0 < 0 from by omega), if_pos (show x0 < _ from by omega), show x0.toNat = (lc_pre f s k t).length from by omega, hg.2]; omega), rfl, h20, (fun i _ => ((fr19 i (by omega)).trans (fr7 i (by omega))))⟩)
              exact loop29 1000 (0) (set21) (by omega) (by rw [decide_eq_false (show ¬ (k : Int) < 36 from by omega)]; exact hs22) (by omega) (by omega)
            · skip
              refine lc_iconst dX11_possible_46 ?_
              refine lc_goto (tgt := 51) dX11_possible_47 (by decide) ?_
              refine lc_callV (As := [.ref (51), .int (lc_i ((k : Int) % 36)), .int (lc_i (1))]) (stk := []) (b := 50) dX11_possible_51 lc_mX11_121 lc_yX11_ends h6 rfl (lc_cX11_ends l n (51) (N) (f) (s) (q) (m) (mo) (ca) (ct) (po) (kept) (bs) (z) (at9) (sn) (sr) (y1) (y2) (w3) (bw) ((k : Int) % 36) (true) σ5 h6 h9 (by omega) (hf) (hs) (hR) (by omega)) rfl ⟨Nat.le_of_ble_eq_true rfl, Nat.le_of_ble_eq_true rfl⟩ ⟨Nat.le_of_ble_eq_true rfl, Nat.le_of_ble_eq_true rfl⟩ rfl (Nat.le_of_ble_eq_true rfl) (fun v41 n42 σ43 q44 => ?_)
              obtain ⟨set39, z35, z36, rfl, rfl, hs40, h38, fr37⟩ := q44
              have h45 : σ43 (51) = some (lc_aI 222 (N)) := (fr37 _ (by omega)).trans h9
              refine lc_lstore (lv' := [(0, .ref (50)), (1, .int (lc_i (x0))), (2, .int (lc_i (x0 - ((lc_pre f s k 0).length : Int)))), (3, .int (lc_i (((k : Nat) : Int)))), (4, .int (lc_i ((k : Int) % 36))), (5, .long (set39))]) dX11_possible_54 (by decide) rfl ?_
              refine lc_iconst dX11_possible_56 ?_
              refine lc_istore (lv' := [(0, .ref (50)), (1, .int (lc_i (x0))), (2, .int (lc_i (x0 - ((lc_pre f s k 0).length : Int)))), (3, .int (lc_i (((k : Nat) : Int)))), (4, .int (lc_i ((k : Int) % 36))), (5, .long (set39)), (7, .int (lc_i (0)))]) dX11_possible_57 (by decide) rfl ?_
              have loop47 : ∀ (N46 : Nat) (t : Nat) (x : Int64), (t ≤ 36) → (lc_bs x (fun j : Int => lc_en f s (decide ((k : Int) < 36)) ((k : Int) % 36) j)) → (((lc_pre f s k t).length : Int) ≤ x0) → 36 - (t : Int) < (N46 : Int) → lc_V l RX11 cX11_possible 8 (some .int) false (lc_Rd 4) (lc_G Q 0 0) lc_E0 0 0 n 59 [(0, .ref (50)), (1, .int (lc_i (x0))), (2, .int (lc_i (x0 - ((lc_pre f s k t).length : Int)))), (3, .int (lc_i (((k : Nat) : Int)))), (4, .int (lc_i ((k : Int) % 36))), (5, .long (x)), (7, .int (lc_i (((t : Nat) : Int))))] [] σ43 := by
                intro N46
                induction N46 with
                | zero =>
                  intro t x ht hst hle hm49
                  exact absurd hm49 (by omega)
                | succ N46 ih48 =>
                  intro t x ht hst hle hm49
                  refine lc_iload dX11_possible_59 6 rfl ?_
                  refine lc_bipush dX11_possible_61 (by decide) ?_
                  refine lc_icmp_ge (tgt := 100) dX11_possible_63 (by decide) (by omega) (fun h_63_49 => ?_) (fun h_63_49 => ?_)
                  · skip
                    refine lc_iinc (lv' := [(0, .ref (50)), (1, .int (lc_i (x0))), (2, .int (lc_i (x0 - ((lc_pre f s k t).length : Int)))), (3, .int (lc_i (((k : Nat) : Int) + 1))), (4, .int (lc_i ((k : Int) % 36))), (5, .long (x)), (7, .int (lc_i (((t : Nat) : Int))))]) dX11_possible_100 3 rfl (by decide) rfl ?_
                    refine lc_goto (tgt := 11) dX11_possible_103 (by decide) ?_
                    refine lc_pick (lv' := [(0, .ref (50)), (1, .int (lc_i (x0))), (2, .int (lc_i (x0 - ((lc_pre f s k t).length : Int)))), (3, .int (lc_i (((k : Nat) : Int) + 1)))]) [0, 1, 2, 3] rfl ?_
                    refine lc_lveq (lv' := [(0, .ref (50)), (1, .int (lc_i (x0))), (2, .int (lc_i (x0 - ((lc_pre f s (k + 1) 0).length : Int)))), (3, .int (lc_i (((k + 1 : Nat) : Int))))]) (by rw [show ((k + 1 : Nat) : Int) = (k : Int) + 1 from by omega, show ((lc_pre f s k t).length : Int) = ((lc_pre f s (k + 1) 0).length : Int) from by rw [show t = 36 from by omega, lc_pre_k]]) ?_
                    exact ih4 (k + 1) (z35) (z36) σ43 h38 (fun i _ => ((fr37 i (by omega)).trans (fr7 i (by omega)))) (by omega) (fun q9 => absurd hres q9) (by rw [← lc_pre_k, ← show t = 36 from by omega]; exact hle) (by omega)
                  · skip
                    refine lc_lload dX11_possible_66 5 rfl ?_
                    refine lc_iload dX11_possible_68 6 rfl ?_
                    refine lc_lshr dX11_possible_70 rfl ?_
                    refine lc_lconst (x := 1) dX11_possible_71 (by decide) ?_
                    refine lc_land dX11_possible_72 ?_
                    refine lc_lconst (x := 1) dX11_possible_73 (by decide) ?_
                    refine lc_lcmp dX11_possible_74 ?_
                    refine lc_if_neR (tgt := 94) dX11_possible_75 (by decide) (fun h_75_50 => ?_) (fun h_75_50 => ?_)
                    · skip
                      refine lc_iinc (lv' := [(0, .ref (50)), (1, .int (lc_i (x0))), (2, .int (lc_i (x0 - ((lc_pre f s k t).length : Int)))), (3, .int (lc_i (((k : Nat) : Int)))), (4, .int (lc_i ((k : Int) % 36))), (5, .long (x)), (7, .int (lc_i (((t : Nat) : Int) + 1)))]) dX11_possible_94 6 rfl (by decide) rfl ?_
                      refine lc_goto (tgt := 59) dX11_possible_97 (by decide) ?_
                      refine lc_lveq (lv' := [(0, .ref (50)), (1, .int (lc_i (x0))), (2, .int (lc_i (x0 - ((lc_pre f s k (t + 1)).length : Int)))), (3, .int (lc_i (((k : Nat) : Int)))), (4, .int (lc_i ((k : Int) % 36))), (5, .long (x)), (7, .int (lc_i (((t + 1 : Nat) : Int))))]) (by rw [show ((t + 1 : Nat) : Int) = (t : Int) + 1 from by omega, lc_len_n (f := f) (s := s) (k := k) (t := t) (by omega) (fun q9 : lc_bit f s k t => h_75_50 (lc_cmp0.mpr ((lc_bs_t hst (by omega)).mpr q9)))]) ?_
                      exact ih48 (t + 1) (x) (by omega) (hst) (by rw [lc_len_n (f := f) (s := s) (k := k) (t := t) (by omega) (fun q9 : lc_bit f s k t => h_75_50 (lc_cmp0.mpr ((lc_bs_t hst (by omega)).mpr q9)))]; exact hle) (by omega)
                    · skip
                      refine lc_iload_n dX11_possible_78 rfl 2 rfl ?_
                      refine lc_if_ne (tgt := 91) dX11_possible_79 (by decide) (by omega) (fun h_79_51 => ?_) (fun h_79_51 => ?_)
                      · skip
                        refine lc_iinc (lv' := [(0, .ref (50)), (1, .int (lc_i (x0))), (2, .int (lc_i (x0 - ((lc_pre f s k t).length : Int) + (-1)))), (3, .int (lc_i (((k : Nat) : Int)))), (4, .int (lc_i ((k : Int) % 36))), (5, .long (x)), (7, .int (lc_i (((t : Nat) : Int))))]) dX11_possible_91 2 rfl (by decide) rfl ?_
                        refine lc_iinc (lv' := [(0, .ref (50)), (1, .int (lc_i (x0))), (2, .int (lc_i (x0 - ((lc_pre f s k t).length : Int) + (-1)))), (3, .int (lc_i (((k : Nat) : Int)))), (4, .int (lc_i ((k : Int) % 36))), (5, .long (x)), (7, .int (lc_i (((t : Nat) : Int) + 1)))]) dX11_possible_94 6 rfl (by decide) rfl ?_
                        refine lc_goto (tgt := 59) dX11_possible_97 (by decide) ?_
                        refine lc_lveq (lv' := [(0, .ref (50)), (1, .int (lc_i (x0))), (2, .int (lc_i (x0 - ((lc_pre f s k (t + 1)).length : Int)))), (3, .int (lc_i (((k : Nat) : Int)))), (4, .int (lc_i ((k : Int) % 36))), (5, .long (x)), (7, .int (lc_i (((t + 1 : Nat) : Int))))]) (by rw [show ((t + 1 : Nat) : Int) = (t : Int) + 1 from by omega, show x0 - ((lc_pre f s k (t + 1)).length : Int) = x0 - ((lc_pre f s k t).length : Int) + (-1) from by have := lc_len_1 (f := f) (s := s) (k := k) (t := t) (by omega) ((lc_bs_t hst (by omega)).mp (lc_cmp0.mp h_75_50) : lc_bit f s k t); omega]) ?_
                        exact ih48 (t + 1) (x) (by omega) (hst) (by have := lc_len_1 (f := f) (s := s) (k := k) (t := t) (by omega) ((lc_bs_t hst (by omega)).mp (lc_cmp0.mp h_75_50) : lc_bit f s k t); omega) (by omega)
                      · skip
                        refine lc_bipush dX11_possible_82 (by decide) ?_
                        refine lc_iload dX11_possible_84 4 rfl ?_
                        refine lc_imul dX11_possible_86 ?_
                        refine lc_iload dX11_possible_87 6 rfl ?_
                        refine lc_iadd dX11_possible_89 ?_
                        have hg := lc_pre_g (m := m) hres (by omega) (by omega) ((lc_bs_t hst (by omega)).mp (lc_cmp0.mp h_75_50) : lc_bit f s k t)
                        exact lc_iret dX11_possible_90 rfl (Nat.le_of_ble_eq_true rfl) (Nat.le_of_ble_eq_true rfl) (hQ _ _ _ ⟨z35, z36, lc_some (by rw [if_neg (show ¬ x0 < 0 from by omega), if_pos (show x0 < _ from by omega), show x0.toNat = (lc_pre f s k t).length from by omega, hg.2]; omega), rfl, h38, (fun i _ => ((fr37 i (by omega)).trans (fr7 i (by omega))))⟩)
              exact loop47 1000 (0) (set39) (by omega) (by rw [decide_eq_true (show (k : Int) < 36 from by omega)]; exact hs40) (by omega) (by omega)
    exact loop3 1000 (0) (w1) (w2) σ h0_0 (fun _ _ => rfl) (by omega) (fun _ => rfl) (by rw [lc_pre_0]; exact hx0.1) (by omega)
  · skip
    refine lc_bipush dX11_possible_4 (by decide) ?_
    exact lc_iret dX11_possible_6 rfl (Nat.le_of_ble_eq_true rfl) (Nat.le_of_ble_eq_true rfl) (hQ _ _ _ ⟨w1, w2, lc_some (by rw [if_pos (show x0 < 0 from by omega)]), rfl, h0_0, (fun i _ => rfl)⟩)

set_option maxRecDepth 100000 in
set_option maxHeartbeats 600000 in
theorem lc_cX11_deep (l : Launch) (n : Nat) (a : Nat) (N : Int → Int) (f : Int → Int) (s q m mo ca ct : Int) (po : Int → Int) (kept : Int) (bs : Bool) (z at9 sn sr w1 w2 w3 bw : Int) (σ : lc_S) (h0_0 : σ (50) = some (.inr (11, [.ref (51), .ref (52), .ref (53), .ref (54), .ref (55), .int (lc_i (kept)), .ref (56), .int (lc_i (if bs = true then 1 else 0)), .ref (57), .int (lc_i (z)), .int (lc_i (at9)), .int (lc_i (sn)), .int (lc_i (sr)), .int (lc_i (w1)), .int (lc_i (w2)), .int (lc_i (w3)), .int (lc_i (bw))]) : lc_Cel)) (h0_1 : σ (a) = some (lc_aI 222 (N))) (ha : 50 < a) (hf : ∀ j : Int, 0 ≤ j → j < 36 → 0 ≤ f j ∧ f j ≤ 2) (hs : 1 ≤ s ∧ s ≤ 2) (hq : 0 ≤ q ∧ q ≤ 100) (hm : 0 ≤ m ∧ m ≤ 60) (hR : lc_RM N (f, s, q, m, mo, ca, ct, po)) : lc_Con l yX11_deep cX11_deep 9 (some .int) (lc_Rd 4) [.ref (50), .ref (a)] n σ (fun v n2 σ2 => ∃ (z1 z2 : Int), v = some (.int (lc_i ((lc_sv m 1 f s q).1))) ∧ n = n2 ∧ σ2 (50) = some (.inr (11, [.ref (51), .ref (52), .ref (53), .ref (54), .ref (55), .int (lc_i (kept)), .ref (56), .int (lc_i (if bs = true then 1 else 0)), .ref (57), .int (lc_i (z)), .int (lc_i (at9)), .int (lc_i (sn)), .int (lc_i (sr)), .int (lc_i (z1)), .int (lc_i (z2)), .int (lc_i (w3)), .int (lc_i (bw))]) : lc_Cel) ∧ ∀ i : Nat, i ≠ 50 → σ2 i = σ i) := by
  obtain ⟨h0R, h1R, h2R, h3R, h4R, h5R, h6R, h7R⟩ := id hR
  have h0R : N 0 = s := h0R
  have h1R : N 1 = q := h1R
  have h4R : N 4 = m := h4R
  have h5R : N 5 = ct := h5R
  have h6R : ∀ p : Int, 0 ≤ p → p < 36 → N (6 + p) = f p := h6R
  have hr1 := lc_res_r (lc_cnt f 1 36) (lc_cnt f 2 36) q m
  have hwr := lc_wth_r f s
  refine lc_con RX11 false (by decide) rfl (fun h => absurd h (by decide)) (Nat.le_of_ble_eq_true rfl) ?_
  suffices H : ∀ Q : lc_QT, (∀ v n2 σ2, (fun v n2 σ2 => ∃ (z1 z2 : Int), v = some (.int (lc_i ((lc_sv m 1 f s q).1))) ∧ n = n2 ∧ σ2 (50) = some (.inr (11, [.ref (51), .ref (52), .ref (53), .ref (54), .ref (55), .int (lc_i (kept)), .ref (56), .int (lc_i (if bs = true then 1 else 0)), .ref (57), .int (lc_i (z)), .int (lc_i (at9)), .int (lc_i (sn)), .int (lc_i (sr)), .int (lc_i (z1)), .int (lc_i (z2)), .int (lc_i (w3)), .int (lc_i (bw))]) : lc_Cel) ∧ ∀ i : Nat, i ≠ 50 → σ2 i = σ i : lc_QT) v n2 σ2 → Q v n2 σ2) → lc_V l RX11 cX11_deep 9 (some .int) false (lc_Rd 4) (lc_G Q 0 0) lc_E0 0 0 n 0 [(0, .ref (50)), (1, .ref (a))] [] σ from H _ (fun _ _ _ h => h)
  intro Q hQ
  refine lc_sipush dX11_deep_0 (by decide) ?_
  refine lc_istore_n (lv' := [(0, .ref (50)), (1, .ref (a)), (2, .int (lc_i ((-1000))))]) dX11_deep_3 rfl (by decide) rfl ?_
  refine lc_iconst dX11_deep_4 ?_
  refine lc_istore_n (lv' := [(0, .ref (50)), (1, .ref (a)), (2, .int (lc_i ((-1000)))), (3, .int (lc_i (0)))]) dX11_deep_5 rfl (by decide) rfl ?_
  have loop2 : ∀ (N1 : Nat) (k : Nat) (y1 : Int) (y2 : Int) (σ4 : lc_S), (σ4 (50) = some (.inr (11, [.ref (51), .ref (52), .ref (53), .ref (54), .ref (55), .int (lc_i (kept)), .ref (56), .int (lc_i (if bs = true then 1 else 0)), .ref (57), .int (lc_i (z)), .int (lc_i (at9)), .int (lc_i (sn)), .int (lc_i (sr)), .int (lc_i (y1)), .int (lc_i (y2)), .int (lc_i (w3)), .int (lc_i (bw))]) : lc_Cel)) → (∀ i : Nat, i ≠ 50 → σ4 i = σ i) → (k ≤ 72) → (lc_res (lc_cnt f 1 36) (lc_cnt f 2 36) q m ≠ 0 → k = 0) → (-1000 ≤ (lc_fo (lc_sV m 0) f s q k 0).1 ∧ (lc_fo (lc_sV m 0) f s q k 0).1 ≤ 36) → 72 - (k : Int) < (N1 : Int) → lc_V l RX11 cX11_deep 9 (some .int) false (lc_Rd 4) (lc_G Q 0 0) lc_E0 0 0 n 6 [(0, .ref (50)), (1, .ref (a)), (2, .int (lc_i ((lc_fo (lc_sV m 0) f s q k 0).1))), (3, .int (lc_i (((k : Nat) : Int))))] [] σ4 := by
    intro N1
    induction N1 with
    | zero =>
      intro k y1 y2 σ4 h5 fr6 hk hz hmr hm7
      exact absurd hm7 (by omega)
    | succ N1 ih3 =>
      intro k y1 y2 σ4 h5 fr6 hk hz hmr hm7
      have h8 : σ4 (a) = some (lc_aI 222 (N)) := (fr6 _ (by omega)).trans h0_1
      refine lc_iload_n dX11_deep_6 rfl 3 rfl ?_
      refine lc_bipush dX11_deep_7 (by decide) ?_
      refine lc_icmp_ge (tgt := 110) dX11_deep_9 (by decide) (by omega) (fun h_9_8 => ?_) (fun h_9_8 => ?_)
      · skip
        refine lc_iload_n dX11_deep_110 rfl 2 rfl ?_
        refine lc_sipush dX11_deep_111 (by decide) ?_
        refine lc_icmp_ne (tgt := 124) dX11_deep_114 (by decide) (by omega) (fun h_114_9 => ?_) (fun h_114_9 => ?_)
        · skip
          refine lc_iload_n dX11_deep_124 rfl 2 rfl ?_
          have hres : lc_res (lc_cnt f 1 36) (lc_cnt f 2 36) q m = 0 := by by_cases q9 : lc_res (lc_cnt f 1 36) (lc_cnt f 2 36) q m = 0; (exact q9); (have := hz q9; omega)
          have ek : k = 72 := by omega
          subst ek
          exact lc_iret dX11_deep_125 rfl (Nat.le_of_ble_eq_true rfl) (Nat.le_of_ble_eq_true rfl) (hQ _ _ _ ⟨y1, y2, lc_some (by rw [lc_fo_d (d := 0) hres, if_neg h_114_9]), rfl, h5, (fun i _ => (fr6 i (by omega)))⟩)
        · skip
          refine lc_aload_n dX11_deep_117 rfl 1 rfl ?_
          refine lc_callS (As := [.ref (a)]) (stk := []) dX11_deep_118 lc_mX11_125 lc_yX11_worth (lc_cX11_worth l n (a) (N) (f) (s) (q) (m) (mo) (ca) (ct) (po) σ4 h8 (hf) (hs) (hR)) rfl ⟨Nat.le_of_ble_eq_true rfl, Nat.le_of_ble_eq_true rfl⟩ ⟨Nat.le_of_ble_eq_true rfl, Nat.le_of_ble_eq_true rfl⟩ rfl (Nat.le_of_ble_eq_true rfl) (fun v11 n12 σ13 q14 => ?_)
          obtain ⟨rfl, rfl, rfl⟩ := q14
          refine lc_goto (tgt := 125) dX11_deep_121 (by decide) ?_
          have hres : lc_res (lc_cnt f 1 36) (lc_cnt f 2 36) q m = 0 := by by_cases q9 : lc_res (lc_cnt f 1 36) (lc_cnt f 2 36) q m = 0; (exact q9); (have := hz q9; omega)
          have ek : k = 72 := by omega
          subst ek
          exact lc_iret dX11_deep_125 rfl (Nat.le_of_ble_eq_true rfl) (Nat.le_of_ble_eq_true rfl) (hQ _ _ _ ⟨y1, y2, lc_some (by rw [lc_fo_d (d := 0) hres, if_pos h_114_9]), rfl, h5, (fun i _ => (fr6 i (by omega)))⟩)
      · skip
        refine lc_aload_n dX11_deep_12 rfl 1 rfl ?_
        refine lc_callS (As := [.ref (a)]) (stk := []) dX11_deep_13 lc_mX11_94 lc_yX11_result (lc_cX11_result l n (a) (N) (f) (s) (q) (m) (mo) (ca) (ct) (po) σ4 h8 (hf) (hR) (by omega) (by omega)) rfl ⟨Nat.le_of_ble_eq_true rfl, Nat.le_of_ble_eq_true rfl⟩ ⟨Nat.le_of_ble_eq_true rfl, Nat.le_of_ble_eq_true rfl⟩ rfl (Nat.le_of_ble_eq_true rfl) (fun v15 n16 σ17 q18 => ?_)
        obtain ⟨rfl, rfl, rfl⟩ := q18
        refine lc_if_ne (tgt := 110) dX11_deep_16 (by decide) (by omega) (fun h_16_18 => ?_) (fun h_16_18 => ?_)
        · skip
          refine lc_iload_n dX11_deep_110 rfl 2 rfl ?_
          refine lc_sipush dX11_deep_111 (by decide) ?_
          refine lc_icmp_ne (tgt := 124) dX11_deep_114 (by decide) (by omega) (fun h_114_19 => ?_) (fun h_114_19 => ?_)
          · skip
            refine lc_iload_n dX11_deep_124 rfl 2 rfl ?_
            have ek : k = 0 := hz h_16_18
            exact lc_iret dX11_deep_125 rfl (Nat.le_of_ble_eq_true rfl) (Nat.le_of_ble_eq_true rfl) (hQ _ _ _ (by subst ek; exact absurd rfl h_114_19))
          · skip
            refine lc_aload_n dX11_deep_117 rfl 1 rfl ?_
            refine lc_callS (As := [.ref (a)]) (stk := []) dX11_deep_118 lc_mX11_125 lc_yX11_worth (lc_cX11_worth l n (a) (N) (f) (s) (q) (m) (mo) (ca) (ct) (po) σ4 h8 (hf) (hs) (hR)) rfl ⟨Nat.le_of_ble_eq_true rfl, Nat.le_of_ble_eq_true rfl⟩ ⟨Nat.le_of_ble_eq_true rfl, Nat.le_of_ble_eq_true rfl⟩ rfl (Nat.le_of_ble_eq_true rfl) (fun v21 n22 σ23 q24 => ?_)
            obtain ⟨rfl, rfl, rfl⟩ := q24
            refine lc_goto (tgt := 125) dX11_deep_121 (by decide) ?_
            have ek : k = 0 := hz h_16_18
            exact lc_iret dX11_deep_125 rfl (Nat.le_of_ble_eq_true rfl) (Nat.le_of_ble_eq_true rfl) (hQ _ _ _ ⟨y1, y2, lc_some (by rw [lc_fo_z (d := 0) h_16_18]), rfl, h5, (fun i _ => (fr6 i (by omega)))⟩)
        · skip
          have hres : lc_res (lc_cnt f 1 36) (lc_cnt f 2 36) q m = 0 := h_16_18
          refine lc_iload_n dX11_deep_19 rfl 3 rfl ?_
          refine lc_bipush dX11_deep_20 (by decide) ?_
          refine lc_irem dX11_deep_22 (by omega) ?_
          refine lc_top (congrArg (fun z => Value.int (lc_i z)) (show ((((k : Nat) : Int)) % (36) : Int) = (k : Int) % 36 from rfl)) ?_
          refine lc_istore (lv' := [(0, .ref (50)), (1, .ref (a)), (2, .int (lc_i ((lc_fo (lc_sV m 0) f s q k 0).1))), (3, .int (lc_i (((k : Nat) : Int)))), (4, .int (lc_i ((k : Int) % 36)))]) dX11_deep_23 (by decide) rfl ?_
          refine lc_aload_n dX11_deep_25 rfl 0 rfl ?_
          refine lc_aload_n dX11_deep_26 rfl 1 rfl ?_
          refine lc_iload dX11_deep_27 4 rfl ?_
          refine lc_iload_n dX11_deep_29 rfl 3 rfl ?_
          refine lc_bipush dX11_deep_30 (by decide) ?_
          refine lc_icmp_ge (tgt := 39) dX11_deep_32 (by decide) (by omega) (fun h_32_24 => ?_) (fun h_32_24 => ?_)
          · skip
            refine lc_iconst dX11_deep_39 ?_
            refine lc_callV (As := [.ref (a), .int (lc_i ((k : Int) % 36)), .int (lc_i (0))]) (stk := []) (b := 50) dX11_deep_40 lc_mX11_121 lc_yX11_ends h5 rfl (lc_cX11_ends l n (a) (N) (f) (s) (q) (m) (mo) (ca) (ct) (po) (kept) (bs) (z) (at9) (sn) (sr) (y1) (y2) (w3) (bw) ((k : Int) % 36) (false) σ4 h5 h8 (by omega) (hf) (hs) (hR) (by omega)) rfl ⟨Nat.le_of_ble_eq_true rfl, Nat.le_of_ble_eq_true rfl⟩ ⟨Nat.le_of_ble_eq_true rfl, Nat.le_of_ble_eq_true rfl⟩ rfl (Nat.le_of_ble_eq_true rfl) (fun v32 n33 σ34 q35 => ?_)
            obtain ⟨set30, z26, z27, rfl, rfl, hs31, h29, fr28⟩ := q35
            have h36 : σ34 (a) = some (lc_aI 222 (N)) := (fr28 _ (by omega)).trans h8
            refine lc_lstore (lv' := [(0, .ref (50)), (1, .ref (a)), (2, .int (lc_i ((lc_fo (lc_sV m 0) f s q k 0).1))), (3, .int (lc_i (((k : Nat) : Int)))), (4, .int (lc_i ((k : Int) % 36))), (5, .long (set30))]) dX11_deep_43 (by decide) rfl ?_
            refine lc_iconst dX11_deep_45 ?_
            refine lc_istore (lv' := [(0, .ref (50)), (1, .ref (a)), (2, .int (lc_i ((lc_fo (lc_sV m 0) f s q k 0).1))), (3, .int (lc_i (((k : Nat) : Int)))), (4, .int (lc_i ((k : Int) % 36))), (5, .long (set30)), (7, .int (lc_i (0)))]) dX11_deep_46 (by decide) rfl ?_
            have loop38 : ∀ (N37 : Nat) (t : Nat) (x : Int64), (t ≤ 36) → (lc_bs x (fun j : Int => lc_en f s (decide ((k : Int) < 36)) ((k : Int) % 36) j)) → (-1000 ≤ (lc_fo (lc_sV m 0) f s q k t).1 ∧ (lc_fo (lc_sV m 0) f s q k t).1 ≤ 36) → 36 - (t : Int) < (N37 : Int) → lc_V l RX11 cX11_deep 9 (some .int) false (lc_Rd 4) (lc_G Q 0 0) lc_E0 0 0 n 48 [(0, .ref (50)), (1, .ref (a)), (2, .int (lc_i ((lc_fo (lc_sV m 0) f s q k t).1))), (3, .int (lc_i (((k : Nat) : Int)))), (4, .int (lc_i ((k : Int) % 36))), (5, .long (x)), (7, .int (lc_i (((t : Nat) : Int))))] [] σ34 := by
              intro N37
              induction N37 with
              | zero =>
                intro t x ht hst hmr2 hm40
                exact absurd hm40 (by omega)
              | succ N37 ih39 =>
                intro t x ht hst hmr2 hm40
                refine lc_iload dX11_deep_48 6 rfl ?_
                refine lc_bipush dX11_deep_50 (by decide) ?_
                refine lc_icmp_ge (tgt := 104) dX11_deep_52 (by decide) (by omega) (fun h_52_40 => ?_) (fun h_52_40 => ?_)
                · skip
                  refine lc_iinc (lv' := [(0, .ref (50)), (1, .ref (a)), (2, .int (lc_i ((lc_fo (lc_sV m 0) f s q k t).1))), (3, .int (lc_i (((k : Nat) : Int) + 1))), (4, .int (lc_i ((k : Int) % 36))), (5, .long (x)), (7, .int (lc_i (((t : Nat) : Int))))]) dX11_deep_104 3 rfl (by decide) rfl ?_
                  refine lc_goto (tgt := 6) dX11_deep_107 (by decide) ?_
                  refine lc_pick (lv' := [(0, .ref (50)), (1, .ref (a)), (2, .int (lc_i ((lc_fo (lc_sV m 0) f s q k t).1))), (3, .int (lc_i (((k : Nat) : Int) + 1)))]) [0, 1, 2, 3] rfl ?_
                  refine lc_lveq (lv' := [(0, .ref (50)), (1, .ref (a)), (2, .int (lc_i ((lc_fo (lc_sV m 0) f s q (k + 1) 0).1))), (3, .int (lc_i (((k + 1 : Nat) : Int))))]) (by rw [show ((k + 1 : Nat) : Int) = (k : Int) + 1 from by omega, show (lc_fo (lc_sV m 0) f s q k t).1 = (lc_fo (lc_sV m 0) f s q (k + 1) 0).1 from by rw [show t = 36 from by omega, lc_fo_36]]) ?_
                  exact ih3 (k + 1) (z26) (z27) σ34 h29 (fun i _ => ((fr28 i (by omega)).trans (fr6 i (by omega)))) (by omega) (fun q9 => absurd hres q9) (by rw [← lc_fo_36, ← show t = 36 from by omega]; exact hmr2) (by omega)
                · skip
                  refine lc_lload dX11_deep_55 5 rfl ?_
                  refine lc_iload dX11_deep_57 6 rfl ?_
                  refine lc_lshr dX11_deep_59 rfl ?_
                  refine lc_lconst (x := 1) dX11_deep_60 (by decide) ?_
                  refine lc_land dX11_deep_61 ?_
                  refine lc_lconst (x := 1) dX11_deep_62 (by decide) ?_
                  refine lc_lcmp dX11_deep_63 ?_
                  refine lc_if_neR (tgt := 98) dX11_deep_64 (by decide) (fun h_64_41 => ?_) (fun h_64_41 => ?_)
                  · skip
                    refine lc_iinc (lv' := [(0, .ref (50)), (1, .ref (a)), (2, .int (lc_i ((lc_fo (lc_sV m 0) f s q k t).1))), (3, .int (lc_i (((k : Nat) : Int)))), (4, .int (lc_i ((k : Int) % 36))), (5, .long (x)), (7, .int (lc_i (((t : Nat) : Int) + 1)))]) dX11_deep_98 6 rfl (by decide) rfl ?_
                    refine lc_goto (tgt := 48) dX11_deep_101 (by decide) ?_
                    refine lc_lveq (lv' := [(0, .ref (50)), (1, .ref (a)), (2, .int (lc_i ((lc_fo (lc_sV m 0) f s q k (t + 1)).1))), (3, .int (lc_i (((k : Nat) : Int)))), (4, .int (lc_i ((k : Int) % 36))), (5, .long (x)), (7, .int (lc_i (((t + 1 : Nat) : Int))))]) (by rw [show ((t + 1 : Nat) : Int) = (t : Int) + 1 from by omega, lc_fo_n (V := lc_sV m 0) (q := q) (show k < 72 from by omega) (fun q9 : lc_bit f s k t => h_64_41 (lc_cmp0.mpr ((lc_bs_t hst (by omega)).mpr q9)))]) ?_
                    exact ih39 (t + 1) (x) (by omega) (hst) ((lc_fo_r hres (show k < 72 from by omega) (show t + 1 ≤ 36 from by omega)).1.1) (by omega)
                  · skip
                    have hbr := lc_bit_r hf hs (show k < 72 from by omega) (show t < 36 from by omega) ((lc_bs_t hst (by omega)).mp (lc_cmp0.mp h_64_41) : lc_bit f s k t)
                    refine lc_aload_n dX11_deep_67 rfl 1 rfl ?_
                    refine lc_callS (As := [.ref (a)]) (stk := []) dX11_deep_68 lc_mX11_125 lc_yX11_worth (lc_cX11_worth l n (a) (N) (f) (s) (q) (m) (mo) (ca) (ct) (po) σ34 h36 (hf) (hs) (hR)) rfl ⟨Nat.le_of_ble_eq_true rfl, Nat.le_of_ble_eq_true rfl⟩ ⟨Nat.le_of_ble_eq_true rfl, Nat.le_of_ble_eq_true rfl⟩ rfl (Nat.le_of_ble_eq_true rfl) (fun v43 n44 σ45 q46 => ?_)
                    obtain ⟨rfl, rfl, rfl⟩ := q46
                    refine lc_iload_n dX11_deep_71 rfl 3 rfl ?_
                    refine lc_bipush dX11_deep_72 (by decide) ?_
                    refine lc_icmp_ge (tgt := 81) dX11_deep_74 (by decide) (by omega) (fun h_74_46 => ?_) (fun h_74_46 => ?_)
                    · skip
                      refine lc_iconst dX11_deep_81 ?_
                      refine lc_iadd dX11_deep_82 ?_
                      refine lc_istore (lv' := [(0, .ref (50)), (1, .ref (a)), (2, .int (lc_i ((lc_fo (lc_sV m 0) f s q k t).1))), (3, .int (lc_i (((k : Nat) : Int)))), (4, .int (lc_i ((k : Int) % 36))), (5, .long (x)), (7, .int (lc_i (((t : Nat) : Int)))), (8, .int (lc_i ((lc_wth (f) (s)) + (0))))]) dX11_deep_83 (by decide) rfl ?_
                      refine lc_iload dX11_deep_85 7 rfl ?_
                      refine lc_iload_n dX11_deep_87 rfl 2 rfl ?_
                      refine lc_icmp_le (tgt := 96) dX11_deep_88 (by decide) (by omega) (fun h_88_47 => ?_) (fun h_88_47 => ?_)
                      · skip
                        refine lc_iload_n dX11_deep_96 rfl 2 rfl ?_
                        refine lc_istore_n (lv' := [(0, .ref (50)), (1, .ref (a)), (2, .int (lc_i ((lc_fo (lc_sV m 0) f s q k t).1))), (3, .int (lc_i (((k : Nat) : Int)))), (4, .int (lc_i ((k : Int) % 36))), (5, .long (x)), (7, .int (lc_i (((t : Nat) : Int)))), (8, .int (lc_i ((lc_wth (f) (s)) + (0))))]) dX11_deep_97 rfl (by decide) rfl ?_
                        refine lc_iinc (lv' := [(0, .ref (50)), (1, .ref (a)), (2, .int (lc_i ((lc_fo (lc_sV m 0) f s q k t).1))), (3, .int (lc_i (((k : Nat) : Int)))), (4, .int (lc_i ((k : Int) % 36))), (5, .long (x)), (7, .int (lc_i (((t : Nat) : Int) + 1))), (8, .int (lc_i ((lc_wth (f) (s)) + (0))))]) dX11_deep_98 6 rfl (by decide) rfl ?_
                        refine lc_goto (tgt := 48) dX11_deep_101 (by decide) ?_
                        refine lc_pick (lv' := [(0, .ref (50)), (1, .ref (a)), (2, .int (lc_i ((lc_fo (lc_sV m 0) f s q k t).1))), (3, .int (lc_i (((k : Nat) : Int)))), (4, .int (lc_i ((k : Int) % 36))), (5, .long (x)), (7, .int (lc_i (((t : Nat) : Int) + 1)))]) [0, 1, 2, 3, 4, 5, 6] rfl ?_
                        refine lc_lveq (lv' := [(0, .ref (50)), (1, .ref (a)), (2, .int (lc_i ((lc_fo (lc_sV m 0) f s q k (t + 1)).1))), (3, .int (lc_i (((k : Nat) : Int)))), (4, .int (lc_i ((k : Int) % 36))), (5, .long (x)), (7, .int (lc_i (((t + 1 : Nat) : Int))))]) (by rw [show ((t + 1 : Nat) : Int) = (t : Int) + 1 from by omega, lc_fo_v (show k < 72 from by omega) (show t < 36 from by omega) ((lc_bs_t hst (by omega)).mp (lc_cmp0.mp h_64_41) : lc_bit f s k t) (show lc_wth f s + 0 = -(lc_sV m 0 (lc_mvf f s ((k : Int) % 36) (t : Int)) (3 - s) (lc_mvq f q (t : Int))) from (lc_wth_mv hs (by omega) (by omega) hbr.2.1 hbr.1 (by rw [hbr.2.2]; rw [if_neg (by omega)]; exact Or.inr ⟨rfl, rfl⟩)).symm) (by omega)]) ?_
                        exact ih39 (t + 1) (x) (by omega) (hst) ((lc_fo_r hres (show k < 72 from by omega) (show t + 1 ≤ 36 from by omega)).1.1) (by omega)
                      · skip
                        refine lc_iload dX11_deep_91 7 rfl ?_
                        refine lc_goto (tgt := 97) dX11_deep_93 (by decide) ?_
                        refine lc_istore_n (lv' := [(0, .ref (50)), (1, .ref (a)), (2, .int (lc_i ((lc_wth (f) (s)) + (0)))), (3, .int (lc_i (((k : Nat) : Int)))), (4, .int (lc_i ((k : Int) % 36))), (5, .long (x)), (7, .int (lc_i (((t : Nat) : Int)))), (8, .int (lc_i ((lc_wth (f) (s)) + (0))))]) dX11_deep_97 rfl (by decide) rfl ?_
                        refine lc_iinc (lv' := [(0, .ref (50)), (1, .ref (a)), (2, .int (lc_i ((lc_wth (f) (s)) + (0)))), (3, .int (lc_i (((k : Nat) : Int)))), (4, .int (lc_i ((k : Int) % 36))), (5, .long (x)), (7, .int (lc_i (((t : Nat) : Int) + 1))), (8, .int (lc_i ((lc_wth (f) (s)) + (0))))]) dX11_deep_98 6 rfl (by decide) rfl ?_
                        refine lc_goto (tgt := 48) dX11_deep_101 (by decide) ?_
                        refine lc_pick (lv' := [(0, .ref (50)), (1, .ref (a)), (2, .int (lc_i ((lc_wth (f) (s)) + (0)))), (3, .int (lc_i (((k : Nat) : Int)))), (4, .int (lc_i ((k : Int) % 36))), (5, .long (x)), (7, .int (lc_i (((t : Nat) : Int) + 1)))]) [0, 1, 2, 3, 4, 5, 6] rfl ?_
                        refine lc_lveq (lv' := [(0, .ref (50)), (1, .ref (a)), (2, .int (lc_i ((lc_fo (lc_sV m 0) f s q k (t + 1)).1))), (3, .int (lc_i (((k : Nat) : Int)))), (4, .int (lc_i ((k : Int) % 36))), (5, .long (x)), (7, .int (lc_i (((t + 1 : Nat) : Int))))]) (by rw [show ((t + 1 : Nat) : Int) = (t : Int) + 1 from by omega, lc_fo_u hres (show k < 72 from by omega) (show t < 36 from by omega) ((lc_bs_t hst (by omega)).mp (lc_cmp0.mp h_64_41) : lc_bit f s k t) (show lc_wth f s + 0 = -(lc_sV m 0 (lc_mvf f s ((k : Int) % 36) (t : Int)) (3 - s) (lc_mvq f q (t : Int))) from (lc_wth_mv hs (by omega) (by omega) hbr.2.1 hbr.1 (by rw [hbr.2.2]; rw [if_neg (by omega)]; exact Or.inr ⟨rfl, rfl⟩)).symm) (by omega)]) ?_
                        exact ih39 (t + 1) (x) (by omega) (hst) ((lc_fo_r hres (show k < 72 from by omega) (show t + 1 ≤ 36 from by omega)).1.1) (by omega)
                    · skip
                      refine lc_iconst dX11_deep_77 ?_
                      refine lc_goto (tgt := 82) dX11_deep_78 (by decide) ?_
                      refine lc_iadd dX11_deep_82 ?_
                      refine lc_istore (lv' := [(0, .ref (50)), (1, .ref (a)), (2, .int (lc_i ((lc_fo (lc_sV m 0) f s q k t).1))), (3, .int (lc_i (((k : Nat) : Int)))), (4, .int (lc_i ((k : Int) % 36))), (5, .long (x)), (7, .int (lc_i (((t : Nat) : Int)))), (8, .int (lc_i ((lc_wth (f) (s)) + (1))))]) dX11_deep_83 (by decide) rfl ?_
                      refine lc_iload dX11_deep_85 7 rfl ?_
                      refine lc_iload_n dX11_deep_87 rfl 2 rfl ?_
                      refine lc_icmp_le (tgt := 96) dX11_deep_88 (by decide) (by omega) (fun h_88_48 => ?_) (fun h_88_48 => ?_)
                      · skip
                        refine lc_iload_n dX11_deep_96 rfl 2 rfl ?_
                        refine lc_istore_n (lv' := [(0, .ref (50)), (1, .ref (a)), (2, .int (lc_i ((lc_fo (lc_sV m 0) f s q k t).1))), (3, .int (lc_i (((k : Nat) : Int)))), (4, .int (lc_i ((k : Int) % 36))), (5, .long (x)), (7, .int (lc_i (((t : Nat) : Int)))), (8, .int (lc_i ((lc_wth (f) (s)) + (1))))]) dX11_deep_97 rfl (by decide) rfl ?_
                        refine lc_iinc (lv' := [(0, .ref (50)), (1, .ref (a)), (2, .int (lc_i ((lc_fo (lc_sV m 0) f s q k t).1))), (3, .int (lc_i (((k : Nat) : Int)))), (4, .int (lc_i ((k : Int) % 36))), (5, .long (x)), (7, .int (lc_i (((t : Nat) : Int) + 1))), (8, .int (lc_i ((lc_wth (f) (s)) + (1))))]) dX11_deep_98 6 rfl (by decide) rfl ?_
                        refine lc_goto (tgt := 48) dX11_deep_101 (by decide) ?_
                        refine lc_pick (lv' := [(0, .ref (50)), (1, .ref (a)), (2, .int (lc_i ((lc_fo (lc_sV m 0) f s q k t).1))), (3, .int (lc_i (((k : Nat) : Int)))), (4, .int (lc_i ((k : Int) % 36))), (5, .long (x)), (7, .int (lc_i (((t : Nat) : Int) + 1)))]) [0, 1, 2, 3, 4, 5, 6] rfl ?_
                        refine lc_lveq (lv' := [(0, .ref (50)), (1, .ref (a)), (2, .int (lc_i ((lc_fo (lc_sV m 0) f s q k (t + 1)).1))), (3, .int (lc_i (((k : Nat) : Int)))), (4, .int (lc_i ((k : Int) % 36))), (5, .long (x)), (7, .int (lc_i (((t + 1 : Nat) : Int))))]) (by rw [show ((t + 1 : Nat) : Int) = (t : Int) + 1 from by omega, lc_fo_v (show k < 72 from by omega) (show t < 36 from by omega) ((lc_bs_t hst (by omega)).mp (lc_cmp0.mp h_64_41) : lc_bit f s k t) (show lc_wth f s + 1 = -(lc_sV m 0 (lc_mvf f s ((k : Int) % 36) (t : Int)) (3 - s) (lc_mvq f q (t : Int))) from (lc_wth_mv hs (by omega) (by omega) hbr.2.1 hbr.1 (by rw [hbr.2.2]; rw [if_pos (by omega)]; exact Or.inl ⟨rfl, rfl⟩)).symm) (by omega)]) ?_
                        exact ih39 (t + 1) (x) (by omega) (hst) ((lc_fo_r hres (show k < 72 from by omega) (show t + 1 ≤ 36 from by omega)).1.1) (by omega)
                      · skip
                        refine lc_iload dX11_deep_91 7 rfl ?_
                        refine lc_goto (tgt := 97) dX11_deep_93 (by decide) ?_
                        refine lc_istore_n (lv' := [(0, .ref (50)), (1, .ref (a)), (2, .int (lc_i ((lc_wth (f) (s)) + (1)))), (3, .int (lc_i (((k : Nat) : Int)))), (4, .int (lc_i ((k : Int) % 36))), (5, .long (x)), (7, .int (lc_i (((t : Nat) : Int)))), (8, .int (lc_i ((lc_wth (f) (s)) + (1))))]) dX11_deep_97 rfl (by decide) rfl ?_
                        refine lc_iinc (lv' := [(0, .ref (50)), (1, .ref (a)), (2, .int (lc_i ((lc_wth (f) (s)) + (1)))), (3, .int (lc_i (((k : Nat) : Int)))), (4, .int (lc_i ((k : Int) % 36))), (5, .long (x)), (7, .int (lc_i (((t : Nat) : Int) + 1))), (8, .int (lc_i ((lc_wth (f) (s)) + (1))))]) dX11_deep_98 6 rfl (by decide) rfl ?_
                        refine lc_goto (tgt := 48) dX11_deep_101 (by decide) ?_
                        refine lc_pick (lv' := [(0, .ref (50)), (1, .ref (a)), (2, .int (lc_i ((lc_wth (f) (s)) + (1)))), (3, .int (lc_i (((k : Nat) : Int)))), (4, .int (lc_i ((k : Int) % 36))), (5, .long (x)), (7, .int (lc_i (((t : Nat) : Int) + 1)))]) [0, 1, 2, 3, 4, 5, 6] rfl ?_
                        refine lc_lveq (lv' := [(0, .ref (50)), (1, .ref (a)), (2, .int (lc_i ((lc_fo (lc_sV m 0) f s q k (t + 1)).1))), (3, .int (lc_i (((k : Nat) : Int)))), (4, .int (lc_i ((k : Int) % 36))), (5, .long (x)), (7, .int (lc_i (((t + 1 : Nat) : Int))))]) (by rw [show ((t + 1 : Nat) : Int) = (t : Int) + 1 from by omega, lc_fo_u hres (show k < 72 from by omega) (show t < 36 from by omega) ((lc_bs_t hst (by omega)).mp (lc_cmp0.mp h_64_41) : lc_bit f s k t) (show lc_wth f s + 1 = -(lc_sV m 0 (lc_mvf f s ((k : Int) % 36) (t : Int)) (3 - s) (lc_mvq f q (t : Int))) from (lc_wth_mv hs (by omega) (by omega) hbr.2.1 hbr.1 (by rw [hbr.2.2]; rw [if_pos (by omega)]; exact Or.inl ⟨rfl, rfl⟩)).symm) (by omega)]) ?_
                        exact ih39 (t + 1) (x) (by omega) (hst) ((lc_fo_r hres (show k < 72 from by omega) (show t + 1 ≤ 36 from by omega)).1.1) (by omega)
            exact loop38 1000 (0) (set30) (by omega) (by rw [decide_eq_false (show ¬ (k : Int) < 36 from by omega)]; exact hs31) (hmr) (by omega)
          · skip
            refine lc_iconst dX11_deep_35 ?_
            refine lc_goto (tgt := 40) dX11_deep_36 (by decide) ?_
            refine lc_callV (As := [.ref (a), .int (lc_i ((k : Int) % 36)), .int (lc_i (1))]) (stk := []) (b := 50) dX11_deep_40 lc_mX11_121 lc_yX11_ends h5 rfl (lc_cX11_ends l n (a) (N) (f) (s) (q) (m) (mo) (ca) (ct) (po) (kept) (bs) (z) (at9) (sn) (sr) (y1) (y2) (w3) (bw) ((k : Int) % 36) (true) σ4 h5 h8 (by omega) (hf) (hs) (hR) (by omega)) rfl ⟨Nat.le_of_ble_eq_true rfl, Nat.le_of_ble_eq_true rfl⟩ ⟨Nat.le_of_ble_eq_true rfl, Nat.le_of_ble_eq_true rfl⟩ rfl (Nat.le_of_ble_eq_true rfl) (fun v56 n57 σ58 q59 => ?_)
            obtain ⟨set54, z50, z51, rfl, rfl, hs55, h53, fr52⟩ := q59
            have h60 : σ58 (a) = some (lc_aI 222 (N)) := (fr52 _ (by omega)).trans h8
            refine lc_lstore (lv' := [(0, .ref (50)), (1, .ref (a)), (2, .int (lc_i ((lc_fo (lc_sV m 0) f s q k 0).1))), (3, .int (lc_i (((k : Nat) : Int)))), (4, .int (lc_i ((k : Int) % 36))), (5, .long (set54))]) dX11_deep_43 (by decide) rfl ?_
            refine lc_iconst dX11_deep_45 ?_
            refine lc_istore (lv' := [(0, .ref (50)), (1, .ref (a)), (2, .int (lc_i ((lc_fo (lc_sV m 0) f s q k 0).1))), (3, .int (lc_i (((k : Nat) : Int)))), (4, .int (lc_i ((k : Int) % 36))), (5, .long (set54)), (7, .int (lc_i (0)))]) dX11_deep_46 (by decide) rfl ?_
            have loop62 : ∀ (N61 : Nat) (t : Nat) (x : Int64), (t ≤ 36) → (lc_bs x (fun j : Int => lc_en f s (decide ((k : Int) < 36)) ((k : Int) % 36) j)) → (-1000 ≤ (lc_fo (lc_sV m 0) f s q k t).1 ∧ (lc_fo (lc_sV m 0) f s q k t).1 ≤ 36) → 36 - (t : Int) < (N61 : Int) → lc_V l RX11 cX11_deep 9 (some .int) false (lc_Rd 4) (lc_G Q 0 0) lc_E0 0 0 n 48 [(0, .ref (50)), (1, .ref (a)), (2, .int (lc_i ((lc_fo (lc_sV m 0) f s q k t).1))), (3, .int (lc_i (((k : Nat) : Int)))), (4, .int (lc_i ((k : Int) % 36))), (5, .long (x)), (7, .int (lc_i (((t : Nat) : Int))))] [] σ58 := by
              intro N61
              induction N61 with
              | zero =>
                intro t x ht hst hmr2 hm64
                exact absurd hm64 (by omega)
              | succ N61 ih63 =>
                intro t x ht hst hmr2 hm64
                refine lc_iload dX11_deep_48 6 rfl ?_
                refine lc_bipush dX11_deep_50 (by decide) ?_
                refine lc_icmp_ge (tgt := 104) dX11_deep_52 (by decide) (by omega) (fun h_52_64 => ?_) (fun h_52_64 => ?_)
                · skip
                  refine lc_iinc (lv' := [(0, .ref (50)), (1, .ref (a)), (2, .int (lc_i ((lc_fo (lc_sV m 0) f s q k t).1))), (3, .int (lc_i (((k : Nat) : Int) + 1))), (4, .int (lc_i ((k : Int) % 36))), (5, .long (x)), (7, .int (lc_i (((t : Nat) : Int))))]) dX11_deep_104 3 rfl (by decide) rfl ?_
                  refine lc_goto (tgt := 6) dX11_deep_107 (by decide) ?_
                  refine lc_pick (lv' := [(0, .ref (50)), (1, .ref (a)), (2, .int (lc_i ((lc_fo (lc_sV m 0) f s q k t).1))), (3, .int (lc_i (((k : Nat) : Int) + 1)))]) [0, 1, 2, 3] rfl ?_
                  refine lc_lveq (lv' := [(0, .ref (50)), (1, .ref (a)), (2, .int (lc_i ((lc_fo (lc_sV m 0) f s q (k + 1) 0).1))), (3, .int (lc_i (((k + 1 : Nat) : Int))))]) (by rw [show ((k + 1 : Nat) : Int) = (k : Int) + 1 from by omega, show (lc_fo (lc_sV m 0) f s q k t).1 = (lc_fo (lc_sV m 0) f s q (k + 1) 0).1 from by rw [show t = 36 from by omega, lc_fo_36]]) ?_
                  exact ih3 (k + 1) (z50) (z51) σ58 h53 (fun i _ => ((fr52 i (by omega)).trans (fr6 i (by omega)))) (by omega) (fun q9 => absurd hres q9) (by rw [← lc_fo_36, ← show t = 36 from by omega]; exact hmr2) (by omega)
                · skip
                  refine lc_lload dX11_deep_55 5 rfl ?_
                  refine lc_iload dX11_deep_57 6 rfl ?_
                  refine lc_lshr dX11_deep_59 rfl ?_
                  refine lc_lconst (x := 1) dX11_deep_60 (by decide) ?_
                  refine lc_land dX11_deep_61 ?_
                  refine lc_lconst (x := 1) dX11_deep_62 (by decide) ?_
                  refine lc_lcmp dX11_deep_63 ?_
                  refine lc_if_neR (tgt := 98) dX11_deep_64 (by decide) (fun h_64_65 => ?_) (fun h_64_65 => ?_)
                  · skip
                    refine lc_iinc (lv' := [(0, .ref (50)), (1, .ref (a)), (2, .int (lc_i ((lc_fo (lc_sV m 0) f s q k t).1))), (3, .int (lc_i (((k : Nat) : Int)))), (4, .int (lc_i ((k : Int) % 36))), (5, .long (x)), (7, .int (lc_i (((t : Nat) : Int) + 1)))]) dX11_deep_98 6 rfl (by decide) rfl ?_
                    refine lc_goto (tgt := 48) dX11_deep_101 (by decide) ?_
                    refine lc_lveq (lv' := [(0, .ref (50)), (1, .ref (a)), (2, .int (lc_i ((lc_fo (lc_sV m 0) f s q k (t + 1)).1))), (3, .int (lc_i (((k : Nat) : Int)))), (4, .int (lc_i ((k : Int) % 36))), (5, .long (x)), (7, .int (lc_i (((t + 1 : Nat) : Int))))]) (by rw [show ((t + 1 : Nat) : Int) = (t : Int) + 1 from by omega, lc_fo_n (V := lc_sV m 0) (q := q) (show k < 72 from by omega) (fun q9 : lc_bit f s k t => h_64_65 (lc_cmp0.mpr ((lc_bs_t hst (by omega)).mpr q9)))]) ?_
                    exact ih63 (t + 1) (x) (by omega) (hst) ((lc_fo_r hres (show k < 72 from by omega) (show t + 1 ≤ 36 from by omega)).1.1) (by omega)
                  · skip
                    have hbr := lc_bit_r hf hs (show k < 72 from by omega) (show t < 36 from by omega) ((lc_bs_t hst (by omega)).mp (lc_cmp0.mp h_64_65) : lc_bit f s k t)
                    refine lc_aload_n dX11_deep_67 rfl 1 rfl ?_
                    refine lc_callS (As := [.ref (a)]) (stk := []) dX11_deep_68 lc_mX11_125 lc_yX11_worth (lc_cX11_worth l n (a) (N) (f) (s) (q) (m) (mo) (ca) (ct) (po) σ58 h60 (hf) (hs) (hR)) rfl ⟨Nat.le_of_ble_eq_true rfl, Nat.le_of_ble_eq_true rfl⟩ ⟨Nat.le_of_ble_eq_true rfl, Nat.le_of_ble_eq_true rfl⟩ rfl (Nat.le_of_ble_eq_true rfl) (fun v67 n68 σ69 q70 => ?_)
                    obtain ⟨rfl, rfl, rfl⟩ := q70
                    refine lc_iload_n dX11_deep_71 rfl 3 rfl ?_
                    refine lc_bipush dX11_deep_72 (by decide) ?_
                    refine lc_icmp_ge (tgt := 81) dX11_deep_74 (by decide) (by omega) (fun h_74_70 => ?_) (fun h_74_70 => ?_)
                    · skip
                      refine lc_iconst dX11_deep_81 ?_
                      refine lc_iadd dX11_deep_82 ?_
                      refine lc_istore (lv' := [(0, .ref (50)), (1, .ref (a)), (2, .int (lc_i ((lc_fo (lc_sV m 0) f s q k t).1))), (3, .int (lc_i (((k : Nat) : Int)))), (4, .int (lc_i ((k : Int) % 36))), (5, .long (x)), (7, .int (lc_i (((t : Nat) : Int)))), (8, .int (lc_i ((lc_wth (f) (s)) + (0))))]) dX11_deep_83 (by decide) rfl ?_
                      refine lc_iload dX11_deep_85 7 rfl ?_
                      refine lc_iload_n dX11_deep_87 rfl 2 rfl ?_
                      refine lc_icmp_le (tgt := 96) dX11_deep_88 (by decide) (by omega) (fun h_88_71 => ?_) (fun h_88_71 => ?_)
                      · skip
                        refine lc_iload_n dX11_deep_96 rfl 2 rfl ?_
                        refine lc_istore_n (lv' := [(0, .ref (50)), (1, .ref (a)), (2, .int (lc_i ((lc_fo (lc_sV m 0) f s q k t).1))), (3, .int (lc_i (((k : Nat) : Int)))), (4, .int (lc_i ((k : Int) % 36))), (5, .long (x)), (7, .int (lc_i (((t : Nat) : Int)))), (8, .int (lc_i ((lc_wth (f) (s)) + (0))))]) dX11_deep_97 rfl (by decide) rfl ?_
                        refine lc_iinc (lv' := [(0, .ref (50)), (1, .ref (a)), (2, .int (lc_i ((lc_fo (lc_sV m 0) f s q k t).1))), (3, .int (lc_i (((k : Nat) : Int)))), (4, .int (lc_i ((k : Int) % 36))), (5, .long (x)), (7, .int (lc_i (((t : Nat) : Int) + 1))), (8, .int (lc_i ((lc_wth (f) (s)) + (0))))]) dX11_deep_98 6 rfl (by decide) rfl ?_
                        refine lc_goto (tgt := 48) dX11_deep_101 (by decide) ?_
                        refine lc_pick (lv' := [(0, .ref (50)), (1, .ref (a)), (2, .int (lc_i ((lc_fo (lc_sV m 0) f s q k t).1))), (3, .int (lc_i (((k : Nat) : Int)))), (4, .int (lc_i ((k : Int) % 36))), (5, .long (x)), (7, .int (lc_i (((t : Nat) : Int) + 1)))]) [0, 1, 2, 3, 4, 5, 6] rfl ?_
                        refine lc_lveq (lv' := [(0, .ref (50)), (1, .ref (a)), (2, .int (lc_i ((lc_fo (lc_sV m 0) f s q k (t + 1)).1))), (3, .int (lc_i (((k : Nat) : Int)))), (4, .int (lc_i ((k : Int) % 36))), (5, .long (x)), (7, .int (lc_i (((t + 1 : Nat) : Int))))]) (by rw [show ((t + 1 : Nat) : Int) = (t : Int) + 1 from by omega, lc_fo_v (show k < 72 from by omega) (show t < 36 from by omega) ((lc_bs_t hst (by omega)).mp (lc_cmp0.mp h_64_65) : lc_bit f s k t) (show lc_wth f s + 0 = -(lc_sV m 0 (lc_mvf f s ((k : Int) % 36) (t : Int)) (3 - s) (lc_mvq f q (t : Int))) from (lc_wth_mv hs (by omega) (by omega) hbr.2.1 hbr.1 (by rw [hbr.2.2]; rw [if_neg (by omega)]; exact Or.inr ⟨rfl, rfl⟩)).symm) (by omega)]) ?_
                        exact ih63 (t + 1) (x) (by omega) (hst) ((lc_fo_r hres (show k < 72 from by omega) (show t + 1 ≤ 36 from by omega)).1.1) (by omega)
                      · skip
                        refine lc_iload dX11_deep_91 7 rfl ?_
                        refine lc_goto (tgt := 97) dX11_deep_93 (by decide) ?_
                        refine lc_istore_n (lv' := [(0, .ref (50)), (1, .ref (a)), (2, .int (lc_i ((lc_wth (f) (s)) + (0)))), (3, .int (lc_i (((k : Nat) : Int)))), (4, .int (lc_i ((k : Int) % 36))), (5, .long (x)), (7, .int (lc_i (((t : Nat) : Int)))), (8, .int (lc_i ((lc_wth (f) (s)) + (0))))]) dX11_deep_97 rfl (by decide) rfl ?_
                        refine lc_iinc (lv' := [(0, .ref (50)), (1, .ref (a)), (2, .int (lc_i ((lc_wth (f) (s)) + (0)))), (3, .int (lc_i (((k : Nat) : Int)))), (4, .int (lc_i ((k : Int) % 36))), (5, .long (x)), (7, .int (lc_i (((t : Nat) : Int) + 1))), (8, .int (lc_i ((lc_wth (f) (s)) + (0))))]) dX11_deep_98 6 rfl (by decide) rfl ?_
                        refine lc_goto (tgt := 48) dX11_deep_101 (by decide) ?_
                        refine lc_pick (lv' := [(0, .ref (50)), (1, .ref (a)), (2, .int (lc_i ((lc_wth (f) (s)) + (0)))), (3, .int (lc_i (((k : Nat) : Int)))), (4, .int (lc_i ((k : Int) % 36))), (5, .long (x)), (7, .int (lc_i (((t : Nat) : Int) + 1)))]) [0, 1, 2, 3, 4, 5, 6] rfl ?_
                        refine lc_lveq (lv' := [(0, .ref (50)), (1, .ref (a)), (2, .int (lc_i ((lc_fo (lc_sV m 0) f s q k (t + 1)).1))), (3, .int (lc_i (((k : Nat) : Int)))), (4, .int (lc_i ((k : Int) % 36))), (5, .long (x)), (7, .int (lc_i (((t + 1 : Nat) : Int))))]) (by rw [show ((t + 1 : Nat) : Int) = (t : Int) + 1 from by omega, lc_fo_u hres (show k < 72 from by omega) (show t < 36 from by omega) ((lc_bs_t hst (by omega)).mp (lc_cmp0.mp h_64_65) : lc_bit f s k t) (show lc_wth f s + 0 = -(lc_sV m 0 (lc_mvf f s ((k : Int) % 36) (t : Int)) (3 - s) (lc_mvq f q (t : Int))) from (lc_wth_mv hs (by omega) (by omega) hbr.2.1 hbr.1 (by rw [hbr.2.2]; rw [if_neg (by omega)]; exact Or.inr ⟨rfl, rfl⟩)).symm) (by omega)]) ?_
                        exact ih63 (t + 1) (x) (by omega) (hst) ((lc_fo_r hres (show k < 72 from by omega) (show t + 1 ≤ 36 from by omega)).1.1) (by omega)
                    · skip
                      refine lc_iconst dX11_deep_77 ?_
                      refine lc_goto (tgt := 82) dX11_deep_78 (by decide) ?_
                      refine lc_iadd dX11_deep_82 ?_
                      refine lc_istore (lv' := [(0, .ref (50)), (1, .ref (a)), (2, .int (lc_i ((lc_fo (lc_sV m 0) f s q k t).1))), (3, .int (lc_i (((k : Nat) : Int)))), (4, .int (lc_i ((k : Int) % 36))), (5, .long (x)), (7, .int (lc_i (((t : Nat) : Int)))), (8, .int (lc_i ((lc_wth (f) (s)) + (1))))]) dX11_deep_83 (by decide) rfl ?_
                      refine lc_iload dX11_deep_85 7 rfl ?_
                      refine lc_iload_n dX11_deep_87 rfl 2 rfl ?_
                      refine lc_icmp_le (tgt := 96) dX11_deep_88 (by decide) (by omega) (fun h_88_72 => ?_) (fun h_88_72 => ?_)
                      · skip
                        refine lc_iload_n dX11_deep_96 rfl 2 rfl ?_
                        refine lc_istore_n (lv' := [(0, .ref (50)), (1, .ref (a)), (2, .int (lc_i ((lc_fo (lc_sV m 0) f s q k t).1))), (3, .int (lc_i (((k : Nat) : Int)))), (4, .int (lc_i ((k : Int) % 36))), (5, .long (x)), (7, .int (lc_i (((t : Nat) : Int)))), (8, .int (lc_i ((lc_wth (f) (s)) + (1))))]) dX11_deep_97 rfl (by decide) rfl ?_
                        refine lc_iinc (lv' := [(0, .ref (50)), (1, .ref (a)), (2, .int (lc_i ((lc_fo (lc_sV m 0) f s q k t).1))), (3, .int (lc_i (((k : Nat) : Int)))), (4, .int (lc_i ((k : Int) % 36))), (5, .long (x)), (7, .int (lc_i (((t : Nat) : Int) + 1))), (8, .int (lc_i ((lc_wth (f) (s)) + (1))))]) dX11_deep_98 6 rfl (by decide) rfl ?_
                        refine lc_goto (tgt := 48) dX11_deep_101 (by decide) ?_
                        refine lc_pick (lv' := [(0, .ref (50)), (1, .ref (a)), (2, .int (lc_i ((lc_fo (lc_sV m 0) f s q k t).1))), (3, .int (lc_i (((k : Nat) : Int)))), (4, .int (lc_i ((k : Int) % 36))), (5, .long (x)), (7, .int (lc_i (((t : Nat) : Int) + 1)))]) [0, 1, 2, 3, 4, 5, 6] rfl ?_
                        refine lc_lveq (lv' := [(0, .ref (50)), (1, .ref (a)), (2, .int (lc_i ((lc_fo (lc_sV m 0) f s q k (t + 1)).1))), (3, .int (lc_i (((k : Nat) : Int)))), (4, .int (lc_i ((k : Int) % 36))), (5, .long (x)), (7, .int (lc_i (((t + 1 : Nat) : Int))))]) (by rw [show ((t + 1 : Nat) : Int) = (t : Int) + 1 from by omega, lc_fo_v (show k < 72 from by omega) (show t < 36 from by omega) ((lc_bs_t hst (by omega)).mp (lc_cmp0.mp h_64_65) : lc_bit f s k t) (show lc_wth f s + 1 = -(lc_sV m 0 (lc_mvf f s ((k : Int) % 36) (t : Int)) (3 - s) (lc_mvq f q (t : Int))) from (lc_wth_mv hs (by omega) (by omega) hbr.2.1 hbr.1 (by rw [hbr.2.2]; rw [if_pos (by omega)]; exact Or.inl ⟨rfl, rfl⟩)).symm) (by omega)]) ?_
                        exact ih63 (t + 1) (x) (by omega) (hst) ((lc_fo_r hres (show k < 72 from by omega) (show t + 1 ≤ 36 from by omega)).1.1) (by omega)
                      · skip
                        refine lc_iload dX11_deep_91 7 rfl ?_
                        refine lc_goto (tgt := 97) dX11_deep_93 (by decide) ?_
                        refine lc_istore_n (lv' := [(0, .ref (50)), (1, .ref (a)), (2, .int (lc_i ((lc_wth (f) (s)) + (1)))), (3, .int (lc_i (((k : Nat) : Int)))), (4, .int (lc_i ((k : Int) % 36))), (5, .long (x)), (7, .int (lc_i (((t : Nat) : Int)))), (8, .int (lc_i ((lc_wth (f) (s)) + (1))))]) dX11_deep_97 rfl (by decide) rfl ?_
                        refine lc_iinc (lv' := [(0, .ref (50)), (1, .ref (a)), (2, .int (lc_i ((lc_wth (f) (s)) + (1)))), (3, .int (lc_i (((k : Nat) : Int)))), (4, .int (lc_i ((k : Int) % 36))), (5, .long (x)), (7, .int (lc_i (((t : Nat) : Int) + 1))), (8, .int (lc_i ((lc_wth (f) (s)) + (1))))]) dX11_deep_98 6 rfl (by decide) rfl ?_
                        refine lc_goto (tgt := 48) dX11_deep_101 (by decide) ?_
                        refine lc_pick (lv' := [(0, .ref (50)), (1, .ref (a)), (2, .int (lc_i ((lc_wth (f) (s)) + (1)))), (3, .int (lc_i (((k : Nat) : Int)))), (4, .int (lc_i ((k : Int) % 36))), (5, .long (x)), (7, .int (lc_i (((t : Nat) : Int) + 1)))]) [0, 1, 2, 3, 4, 5, 6] rfl ?_
                        refine lc_lveq (lv' := [(0, .ref (50)), (1, .ref (a)), (2, .int (lc_i ((lc_fo (lc_sV m 0) f s q k (t + 1)).1))), (3, .int (lc_i (((k : Nat) : Int)))), (4, .int (lc_i ((k : Int) % 36))), (5, .long (x)), (7, .int (lc_i (((t + 1 : Nat) : Int))))]) (by rw [show ((t + 1 : Nat) : Int) = (t : Int) + 1 from by omega, lc_fo_u hres (show k < 72 from by omega) (show t < 36 from by omega) ((lc_bs_t hst (by omega)).mp (lc_cmp0.mp h_64_65) : lc_bit f s k t) (show lc_wth f s + 1 = -(lc_sV m 0 (lc_mvf f s ((k : Int) % 36) (t : Int)) (3 - s) (lc_mvq f q (t : Int))) from (lc_wth_mv hs (by omega) (by omega) hbr.2.1 hbr.1 (by rw [hbr.2.2]; rw [if_pos (by omega)]; exact Or.inl ⟨rfl, rfl⟩)).symm) (by omega)]) ?_
                        exact ih63 (t + 1) (x) (by omega) (hst) ((lc_fo_r hres (show k < 72 from by omega) (show t + 1 ≤ 36 from by omega)).1.1) (by omega)
            exact loop62 1000 (0) (set54) (by omega) (by rw [decide_eq_true (show (k : Int) < 36 from by omega)]; exact hs55) (hmr) (by omega)
  exact loop2 1000 (0) (w1) (w2) σ h0_0 (fun _ _ => rfl) (by omega) (fun _ => rfl) (show (-1000 : Int) ≤ -1000 ∧ (-1000 : Int) ≤ 36 from by decide) (by omega)

theorem lc_mvq_r {f : Int → Int} {q y : Int} (hq : 0 ≤ q ∧ q ≤ 60) : 0 ≤ lc_mvq f q y ∧ lc_mvq f q y ≤ 100 := by
  unfold lc_mvq
  split <;> omega
theorem lc_fo_rr {f : Int → Int} {s q m : Int} {d k t : Nat} (h : lc_res (lc_cnt f 1 36) (lc_cnt f 2 36) q m = 0) (hk : k < 72) (ht : t ≤ 36) : (-105 ≤ lc_fnd (lc_fo (lc_sV m d) f s q k t) ∧ lc_fnd (lc_fo (lc_sV m d) f s q k t) < 3600) ∧ (-36 ≤ lc_bst f s (lc_fo (lc_sV m d) f s q k t) ∧ lc_bst f s (lc_fo (lc_sV m d) f s q k t) ≤ 36) := by
  have h1 := (lc_fo_r (s := s) (d := d) h hk ht).1
  have h2 := lc_wth_r f s
  unfold lc_fnd lc_bst
  by_cases e : (lc_fo (lc_sV m d) f s q k t).2 = -1
  · rw [if_pos e, if_pos e]; omega
  · rw [if_neg e, if_neg e]; omega

set_option maxRecDepth 100000 in
set_option maxHeartbeats 600000 in
theorem lc_cX11_bestOf_1 (l : Launch) (n : Nat) (N : Int → Int) (f : Int → Int) (s q m mo ca ct : Int) (po : Int → Int) (kept : Int) (bs : Bool) (z at9 sn sr w1 w2 w3 bw : Int) (N2 : Int → Int) (σ : lc_S) (h0_0 : σ (50) = some (.inr (11, [.ref (51), .ref (52), .ref (53), .ref (54), .ref (55), .int (lc_i (kept)), .ref (56), .int (lc_i (if bs = true then 1 else 0)), .ref (57), .int (lc_i (z)), .int (lc_i (at9)), .int (lc_i (sn)), .int (lc_i (sr)), .int (lc_i (w1)), .int (lc_i (w2)), .int (lc_i (w3)), .int (lc_i (bw))]) : lc_Cel)) (h0_1 : σ (51) = some (lc_aI 222 (N))) (h0_2 : σ (52) = some (lc_aI 222 (N2))) (hf : ∀ j : Int, 0 ≤ j → j < 36 → 0 ≤ f j ∧ f j ≤ 2) (hs : 1 ≤ s ∧ s ≤ 2) (hct : 0 ≤ ct ∧ ct ≤ 60) (hq : 0 ≤ q ∧ q ≤ 60) (hm : 0 ≤ m ∧ m ≤ 60) (hR : lc_RM N (f, s, q, m, mo, ca, ct, po)) : lc_Con l yX11_bestOf cX11_bestOf 10 (some .int) (lc_Rd 5) [.ref (50), .int (lc_i (1))] n σ (fun v n2 σ2 => ∃ (z1 z2 : Int) (g2 : Int → Int), v = some (.int (lc_i (lc_fnd (lc_sv m 1 f s q)))) ∧ n = n2 ∧ σ2 (50) = some (.inr (11, [.ref (51), .ref (52), .ref (53), .ref (54), .ref (55), .int (lc_i (kept)), .ref (56), .int (lc_i (if bs = true then 1 else 0)), .ref (57), .int (lc_i (z)), .int (lc_i (at9)), .int (lc_i (sn)), .int (lc_i (sr)), .int (lc_i (z1)), .int (lc_i (z2)), .int (lc_i (w3)), .int (lc_i ((lc_sv m 1 f s q).1))]) : lc_Cel) ∧ σ2 (52) = some (lc_aI 222 (g2)) ∧ ∀ i : Nat, i ≠ 50 → i ≠ 52 → σ2 i = σ i) := by
  obtain ⟨h0R, h1R, h2R, h3R, h4R, h5R, h6R, h7R⟩ := id hR
  have h0R : N 0 = s := h0R
  have h1R : N 1 = q := h1R
  have h4R : N 4 = m := h4R
  have h5R : N 5 = ct := h5R
  have h6R : ∀ p : Int, 0 ≤ p → p < 36 → N (6 + p) = f p := h6R
  have hr1 := lc_res_r (lc_cnt f 1 36) (lc_cnt f 2 36) q m
  have hwr := lc_wth_r f s
  refine lc_con RX11 false (by decide) rfl (fun h => absurd h (by decide)) (Nat.le_of_ble_eq_true rfl) ?_
  suffices H : ∀ Q : lc_QT, (∀ v n2 σ2, (fun v n2 σ2 => ∃ (z1 z2 : Int) (g2 : Int → Int), v = some (.int (lc_i (lc_fnd (lc_sv m 1 f s q)))) ∧ n = n2 ∧ σ2 (50) = some (.inr (11, [.ref (51), .ref (52), .ref (53), .ref (54), .ref (55), .int (lc_i (kept)), .ref (56), .int (lc_i (if bs = true then 1 else 0)), .ref (57), .int (lc_i (z)), .int (lc_i (at9)), .int (lc_i (sn)), .int (lc_i (sr)), .int (lc_i (z1)), .int (lc_i (z2)), .int (lc_i (w3)), .int (lc_i ((lc_sv m 1 f s q).1))]) : lc_Cel) ∧ σ2 (52) = some (lc_aI 222 (g2)) ∧ ∀ i : Nat, i ≠ 50 → i ≠ 52 → σ2 i = σ i : lc_QT) v n2 σ2 → Q v n2 σ2) → lc_V l RX11 cX11_bestOf 10 (some .int) false (lc_Rd 5) (lc_G Q 0 0) lc_E0 0 0 n 0 [(0, .ref (50)), (1, .int (lc_i (1)))] [] σ from H _ (fun _ _ _ h => h)
  intro Q hQ
  refine lc_bipush dX11_bestOf_0 (by decide) ?_
  refine lc_istore_n (lv' := [(0, .ref (50)), (1, .int (lc_i (1))), (2, .int (lc_i ((-105))))]) dX11_bestOf_2 rfl (by decide) rfl ?_
  refine lc_aload_n dX11_bestOf_3 rfl 0 rfl ?_
  refine lc_aload_n dX11_bestOf_4 rfl 0 rfl ?_
  refine lc_get dX11_bestOf_5 lc_fX11_7 h0_0 rfl ?_
  refine lc_callS (As := [.ref (51)]) (stk := [.ref (50)]) dX11_bestOf_8 lc_mX11_125 lc_yX11_worth (lc_cX11_worth l n (51) (N) (f) (s) (q) (m) (mo) (ca) (ct) (po) σ h0_1 (hf) (hs) (hR)) rfl ⟨Nat.le_of_ble_eq_true rfl, Nat.le_of_ble_eq_true rfl⟩ ⟨Nat.le_of_ble_eq_true rfl, Nat.le_of_ble_eq_true rfl⟩ rfl (Nat.le_of_ble_eq_true rfl) (fun v1 n2 σ3 q4 => ?_)
  obtain ⟨rfl, rfl, rfl⟩ := q4
  refine lc_top (congrArg (fun z => Value.int (lc_i z)) (show (lc_wth (f) (s) : Int) = lc_bst f s (lc_fo (lc_sV m 0) f s q 0 0) from rfl)) ?_
  refine lc_wI (vs' := [.ref (51), .ref (52), .ref (53), .ref (54), .ref (55), .int (lc_i (kept)), .ref (56), .int (lc_i (if bs = true then 1 else 0)), .ref (57), .int (lc_i (z)), .int (lc_i (at9)), .int (lc_i (sn)), .int (lc_i (sr)), .int (lc_i (w1)), .int (lc_i (w2)), .int (lc_i (w3)), .int (lc_i (lc_bst f s (lc_fo (lc_sV m 0) f s q 0 0)))]) dX11_bestOf_11 lc_fX11_128 h0_0 (Nat.le_of_ble_eq_true rfl) rfl rfl rfl (fun σ5 h6 fr7 => ?_)
  have h8 : σ5 (51) = some (lc_aI 222 (N)) := (fr7 _ (by omega)).trans h0_1
  have h9 : σ5 (52) = some (lc_aI 222 (N2)) := (fr7 _ (by omega)).trans h0_2
  refine lc_iconst dX11_bestOf_14 ?_
  refine lc_istore_n (lv' := [(0, .ref (50)), (1, .int (lc_i (1))), (2, .int (lc_i ((-105)))), (3, .int (lc_i (0)))]) dX11_bestOf_15 rfl (by decide) rfl ?_
  have loop11 : ∀ (N10 : Nat) (k : Nat) (y1 : Int) (y2 : Int) (g2 : Int → Int) (σ13 : lc_S), (σ13 (50) = some (.inr (11, [.ref (51), .ref (52), .ref (53), .ref (54), .ref (55), .int (lc_i (kept)), .ref (56), .int (lc_i (if bs = true then 1 else 0)), .ref (57), .int (lc_i (z)), .int (lc_i (at9)), .int (lc_i (sn)), .int (lc_i (sr)), .int (lc_i (y1)), .int (lc_i (y2)), .int (lc_i (w3)), .int (lc_i (lc_bst f s (lc_fo (lc_sV m 0) f s q k 0)))]) : lc_Cel)) → (σ13 (52) = some (lc_aI 222 (g2))) → (∀ i : Nat, i ≠ 50 → i ≠ 52 → σ13 i = σ5 i) → (k ≤ 72) → (lc_res (lc_cnt f 1 36) (lc_cnt f 2 36) q m ≠ 0 → k = 0) → 72 - (k : Int) < (N10 : Int) → lc_V l RX11 cX11_bestOf 10 (some .int) false (lc_Rd 5) (lc_G Q 0 0) lc_E0 0 0 n 16 [(0, .ref (50)), (1, .int (lc_i (1))), (2, .int (lc_i (lc_fnd (lc_fo (lc_sV m 0) f s q k 0)))), (3, .int (lc_i (((k : Nat) : Int))))] [] σ13 := by
    intro N10
    induction N10 with
    | zero =>
      intro k y1 y2 g2 σ13 h14 h15 fr16 hk hz hm17
      exact absurd hm17 (by omega)
    | succ N10 ih12 =>
      intro k y1 y2 g2 σ13 h14 h15 fr16 hk hz hm17
      have h18 : σ13 (51) = some (lc_aI 222 (N)) := (fr16 _ (by omega) (by omega)).trans h8
      refine lc_iload_n dX11_bestOf_16 rfl 3 rfl ?_
      refine lc_bipush dX11_bestOf_17 (by decide) ?_
      refine lc_icmp_ge (tgt := 204) dX11_bestOf_19 (by decide) (by omega) (fun h_19_18 => ?_) (fun h_19_18 => ?_)
      · skip
        refine lc_iload_n dX11_bestOf_204 rfl 2 rfl ?_
        have hres : lc_res (lc_cnt f 1 36) (lc_cnt f 2 36) q m = 0 := by by_cases q9 : lc_res (lc_cnt f 1 36) (lc_cnt f 2 36) q m = 0; (exact q9); (have := hz q9; omega)
        have ek : k = 72 := by omega
        subst ek
        have eZ := lc_fo_e (d := 0) (s := s) hres
        exact lc_iret dX11_bestOf_205 rfl (Nat.le_of_ble_eq_true rfl) (Nat.le_of_ble_eq_true rfl) (hQ _ _ _ ⟨y1, y2, g2, lc_some (by unfold lc_fnd; rw [eZ.2]), rfl, by rw [← eZ.1]; exact h14, h15, (fun i _ _ => ((fr16 i (by omega) (by omega)).trans (fr7 i (by omega))))⟩)
      · skip
        refine lc_aload_n dX11_bestOf_22 rfl 0 rfl ?_
        refine lc_get dX11_bestOf_23 lc_fX11_7 h14 rfl ?_
        refine lc_callS (As := [.ref (51)]) (stk := []) dX11_bestOf_26 lc_mX11_94 lc_yX11_result (lc_cX11_result l n (51) (N) (f) (s) (q) (m) (mo) (ca) (ct) (po) σ13 h18 (hf) (hR) (by omega) (by omega)) rfl ⟨Nat.le_of_ble_eq_true rfl, Nat.le_of_ble_eq_true rfl⟩ ⟨Nat.le_of_ble_eq_true rfl, Nat.le_of_ble_eq_true rfl⟩ rfl (Nat.le_of_ble_eq_true rfl) (fun v20 n21 σ22 q23 => ?_)
        obtain ⟨rfl, rfl, rfl⟩ := q23
        refine lc_if_ne (tgt := 204) dX11_bestOf_29 (by decide) (by omega) (fun h_29_23 => ?_) (fun h_29_23 => ?_)
        · skip
          refine lc_iload_n dX11_bestOf_204 rfl 2 rfl ?_
          have ek : k = 0 := hz h_29_23
          subst ek
          have eZ := lc_fo_z (d := 0) (s := s) h_29_23
          exact lc_iret dX11_bestOf_205 rfl (Nat.le_of_ble_eq_true rfl) (Nat.le_of_ble_eq_true rfl) (hQ _ _ _ ⟨y1, y2, g2, by rw [eZ]; rfl, rfl, by rw [eZ]; exact h14, h15, (fun i _ _ => ((fr16 i (by omega) (by omega)).trans (fr7 i (by omega))))⟩)
        · skip
          have hres : lc_res (lc_cnt f 1 36) (lc_cnt f 2 36) q m = 0 := h_29_23
          refine lc_iload_n dX11_bestOf_32 rfl 3 rfl ?_
          refine lc_bipush dX11_bestOf_33 (by decide) ?_
          refine lc_irem dX11_bestOf_35 (by omega) ?_
          refine lc_top (congrArg (fun z => Value.int (lc_i z)) (show ((((k : Nat) : Int)) % (36) : Int) = (k : Int) % 36 from rfl)) ?_
          refine lc_istore (lv' := [(0, .ref (50)), (1, .int (lc_i (1))), (2, .int (lc_i (lc_fnd (lc_fo (lc_sV m 0) f s q k 0)))), (3, .int (lc_i (((k : Nat) : Int)))), (4, .int (lc_i ((k : Int) % 36)))]) dX11_bestOf_36 (by decide) rfl ?_
          refine lc_aload_n dX11_bestOf_38 rfl 0 rfl ?_
          refine lc_aload_n dX11_bestOf_39 rfl 0 rfl ?_
          refine lc_get dX11_bestOf_40 lc_fX11_7 h14 rfl ?_
          refine lc_iload dX11_bestOf_43 4 rfl ?_
          refine lc_iload_n dX11_bestOf_45 rfl 3 rfl ?_
          refine lc_bipush dX11_bestOf_46 (by decide) ?_
          refine lc_icmp_ge (tgt := 55) dX11_bestOf_48 (by decide) (by omega) (fun h_48_24 => ?_) (fun h_48_24 => ?_)
          · skip
            refine lc_iconst dX11_bestOf_55 ?_
            refine lc_callV (As := [.ref (51), .int (lc_i ((k : Int) % 36)), .int (lc_i (0))]) (stk := []) (b := 50) dX11_bestOf_56 lc_mX11_121 lc_yX11_ends h14 rfl (lc_cX11_ends l n (51) (N) (f) (s) (q) (m) (mo) (ca) (ct) (po) (kept) (bs) (z) (at9) (sn) (sr) (y1) (y2) (w3) (lc_bst f s (lc_fo (lc_sV m 0) f s q k 0)) ((k : Int) % 36) (false) σ13 h14 h18 (by omega) (hf) (hs) (hR) (by omega)) rfl ⟨Nat.le_of_ble_eq_true rfl, Nat.le_of_ble_eq_true rfl⟩ ⟨Nat.le_of_ble_eq_true rfl, Nat.le_of_ble_eq_true rfl⟩ rfl (Nat.le_of_ble_eq_true rfl) (fun v32 n33 σ34 q35 => ?_)
            obtain ⟨set30, z26, z27, rfl, rfl, hs31, h29, fr28⟩ := q35
            have h36 : σ34 (51) = some (lc_aI 222 (N)) := (fr28 _ (by omega)).trans h18
            have h37 : σ34 (52) = some (lc_aI 222 (g2)) := (fr28 _ (by omega)).trans h15
            refine lc_lstore (lv' := [(0, .ref (50)), (1, .int (lc_i (1))), (2, .int (lc_i (lc_fnd (lc_fo (lc_sV m 0) f s q k 0)))), (3, .int (lc_i (((k : Nat) : Int)))), (4, .int (lc_i ((k : Int) % 36))), (5, .long (set30))]) dX11_bestOf_59 (by decide) rfl ?_
            refine lc_iconst dX11_bestOf_61 ?_
            refine lc_istore (lv' := [(0, .ref (50)), (1, .int (lc_i (1))), (2, .int (lc_i (lc_fnd (lc_fo (lc_sV m 0) f s q k 0)))), (3, .int (lc_i (((k : Nat) : Int)))), (4, .int (lc_i ((k : Int) % 36))), (5, .long (set30)), (7, .int (lc_i (0)))]) dX11_bestOf_62 (by decide) rfl ?_
            have loop39 : ∀ (N38 : Nat) (t : Nat) (x : Int64) (y3 : Int) (y4 : Int) (g4 : Int → Int) (σ41 : lc_S), (σ41 (50) = some (.inr (11, [.ref (51), .ref (52), .ref (53), .ref (54), .ref (55), .int (lc_i (kept)), .ref (56), .int (lc_i (if bs = true then 1 else 0)), .ref (57), .int (lc_i (z)), .int (lc_i (at9)), .int (lc_i (sn)), .int (lc_i (sr)), .int (lc_i (y3)), .int (lc_i (y4)), .int (lc_i (w3)), .int (lc_i (lc_bst f s (lc_fo (lc_sV m 0) f s q k t)))]) : lc_Cel)) → (σ41 (52) = some (lc_aI 222 (g4))) → (∀ i : Nat, i ≠ 50 → i ≠ 52 → σ41 i = σ34 i) → (t ≤ 36) → (lc_bs x (fun j : Int => lc_en f s (decide ((k : Int) < 36)) ((k : Int) % 36) j)) → 36 - (t : Int) < (N38 : Int) → lc_V l RX11 cX11_bestOf 10 (some .int) false (lc_Rd 5) (lc_G Q 0 0) lc_E0 0 0 n 64 [(0, .ref (50)), (1, .int (lc_i (1))), (2, .int (lc_i (lc_fnd (lc_fo (lc_sV m 0) f s q k t)))), (3, .int (lc_i (((k : Nat) : Int)))), (4, .int (lc_i ((k : Int) % 36))), (5, .long (x)), (7, .int (lc_i (((t : Nat) : Int))))] [] σ41 := by
              intro N38
              induction N38 with
              | zero =>
                intro t x y3 y4 g4 σ41 h42 h43 fr44 ht hst hm45
                exact absurd hm45 (by omega)
              | succ N38 ih40 =>
                intro t x y3 y4 g4 σ41 h42 h43 fr44 ht hst hm45
                have h46 : σ41 (51) = some (lc_aI 222 (N)) := (fr44 _ (by omega) (by omega)).trans h36
                have hrg := lc_fo_rr (f := f) (s := s) (d := 0) (k := k) (t := t) hres (by omega) ht
                refine lc_iload dX11_bestOf_64 6 rfl ?_
                refine lc_bipush dX11_bestOf_66 (by decide) ?_
                refine lc_icmp_ge (tgt := 198) dX11_bestOf_68 (by decide) (by omega) (fun h_68_46 => ?_) (fun h_68_46 => ?_)
                · skip
                  refine lc_iinc (lv' := [(0, .ref (50)), (1, .int (lc_i (1))), (2, .int (lc_i (lc_fnd (lc_fo (lc_sV m 0) f s q k t)))), (3, .int (lc_i (((k : Nat) : Int) + 1))), (4, .int (lc_i ((k : Int) % 36))), (5, .long (x)), (7, .int (lc_i (((t : Nat) : Int))))]) dX11_bestOf_198 3 rfl (by decide) rfl ?_
                  refine lc_goto (tgt := 16) dX11_bestOf_201 (by decide) ?_
                  refine lc_pick (lv' := [(0, .ref (50)), (1, .int (lc_i (1))), (2, .int (lc_i (lc_fnd (lc_fo (lc_sV m 0) f s q k t)))), (3, .int (lc_i (((k : Nat) : Int) + 1)))]) [0, 1, 2, 3] rfl ?_
                  refine lc_lveq (lv' := [(0, .ref (50)), (1, .int (lc_i (1))), (2, .int (lc_i (lc_fnd (lc_fo (lc_sV m 0) f s q (k + 1) 0)))), (3, .int (lc_i (((k + 1 : Nat) : Int))))]) (by rw [show ((k + 1 : Nat) : Int) = (k : Int) + 1 from by omega, show lc_fnd (lc_fo (lc_sV m 0) f s q k t) = lc_fnd (lc_fo (lc_sV m 0) f s q (k + 1) 0) from by rw [show t = 36 from by omega, lc_fo_36]]) ?_
                  exact ih12 (k + 1) (y3) (y4) (g4) σ41 (by rw [← lc_fo_36, ← show t = 36 from by omega]; exact h42) h43 (fun i _ _ => ((fr44 i (by omega) (by omega)).trans ((fr28 i (by omega)).trans (fr16 i (by omega) (by omega))))) (by omega) (fun q9 => absurd hres q9) (by omega)
                · skip
                  refine lc_lload dX11_bestOf_71 5 rfl ?_
                  refine lc_iload dX11_bestOf_73 6 rfl ?_
                  refine lc_lshr dX11_bestOf_75 rfl ?_
                  refine lc_lconst (x := 1) dX11_bestOf_76 (by decide) ?_
                  refine lc_land dX11_bestOf_77 ?_
                  refine lc_lconst (x := 1) dX11_bestOf_78 (by decide) ?_
                  refine lc_lcmp dX11_bestOf_79 ?_
                  refine lc_if_neR (tgt := 192) dX11_bestOf_80 (by decide) (fun h_80_47 => ?_) (fun h_80_47 => ?_)
                  · skip
                    refine lc_iinc (lv' := [(0, .ref (50)), (1, .int (lc_i (1))), (2, .int (lc_i (lc_fnd (lc_fo (lc_sV m 0) f s q k t)))), (3, .int (lc_i (((k : Nat) : Int)))), (4, .int (lc_i ((k : Int) % 36))), (5, .long (x)), (7, .int (lc_i (((t : Nat) : Int) + 1)))]) dX11_bestOf_192 6 rfl (by decide) rfl ?_
                    refine lc_goto (tgt := 64) dX11_bestOf_195 (by decide) ?_
                    refine lc_lveq (lv' := [(0, .ref (50)), (1, .int (lc_i (1))), (2, .int (lc_i (lc_fnd (lc_fo (lc_sV m 0) f s q k (t + 1))))), (3, .int (lc_i (((k : Nat) : Int)))), (4, .int (lc_i ((k : Int) % 36))), (5, .long (x)), (7, .int (lc_i (((t + 1 : Nat) : Int))))]) (by rw [show ((t + 1 : Nat) : Int) = (t : Int) + 1 from by omega, lc_fo_n (V := lc_sV m 0) (q := q) (show k < 72 from by omega) (fun q9 : lc_bit f s k t => h_80_47 (lc_cmp0.mpr ((lc_bs_t hst (by omega)).mpr q9)))]) ?_
                    exact ih40 (t + 1) (x) (y3) (y4) (g4) σ41 (by rw [lc_fo_n (V := lc_sV m 0) (q := q) (show k < 72 from by omega) (fun q9 : lc_bit f s k t => h_80_47 (lc_cmp0.mpr ((lc_bs_t hst (by omega)).mpr q9)))]; exact h42) h43 (fun i _ _ => (fr44 i (by omega) (by omega))) (by omega) (hst) (by omega)
                  · skip
                    have hbr := lc_bit_r hf hs (show k < 72 from by omega) (show t < 36 from by omega) ((lc_bs_t hst (by omega)).mp (lc_cmp0.mp h_80_47) : lc_bit f s k t)
                    refine lc_aload_n dX11_bestOf_83 rfl 0 rfl ?_
                    refine lc_get dX11_bestOf_84 lc_fX11_7 h42 rfl ?_
                    refine lc_iconst dX11_bestOf_87 ?_
                    refine lc_aload_n dX11_bestOf_88 rfl 0 rfl ?_
                    refine lc_get dX11_bestOf_89 lc_fX11_13 h42 rfl ?_
                    refine lc_iconst dX11_bestOf_92 ?_
                    refine lc_callS (As := [.ref (51), .int (lc_i (0)), .ref (52), .int (lc_i (0))]) (stk := []) dX11_bestOf_93 lc_mX11_48 lc_yX11_copies (lc_cX11_copies l n (51) (52) (222) (222) (N) (g4) (0) (0) σ41 h46 h43 (by omega) (by omega) (by omega) (by omega)) rfl ⟨Nat.le_of_ble_eq_true rfl, Nat.le_of_ble_eq_true rfl⟩ ⟨Nat.le_of_ble_eq_true rfl, Nat.le_of_ble_eq_true rfl⟩ rfl (Nat.le_of_ble_eq_true rfl) (fun v51 n52 σ53 q54 => ?_)
                    obtain ⟨rfl, rfl, h50, fr49⟩ := q54
                    have h55 : σ53 (51) = some (lc_aI 222 (N)) := (fr49 _ (by omega)).trans h46
                    have h56 : σ53 (50) = some (.inr (11, [.ref (51), .ref (52), .ref (53), .ref (54), .ref (55), .int (lc_i (kept)), .ref (56), .int (lc_i (if bs = true then 1 else 0)), .ref (57), .int (lc_i (z)), .int (lc_i (at9)), .int (lc_i (sn)), .int (lc_i (sr)), .int (lc_i (y3)), .int (lc_i (y4)), .int (lc_i (w3)), .int (lc_i (lc_bst f s (lc_fo (lc_sV m 0) f s q k t)))]) : lc_Cel) := (fr49 _ (by omega)).trans h42
                    have hR57 := lc_RM_c (N' := g4) hR (show ct ≤ 60 from by omega)
                    refine lc_aload_n dX11_bestOf_96 rfl 0 rfl ?_
                    refine lc_get dX11_bestOf_97 lc_fX11_13 h56 rfl ?_
                    refine lc_iload dX11_bestOf_100 4 rfl ?_
                    refine lc_iload dX11_bestOf_102 6 rfl ?_
                    refine lc_callS (As := [.ref (52), .int (lc_i ((k : Int) % 36)), .int (lc_i (((t : Nat) : Int)))]) (stk := []) dX11_bestOf_104 lc_mX11_113 lc_yX11_makes (lc_cX11_makes l n (52) (lc_cpy (N) (0) (g4) (0)) (f) (s) (q) (m) (mo) (ca) (ct) (po) ((k : Int) % 36) (((t : Nat) : Int)) σ53 h50 (hf) (hs) (hct) (hR57) (by omega) (by omega) (hbr.1)) rfl ⟨Nat.le_of_ble_eq_true rfl, Nat.le_of_ble_eq_true rfl⟩ ⟨Nat.le_of_ble_eq_true rfl, Nat.le_of_ble_eq_true rfl⟩ rfl (Nat.le_of_ble_eq_true rfl) (fun v62 n63 σ64 q65 => ?_)
                    obtain ⟨N60, rfl, rfl, h59, hR61, fr58⟩ := q65
                    have h66 : σ64 (51) = some (lc_aI 222 (N)) := (fr58 _ (by omega)).trans h55
                    have h67 : σ64 (50) = some (.inr (11, [.ref (51), .ref (52), .ref (53), .ref (54), .ref (55), .int (lc_i (kept)), .ref (56), .int (lc_i (if bs = true then 1 else 0)), .ref (57), .int (lc_i (z)), .int (lc_i (at9)), .int (lc_i (sn)), .int (lc_i (sr)), .int (lc_i (y3)), .int (lc_i (y4)), .int (lc_i (w3)), .int (lc_i (lc_bst f s (lc_fo (lc_sV m 0) f s q k t)))]) : lc_Cel) := (fr58 _ (by omega)).trans h56
                    have hfm := lc_mvf_ok (x := (k : Int) % 36) (y := (t : Int)) hf hs
                    have hwm := lc_wth_r (lc_mvf f s ((k : Int) % 36) (t : Int)) (3 - s)
                    have hsm := lc_sv_r m 1 (lc_mvf f s ((k : Int) % 36) (t : Int)) (3 - s) (lc_mvq f q (t : Int))
                    have hqm := lc_mvq_r (f := f) (y := (t : Int)) hq
                    refine lc_iload_n dX11_bestOf_107 rfl 1 rfl ?_
                    refine lc_iconst dX11_bestOf_108 ?_
                    refine lc_icmp_ne (tgt := 123) dX11_bestOf_109 (by decide) (by omega) (fun h_109_67 => ?_) (fun h_109_67 => ?_)
                    · exact absurd rfl h_109_67
                    · skip
                      refine lc_aload_n dX11_bestOf_112 rfl 0 rfl ?_
                      refine lc_get dX11_bestOf_113 lc_fX11_13 h67 rfl ?_
                      refine lc_callS (As := [.ref (52)]) (stk := []) dX11_bestOf_116 lc_mX11_125 lc_yX11_worth (lc_cX11_worth l n (52) (N60) (lc_mvf (f) (s) ((k : Int) % 36) (((t : Nat) : Int))) (3 - (s)) (lc_mvq (f) (q) (((t : Nat) : Int))) (m) ((mo) + 1) (lc_mvc (f) (ca) (((t : Nat) : Int))) (lc_mvt (f) (ct) (((t : Nat) : Int))) (lc_mvp (f) (s) ((k : Int) % 36) (((t : Nat) : Int)) (ct) (po)) σ64 h59 (hfm) (by omega) (hR61)) rfl ⟨Nat.le_of_ble_eq_true rfl, Nat.le_of_ble_eq_true rfl⟩ ⟨Nat.le_of_ble_eq_true rfl, Nat.le_of_ble_eq_true rfl⟩ rfl (Nat.le_of_ble_eq_true rfl) (fun v69 n70 σ71 q72 => ?_)
                      obtain ⟨rfl, rfl, rfl⟩ := q72
                      refine lc_ineg dX11_bestOf_119 ?_
                      refine lc_goto (tgt := 132) dX11_bestOf_120 (by decide) ?_
                      refine lc_istore (lv' := [(0, .ref (50)), (1, .int (lc_i (1))), (2, .int (lc_i (lc_fnd (lc_fo (lc_sV m 0) f s q k t)))), (3, .int (lc_i (((k : Nat) : Int)))), (4, .int (lc_i ((k : Int) % 36))), (5, .long (x)), (7, .int (lc_i (((t : Nat) : Int)))), (8, .int (lc_i (-(lc_wth (lc_mvf (f) (s) ((k : Int) % 36) (((t : Nat) : Int))) (3 - (s))))))]) dX11_bestOf_132 (by decide) rfl ?_
                      refine lc_iload_n dX11_bestOf_134 rfl 2 rfl ?_
                      refine lc_bipush dX11_bestOf_135 (by decide) ?_
                      refine lc_icmp_eq (tgt := 149) dX11_bestOf_137 (by decide) (by omega) (fun h_137_72 => ?_) (fun h_137_72 => ?_)
                      · skip
                        refine lc_iconst dX11_bestOf_149 ?_
                        refine lc_goto (tgt := 154) dX11_bestOf_150 (by decide) ?_
                        refine lc_istore (lv' := [(0, .ref (50)), (1, .int (lc_i (1))), (2, .int (lc_i (lc_fnd (lc_fo (lc_sV m 0) f s q k t)))), (3, .int (lc_i (((k : Nat) : Int)))), (4, .int (lc_i ((k : Int) % 36))), (5, .long (x)), (7, .int (lc_i (((t : Nat) : Int)))), (8, .int (lc_i (-(lc_wth (lc_mvf (f) (s) ((k : Int) % 36) (((t : Nat) : Int))) (3 - (s)))))), (9, .int (lc_i (1)))]) dX11_bestOf_154 (by decide) rfl ?_
                        have eW := lc_bst_u hres (show k < 72 from by omega) (show t < 36 from by omega) ((lc_bs_t hst (by omega)).mp (lc_cmp0.mp h_80_47) : lc_bit f s k t) (show -(lc_wth (lc_mvf (f) (s) ((k : Int) % 36) (((t : Nat) : Int))) (3 - (s))) = -(lc_sV m 0 (lc_mvf f s ((k : Int) % 36) (t : Int)) (3 - s) (lc_mvq f q (t : Int))) from rfl) (Or.inl h_137_72)
                        refine lc_iload dX11_bestOf_156 8 rfl ?_
                        refine lc_if_eq (tgt := 172) dX11_bestOf_158 (by decide) (by omega) (fun h_158_73 => ?_) (fun h_158_73 => ?_)
                        · exact absurd h_158_73 (by decide)
                        · skip
                          refine lc_bipush dX11_bestOf_161 (by decide) ?_
                          refine lc_iload dX11_bestOf_163 4 rfl ?_
                          refine lc_imul dX11_bestOf_165 ?_
                          refine lc_iload dX11_bestOf_166 6 rfl ?_
                          refine lc_iadd dX11_bestOf_168 ?_
                          refine lc_goto (tgt := 173) dX11_bestOf_169 (by decide) ?_
                          refine lc_top (congrArg (fun z => Value.int (lc_i z)) (show (((100) * ((k : Int) % 36)) + (((t : Nat) : Int)) : Int) = lc_fnd (lc_fo (lc_sV m 0) f s q k (t + 1)) from by rw [eW.1]; omega)) ?_
                          refine lc_istore_n (lv' := [(0, .ref (50)), (1, .int (lc_i (1))), (2, .int (lc_i (lc_fnd (lc_fo (lc_sV m 0) f s q k (t + 1))))), (3, .int (lc_i (((k : Nat) : Int)))), (4, .int (lc_i ((k : Int) % 36))), (5, .long (x)), (7, .int (lc_i (((t : Nat) : Int)))), (8, .int (lc_i (-(lc_wth (lc_mvf (f) (s) ((k : Int) % 36) (((t : Nat) : Int))) (3 - (s)))))), (9, .int (lc_i (1)))]) dX11_bestOf_173 rfl (by decide) rfl ?_
                          refine lc_aload_n dX11_bestOf_174 rfl 0 rfl ?_
                          refine lc_iload dX11_bestOf_175 8 rfl ?_
                          refine lc_if_eq (tgt := 185) dX11_bestOf_177 (by decide) (by omega) (fun h_177_74 => ?_) (fun h_177_74 => ?_)
                          · exact absurd h_177_74 (by decide)
                          · skip
                            refine lc_iload dX11_bestOf_180 7 rfl ?_
                            refine lc_goto (tgt := 189) dX11_bestOf_182 (by decide) ?_
                            refine lc_top (congrArg (fun z => Value.int (lc_i z)) (show (-(lc_wth (lc_mvf (f) (s) ((k : Int) % 36) (((t : Nat) : Int))) (3 - (s))) : Int) = lc_bst f s (lc_fo (lc_sV m 0) f s q k (t + 1)) from by rw [eW.2])) ?_
                            refine lc_wI (vs' := [.ref (51), .ref (52), .ref (53), .ref (54), .ref (55), .int (lc_i (kept)), .ref (56), .int (lc_i (if bs = true then 1 else 0)), .ref (57), .int (lc_i (z)), .int (lc_i (at9)), .int (lc_i (sn)), .int (lc_i (sr)), .int (lc_i (y3)), .int (lc_i (y4)), .int (lc_i (w3)), .int (lc_i (lc_bst f s (lc_fo (lc_sV m 0) f s q k (t + 1))))]) dX11_bestOf_189 lc_fX11_128 h67 (Nat.le_of_ble_eq_true rfl) rfl rfl rfl (fun σ76 h77 fr78 => ?_)
                            have h79 : σ76 (51) = some (lc_aI 222 (N)) := (fr78 _ (by omega)).trans h66
                            have h80 : σ76 (52) = some (lc_aI 222 (N60)) := (fr78 _ (by omega)).trans h59
                            refine lc_iinc (lv' := [(0, .ref (50)), (1, .int (lc_i (1))), (2, .int (lc_i (lc_fnd (lc_fo (lc_sV m 0) f s q k (t + 1))))), (3, .int (lc_i (((k : Nat) : Int)))), (4, .int (lc_i ((k : Int) % 36))), (5, .long (x)), (7, .int (lc_i (((t : Nat) : Int) + 1))), (8, .int (lc_i (-(lc_wth (lc_mvf (f) (s) ((k : Int) % 36) (((t : Nat) : Int))) (3 - (s)))))), (9, .int (lc_i (1)))]) dX11_bestOf_192 6 rfl (by decide) rfl ?_
                            refine lc_goto (tgt := 64) dX11_bestOf_195 (by decide) ?_
                            refine lc_pick (lv' := [(0, .ref (50)), (1, .int (lc_i (1))), (2, .int (lc_i (lc_fnd (lc_fo (lc_sV m 0) f s q k (t + 1))))), (3, .int (lc_i (((k : Nat) : Int)))), (4, .int (lc_i ((k : Int) % 36))), (5, .long (x)), (7, .int (lc_i (((t : Nat) : Int) + 1)))]) [0, 1, 2, 3, 4, 5, 6] rfl ?_
                            refine lc_lveq (lv' := [(0, .ref (50)), (1, .int (lc_i (1))), (2, .int (lc_i (lc_fnd (lc_fo (lc_sV m 0) f s q k (t + 1))))), (3, .int (lc_i (((k : Nat) : Int)))), (4, .int (lc_i ((k : Int) % 36))), (5, .long (x)), (7, .int (lc_i (((t + 1 : Nat) : Int))))]) (by rw [show ((t + 1 : Nat) : Int) = (t : Int) + 1 from by omega]) ?_
                            exact ih40 (t + 1) (x) (y3) (y4) (N60) σ76 h77 h80 (fun i _ _ => ((fr78 i (by omega)).trans ((fr58 i (by omega)).trans ((fr49 i (by omega)).trans (fr44 i (by omega) (by omega)))))) (by omega) (hst) (by omega)
                      · skip
                        refine lc_iload dX11_bestOf_140 7 rfl ?_
                        refine lc_aload_n dX11_bestOf_142 rfl 0 rfl ?_
                        refine lc_get dX11_bestOf_143 lc_fX11_128 h67 rfl ?_
                        refine lc_icmp_le (tgt := 153) dX11_bestOf_146 (by decide) (by omega) (fun h_146_80 => ?_) (fun h_146_80 => ?_)
                        · skip
                          refine lc_iconst dX11_bestOf_153 ?_
                          refine lc_istore (lv' := [(0, .ref (50)), (1, .int (lc_i (1))), (2, .int (lc_i (lc_fnd (lc_fo (lc_sV m 0) f s q k t)))), (3, .int (lc_i (((k : Nat) : Int)))), (4, .int (lc_i ((k : Int) % 36))), (5, .long (x)), (7, .int (lc_i (((t : Nat) : Int)))), (8, .int (lc_i (-(lc_wth (lc_mvf (f) (s) ((k : Int) % 36) (((t : Nat) : Int))) (3 - (s)))))), (9, .int (lc_i (0)))]) dX11_bestOf_154 (by decide) rfl ?_
                          have eW := lc_bst_v (show k < 72 from by omega) (show t < 36 from by omega) ((lc_bs_t hst (by omega)).mp (lc_cmp0.mp h_80_47) : lc_bit f s k t) (show -(lc_wth (lc_mvf (f) (s) ((k : Int) % 36) (((t : Nat) : Int))) (3 - (s))) = -(lc_sV m 0 (lc_mvf f s ((k : Int) % 36) (t : Int)) (3 - s) (lc_mvq f q (t : Int))) from rfl) h_137_72 (by omega)
                          refine lc_iload dX11_bestOf_156 8 rfl ?_
                          refine lc_if_eq (tgt := 172) dX11_bestOf_158 (by decide) (by omega) (fun h_158_81 => ?_) (fun h_158_81 => ?_)
                          · skip
                            refine lc_iload_n dX11_bestOf_172 rfl 2 rfl ?_
                            refine lc_top (congrArg (fun z => Value.int (lc_i z)) (show (lc_fnd (lc_fo (lc_sV m 0) f s q k t) : Int) = lc_fnd (lc_fo (lc_sV m 0) f s q k (t + 1)) from by rw [eW])) ?_
                            refine lc_istore_n (lv' := [(0, .ref (50)), (1, .int (lc_i (1))), (2, .int (lc_i (lc_fnd (lc_fo (lc_sV m 0) f s q k (t + 1))))), (3, .int (lc_i (((k : Nat) : Int)))), (4, .int (lc_i ((k : Int) % 36))), (5, .long (x)), (7, .int (lc_i (((t : Nat) : Int)))), (8, .int (lc_i (-(lc_wth (lc_mvf (f) (s) ((k : Int) % 36) (((t : Nat) : Int))) (3 - (s)))))), (9, .int (lc_i (0)))]) dX11_bestOf_173 rfl (by decide) rfl ?_
                            refine lc_aload_n dX11_bestOf_174 rfl 0 rfl ?_
                            refine lc_iload dX11_bestOf_175 8 rfl ?_
                            refine lc_if_eq (tgt := 185) dX11_bestOf_177 (by decide) (by omega) (fun h_177_82 => ?_) (fun h_177_82 => ?_)
                            · skip
                              refine lc_aload_n dX11_bestOf_185 rfl 0 rfl ?_
                              refine lc_get dX11_bestOf_186 lc_fX11_128 h67 rfl ?_
                              refine lc_top (congrArg (fun z => Value.int (lc_i z)) (show (lc_bst f s (lc_fo (lc_sV m 0) f s q k t) : Int) = lc_bst f s (lc_fo (lc_sV m 0) f s q k (t + 1)) from by rw [eW])) ?_
                              refine lc_wI (vs' := [.ref (51), .ref (52), .ref (53), .ref (54), .ref (55), .int (lc_i (kept)), .ref (56), .int (lc_i (if bs = true then 1 else 0)), .ref (57), .int (lc_i (z)), .int (lc_i (at9)), .int (lc_i (sn)), .int (lc_i (sr)), .int (lc_i (y3)), .int (lc_i (y4)), .int (lc_i (w3)), .int (lc_i (lc_bst f s (lc_fo (lc_sV m 0) f s q k (t + 1))))]) dX11_bestOf_189 lc_fX11_128 h67 (Nat.le_of_ble_eq_true rfl) rfl rfl rfl (fun σ84 h85 fr86 => ?_)
                              have h87 : σ84 (51) = some (lc_aI 222 (N)) := (fr86 _ (by omega)).trans h66
                              have h88 : σ84 (52) = some (lc_aI 222 (N60)) := (fr86 _ (by omega)).trans h59
                              refine lc_iinc (lv' := [(0, .ref (50)), (1, .int (lc_i (1))), (2, .int (lc_i (lc_fnd (lc_fo (lc_sV m 0) f s q k (t + 1))))), (3, .int (lc_i (((k : Nat) : Int)))), (4, .int (lc_i ((k : Int) % 36))), (5, .long (x)), (7, .int (lc_i (((t : Nat) : Int) + 1))), (8, .int (lc_i (-(lc_wth (lc_mvf (f) (s) ((k : Int) % 36) (((t : Nat) : Int))) (3 - (s)))))), (9, .int (lc_i (0)))]) dX11_bestOf_192 6 rfl (by decide) rfl ?_
                              refine lc_goto (tgt := 64) dX11_bestOf_195 (by decide) ?_
                              refine lc_pick (lv' := [(0, .ref (50)), (1, .int (lc_i (1))), (2, .int (lc_i (lc_fnd (lc_fo (lc_sV m 0) f s q k (t + 1))))), (3, .int (lc_i (((k : Nat) : Int)))), (4, .int (lc_i ((k : Int) % 36))), (5, .long (x)), (7, .int (lc_i (((t : Nat) : Int) + 1)))]) [0, 1, 2, 3, 4, 5, 6] rfl ?_
                              refine lc_lveq (lv' := [(0, .ref (50)), (1, .int (lc_i (1))), (2, .int (lc_i (lc_fnd (lc_fo (lc_sV m 0) f s q k (t + 1))))), (3, .int (lc_i (((k : Nat) : Int)))), (4, .int (lc_i ((k : Int) % 36))), (5, .long (x)), (7, .int (lc_i (((t + 1 : Nat) : Int))))]) (by rw [show ((t + 1 : Nat) : Int) = (t : Int) + 1 from by omega]) ?_
                              exact ih40 (t + 1) (x) (y3) (y4) (N60) σ84 h85 h88 (fun i _ _ => ((fr86 i (by omega)).trans ((fr58 i (by omega)).trans ((fr49 i (by omega)).trans (fr44 i (by omega) (by omega)))))) (by omega) (hst) (by omega)
                            · exact absurd h_177_82 (by decide)
                          · exact absurd h_158_81 (by decide)
                        · skip
                          refine lc_iconst dX11_bestOf_149 ?_
                          refine lc_goto (tgt := 154) dX11_bestOf_150 (by decide) ?_
                          refine lc_istore (lv' := [(0, .ref (50)), (1, .int (lc_i (1))), (2, .int (lc_i (lc_fnd (lc_fo (lc_sV m 0) f s q k t)))), (3, .int (lc_i (((k : Nat) : Int)))), (4, .int (lc_i ((k : Int) % 36))), (5, .long (x)), (7, .int (lc_i (((t : Nat) : Int)))), (8, .int (lc_i (-(lc_wth (lc_mvf (f) (s) ((k : Int) % 36) (((t : Nat) : Int))) (3 - (s)))))), (9, .int (lc_i (1)))]) dX11_bestOf_154 (by decide) rfl ?_
                          have eW := lc_bst_u hres (show k < 72 from by omega) (show t < 36 from by omega) ((lc_bs_t hst (by omega)).mp (lc_cmp0.mp h_80_47) : lc_bit f s k t) (show -(lc_wth (lc_mvf (f) (s) ((k : Int) % 36) (((t : Nat) : Int))) (3 - (s))) = -(lc_sV m 0 (lc_mvf f s ((k : Int) % 36) (t : Int)) (3 - s) (lc_mvq f q (t : Int))) from rfl) (Or.inr (by omega))
                          refine lc_iload dX11_bestOf_156 8 rfl ?_
                          refine lc_if_eq (tgt := 172) dX11_bestOf_158 (by decide) (by omega) (fun h_158_88 => ?_) (fun h_158_88 => ?_)
                          · exact absurd h_158_88 (by decide)
                          · skip
                            refine lc_bipush dX11_bestOf_161 (by decide) ?_
                            refine lc_iload dX11_bestOf_163 4 rfl ?_
                            refine lc_imul dX11_bestOf_165 ?_
                            refine lc_iload dX11_bestOf_166 6 rfl ?_
                            refine lc_iadd dX11_bestOf_168 ?_
                            refine lc_goto (tgt := 173) dX11_bestOf_169 (by decide) ?_
                            refine lc_top (congrArg (fun z => Value.int (lc_i z)) (show (((100) * ((k : Int) % 36)) + (((t : Nat) : Int)) : Int) = lc_fnd (lc_fo (lc_sV m 0) f s q k (t + 1)) from by rw [eW.1]; omega)) ?_
                            refine lc_istore_n (lv' := [(0, .ref (50)), (1, .int (lc_i (1))), (2, .int (lc_i (lc_fnd (lc_fo (lc_sV m 0) f s q k (t + 1))))), (3, .int (lc_i (((k : Nat) : Int)))), (4, .int (lc_i ((k : Int) % 36))), (5, .long (x)), (7, .int (lc_i (((t : Nat) : Int)))), (8, .int (lc_i (-(lc_wth (lc_mvf (f) (s) ((k : Int) % 36) (((t : Nat) : Int))) (3 - (s)))))), (9, .int (lc_i (1)))]) dX11_bestOf_173 rfl (by decide) rfl ?_
                            refine lc_aload_n dX11_bestOf_174 rfl 0 rfl ?_
                            refine lc_iload dX11_bestOf_175 8 rfl ?_
                            refine lc_if_eq (tgt := 185) dX11_bestOf_177 (by decide) (by omega) (fun h_177_89 => ?_) (fun h_177_89 => ?_)
                            · exact absurd h_177_89 (by decide)
                            · skip
                              refine lc_iload dX11_bestOf_180 7 rfl ?_
                              refine lc_goto (tgt := 189) dX11_bestOf_182 (by decide) ?_
                              refine lc_top (congrArg (fun z => Value.int (lc_i z)) (show (-(lc_wth (lc_mvf (f) (s) ((k : Int) % 36) (((t : Nat) : Int))) (3 - (s))) : Int) = lc_bst f s (lc_fo (lc_sV m 0) f s q k (t + 1)) from by rw [eW.2])) ?_
                              refine lc_wI (vs' := [.ref (51), .ref (52), .ref (53), .ref (54), .ref (55), .int (lc_i (kept)), .ref (56), .int (lc_i (if bs = true then 1 else 0)), .ref (57), .int (lc_i (z)), .int (lc_i (at9)), .int (lc_i (sn)), .int (lc_i (sr)), .int (lc_i (y3)), .int (lc_i (y4)), .int (lc_i (w3)), .int (lc_i (lc_bst f s (lc_fo (lc_sV m 0) f s q k (t + 1))))]) dX11_bestOf_189 lc_fX11_128 h67 (Nat.le_of_ble_eq_true rfl) rfl rfl rfl (fun σ91 h92 fr93 => ?_)
                              have h94 : σ91 (51) = some (lc_aI 222 (N)) := (fr93 _ (by omega)).trans h66
                              have h95 : σ91 (52) = some (lc_aI 222 (N60)) := (fr93 _ (by omega)).trans h59
                              refine lc_iinc (lv' := [(0, .ref (50)), (1, .int (lc_i (1))), (2, .int (lc_i (lc_fnd (lc_fo (lc_sV m 0) f s q k (t + 1))))), (3, .int (lc_i (((k : Nat) : Int)))), (4, .int (lc_i ((k : Int) % 36))), (5, .long (x)), (7, .int (lc_i (((t : Nat) : Int) + 1))), (8, .int (lc_i (-(lc_wth (lc_mvf (f) (s) ((k : Int) % 36) (((t : Nat) : Int))) (3 - (s)))))), (9, .int (lc_i (1)))]) dX11_bestOf_192 6 rfl (by decide) rfl ?_
                              refine lc_goto (tgt := 64) dX11_bestOf_195 (by decide) ?_
                              refine lc_pick (lv' := [(0, .ref (50)), (1, .int (lc_i (1))), (2, .int (lc_i (lc_fnd (lc_fo (lc_sV m 0) f s q k (t + 1))))), (3, .int (lc_i (((k : Nat) : Int)))), (4, .int (lc_i ((k : Int) % 36))), (5, .long (x)), (7, .int (lc_i (((t : Nat) : Int) + 1)))]) [0, 1, 2, 3, 4, 5, 6] rfl ?_
                              refine lc_lveq (lv' := [(0, .ref (50)), (1, .int (lc_i (1))), (2, .int (lc_i (lc_fnd (lc_fo (lc_sV m 0) f s q k (t + 1))))), (3, .int (lc_i (((k : Nat) : Int)))), (4, .int (lc_i ((k : Int) % 36))), (5, .long (x)), (7, .int (lc_i (((t + 1 : Nat) : Int))))]) (by rw [show ((t + 1 : Nat) : Int) = (t : Int) + 1 from by omega]) ?_
                              exact ih40 (t + 1) (x) (y3) (y4) (N60) σ91 h92 h95 (fun i _ _ => ((fr93 i (by omega)).trans ((fr58 i (by omega)).trans ((fr49 i (by omega)).trans (fr44 i (by omega) (by omega)))))) (by omega) (hst) (by omega)
            exact loop39 1000 (0) (set30) (z26) (z27) (g2) σ34 h29 h37 (fun _ _ _ => rfl) (by omega) (by rw [decide_eq_false (show ¬ (k : Int) < 36 from by omega)]; exact hs31) (by omega)
          · skip
            refine lc_iconst dX11_bestOf_51 ?_
            refine lc_goto (tgt := 56) dX11_bestOf_52 (by decide) ?_
            refine lc_callV (As := [.ref (51), .int (lc_i ((k : Int) % 36)), .int (lc_i (1))]) (stk := []) (b := 50) dX11_bestOf_56 lc_mX11_121 lc_yX11_ends h14 rfl (lc_cX11_ends l n (51) (N) (f) (s) (q) (m) (mo) (ca) (ct) (po) (kept) (bs) (z) (at9) (sn) (sr) (y1) (y2) (w3) (lc_bst f s (lc_fo (lc_sV m 0) f s q k 0)) ((k : Int) % 36) (true) σ13 h14 h18 (by omega) (hf) (hs) (hR) (by omega)) rfl ⟨Nat.le_of_ble_eq_true rfl, Nat.le_of_ble_eq_true rfl⟩ ⟨Nat.le_of_ble_eq_true rfl, Nat.le_of_ble_eq_true rfl⟩ rfl (Nat.le_of_ble_eq_true rfl) (fun v102 n103 σ104 q105 => ?_)
            obtain ⟨set100, z96, z97, rfl, rfl, hs101, h99, fr98⟩ := q105
            have h106 : σ104 (51) = some (lc_aI 222 (N)) := (fr98 _ (by omega)).trans h18
            have h107 : σ104 (52) = some (lc_aI 222 (g2)) := (fr98 _ (by omega)).trans h15
            refine lc_lstore (lv' := [(0, .ref (50)), (1, .int (lc_i (1))), (2, .int (lc_i (lc_fnd (lc_fo (lc_sV m 0) f s q k 0)))), (3, .int (lc_i (((k : Nat) : Int)))), (4, .int (lc_i ((k : Int) % 36))), (5, .long (set100))]) dX11_bestOf_59 (by decide) rfl ?_
            refine lc_iconst dX11_bestOf_61 ?_
            refine lc_istore (lv' := [(0, .ref (50)), (1, .int (lc_i (1))), (2, .int (lc_i (lc_fnd (lc_fo (lc_sV m 0) f s q k 0)))), (3, .int (lc_i (((k : Nat) : Int)))), (4, .int (lc_i ((k : Int) % 36))), (5, .long (set100)), (7, .int (lc_i (0)))]) dX11_bestOf_62 (by decide) rfl ?_
            have loop109 : ∀ (N108 : Nat) (t : Nat) (x : Int64) (y3 : Int) (y4 : Int) (g4 : Int → Int) (σ111 : lc_S), (σ111 (50) = some (.inr (11, [.ref (51), .ref (52), .ref (53), .ref (54), .ref (55), .int (lc_i (kept)), .ref (56), .int (lc_i (if bs = true then 1 else 0)), .ref (57), .int (lc_i (z)), .int (lc_i (at9)), .int (lc_i (sn)), .int (lc_i (sr)), .int (lc_i (y3)), .int (lc_i (y4)), .int (lc_i (w3)), .int (lc_i (lc_bst f s (lc_fo (lc_sV m 0) f s q k t)))]) : lc_Cel)) → (σ111 (52) = some (lc_aI 222 (g4))) → (∀ i : Nat, i ≠ 50 → i ≠ 52 → σ111 i = σ104 i) → (t ≤ 36) → (lc_bs x (fun j : Int => lc_en f s (decide ((k : Int) < 36)) ((k : Int) % 36) j)) → 36 - (t : Int) < (N108 : Int) → lc_V l RX11 cX11_bestOf 10 (some .int) false (lc_Rd 5) (lc_G Q 0 0) lc_E0 0 0 n 64 [(0, .ref (50)), (1, .int (lc_i (1))), (2, .int (lc_i (lc_fnd (lc_fo (lc_sV m 0) f s q k t)))), (3, .int (lc_i (((k : Nat) : Int)))), (4, .int (lc_i ((k : Int) % 36))), (5, .long (x)), (7, .int (lc_i (((t : Nat) : Int))))] [] σ111 := by
              intro N108
              induction N108 with
              | zero =>
                intro t x y3 y4 g4 σ111 h112 h113 fr114 ht hst hm115
                exact absurd hm115 (by omega)
              | succ N108 ih110 =>
                intro t x y3 y4 g4 σ111 h112 h113 fr114 ht hst hm115
                have h116 : σ111 (51) = some (lc_aI 222 (N)) := (fr114 _ (by omega) (by omega)).trans h106
                have hrg := lc_fo_rr (f := f) (s := s) (d := 0) (k := k) (t := t) hres (by omega) ht
                refine lc_iload dX11_bestOf_64 6 rfl ?_
                refine lc_bipush dX11_bestOf_66 (by decide) ?_
                refine lc_icmp_ge (tgt := 198) dX11_bestOf_68 (by decide) (by omega) (fun h_68_116 => ?_) (fun h_68_116 => ?_)
                · skip
                  refine lc_iinc (lv' := [(0, .ref (50)), (1, .int (lc_i (1))), (2, .int (lc_i (lc_fnd (lc_fo (lc_sV m 0) f s q k t)))), (3, .int (lc_i (((k : Nat) : Int) + 1))), (4, .int (lc_i ((k : Int) % 36))), (5, .long (x)), (7, .int (lc_i (((t : Nat) : Int))))]) dX11_bestOf_198 3 rfl (by decide) rfl ?_
                  refine lc_goto (tgt := 16) dX11_bestOf_201 (by decide) ?_
                  refine lc_pick (lv' := [(0, .ref (50)), (1, .int (lc_i (1))), (2, .int (lc_i (lc_fnd (lc_fo (lc_sV m 0) f s q k t)))), (3, .int (lc_i (((k : Nat) : Int) + 1)))]) [0, 1, 2, 3] rfl ?_
                  refine lc_lveq (lv' := [(0, .ref (50)), (1, .int (lc_i (1))), (2, .int (lc_i (lc_fnd (lc_fo (lc_sV m 0) f s q (k + 1) 0)))), (3, .int (lc_i (((k + 1 : Nat) : Int))))]) (by rw [show ((k + 1 : Nat) : Int) = (k : Int) + 1 from by omega, show lc_fnd (lc_fo (lc_sV m 0) f s q k t) = lc_fnd (lc_fo (lc_sV m 0) f s q (k + 1) 0) from by rw [show t = 36 from by omega, lc_fo_36]]) ?_
                  exact ih12 (k + 1) (y3) (y4) (g4) σ111 (by rw [← lc_fo_36, ← show t = 36 from by omega]; exact h112) h113 (fun i _ _ => ((fr114 i (by omega) (by omega)).trans ((fr98 i (by omega)).trans (fr16 i (by omega) (by omega))))) (by omega) (fun q9 => absurd hres q9) (by omega)
                · skip
                  refine lc_lload dX11_bestOf_71 5 rfl ?_
                  refine lc_iload dX11_bestOf_73 6 rfl ?_
                  refine lc_lshr dX11_bestOf_75 rfl ?_
                  refine lc_lconst (x := 1) dX11_bestOf_76 (by decide) ?_
                  refine lc_land dX11_bestOf_77 ?_
                  refine lc_lconst (x := 1) dX11_bestOf_78 (by decide) ?_
                  refine lc_lcmp dX11_bestOf_79 ?_
                  refine lc_if_neR (tgt := 192) dX11_bestOf_80 (by decide) (fun h_80_117 => ?_) (fun h_80_117 => ?_)
                  · skip
                    refine lc_iinc (lv' := [(0, .ref (50)), (1, .int (lc_i (1))), (2, .int (lc_i (lc_fnd (lc_fo (lc_sV m 0) f s q k t)))), (3, .int (lc_i (((k : Nat) : Int)))), (4, .int (lc_i ((k : Int) % 36))), (5, .long (x)), (7, .int (lc_i (((t : Nat) : Int) + 1)))]) dX11_bestOf_192 6 rfl (by decide) rfl ?_
                    refine lc_goto (tgt := 64) dX11_bestOf_195 (by decide) ?_
                    refine lc_lveq (lv' := [(0, .ref (50)), (1, .int (lc_i (1))), (2, .int (lc_i (lc_fnd (lc_fo (lc_sV m 0) f s q k (t + 1))))), (3, .int (lc_i (((k : Nat) : Int)))), (4, .int (lc_i ((k : Int) % 36))), (5, .long (x)), (7, .int (lc_i (((t + 1 : Nat) : Int))))]) (by rw [show ((t + 1 : Nat) : Int) = (t : Int) + 1 from by omega, lc_fo_n (V := lc_sV m 0) (q := q) (show k < 72 from by omega) (fun q9 : lc_bit f s k t => h_80_117 (lc_cmp0.mpr ((lc_bs_t hst (by omega)).mpr q9)))]) ?_
                    exact ih110 (t + 1) (x) (y3) (y4) (g4) σ111 (by rw [lc_fo_n (V := lc_sV m 0) (q := q) (show k < 72 from by omega) (fun q9 : lc_bit f s k t => h_80_117 (lc_cmp0.mpr ((lc_bs_t hst (by omega)).mpr q9)))]; exact h112) h113 (fun i _ _ => (fr114 i (by omega) (by omega))) (by omega) (hst) (by omega)
                  · skip
                    have hbr := lc_bit_r hf hs (show k < 72 from by omega) (show t < 36 from by omega) ((lc_bs_t hst (by omega)).mp (lc_cmp0.mp h_80_117) : lc_bit f s k t)
                    refine lc_aload_n dX11_bestOf_83 rfl 0 rfl ?_
                    refine lc_get dX11_bestOf_84 lc_fX11_7 h112 rfl ?_
                    refine lc_iconst dX11_bestOf_87 ?_
                    refine lc_aload_n dX11_bestOf_88 rfl 0 rfl ?_
                    refine lc_get dX11_bestOf_89 lc_fX11_13 h112 rfl ?_
                    refine lc_iconst dX11_bestOf_92 ?_
                    refine lc_callS (As := [.ref (51), .int (lc_i (0)), .ref (52), .int (lc_i (0))]) (stk := []) dX11_bestOf_93 lc_mX11_48 lc_yX11_copies (lc_cX11_copies l n (51) (52) (222) (222) (N) (g4) (0) (0) σ111 h116 h113 (by omega) (by omega) (by omega) (by omega)) rfl ⟨Nat.le_of_ble_eq_true rfl, Nat.le_of_ble_eq_true rfl⟩ ⟨Nat.le_of_ble_eq_true rfl, Nat.le_of_ble_eq_true rfl⟩ rfl (Nat.le_of_ble_eq_true rfl) (fun v121 n122 σ123 q124 => ?_)
                    obtain ⟨rfl, rfl, h120, fr119⟩ := q124
                    have h125 : σ123 (51) = some (lc_aI 222 (N)) := (fr119 _ (by omega)).trans h116
                    have h126 : σ123 (50) = some (.inr (11, [.ref (51), .ref (52), .ref (53), .ref (54), .ref (55), .int (lc_i (kept)), .ref (56), .int (lc_i (if bs = true then 1 else 0)), .ref (57), .int (lc_i (z)), .int (lc_i (at9)), .int (lc_i (sn)), .int (lc_i (sr)), .int (lc_i (y3)), .int (lc_i (y4)), .int (lc_i (w3)), .int (lc_i (lc_bst f s (lc_fo (lc_sV m 0) f s q k t)))]) : lc_Cel) := (fr119 _ (by omega)).trans h112
                    have hR127 := lc_RM_c (N' := g4) hR (show ct ≤ 60 from by omega)
                    refine lc_aload_n dX11_bestOf_96 rfl 0 rfl ?_
                    refine lc_get dX11_bestOf_97 lc_fX11_13 h126 rfl ?_
                    refine lc_iload dX11_bestOf_100 4 rfl ?_
                    refine lc_iload dX11_bestOf_102 6 rfl ?_
                    refine lc_callS (As := [.ref (52), .int (lc_i ((k : Int) % 36)), .int (lc_i (((t : Nat) : Int)))]) (stk := []) dX11_bestOf_104 lc_mX11_113 lc_yX11_makes (lc_cX11_makes l n (52) (lc_cpy (N) (0) (g4) (0)) (f) (s) (q) (m) (mo) (ca) (ct) (po) ((k : Int) % 36) (((t : Nat) : Int)) σ123 h120 (hf) (hs) (hct) (hR127) (by omega) (by omega) (hbr.1)) rfl ⟨Nat.le_of_ble_eq_true rfl, Nat.le_of_ble_eq_true rfl⟩ ⟨Nat.le_of_ble_eq_true rfl, Nat.le_of_ble_eq_true rfl⟩ rfl (Nat.le_of_ble_eq_true rfl) (fun v132 n133 σ134 q135 => ?_)
                    obtain ⟨N130, rfl, rfl, h129, hR131, fr128⟩ := q135
                    have h136 : σ134 (51) = some (lc_aI 222 (N)) := (fr128 _ (by omega)).trans h125
                    have h137 : σ134 (50) = some (.inr (11, [.ref (51), .ref (52), .ref (53), .ref (54), .ref (55), .int (lc_i (kept)), .ref (56), .int (lc_i (if bs = true then 1 else 0)), .ref (57), .int (lc_i (z)), .int (lc_i (at9)), .int (lc_i (sn)), .int (lc_i (sr)), .int (lc_i (y3)), .int (lc_i (y4)), .int (lc_i (w3)), .int (lc_i (lc_bst f s (lc_fo (lc_sV m 0) f s q k t)))]) : lc_Cel) := (fr128 _ (by omega)).trans h126
                    have hfm := lc_mvf_ok (x := (k : Int) % 36) (y := (t : Int)) hf hs
                    have hwm := lc_wth_r (lc_mvf f s ((k : Int) % 36) (t : Int)) (3 - s)
                    have hsm := lc_sv_r m 1 (lc_mvf f s ((k : Int) % 36) (t : Int)) (3 - s) (lc_mvq f q (t : Int))
                    have hqm := lc_mvq_r (f := f) (y := (t : Int)) hq
                    refine lc_iload_n dX11_bestOf_107 rfl 1 rfl ?_
                    refine lc_iconst dX11_bestOf_108 ?_
                    refine lc_icmp_ne (tgt := 123) dX11_bestOf_109 (by decide) (by omega) (fun h_109_137 => ?_) (fun h_109_137 => ?_)
                    · exact absurd rfl h_109_137
                    · skip
                      refine lc_aload_n dX11_bestOf_112 rfl 0 rfl ?_
                      refine lc_get dX11_bestOf_113 lc_fX11_13 h137 rfl ?_
                      refine lc_callS (As := [.ref (52)]) (stk := []) dX11_bestOf_116 lc_mX11_125 lc_yX11_worth (lc_cX11_worth l n (52) (N130) (lc_mvf (f) (s) ((k : Int) % 36) (((t : Nat) : Int))) (3 - (s)) (lc_mvq (f) (q) (((t : Nat) : Int))) (m) ((mo) + 1) (lc_mvc (f) (ca) (((t : Nat) : Int))) (lc_mvt (f) (ct) (((t : Nat) : Int))) (lc_mvp (f) (s) ((k : Int) % 36) (((t : Nat) : Int)) (ct) (po)) σ134 h129 (hfm) (by omega) (hR131)) rfl ⟨Nat.le_of_ble_eq_true rfl, Nat.le_of_ble_eq_true rfl⟩ ⟨Nat.le_of_ble_eq_true rfl, Nat.le_of_ble_eq_true rfl⟩ rfl (Nat.le_of_ble_eq_true rfl) (fun v139 n140 σ141 q142 => ?_)
                      obtain ⟨rfl, rfl, rfl⟩ := q142
                      refine lc_ineg dX11_bestOf_119 ?_
                      refine lc_goto (tgt := 132) dX11_bestOf_120 (by decide) ?_
                      refine lc_istore (lv' := [(0, .ref (50)), (1, .int (lc_i (1))), (2, .int (lc_i (lc_fnd (lc_fo (lc_sV m 0) f s q k t)))), (3, .int (lc_i (((k : Nat) : Int)))), (4, .int (lc_i ((k : Int) % 36))), (5, .long (x)), (7, .int (lc_i (((t : Nat) : Int)))), (8, .int (lc_i (-(lc_wth (lc_mvf (f) (s) ((k : Int) % 36) (((t : Nat) : Int))) (3 - (s))))))]) dX11_bestOf_132 (by decide) rfl ?_
                      refine lc_iload_n dX11_bestOf_134 rfl 2 rfl ?_
                      refine lc_bipush dX11_bestOf_135 (by decide) ?_
                      refine lc_icmp_eq (tgt := 149) dX11_bestOf_137 (by decide) (by omega) (fun h_137_142 => ?_) (fun h_137_142 => ?_)
                      · skip
                        refine lc_iconst dX11_bestOf_149 ?_
                        refine lc_goto (tgt := 154) dX11_bestOf_150 (by decide) ?_
                        refine lc_istore (lv' := [(0, .ref (50)), (1, .int (lc_i (1))), (2, .int (lc_i (lc_fnd (lc_fo (lc_sV m 0) f s q k t)))), (3, .int (lc_i (((k : Nat) : Int)))), (4, .int (lc_i ((k : Int) % 36))), (5, .long (x)), (7, .int (lc_i (((t : Nat) : Int)))), (8, .int (lc_i (-(lc_wth (lc_mvf (f) (s) ((k : Int) % 36) (((t : Nat) : Int))) (3 - (s)))))), (9, .int (lc_i (1)))]) dX11_bestOf_154 (by decide) rfl ?_
                        have eW := lc_bst_u hres (show k < 72 from by omega) (show t < 36 from by omega) ((lc_bs_t hst (by omega)).mp (lc_cmp0.mp h_80_117) : lc_bit f s k t) (show -(lc_wth (lc_mvf (f) (s) ((k : Int) % 36) (((t : Nat) : Int))) (3 - (s))) = -(lc_sV m 0 (lc_mvf f s ((k : Int) % 36) (t : Int)) (3 - s) (lc_mvq f q (t : Int))) from rfl) (Or.inl h_137_142)
                        refine lc_iload dX11_bestOf_156 8 rfl ?_
                        refine lc_if_eq (tgt := 172) dX11_bestOf_158 (by decide) (by omega) (fun h_158_143 => ?_) (fun h_158_143 => ?_)
                        · exact absurd h_158_143 (by decide)
                        · skip
                          refine lc_bipush dX11_bestOf_161 (by decide) ?_
                          refine lc_iload dX11_bestOf_163 4 rfl ?_
                          refine lc_imul dX11_bestOf_165 ?_
                          refine lc_iload dX11_bestOf_166 6 rfl ?_
                          refine lc_iadd dX11_bestOf_168 ?_
                          refine lc_goto (tgt := 173) dX11_bestOf_169 (by decide) ?_
                          refine lc_top (congrArg (fun z => Value.int (lc_i z)) (show (((100) * ((k : Int) % 36)) + (((t : Nat) : Int)) : Int) = lc_fnd (lc_fo (lc_sV m 0) f s q k (t + 1)) from by rw [eW.1]; omega)) ?_
                          refine lc_istore_n (lv' := [(0, .ref (50)), (1, .int (lc_i (1))), (2, .int (lc_i (lc_fnd (lc_fo (lc_sV m 0) f s q k (t + 1))))), (3, .int (lc_i (((k : Nat) : Int)))), (4, .int (lc_i ((k : Int) % 36))), (5, .long (x)), (7, .int (lc_i (((t : Nat) : Int)))), (8, .int (lc_i (-(lc_wth (lc_mvf (f) (s) ((k : Int) % 36) (((t : Nat) : Int))) (3 - (s)))))), (9, .int (lc_i (1)))]) dX11_bestOf_173 rfl (by decide) rfl ?_
                          refine lc_aload_n dX11_bestOf_174 rfl 0 rfl ?_
                          refine lc_iload dX11_bestOf_175 8 rfl ?_
                          refine lc_if_eq (tgt := 185) dX11_bestOf_177 (by decide) (by omega) (fun h_177_144 => ?_) (fun h_177_144 => ?_)
                          · exact absurd h_177_144 (by decide)
                          · skip
                            refine lc_iload dX11_bestOf_180 7 rfl ?_
                            refine lc_goto (tgt := 189) dX11_bestOf_182 (by decide) ?_
                            refine lc_top (congrArg (fun z => Value.int (lc_i z)) (show (-(lc_wth (lc_mvf (f) (s) ((k : Int) % 36) (((t : Nat) : Int))) (3 - (s))) : Int) = lc_bst f s (lc_fo (lc_sV m 0) f s q k (t + 1)) from by rw [eW.2])) ?_
                            refine lc_wI (vs' := [.ref (51), .ref (52), .ref (53), .ref (54), .ref (55), .int (lc_i (kept)), .ref (56), .int (lc_i (if bs = true then 1 else 0)), .ref (57), .int (lc_i (z)), .int (lc_i (at9)), .int (lc_i (sn)), .int (lc_i (sr)), .int (lc_i (y3)), .int (lc_i (y4)), .int (lc_i (w3)), .int (lc_i (lc_bst f s (lc_fo (lc_sV m 0) f s q k (t + 1))))]) dX11_bestOf_189 lc_fX11_128 h137 (Nat.le_of_ble_eq_true rfl) rfl rfl rfl (fun σ146 h147 fr148 => ?_)
                            have h149 : σ146 (51) = some (lc_aI 222 (N)) := (fr148 _ (by omega)).trans h136
                            have h150 : σ146 (52) = some (lc_aI 222 (N130)) := (fr148 _ (by omega)).trans h129
                            refine lc_iinc (lv' := [(0, .ref (50)), (1, .int (lc_i (1))), (2, .int (lc_i (lc_fnd (lc_fo (lc_sV m 0) f s q k (t + 1))))), (3, .int (lc_i (((k : Nat) : Int)))), (4, .int (lc_i ((k : Int) % 36))), (5, .long (x)), (7, .int (lc_i (((t : Nat) : Int) + 1))), (8, .int (lc_i (-(lc_wth (lc_mvf (f) (s) ((k : Int) % 36) (((t : Nat) : Int))) (3 - (s)))))), (9, .int (lc_i (1)))]) dX11_bestOf_192 6 rfl (by decide) rfl ?_
                            refine lc_goto (tgt := 64) dX11_bestOf_195 (by decide) ?_
                            refine lc_pick (lv' := [(0, .ref (50)), (1, .int (lc_i (1))), (2, .int (lc_i (lc_fnd (lc_fo (lc_sV m 0) f s q k (t + 1))))), (3, .int (lc_i (((k : Nat) : Int)))), (4, .int (lc_i ((k : Int) % 36))), (5, .long (x)), (7, .int (lc_i (((t : Nat) : Int) + 1)))]) [0, 1, 2, 3, 4, 5, 6] rfl ?_
                            refine lc_lveq (lv' := [(0, .ref (50)), (1, .int (lc_i (1))), (2, .int (lc_i (lc_fnd (lc_fo (lc_sV m 0) f s q k (t + 1))))), (3, .int (lc_i (((k : Nat) : Int)))), (4, .int (lc_i ((k : Int) % 36))), (5, .long (x)), (7, .int (lc_i (((t + 1 : Nat) : Int))))]) (by rw [show ((t + 1 : Nat) : Int) = (t : Int) + 1 from by omega]) ?_
                            exact ih110 (t + 1) (x) (y3) (y4) (N130) σ146 h147 h150 (fun i _ _ => ((fr148 i (by omega)).trans ((fr128 i (by omega)).trans ((fr119 i (by omega)).trans (fr114 i (by omega) (by omega)))))) (by omega) (hst) (by omega)
                      · skip
                        refine lc_iload dX11_bestOf_140 7 rfl ?_
                        refine lc_aload_n dX11_bestOf_142 rfl 0 rfl ?_
                        refine lc_get dX11_bestOf_143 lc_fX11_128 h137 rfl ?_
                        refine lc_icmp_le (tgt := 153) dX11_bestOf_146 (by decide) (by omega) (fun h_146_150 => ?_) (fun h_146_150 => ?_)
                        · skip
                          refine lc_iconst dX11_bestOf_153 ?_
                          refine lc_istore (lv' := [(0, .ref (50)), (1, .int (lc_i (1))), (2, .int (lc_i (lc_fnd (lc_fo (lc_sV m 0) f s q k t)))), (3, .int (lc_i (((k : Nat) : Int)))), (4, .int (lc_i ((k : Int) % 36))), (5, .long (x)), (7, .int (lc_i (((t : Nat) : Int)))), (8, .int (lc_i (-(lc_wth (lc_mvf (f) (s) ((k : Int) % 36) (((t : Nat) : Int))) (3 - (s)))))), (9, .int (lc_i (0)))]) dX11_bestOf_154 (by decide) rfl ?_
                          have eW := lc_bst_v (show k < 72 from by omega) (show t < 36 from by omega) ((lc_bs_t hst (by omega)).mp (lc_cmp0.mp h_80_117) : lc_bit f s k t) (show -(lc_wth (lc_mvf (f) (s) ((k : Int) % 36) (((t : Nat) : Int))) (3 - (s))) = -(lc_sV m 0 (lc_mvf f s ((k : Int) % 36) (t : Int)) (3 - s) (lc_mvq f q (t : Int))) from rfl) h_137_142 (by omega)
                          refine lc_iload dX11_bestOf_156 8 rfl ?_
                          refine lc_if_eq (tgt := 172) dX11_bestOf_158 (by decide) (by omega) (fun h_158_151 => ?_) (fun h_158_151 => ?_)
                          · skip
                            refine lc_iload_n dX11_bestOf_172 rfl 2 rfl ?_
                            refine lc_top (congrArg (fun z => Value.int (lc_i z)) (show (lc_fnd (lc_fo (lc_sV m 0) f s q k t) : Int) = lc_fnd (lc_fo (lc_sV m 0) f s q k (t + 1)) from by rw [eW])) ?_
                            refine lc_istore_n (lv' := [(0, .ref (50)), (1, .int (lc_i (1))), (2, .int (lc_i (lc_fnd (lc_fo (lc_sV m 0) f s q k (t + 1))))), (3, .int (lc_i (((k : Nat) : Int)))), (4, .int (lc_i ((k : Int) % 36))), (5, .long (x)), (7, .int (lc_i (((t : Nat) : Int)))), (8, .int (lc_i (-(lc_wth (lc_mvf (f) (s) ((k : Int) % 36) (((t : Nat) : Int))) (3 - (s)))))), (9, .int (lc_i (0)))]) dX11_bestOf_173 rfl (by decide) rfl ?_
                            refine lc_aload_n dX11_bestOf_174 rfl 0 rfl ?_
                            refine lc_iload dX11_bestOf_175 8 rfl ?_
                            refine lc_if_eq (tgt := 185) dX11_bestOf_177 (by decide) (by omega) (fun h_177_152 => ?_) (fun h_177_152 => ?_)
                            · skip
                              refine lc_aload_n dX11_bestOf_185 rfl 0 rfl ?_
                              refine lc_get dX11_bestOf_186 lc_fX11_128 h137 rfl ?_
                              refine lc_top (congrArg (fun z => Value.int (lc_i z)) (show (lc_bst f s (lc_fo (lc_sV m 0) f s q k t) : Int) = lc_bst f s (lc_fo (lc_sV m 0) f s q k (t + 1)) from by rw [eW])) ?_
                              refine lc_wI (vs' := [.ref (51), .ref (52), .ref (53), .ref (54), .ref (55), .int (lc_i (kept)), .ref (56), .int (lc_i (if bs = true then 1 else 0)), .ref (57), .int (lc_i (z)), .int (lc_i (at9)), .int (lc_i (sn)), .int (lc_i (sr)), .int (lc_i (y3)), .int (lc_i (y4)), .int (lc_i (w3)), .int (lc_i (lc_bst f s (lc_fo (lc_sV m 0) f s q k (t + 1))))]) dX11_bestOf_189 lc_fX11_128 h137 (Nat.le_of_ble_eq_true rfl) rfl rfl rfl (fun σ154 h155 fr156 => ?_)
                              have h157 : σ154 (51) = some (lc_aI 222 (N)) := (fr156 _ (by omega)).trans h136
                              have h158 : σ154 (52) = some (lc_aI 222 (N130)) := (fr156 _ (by omega)).trans h129
                              refine lc_iinc (lv' := [(0, .ref (50)), (1, .int (lc_i (1))), (2, .int (lc_i (lc_fnd (lc_fo (lc_sV m 0) f s q k (t + 1))))), (3, .int (lc_i (((k : Nat) : Int)))), (4, .int (lc_i ((k : Int) % 36))), (5, .long (x)), (7, .int (lc_i (((t : Nat) : Int) + 1))), (8, .int (lc_i (-(lc_wth (lc_mvf (f) (s) ((k : Int) % 36) (((t : Nat) : Int))) (3 - (s)))))), (9, .int (lc_i (0)))]) dX11_bestOf_192 6 rfl (by decide) rfl ?_
                              refine lc_goto (tgt := 64) dX11_bestOf_195 (by decide) ?_
                              refine lc_pick (lv' := [(0, .ref (50)), (1, .int (lc_i (1))), (2, .int (lc_i (lc_fnd (lc_fo (lc_sV m 0) f s q k (t + 1))))), (3, .int (lc_i (((k : Nat) : Int)))), (4, .int (lc_i ((k : Int) % 36))), (5, .long (x)), (7, .int (lc_i (((t : Nat) : Int) + 1)))]) [0, 1, 2, 3, 4, 5, 6] rfl ?_
                              refine lc_lveq (lv' := [(0, .ref (50)), (1, .int (lc_i (1))), (2, .int (lc_i (lc_fnd (lc_fo (lc_sV m 0) f s q k (t + 1))))), (3, .int (lc_i (((k : Nat) : Int)))), (4, .int (lc_i ((k : Int) % 36))), (5, .long (x)), (7, .int (lc_i (((t + 1 : Nat) : Int))))]) (by rw [show ((t + 1 : Nat) : Int) = (t : Int) + 1 from by omega]) ?_
                              exact ih110 (t + 1) (x) (y3) (y4) (N130) σ154 h155 h158 (fun i _ _ => ((fr156 i (by omega)).trans ((fr128 i (by omega)).trans ((fr119 i (by omega)).trans (fr114 i (by omega) (by omega)))))) (by omega) (hst) (by omega)
                            · exact absurd h_177_152 (by decide)
                          · exact absurd h_158_151 (by decide)
                        · skip
                          refine lc_iconst dX11_bestOf_149 ?_
                          refine lc_goto (tgt := 154) dX11_bestOf_150 (by decide) ?_
                          refine lc_istore (lv' := [(0, .ref (50)), (1, .int (lc_i (1))), (2, .int (lc_i (lc_fnd (lc_fo (lc_sV m 0) f s q k t)))), (3, .int (lc_i (((k : Nat) : Int)))), (4, .int (lc_i ((k : Int) % 36))), (5, .long (x)), (7, .int (lc_i (((t : Nat) : Int)))), (8, .int (lc_i (-(lc_wth (lc_mvf (f) (s) ((k : Int) % 36) (((t : Nat) : Int))) (3 - (s)))))), (9, .int (lc_i (1)))]) dX11_bestOf_154 (by decide) rfl ?_
                          have eW := lc_bst_u hres (show k < 72 from by omega) (show t < 36 from by omega) ((lc_bs_t hst (by omega)).mp (lc_cmp0.mp h_80_117) : lc_bit f s k t) (show -(lc_wth (lc_mvf (f) (s) ((k : Int) % 36) (((t : Nat) : Int))) (3 - (s))) = -(lc_sV m 0 (lc_mvf f s ((k : Int) % 36) (t : Int)) (3 - s) (lc_mvq f q (t : Int))) from rfl) (Or.inr (by omega))
                          refine lc_iload dX11_bestOf_156 8 rfl ?_
                          refine lc_if_eq (tgt := 172) dX11_bestOf_158 (by decide) (by omega) (fun h_158_158 => ?_) (fun h_158_158 => ?_)
                          · exact absurd h_158_158 (by decide)
                          · skip
                            refine lc_bipush dX11_bestOf_161 (by decide) ?_
                            refine lc_iload dX11_bestOf_163 4 rfl ?_
                            refine lc_imul dX11_bestOf_165 ?_
                            refine lc_iload dX11_bestOf_166 6 rfl ?_
                            refine lc_iadd dX11_bestOf_168 ?_
                            refine lc_goto (tgt := 173) dX11_bestOf_169 (by decide) ?_
                            refine lc_top (congrArg (fun z => Value.int (lc_i z)) (show (((100) * ((k : Int) % 36)) + (((t : Nat) : Int)) : Int) = lc_fnd (lc_fo (lc_sV m 0) f s q k (t + 1)) from by rw [eW.1]; omega)) ?_
                            refine lc_istore_n (lv' := [(0, .ref (50)), (1, .int (lc_i (1))), (2, .int (lc_i (lc_fnd (lc_fo (lc_sV m 0) f s q k (t + 1))))), (3, .int (lc_i (((k : Nat) : Int)))), (4, .int (lc_i ((k : Int) % 36))), (5, .long (x)), (7, .int (lc_i (((t : Nat) : Int)))), (8, .int (lc_i (-(lc_wth (lc_mvf (f) (s) ((k : Int) % 36) (((t : Nat) : Int))) (3 - (s)))))), (9, .int (lc_i (1)))]) dX11_bestOf_173 rfl (by decide) rfl ?_
                            refine lc_aload_n dX11_bestOf_174 rfl 0 rfl ?_
                            refine lc_iload dX11_bestOf_175 8 rfl ?_
                            refine lc_if_eq (tgt := 185) dX11_bestOf_177 (by decide) (by omega) (fun h_177_159 => ?_) (fun h_177_159 => ?_)
                            · exact absurd h_177_159 (by decide)
                            · skip
                              refine lc_iload dX11_bestOf_180 7 rfl ?_
                              refine lc_goto (tgt := 189) dX11_bestOf_182 (by decide) ?_
                              refine lc_top (congrArg (fun z => Value.int (lc_i z)) (show (-(lc_wth (lc_mvf (f) (s) ((k : Int) % 36) (((t : Nat) : Int))) (3 - (s))) : Int) = lc_bst f s (lc_fo (lc_sV m 0) f s q k (t + 1)) from by rw [eW.2])) ?_
                              refine lc_wI (vs' := [.ref (51), .ref (52), .ref (53), .ref (54), .ref (55), .int (lc_i (kept)), .ref (56), .int (lc_i (if bs = true then 1 else 0)), .ref (57), .int (lc_i (z)), .int (lc_i (at9)), .int (lc_i (sn)), .int (lc_i (sr)), .int (lc_i (y3)), .int (lc_i (y4)), .int (lc_i (w3)), .int (lc_i (lc_bst f s (lc_fo (lc_sV m 0) f s q k (t + 1))))]) dX11_bestOf_189 lc_fX11_128 h137 (Nat.le_of_ble_eq_true rfl) rfl rfl rfl (fun σ161 h162 fr163 => ?_)
                              have h164 : σ161 (51) = some (lc_aI 222 (N)) := (fr163 _ (by omega)).trans h136
                              have h165 : σ161 (52) = some (lc_aI 222 (N130)) := (fr163 _ (by omega)).trans h129
                              refine lc_iinc (lv' := [(0, .ref (50)), (1, .int (lc_i (1))), (2, .int (lc_i (lc_fnd (lc_fo (lc_sV m 0) f s q k (t + 1))))), (3, .int (lc_i (((k : Nat) : Int)))), (4, .int (lc_i ((k : Int) % 36))), (5, .long (x)), (7, .int (lc_i (((t : Nat) : Int) + 1))), (8, .int (lc_i (-(lc_wth (lc_mvf (f) (s) ((k : Int) % 36) (((t : Nat) : Int))) (3 - (s)))))), (9, .int (lc_i (1)))]) dX11_bestOf_192 6 rfl (by decide) rfl ?_
                              refine lc_goto (tgt := 64) dX11_bestOf_195 (by decide) ?_
                              refine lc_pick (lv' := [(0, .ref (50)), (1, .int (lc_i (1))), (2, .int (lc_i (lc_fnd (lc_fo (lc_sV m 0) f s q k (t + 1))))), (3, .int (lc_i (((k : Nat) : Int)))), (4, .int (lc_i ((k : Int) % 36))), (5, .long (x)), (7, .int (lc_i (((t : Nat) : Int) + 1)))]) [0, 1, 2, 3, 4, 5, 6] rfl ?_
                              refine lc_lveq (lv' := [(0, .ref (50)), (1, .int (lc_i (1))), (2, .int (lc_i (lc_fnd (lc_fo (lc_sV m 0) f s q k (t + 1))))), (3, .int (lc_i (((k : Nat) : Int)))), (4, .int (lc_i ((k : Int) % 36))), (5, .long (x)), (7, .int (lc_i (((t + 1 : Nat) : Int))))]) (by rw [show ((t + 1 : Nat) : Int) = (t : Int) + 1 from by omega]) ?_
                              exact ih110 (t + 1) (x) (y3) (y4) (N130) σ161 h162 h165 (fun i _ _ => ((fr163 i (by omega)).trans ((fr128 i (by omega)).trans ((fr119 i (by omega)).trans (fr114 i (by omega) (by omega)))))) (by omega) (hst) (by omega)
            exact loop109 1000 (0) (set100) (z96) (z97) (g2) σ104 h99 h107 (fun _ _ _ => rfl) (by omega) (by rw [decide_eq_true (show (k : Int) < 36 from by omega)]; exact hs101) (by omega)
  exact loop11 1000 (0) (w1) (w2) (N2) σ5 h6 h9 (fun _ _ _ => rfl) (by omega) (fun _ => rfl) (by omega)

set_option maxRecDepth 100000 in
set_option maxHeartbeats 600000 in
theorem lc_cX11_bestOf_2 (l : Launch) (n : Nat) (N : Int → Int) (f : Int → Int) (s q m mo ca ct : Int) (po : Int → Int) (kept : Int) (bs : Bool) (z at9 sn sr w1 w2 w3 bw : Int) (N2 : Int → Int) (σ : lc_S) (h0_0 : σ (50) = some (.inr (11, [.ref (51), .ref (52), .ref (53), .ref (54), .ref (55), .int (lc_i (kept)), .ref (56), .int (lc_i (if bs = true then 1 else 0)), .ref (57), .int (lc_i (z)), .int (lc_i (at9)), .int (lc_i (sn)), .int (lc_i (sr)), .int (lc_i (w1)), .int (lc_i (w2)), .int (lc_i (w3)), .int (lc_i (bw))]) : lc_Cel)) (h0_1 : σ (51) = some (lc_aI 222 (N))) (h0_2 : σ (52) = some (lc_aI 222 (N2))) (hf : ∀ j : Int, 0 ≤ j → j < 36 → 0 ≤ f j ∧ f j ≤ 2) (hs : 1 ≤ s ∧ s ≤ 2) (hct : 0 ≤ ct ∧ ct ≤ 60) (hq : 0 ≤ q ∧ q ≤ 60) (hm : 0 ≤ m ∧ m ≤ 60) (hR : lc_RM N (f, s, q, m, mo, ca, ct, po)) : lc_Con l yX11_bestOf cX11_bestOf 10 (some .int) (lc_Rd 5) [.ref (50), .int (lc_i (2))] n σ (fun v n2 σ2 => ∃ (z1 z2 : Int) (g2 : Int → Int), v = some (.int (lc_i (lc_fnd (lc_sv m 2 f s q)))) ∧ n = n2 ∧ σ2 (50) = some (.inr (11, [.ref (51), .ref (52), .ref (53), .ref (54), .ref (55), .int (lc_i (kept)), .ref (56), .int (lc_i (if bs = true then 1 else 0)), .ref (57), .int (lc_i (z)), .int (lc_i (at9)), .int (lc_i (sn)), .int (lc_i (sr)), .int (lc_i (z1)), .int (lc_i (z2)), .int (lc_i (w3)), .int (lc_i ((lc_sv m 2 f s q).1))]) : lc_Cel) ∧ σ2 (52) = some (lc_aI 222 (g2)) ∧ ∀ i : Nat, i ≠ 50 → i ≠ 52 → σ2 i = σ i) := by
  obtain ⟨h0R, h1R, h2R, h3R, h4R, h5R, h6R, h7R⟩ := id hR
  have h0R : N 0 = s := h0R
  have h1R : N 1 = q := h1R
  have h4R : N 4 = m := h4R
  have h5R : N 5 = ct := h5R
  have h6R : ∀ p : Int, 0 ≤ p → p < 36 → N (6 + p) = f p := h6R
  have hr1 := lc_res_r (lc_cnt f 1 36) (lc_cnt f 2 36) q m
  have hwr := lc_wth_r f s
  refine lc_con RX11 false (by decide) rfl (fun h => absurd h (by decide)) (Nat.le_of_ble_eq_true rfl) ?_
  suffices H : ∀ Q : lc_QT, (∀ v n2 σ2, (fun v n2 σ2 => ∃ (z1 z2 : Int) (g2 : Int → Int), v = some (.int (lc_i (lc_fnd (lc_sv m 2 f s q)))) ∧ n = n2 ∧ σ2 (50) = some (.inr (11, [.ref (51), .ref (52), .ref (53), .ref (54), .ref (55), .int (lc_i (kept)), .ref (56), .int (lc_i (if bs = true then 1 else 0)), .ref (57), .int (lc_i (z)), .int (lc_i (at9)), .int (lc_i (sn)), .int (lc_i (sr)), .int (lc_i (z1)), .int (lc_i (z2)), .int (lc_i (w3)), .int (lc_i ((lc_sv m 2 f s q).1))]) : lc_Cel) ∧ σ2 (52) = some (lc_aI 222 (g2)) ∧ ∀ i : Nat, i ≠ 50 → i ≠ 52 → σ2 i = σ i : lc_QT) v n2 σ2 → Q v n2 σ2) → lc_V l RX11 cX11_bestOf 10 (some .int) false (lc_Rd 5) (lc_G Q 0 0) lc_E0 0 0 n 0 [(0, .ref (50)), (1, .int (lc_i (2)))] [] σ from H _ (fun _ _ _ h => h)
  intro Q hQ
  refine lc_bipush dX11_bestOf_0 (by decide) ?_
  refine lc_istore_n (lv' := [(0, .ref (50)), (1, .int (lc_i (2))), (2, .int (lc_i ((-105))))]) dX11_bestOf_2 rfl (by decide) rfl ?_
  refine lc_aload_n dX11_bestOf_3 rfl 0 rfl ?_
  refine lc_aload_n dX11_bestOf_4 rfl 0 rfl ?_
  refine lc_get dX11_bestOf_5 lc_fX11_7 h0_0 rfl ?_
  refine lc_callS (As := [.ref (51)]) (stk := [.ref (50)]) dX11_bestOf_8 lc_mX11_125 lc_yX11_worth (lc_cX11_worth l n (51) (N) (f) (s) (q) (m) (mo) (ca) (ct) (po) σ h0_1 (hf) (hs) (hR)) rfl ⟨Nat.le_of_ble_eq_true rfl, Nat.le_of_ble_eq_true rfl⟩ ⟨Nat.le_of_ble_eq_true rfl, Nat.le_of_ble_eq_true rfl⟩ rfl (Nat.le_of_ble_eq_true rfl) (fun v1 n2 σ3 q4 => ?_)
  obtain ⟨rfl, rfl, rfl⟩ := q4
  refine lc_top (congrArg (fun z => Value.int (lc_i z)) (show (lc_wth (f) (s) : Int) = lc_bst f s (lc_fo (lc_sV m 1) f s q 0 0) from rfl)) ?_
  refine lc_wI (vs' := [.ref (51), .ref (52), .ref (53), .ref (54), .ref (55), .int (lc_i (kept)), .ref (56), .int (lc_i (if bs = true then 1 else 0)), .ref (57), .int (lc_i (z)), .int (lc_i (at9)), .int (lc_i (sn)), .int (lc_i (sr)), .int (lc_i (w1)), .int (lc_i (w2)), .int (lc_i (w3)), .int (lc_i (lc_bst f s (lc_fo (lc_sV m 1) f s q 0 0)))]) dX11_bestOf_11 lc_fX11_128 h0_0 (Nat.le_of_ble_eq_true rfl) rfl rfl rfl (fun σ5 h6 fr7 => ?_)
  have h8 : σ5 (51) = some (lc_aI 222 (N)) := (fr7 _ (by omega)).trans h0_1
  have h9 : σ5 (52) = some (lc_aI 222 (N2)) := (fr7 _ (by omega)).trans h0_2
  refine lc_iconst dX11_bestOf_14 ?_
  refine lc_istore_n (lv' := [(0, .ref (50)), (1, .int (lc_i (2))), (2, .int (lc_i ((-105)))), (3, .int (lc_i (0)))]) dX11_bestOf_15 rfl (by decide) rfl ?_
  have loop11 : ∀ (N10 : Nat) (k : Nat) (y1 : Int) (y2 : Int) (g2 : Int → Int) (σ13 : lc_S), (σ13 (50) = some (.inr (11, [.ref (51), .ref (52), .ref (53), .ref (54), .ref (55), .int (lc_i (kept)), .ref (56), .int (lc_i (if bs = true then 1 else 0)), .ref (57), .int (lc_i (z)), .int (lc_i (at9)), .int (lc_i (sn)), .int (lc_i (sr)), .int (lc_i (y1)), .int (lc_i (y2)), .int (lc_i (w3)), .int (lc_i (lc_bst f s (lc_fo (lc_sV m 1) f s q k 0)))]) : lc_Cel)) → (σ13 (52) = some (lc_aI 222 (g2))) → (∀ i : Nat, i ≠ 50 → i ≠ 52 → σ13 i = σ5 i) → (k ≤ 72) → (lc_res (lc_cnt f 1 36) (lc_cnt f 2 36) q m ≠ 0 → k = 0) → 72 - (k : Int) < (N10 : Int) → lc_V l RX11 cX11_bestOf 10 (some .int) false (lc_Rd 5) (lc_G Q 0 0) lc_E0 0 0 n 16 [(0, .ref (50)), (1, .int (lc_i (2))), (2, .int (lc_i (lc_fnd (lc_fo (lc_sV m 1) f s q k 0)))), (3, .int (lc_i (((k : Nat) : Int))))] [] σ13 := by
    intro N10
    induction N10 with
    | zero =>
      intro k y1 y2 g2 σ13 h14 h15 fr16 hk hz hm17
      exact absurd hm17 (by omega)
    | succ N10 ih12 =>
      intro k y1 y2 g2 σ13 h14 h15 fr16 hk hz hm17
      have h18 : σ13 (51) = some (lc_aI 222 (N)) := (fr16 _ (by omega) (by omega)).trans h8
      refine lc_iload_n dX11_bestOf_16 rfl 3 rfl ?_
      refine lc_bipush dX11_bestOf_17 (by decide) ?_
      refine lc_icmp_ge (tgt := 204) dX11_bestOf_19 (by decide) (by omega) (fun h_19_18 => ?_) (fun h_19_18 => ?_)
      · skip
        refine lc_iload_n dX11_bestOf_204 rfl 2 rfl ?_
        have hres : lc_res (lc_cnt f 1 36) (lc_cnt f 2 36) q m = 0 := by by_cases q9 : lc_res (lc_cnt f 1 36) (lc_cnt f 2 36) q m = 0; (exact q9); (have := hz q9; omega)
        have ek : k = 72 := by omega
        subst ek
        have eZ := lc_fo_e (d := 1) (s := s) hres
        exact lc_iret dX11_bestOf_205 rfl (Nat.le_of_ble_eq_true rfl) (Nat.le_of_ble_eq_true rfl) (hQ _ _ _ ⟨y1, y2, g2, lc_some (by unfold lc_fnd; rw [eZ.2]), rfl, by rw [← eZ.1]; exact h14, h15, (fun i _ _ => ((fr16 i (by omega) (by omega)).trans (fr7 i (by omega))))⟩)
      · skip
        refine lc_aload_n dX11_bestOf_22 rfl 0 rfl ?_
        refine lc_get dX11_bestOf_23 lc_fX11_7 h14 rfl ?_
        refine lc_callS (As := [.ref (51)]) (stk := []) dX11_bestOf_26 lc_mX11_94 lc_yX11_result (lc_cX11_result l n (51) (N) (f) (s) (q) (m) (mo) (ca) (ct) (po) σ13 h18 (hf) (hR) (by omega) (by omega)) rfl ⟨Nat.le_of_ble_eq_true rfl, Nat.le_of_ble_eq_true rfl⟩ ⟨Nat.le_of_ble_eq_true rfl, Nat.le_of_ble_eq_true rfl⟩ rfl (Nat.le_of_ble_eq_true rfl) (fun v20 n21 σ22 q23 => ?_)
        obtain ⟨rfl, rfl, rfl⟩ := q23
        refine lc_if_ne (tgt := 204) dX11_bestOf_29 (by decide) (by omega) (fun h_29_23 => ?_) (fun h_29_23 => ?_)
        · skip
          refine lc_iload_n dX11_bestOf_204 rfl 2 rfl ?_
          have ek : k = 0 := hz h_29_23
          subst ek
          have eZ := lc_fo_z (d := 1) (s := s) h_29_23
          exact lc_iret dX11_bestOf_205 rfl (Nat.le_of_ble_eq_true rfl) (Nat.le_of_ble_eq_true rfl) (hQ _ _ _ ⟨y1, y2, g2, by rw [eZ]; rfl, rfl, by rw [eZ]; exact h14, h15, (fun i _ _ => ((fr16 i (by omega) (by omega)).trans (fr7 i (by omega))))⟩)
        · skip
          have hres : lc_res (lc_cnt f 1 36) (lc_cnt f 2 36) q m = 0 := h_29_23
          refine lc_iload_n dX11_bestOf_32 rfl 3 rfl ?_
          refine lc_bipush dX11_bestOf_33 (by decide) ?_
          refine lc_irem dX11_bestOf_35 (by omega) ?_
          refine lc_top (congrArg (fun z => Value.int (lc_i z)) (show ((((k : Nat) : Int)) % (36) : Int) = (k : Int) % 36 from rfl)) ?_
          refine lc_istore (lv' := [(0, .ref (50)), (1, .int (lc_i (2))), (2, .int (lc_i (lc_fnd (lc_fo (lc_sV m 1) f s q k 0)))), (3, .int (lc_i (((k : Nat) : Int)))), (4, .int (lc_i ((k : Int) % 36)))]) dX11_bestOf_36 (by decide) rfl ?_
          refine lc_aload_n dX11_bestOf_38 rfl 0 rfl ?_
          refine lc_aload_n dX11_bestOf_39 rfl 0 rfl ?_
          refine lc_get dX11_bestOf_40 lc_fX11_7 h14 rfl ?_
          refine lc_iload dX11_bestOf_43 4 rfl ?_
          refine lc_iload_n dX11_bestOf_45 rfl 3 rfl ?_
          refine lc_bipush dX11_bestOf_46 (by decide) ?_
          refine lc_icmp_ge (tgt := 55) dX11_bestOf_48 (by decide) (by omega) (fun h_48_24 => ?_) (fun h_48_24 => ?_)
          · skip
            refine lc_iconst dX11_bestOf_55 ?_
            refine lc_callV (As := [.ref (51), .int (lc_i ((k : Int) % 36)), .int (lc_i (0))]) (stk := []) (b := 50) dX11_bestOf_56 lc_mX11_121 lc_yX11_ends h14 rfl (lc_cX11_ends l n (51) (N) (f) (s) (q) (m) (mo) (ca) (ct) (po) (kept) (bs) (z) (at9) (sn) (sr) (y1) (y2) (w3) (lc_bst f s (lc_fo (lc_sV m 1) f s q k 0)) ((k : Int) % 36) (false) σ13 h14 h18 (by omega) (hf) (hs) (hR) (by omega)) rfl ⟨Nat.le_of_ble_eq_true rfl, Nat.le_of_ble_eq_true rfl⟩ ⟨Nat.le_of_ble_eq_true rfl, Nat.le_of_ble_eq_true rfl⟩ rfl (Nat.le_of_ble_eq_true rfl) (fun v32 n33 σ34 q35 => ?_)
            obtain ⟨set30, z26, z27, rfl, rfl, hs31, h29, fr28⟩ := q35
            have h36 : σ34 (51) = some (lc_aI 222 (N)) := (fr28 _ (by omega)).trans h18
            have h37 : σ34 (52) = some (lc_aI 222 (g2)) := (fr28 _ (by omega)).trans h15
            refine lc_lstore (lv' := [(0, .ref (50)), (1, .int (lc_i (2))), (2, .int (lc_i (lc_fnd (lc_fo (lc_sV m 1) f s q k 0)))), (3, .int (lc_i (((k : Nat) : Int)))), (4, .int (lc_i ((k : Int) % 36))), (5, .long (set30))]) dX11_bestOf_59 (by decide) rfl ?_
            refine lc_iconst dX11_bestOf_61 ?_
            refine lc_istore (lv' := [(0, .ref (50)), (1, .int (lc_i (2))), (2, .int (lc_i (lc_fnd (lc_fo (lc_sV m 1) f s q k 0)))), (3, .int (lc_i (((k : Nat) : Int)))), (4, .int (lc_i ((k : Int) % 36))), (5, .long (set30)), (7, .int (lc_i (0)))]) dX11_bestOf_62 (by decide) rfl ?_
            have loop39 : ∀ (N38 : Nat) (t : Nat) (x : Int64) (y3 : Int) (y4 : Int) (g4 : Int → Int) (σ41 : lc_S), (σ41 (50) = some (.inr (11, [.ref (51), .ref (52), .ref (53), .ref (54), .ref (55), .int (lc_i (kept)), .ref (56), .int (lc_i (if bs = true then 1 else 0)), .ref (57), .int (lc_i (z)), .int (lc_i (at9)), .int (lc_i (sn)), .int (lc_i (sr)), .int (lc_i (y3)), .int (lc_i (y4)), .int (lc_i (w3)), .int (lc_i (lc_bst f s (lc_fo (lc_sV m 1) f s q k t)))]) : lc_Cel)) → (σ41 (52) = some (lc_aI 222 (g4))) → (∀ i : Nat, i ≠ 50 → i ≠ 52 → σ41 i = σ34 i) → (t ≤ 36) → (lc_bs x (fun j : Int => lc_en f s (decide ((k : Int) < 36)) ((k : Int) % 36) j)) → 36 - (t : Int) < (N38 : Int) → lc_V l RX11 cX11_bestOf 10 (some .int) false (lc_Rd 5) (lc_G Q 0 0) lc_E0 0 0 n 64 [(0, .ref (50)), (1, .int (lc_i (2))), (2, .int (lc_i (lc_fnd (lc_fo (lc_sV m 1) f s q k t)))), (3, .int (lc_i (((k : Nat) : Int)))), (4, .int (lc_i ((k : Int) % 36))), (5, .long (x)), (7, .int (lc_i (((t : Nat) : Int))))] [] σ41 := by
              intro N38
              induction N38 with
              | zero =>
                intro t x y3 y4 g4 σ41 h42 h43 fr44 ht hst hm45
                exact absurd hm45 (by omega)
              | succ N38 ih40 =>
                intro t x y3 y4 g4 σ41 h42 h43 fr44 ht hst hm45
                have h46 : σ41 (51) = some (lc_aI 222 (N)) := (fr44 _ (by omega) (by omega)).trans h36
                have hrg := lc_fo_rr (f := f) (s := s) (d := 1) (k := k) (t := t) hres (by omega) ht
                refine lc_iload dX11_bestOf_64 6 rfl ?_
                refine lc_bipush dX11_bestOf_66 (by decide) ?_
                refine lc_icmp_ge (tgt := 198) dX11_bestOf_68 (by decide) (by omega) (fun h_68_46 => ?_) (fun h_68_46 => ?_)
                · skip
                  refine lc_iinc (lv' := [(0, .ref (50)), (1, .int (lc_i (2))), (2, .int (lc_i (lc_fnd (lc_fo (lc_sV m 1) f s q k t)))), (3, .int (lc_i (((k : Nat) : Int) + 1))), (4, .int (lc_i ((k : Int) % 36))), (5, .long (x)), (7, .int (lc_i (((t : Nat) : Int))))]) dX11_bestOf_198 3 rfl (by decide) rfl ?_
                  refine lc_goto (tgt := 16) dX11_bestOf_201 (by decide) ?_
                  refine lc_pick (lv' := [(0, .ref (50)), (1, .int (lc_i (2))), (2, .int (lc_i (lc_fnd (lc_fo (lc_sV m 1) f s q k t)))), (3, .int (lc_i (((k : Nat) : Int) + 1)))]) [0, 1, 2, 3] rfl ?_
                  refine lc_lveq (lv' := [(0, .ref (50)), (1, .int (lc_i (2))), (2, .int (lc_i (lc_fnd (lc_fo (lc_sV m 1) f s q (k + 1) 0)))), (3, .int (lc_i (((k + 1 : Nat) : Int))))]) (by rw [show ((k + 1 : Nat) : Int) = (k : Int) + 1 from by omega, show lc_fnd (lc_fo (lc_sV m 1) f s q k t) = lc_fnd (lc_fo (lc_sV m 1) f s q (k + 1) 0) from by rw [show t = 36 from by omega, lc_fo_36]]) ?_
                  exact ih12 (k + 1) (y3) (y4) (g4) σ41 (by rw [← lc_fo_36, ← show t = 36 from by omega]; exact h42) h43 (fun i _ _ => ((fr44 i (by omega) (by omega)).trans ((fr28 i (by omega)).trans (fr16 i (by omega) (by omega))))) (by omega) (fun q9 => absurd hres q9) (by omega)
                · skip
                  refine lc_lload dX11_bestOf_71 5 rfl ?_
                  refine lc_iload dX11_bestOf_73 6 rfl ?_
                  refine lc_lshr dX11_bestOf_75 rfl ?_
                  refine lc_lconst (x := 1) dX11_bestOf_76 (by decide) ?_
                  refine lc_land dX11_bestOf_77 ?_
                  refine lc_lconst (x := 1) dX11_bestOf_78 (by decide) ?_
                  refine lc_lcmp dX11_bestOf_79 ?_
                  refine lc_if_neR (tgt := 192) dX11_bestOf_80 (by decide) (fun h_80_47 => ?_) (fun h_80_47 => ?_)
                  · skip
                    refine lc_iinc (lv' := [(0, .ref (50)), (1, .int (lc_i (2))), (2, .int (lc_i (lc_fnd (lc_fo (lc_sV m 1) f s q k t)))), (3, .int (lc_i (((k : Nat) : Int)))), (4, .int (lc_i ((k : Int) % 36))), (5, .long (x)), (7, .int (lc_i (((t : Nat) : Int) + 1)))]) dX11_bestOf_192 6 rfl (by decide) rfl ?_
                    refine lc_goto (tgt := 64) dX11_bestOf_195 (by decide) ?_
                    refine lc_lveq (lv' := [(0, .ref (50)), (1, .int (lc_i (2))), (2, .int (lc_i (lc_fnd (lc_fo (lc_sV m 1) f s q k (t + 1))))), (3, .int (lc_i (((k : Nat) : Int)))), (4, .int (lc_i ((k : Int) % 36))), (5, .long (x)), (7, .int (lc_i (((t + 1 : Nat) : Int))))]) (by rw [show ((t + 1 : Nat) : Int) = (t : Int) + 1 from by omega, lc_fo_n (V := lc_sV m 1) (q := q) (show k < 72 from by omega) (fun q9 : lc_bit f s k t => h_80_47 (lc_cmp0.mpr ((lc_bs_t hst (by omega)).mpr q9)))]) ?_
                    exact ih40 (t + 1) (x) (y3) (y4) (g4) σ41 (by rw [lc_fo_n (V := lc_sV m 1) (q := q) (show k < 72 from by omega) (fun q9 : lc_bit f s k t => h_80_47 (lc_cmp0.mpr ((lc_bs_t hst (by omega)).mpr q9)))]; exact h42) h43 (fun i _ _ => (fr44 i (by omega) (by omega))) (by omega) (hst) (by omega)
                  · skip
                    have hbr := lc_bit_r hf hs (show k < 72 from by omega) (show t < 36 from by omega) ((lc_bs_t hst (by omega)).mp (lc_cmp0.mp h_80_47) : lc_bit f s k t)
                    refine lc_aload_n dX11_bestOf_83 rfl 0 rfl ?_
                    refine lc_get dX11_bestOf_84 lc_fX11_7 h42 rfl ?_
                    refine lc_iconst dX11_bestOf_87 ?_
                    refine lc_aload_n dX11_bestOf_88 rfl 0 rfl ?_
                    refine lc_get dX11_bestOf_89 lc_fX11_13 h42 rfl ?_
                    refine lc_iconst dX11_bestOf_92 ?_
                    refine lc_callS (As := [.ref (51), .int (lc_i (0)), .ref (52), .int (lc_i (0))]) (stk := []) dX11_bestOf_93 lc_mX11_48 lc_yX11_copies (lc_cX11_copies l n (51) (52) (222) (222) (N) (g4) (0) (0) σ41 h46 h43 (by omega) (by omega) (by omega) (by omega)) rfl ⟨Nat.le_of_ble_eq_true rfl, Nat.le_of_ble_eq_true rfl⟩ ⟨Nat.le_of_ble_eq_true rfl, Nat.le_of_ble_eq_true rfl⟩ rfl (Nat.le_of_ble_eq_true rfl) (fun v51 n52 σ53 q54 => ?_)
                    obtain ⟨rfl, rfl, h50, fr49⟩ := q54
                    have h55 : σ53 (51) = some (lc_aI 222 (N)) := (fr49 _ (by omega)).trans h46
                    have h56 : σ53 (50) = some (.inr (11, [.ref (51), .ref (52), .ref (53), .ref (54), .ref (55), .int (lc_i (kept)), .ref (56), .int (lc_i (if bs = true then 1 else 0)), .ref (57), .int (lc_i (z)), .int (lc_i (at9)), .int (lc_i (sn)), .int (lc_i (sr)), .int (lc_i (y3)), .int (lc_i (y4)), .int (lc_i (w3)), .int (lc_i (lc_bst f s (lc_fo (lc_sV m 1) f s q k t)))]) : lc_Cel) := (fr49 _ (by omega)).trans h42
                    have hR57 := lc_RM_c (N' := g4) hR (show ct ≤ 60 from by omega)
                    refine lc_aload_n dX11_bestOf_96 rfl 0 rfl ?_
                    refine lc_get dX11_bestOf_97 lc_fX11_13 h56 rfl ?_
                    refine lc_iload dX11_bestOf_100 4 rfl ?_
                    refine lc_iload dX11_bestOf_102 6 rfl ?_
                    refine lc_callS (As := [.ref (52), .int (lc_i ((k : Int) % 36)), .int (lc_i (((t : Nat) : Int)))]) (stk := []) dX11_bestOf_104 lc_mX11_113 lc_yX11_makes (lc_cX11_makes l n (52) (lc_cpy (N) (0) (g4) (0)) (f) (s) (q) (m) (mo) (ca) (ct) (po) ((k : Int) % 36) (((t : Nat) : Int)) σ53 h50 (hf) (hs) (hct) (hR57) (by omega) (by omega) (hbr.1)) rfl ⟨Nat.le_of_ble_eq_true rfl, Nat.le_of_ble_eq_true rfl⟩ ⟨Nat.le_of_ble_eq_true rfl, Nat.le_of_ble_eq_true rfl⟩ rfl (Nat.le_of_ble_eq_true rfl) (fun v62 n63 σ64 q65 => ?_)
                    obtain ⟨N60, rfl, rfl, h59, hR61, fr58⟩ := q65
                    have h66 : σ64 (51) = some (lc_aI 222 (N)) := (fr58 _ (by omega)).trans h55
                    have h67 : σ64 (50) = some (.inr (11, [.ref (51), .ref (52), .ref (53), .ref (54), .ref (55), .int (lc_i (kept)), .ref (56), .int (lc_i (if bs = true then 1 else 0)), .ref (57), .int (lc_i (z)), .int (lc_i (at9)), .int (lc_i (sn)), .int (lc_i (sr)), .int (lc_i (y3)), .int (lc_i (y4)), .int (lc_i (w3)), .int (lc_i (lc_bst f s (lc_fo (lc_sV m 1) f s q k t)))]) : lc_Cel) := (fr58 _ (by omega)).trans h56
                    have hfm := lc_mvf_ok (x := (k : Int) % 36) (y := (t : Int)) hf hs
                    have hwm := lc_wth_r (lc_mvf f s ((k : Int) % 36) (t : Int)) (3 - s)
                    have hsm := lc_sv_r m 1 (lc_mvf f s ((k : Int) % 36) (t : Int)) (3 - s) (lc_mvq f q (t : Int))
                    have hqm := lc_mvq_r (f := f) (y := (t : Int)) hq
                    refine lc_iload_n dX11_bestOf_107 rfl 1 rfl ?_
                    refine lc_iconst dX11_bestOf_108 ?_
                    refine lc_icmp_ne (tgt := 123) dX11_bestOf_109 (by decide) (by omega) (fun h_109_67 => ?_) (fun h_109_67 => ?_)
                    · skip
                      refine lc_aload_n dX11_bestOf_123 rfl 0 rfl ?_
                      refine lc_aload_n dX11_bestOf_124 rfl 0 rfl ?_
                      refine lc_get dX11_bestOf_125 lc_fX11_13 h67 rfl ?_
                      refine lc_callV (As := [.ref (52)]) (stk := []) (b := 50) dX11_bestOf_128 lc_mX11_131 lc_yX11_deep h67 rfl (lc_cX11_deep l n (52) (N60) (lc_mvf (f) (s) ((k : Int) % 36) (((t : Nat) : Int))) (3 - (s)) (lc_mvq (f) (q) (((t : Nat) : Int))) (m) ((mo) + 1) (lc_mvc (f) (ca) (((t : Nat) : Int))) (lc_mvt (f) (ct) (((t : Nat) : Int))) (lc_mvp (f) (s) ((k : Int) % 36) (((t : Nat) : Int)) (ct) (po)) (kept) (bs) (z) (at9) (sn) (sr) (y3) (y4) (w3) (lc_bst f s (lc_fo (lc_sV m 1) f s q k t)) σ64 h67 h59 (by omega) (hfm) (by omega) (hqm) (hm) (hR61)) rfl ⟨Nat.le_of_ble_eq_true rfl, Nat.le_of_ble_eq_true rfl⟩ ⟨Nat.le_of_ble_eq_true rfl, Nat.le_of_ble_eq_true rfl⟩ rfl (Nat.le_of_ble_eq_true rfl) (fun v73 n74 σ75 q76 => ?_)
                      obtain ⟨z69, z70, rfl, rfl, h72, fr71⟩ := q76
                      have h77 : σ75 (51) = some (lc_aI 222 (N)) := (fr71 _ (by omega)).trans h66
                      have h78 : σ75 (52) = some (lc_aI 222 (N60)) := (fr71 _ (by omega)).trans h59
                      refine lc_ineg dX11_bestOf_131 ?_
                      refine lc_istore (lv' := [(0, .ref (50)), (1, .int (lc_i (2))), (2, .int (lc_i (lc_fnd (lc_fo (lc_sV m 1) f s q k t)))), (3, .int (lc_i (((k : Nat) : Int)))), (4, .int (lc_i ((k : Int) % 36))), (5, .long (x)), (7, .int (lc_i (((t : Nat) : Int)))), (8, .int (lc_i (-((lc_sv (m) 1 (lc_mvf (f) (s) ((k : Int) % 36) (((t : Nat) : Int))) (3 - (s)) (lc_mvq (f) (q) (((t : Nat) : Int)))).1))))]) dX11_bestOf_132 (by decide) rfl ?_
                      refine lc_iload_n dX11_bestOf_134 rfl 2 rfl ?_
                      refine lc_bipush dX11_bestOf_135 (by decide) ?_
                      refine lc_icmp_eq (tgt := 149) dX11_bestOf_137 (by decide) (by omega) (fun h_137_78 => ?_) (fun h_137_78 => ?_)
                      · skip
                        refine lc_iconst dX11_bestOf_149 ?_
                        refine lc_goto (tgt := 154) dX11_bestOf_150 (by decide) ?_
                        refine lc_istore (lv' := [(0, .ref (50)), (1, .int (lc_i (2))), (2, .int (lc_i (lc_fnd (lc_fo (lc_sV m 1) f s q k t)))), (3, .int (lc_i (((k : Nat) : Int)))), (4, .int (lc_i ((k : Int) % 36))), (5, .long (x)), (7, .int (lc_i (((t : Nat) : Int)))), (8, .int (lc_i (-((lc_sv (m) 1 (lc_mvf (f) (s) ((k : Int) % 36) (((t : Nat) : Int))) (3 - (s)) (lc_mvq (f) (q) (((t : Nat) : Int)))).1)))), (9, .int (lc_i (1)))]) dX11_bestOf_154 (by decide) rfl ?_
                        have eW := lc_bst_u hres (show k < 72 from by omega) (show t < 36 from by omega) ((lc_bs_t hst (by omega)).mp (lc_cmp0.mp h_80_47) : lc_bit f s k t) (show -((lc_sv (m) 1 (lc_mvf (f) (s) ((k : Int) % 36) (((t : Nat) : Int))) (3 - (s)) (lc_mvq (f) (q) (((t : Nat) : Int)))).1) = -(lc_sV m 1 (lc_mvf f s ((k : Int) % 36) (t : Int)) (3 - s) (lc_mvq f q (t : Int))) from rfl) (Or.inl h_137_78)
                        refine lc_iload dX11_bestOf_156 8 rfl ?_
                        refine lc_if_eq (tgt := 172) dX11_bestOf_158 (by decide) (by omega) (fun h_158_79 => ?_) (fun h_158_79 => ?_)
                        · exact absurd h_158_79 (by decide)
                        · skip
                          refine lc_bipush dX11_bestOf_161 (by decide) ?_
                          refine lc_iload dX11_bestOf_163 4 rfl ?_
                          refine lc_imul dX11_bestOf_165 ?_
                          refine lc_iload dX11_bestOf_166 6 rfl ?_
                          refine lc_iadd dX11_bestOf_168 ?_
                          refine lc_goto (tgt := 173) dX11_bestOf_169 (by decide) ?_
                          refine lc_top (congrArg (fun z => Value.int (lc_i z)) (show (((100) * ((k : Int) % 36)) + (((t : Nat) : Int)) : Int) = lc_fnd (lc_fo (lc_sV m 1) f s q k (t + 1)) from by rw [eW.1]; omega)) ?_
                          refine lc_istore_n (lv' := [(0, .ref (50)), (1, .int (lc_i (2))), (2, .int (lc_i (lc_fnd (lc_fo (lc_sV m 1) f s q k (t + 1))))), (3, .int (lc_i (((k : Nat) : Int)))), (4, .int (lc_i ((k : Int) % 36))), (5, .long (x)), (7, .int (lc_i (((t : Nat) : Int)))), (8, .int (lc_i (-((lc_sv (m) 1 (lc_mvf (f) (s) ((k : Int) % 36) (((t : Nat) : Int))) (3 - (s)) (lc_mvq (f) (q) (((t : Nat) : Int)))).1)))), (9, .int (lc_i (1)))]) dX11_bestOf_173 rfl (by decide) rfl ?_
                          refine lc_aload_n dX11_bestOf_174 rfl 0 rfl ?_
                          refine lc_iload dX11_bestOf_175 8 rfl ?_
                          refine lc_if_eq (tgt := 185) dX11_bestOf_177 (by decide) (by omega) (fun h_177_80 => ?_) (fun h_177_80 => ?_)
                          · exact absurd h_177_80 (by decide)
                          · skip
                            refine lc_iload dX11_bestOf_180 7 rfl ?_
                            refine lc_goto (tgt := 189) dX11_bestOf_182 (by decide) ?_
                            refine lc_top (congrArg (fun z => Value.int (lc_i z)) (show (-((lc_sv (m) 1 (lc_mvf (f) (s) ((k : Int) % 36) (((t : Nat) : Int))) (3 - (s)) (lc_mvq (f) (q) (((t : Nat) : Int)))).1) : Int) = lc_bst f s (lc_fo (lc_sV m 1) f s q k (t + 1)) from by rw [eW.2])) ?_
                            refine lc_wI (vs' := [.ref (51), .ref (52), .ref (53), .ref (54), .ref (55), .int (lc_i (kept)), .ref (56), .int (lc_i (if bs = true then 1 else 0)), .ref (57), .int (lc_i (z)), .int (lc_i (at9)), .int (lc_i (sn)), .int (lc_i (sr)), .int (lc_i (z69)), .int (lc_i (z70)), .int (lc_i (w3)), .int (lc_i (lc_bst f s (lc_fo (lc_sV m 1) f s q k (t + 1))))]) dX11_bestOf_189 lc_fX11_128 h72 (Nat.le_of_ble_eq_true rfl) rfl rfl rfl (fun σ82 h83 fr84 => ?_)
                            have h85 : σ82 (51) = some (lc_aI 222 (N)) := (fr84 _ (by omega)).trans h77
                            have h86 : σ82 (52) = some (lc_aI 222 (N60)) := (fr84 _ (by omega)).trans h78
                            refine lc_iinc (lv' := [(0, .ref (50)), (1, .int (lc_i (2))), (2, .int (lc_i (lc_fnd (lc_fo (lc_sV m 1) f s q k (t + 1))))), (3, .int (lc_i (((k : Nat) : Int)))), (4, .int (lc_i ((k : Int) % 36))), (5, .long (x)), (7, .int (lc_i (((t : Nat) : Int) + 1))), (8, .int (lc_i (-((lc_sv (m) 1 (lc_mvf (f) (s) ((k : Int) % 36) (((t : Nat) : Int))) (3 - (s)) (lc_mvq (f) (q) (((t : Nat) : Int)))).1)))), (9, .int (lc_i (1)))]) dX11_bestOf_192 6 rfl (by decide) rfl ?_
                            refine lc_goto (tgt := 64) dX11_bestOf_195 (by decide) ?_
                            refine lc_pick (lv' := [(0, .ref (50)), (1, .int (lc_i (2))), (2, .int (lc_i (lc_fnd (lc_fo (lc_sV m 1) f s q k (t + 1))))), (3, .int (lc_i (((k : Nat) : Int)))), (4, .int (lc_i ((k : Int) % 36))), (5, .long (x)), (7, .int (lc_i (((t : Nat) : Int) + 1)))]) [0, 1, 2, 3, 4, 5, 6] rfl ?_
                            refine lc_lveq (lv' := [(0, .ref (50)), (1, .int (lc_i (2))), (2, .int (lc_i (lc_fnd (lc_fo (lc_sV m 1) f s q k (t + 1))))), (3, .int (lc_i (((k : Nat) : Int)))), (4, .int (lc_i ((k : Int) % 36))), (5, .long (x)), (7, .int (lc_i (((t + 1 : Nat) : Int))))]) (by rw [show ((t + 1 : Nat) : Int) = (t : Int) + 1 from by omega]) ?_
                            exact ih40 (t + 1) (x) (z69) (z70) (N60) σ82 h83 h86 (fun i _ _ => ((fr84 i (by omega)).trans ((fr71 i (by omega)).trans ((fr58 i (by omega)).trans ((fr49 i (by omega)).trans (fr44 i (by omega) (by omega))))))) (by omega) (hst) (by omega)
                      · skip
                        refine lc_iload dX11_bestOf_140 7 rfl ?_
                        refine lc_aload_n dX11_bestOf_142 rfl 0 rfl ?_
                        refine lc_get dX11_bestOf_143 lc_fX11_128 h72 rfl ?_
                        refine lc_icmp_le (tgt := 153) dX11_bestOf_146 (by decide) (by omega) (fun h_146_86 => ?_) (fun h_146_86 => ?_)
                        · skip
                          refine lc_iconst dX11_bestOf_153 ?_
                          refine lc_istore (lv' := [(0, .ref (50)), (1, .int (lc_i (2))), (2, .int (lc_i (lc_fnd (lc_fo (lc_sV m 1) f s q k t)))), (3, .int (lc_i (((k : Nat) : Int)))), (4, .int (lc_i ((k : Int) % 36))), (5, .long (x)), (7, .int (lc_i (((t : Nat) : Int)))), (8, .int (lc_i (-((lc_sv (m) 1 (lc_mvf (f) (s) ((k : Int) % 36) (((t : Nat) : Int))) (3 - (s)) (lc_mvq (f) (q) (((t : Nat) : Int)))).1)))), (9, .int (lc_i (0)))]) dX11_bestOf_154 (by decide) rfl ?_
                          have eW := lc_bst_v (show k < 72 from by omega) (show t < 36 from by omega) ((lc_bs_t hst (by omega)).mp (lc_cmp0.mp h_80_47) : lc_bit f s k t) (show -((lc_sv (m) 1 (lc_mvf (f) (s) ((k : Int) % 36) (((t : Nat) : Int))) (3 - (s)) (lc_mvq (f) (q) (((t : Nat) : Int)))).1) = -(lc_sV m 1 (lc_mvf f s ((k : Int) % 36) (t : Int)) (3 - s) (lc_mvq f q (t : Int))) from rfl) h_137_78 (by omega)
                          refine lc_iload dX11_bestOf_156 8 rfl ?_
                          refine lc_if_eq (tgt := 172) dX11_bestOf_158 (by decide) (by omega) (fun h_158_87 => ?_) (fun h_158_87 => ?_)
                          · skip
                            refine lc_iload_n dX11_bestOf_172 rfl 2 rfl ?_
                            refine lc_top (congrArg (fun z => Value.int (lc_i z)) (show (lc_fnd (lc_fo (lc_sV m 1) f s q k t) : Int) = lc_fnd (lc_fo (lc_sV m 1) f s q k (t + 1)) from by rw [eW])) ?_
                            refine lc_istore_n (lv' := [(0, .ref (50)), (1, .int (lc_i (2))), (2, .int (lc_i (lc_fnd (lc_fo (lc_sV m 1) f s q k (t + 1))))), (3, .int (lc_i (((k : Nat) : Int)))), (4, .int (lc_i ((k : Int) % 36))), (5, .long (x)), (7, .int (lc_i (((t : Nat) : Int)))), (8, .int (lc_i (-((lc_sv (m) 1 (lc_mvf (f) (s) ((k : Int) % 36) (((t : Nat) : Int))) (3 - (s)) (lc_mvq (f) (q) (((t : Nat) : Int)))).1)))), (9, .int (lc_i (0)))]) dX11_bestOf_173 rfl (by decide) rfl ?_
                            refine lc_aload_n dX11_bestOf_174 rfl 0 rfl ?_
                            refine lc_iload dX11_bestOf_175 8 rfl ?_
                            refine lc_if_eq (tgt := 185) dX11_bestOf_177 (by decide) (by omega) (fun h_177_88 => ?_) (fun h_177_88 => ?_)
                            · skip
                              refine lc_aload_n dX11_bestOf_185 rfl 0 rfl ?_
                              refine lc_get dX11_bestOf_186 lc_fX11_128 h72 rfl ?_
                              refine lc_top (congrArg (fun z => Value.int (lc_i z)) (show (lc_bst f s (lc_fo (lc_sV m 1) f s q k t) : Int) = lc_bst f s (lc_fo (lc_sV m 1) f s q k (t + 1)) from by rw [eW])) ?_
                              refine lc_wI (vs' := [.ref (51), .ref (52), .ref (53), .ref (54), .ref (55), .int (lc_i (kept)), .ref (56), .int (lc_i (if bs = true then 1 else 0)), .ref (57), .int (lc_i (z)), .int (lc_i (at9)), .int (lc_i (sn)), .int (lc_i (sr)), .int (lc_i (z69)), .int (lc_i (z70)), .int (lc_i (w3)), .int (lc_i (lc_bst f s (lc_fo (lc_sV m 1) f s q k (t + 1))))]) dX11_bestOf_189 lc_fX11_128 h72 (Nat.le_of_ble_eq_true rfl) rfl rfl rfl (fun σ90 h91 fr92 => ?_)
                              have h93 : σ90 (51) = some (lc_aI 222 (N)) := (fr92 _ (by omega)).trans h77
                              have h94 : σ90 (52) = some (lc_aI 222 (N60)) := (fr92 _ (by omega)).trans h78
                              refine lc_iinc (lv' := [(0, .ref (50)), (1, .int (lc_i (2))), (2, .int (lc_i (lc_fnd (lc_fo (lc_sV m 1) f s q k (t + 1))))), (3, .int (lc_i (((k : Nat) : Int)))), (4, .int (lc_i ((k : Int) % 36))), (5, .long (x)), (7, .int (lc_i (((t : Nat) : Int) + 1))), (8, .int (lc_i (-((lc_sv (m) 1 (lc_mvf (f) (s) ((k : Int) % 36) (((t : Nat) : Int))) (3 - (s)) (lc_mvq (f) (q) (((t : Nat) : Int)))).1)))), (9, .int (lc_i (0)))]) dX11_bestOf_192 6 rfl (by decide) rfl ?_
                              refine lc_goto (tgt := 64) dX11_bestOf_195 (by decide) ?_
                              refine lc_pick (lv' := [(0, .ref (50)), (1, .int (lc_i (2))), (2, .int (lc_i (lc_fnd (lc_fo (lc_sV m 1) f s q k (t + 1))))), (3, .int (lc_i (((k : Nat) : Int)))), (4, .int (lc_i ((k : Int) % 36))), (5, .long (x)), (7, .int (lc_i (((t : Nat) : Int) + 1)))]) [0, 1, 2, 3, 4, 5, 6] rfl ?_
                              refine lc_lveq (lv' := [(0, .ref (50)), (1, .int (lc_i (2))), (2, .int (lc_i (lc_fnd (lc_fo (lc_sV m 1) f s q k (t + 1))))), (3, .int (lc_i (((k : Nat) : Int)))), (4, .int (lc_i ((k : Int) % 36))), (5, .long (x)), (7, .int (lc_i (((t + 1 : Nat) : Int))))]) (by rw [show ((t + 1 : Nat) : Int) = (t : Int) + 1 from by omega]) ?_
                              exact ih40 (t + 1) (x) (z69) (z70) (N60) σ90 h91 h94 (fun i _ _ => ((fr92 i (by omega)).trans ((fr71 i (by omega)).trans ((fr58 i (by omega)).trans ((fr49 i (by omega)).trans (fr44 i (by omega) (by omega))))))) (by omega) (hst) (by omega)
                            · exact absurd h_177_88 (by decide)
                          · exact absurd h_158_87 (by decide)
                        · skip
                          refine lc_iconst dX11_bestOf_149 ?_
                          refine lc_goto (tgt := 154) dX11_bestOf_150 (by decide) ?_
                          refine lc_istore (lv' := [(0, .ref (50)), (1, .int (lc_i (2))), (2, .int (lc_i (lc_fnd (lc_fo (lc_sV m 1) f s q k t)))), (3, .int (lc_i (((k : Nat) : Int)))), (4, .int (lc_i ((k : Int) % 36))), (5, .long (x)), (7, .int (lc_i (((t : Nat) : Int)))), (8, .int (lc_i (-((lc_sv (m) 1 (lc_mvf (f) (s) ((k : Int) % 36) (((t : Nat) : Int))) (3 - (s)) (lc_mvq (f) (q) (((t : Nat) : Int)))).1)))), (9, .int (lc_i (1)))]) dX11_bestOf_154 (by decide) rfl ?_
                          have eW := lc_bst_u hres (show k < 72 from by omega) (show t < 36 from by omega) ((lc_bs_t hst (by omega)).mp (lc_cmp0.mp h_80_47) : lc_bit f s k t) (show -((lc_sv (m) 1 (lc_mvf (f) (s) ((k : Int) % 36) (((t : Nat) : Int))) (3 - (s)) (lc_mvq (f) (q) (((t : Nat) : Int)))).1) = -(lc_sV m 1 (lc_mvf f s ((k : Int) % 36) (t : Int)) (3 - s) (lc_mvq f q (t : Int))) from rfl) (Or.inr (by omega))
                          refine lc_iload dX11_bestOf_156 8 rfl ?_
                          refine lc_if_eq (tgt := 172) dX11_bestOf_158 (by decide) (by omega) (fun h_158_94 => ?_) (fun h_158_94 => ?_)
                          · exact absurd h_158_94 (by decide)
                          · skip
                            refine lc_bipush dX11_bestOf_161 (by decide) ?_
                            refine lc_iload dX11_bestOf_163 4 rfl ?_
                            refine lc_imul dX11_bestOf_165 ?_
                            refine lc_iload dX11_bestOf_166 6 rfl ?_
                            refine lc_iadd dX11_bestOf_168 ?_
                            refine lc_goto (tgt := 173) dX11_bestOf_169 (by decide) ?_
                            refine lc_top (congrArg (fun z => Value.int (lc_i z)) (show (((100) * ((k : Int) % 36)) + (((t : Nat) : Int)) : Int) = lc_fnd (lc_fo (lc_sV m 1) f s q k (t + 1)) from by rw [eW.1]; omega)) ?_
                            refine lc_istore_n (lv' := [(0, .ref (50)), (1, .int (lc_i (2))), (2, .int (lc_i (lc_fnd (lc_fo (lc_sV m 1) f s q k (t + 1))))), (3, .int (lc_i (((k : Nat) : Int)))), (4, .int (lc_i ((k : Int) % 36))), (5, .long (x)), (7, .int (lc_i (((t : Nat) : Int)))), (8, .int (lc_i (-((lc_sv (m) 1 (lc_mvf (f) (s) ((k : Int) % 36) (((t : Nat) : Int))) (3 - (s)) (lc_mvq (f) (q) (((t : Nat) : Int)))).1)))), (9, .int (lc_i (1)))]) dX11_bestOf_173 rfl (by decide) rfl ?_
                            refine lc_aload_n dX11_bestOf_174 rfl 0 rfl ?_
                            refine lc_iload dX11_bestOf_175 8 rfl ?_
                            refine lc_if_eq (tgt := 185) dX11_bestOf_177 (by decide) (by omega) (fun h_177_95 => ?_) (fun h_177_95 => ?_)
                            · exact absurd h_177_95 (by decide)
                            · skip
                              refine lc_iload dX11_bestOf_180 7 rfl ?_
                              refine lc_goto (tgt := 189) dX11_bestOf_182 (by decide) ?_
                              refine lc_top (congrArg (fun z => Value.int (lc_i z)) (show (-((lc_sv (m) 1 (lc_mvf (f) (s) ((k : Int) % 36) (((t : Nat) : Int))) (3 - (s)) (lc_mvq (f) (q) (((t : Nat) : Int)))).1) : Int) = lc_bst f s (lc_fo (lc_sV m 1) f s q k (t + 1)) from by rw [eW.2])) ?_
                              refine lc_wI (vs' := [.ref (51), .ref (52), .ref (53), .ref (54), .ref (55), .int (lc_i (kept)), .ref (56), .int (lc_i (if bs = true then 1 else 0)), .ref (57), .int (lc_i (z)), .int (lc_i (at9)), .int (lc_i (sn)), .int (lc_i (sr)), .int (lc_i (z69)), .int (lc_i (z70)), .int (lc_i (w3)), .int (lc_i (lc_bst f s (lc_fo (lc_sV m 1) f s q k (t + 1))))]) dX11_bestOf_189 lc_fX11_128 h72 (Nat.le_of_ble_eq_true rfl) rfl rfl rfl (fun σ97 h98 fr99 => ?_)
                              have h100 : σ97 (51) = some (lc_aI 222 (N)) := (fr99 _ (by omega)).trans h77
                              have h101 : σ97 (52) = some (lc_aI 222 (N60)) := (fr99 _ (by omega)).trans h78
                              refine lc_iinc (lv' := [(0, .ref (50)), (1, .int (lc_i (2))), (2, .int (lc_i (lc_fnd (lc_fo (lc_sV m 1) f s q k (t + 1))))), (3, .int (lc_i (((k : Nat) : Int)))), (4, .int (lc_i ((k : Int) % 36))), (5, .long (x)), (7, .int (lc_i (((t : Nat) : Int) + 1))), (8, .int (lc_i (-((lc_sv (m) 1 (lc_mvf (f) (s) ((k : Int) % 36) (((t : Nat) : Int))) (3 - (s)) (lc_mvq (f) (q) (((t : Nat) : Int)))).1)))), (9, .int (lc_i (1)))]) dX11_bestOf_192 6 rfl (by decide) rfl ?_
                              refine lc_goto (tgt := 64) dX11_bestOf_195 (by decide) ?_
                              refine lc_pick (lv' := [(0, .ref (50)), (1, .int (lc_i (2))), (2, .int (lc_i (lc_fnd (lc_fo (lc_sV m 1) f s q k (t + 1))))), (3, .int (lc_i (((k : Nat) : Int)))), (4, .int (lc_i ((k : Int) % 36))), (5, .long (x)), (7, .int (lc_i (((t : Nat) : Int) + 1)))]) [0, 1, 2, 3, 4, 5, 6] rfl ?_
                              refine lc_lveq (lv' := [(0, .ref (50)), (1, .int (lc_i (2))), (2, .int (lc_i (lc_fnd (lc_fo (lc_sV m 1) f s q k (t + 1))))), (3, .int (lc_i (((k : Nat) : Int)))), (4, .int (lc_i ((k : Int) % 36))), (5, .long (x)), (7, .int (lc_i (((t + 1 : Nat) : Int))))]) (by rw [show ((t + 1 : Nat) : Int) = (t : Int) + 1 from by omega]) ?_
                              exact ih40 (t + 1) (x) (z69) (z70) (N60) σ97 h98 h101 (fun i _ _ => ((fr99 i (by omega)).trans ((fr71 i (by omega)).trans ((fr58 i (by omega)).trans ((fr49 i (by omega)).trans (fr44 i (by omega) (by omega))))))) (by omega) (hst) (by omega)
                    · exact absurd h_109_67 (by decide)
            exact loop39 1000 (0) (set30) (z26) (z27) (g2) σ34 h29 h37 (fun _ _ _ => rfl) (by omega) (by rw [decide_eq_false (show ¬ (k : Int) < 36 from by omega)]; exact hs31) (by omega)
          · skip
            refine lc_iconst dX11_bestOf_51 ?_
            refine lc_goto (tgt := 56) dX11_bestOf_52 (by decide) ?_
            refine lc_callV (As := [.ref (51), .int (lc_i ((k : Int) % 36)), .int (lc_i (1))]) (stk := []) (b := 50) dX11_bestOf_56 lc_mX11_121 lc_yX11_ends h14 rfl (lc_cX11_ends l n (51) (N) (f) (s) (q) (m) (mo) (ca) (ct) (po) (kept) (bs) (z) (at9) (sn) (sr) (y1) (y2) (w3) (lc_bst f s (lc_fo (lc_sV m 1) f s q k 0)) ((k : Int) % 36) (true) σ13 h14 h18 (by omega) (hf) (hs) (hR) (by omega)) rfl ⟨Nat.le_of_ble_eq_true rfl, Nat.le_of_ble_eq_true rfl⟩ ⟨Nat.le_of_ble_eq_true rfl, Nat.le_of_ble_eq_true rfl⟩ rfl (Nat.le_of_ble_eq_true rfl) (fun v108 n109 σ110 q111 => ?_)
            obtain ⟨set106, z102, z103, rfl, rfl, hs107, h105, fr104⟩ := q111
            have h112 : σ110 (51) = some (lc_aI 222 (N)) := (fr104 _ (by omega)).trans h18
            have h113 : σ110 (52) = some (lc_aI 222 (g2)) := (fr104 _ (by omega)).trans h15
            refine lc_lstore (lv' := [(0, .ref (50)), (1, .int (lc_i (2))), (2, .int (lc_i (lc_fnd (lc_fo (lc_sV m 1) f s q k 0)))), (3, .int (lc_i (((k : Nat) : Int)))), (4, .int (lc_i ((k : Int) % 36))), (5, .long (set106))]) dX11_bestOf_59 (by decide) rfl ?_
            refine lc_iconst dX11_bestOf_61 ?_
            refine lc_istore (lv' := [(0, .ref (50)), (1, .int (lc_i (2))), (2, .int (lc_i (lc_fnd (lc_fo (lc_sV m 1) f s q k 0)))), (3, .int (lc_i (((k : Nat) : Int)))), (4, .int (lc_i ((k : Int) % 36))), (5, .long (set106)), (7, .int (lc_i (0)))]) dX11_bestOf_62 (by decide) rfl ?_
            have loop115 : ∀ (N114 : Nat) (t : Nat) (x : Int64) (y3 : Int) (y4 : Int) (g4 : Int → Int) (σ117 : lc_S), (σ117 (50) = some (.inr (11, [.ref (51), .ref (52), .ref (53), .ref (54), .ref (55), .int (lc_i (kept)), .ref (56), .int (lc_i (if bs = true then 1 else 0)), .ref (57), .int (lc_i (z)), .int (lc_i (at9)), .int (lc_i (sn)), .int (lc_i (sr)), .int (lc_i (y3)), .int (lc_i (y4)), .int (lc_i (w3)), .int (lc_i (lc_bst f s (lc_fo (lc_sV m 1) f s q k t)))]) : lc_Cel)) → (σ117 (52) = some (lc_aI 222 (g4))) → (∀ i : Nat, i ≠ 50 → i ≠ 52 → σ117 i = σ110 i) → (t ≤ 36) → (lc_bs x (fun j : Int => lc_en f s (decide ((k : Int) < 36)) ((k : Int) % 36) j)) → 36 - (t : Int) < (N114 : Int) → lc_V l RX11 cX11_bestOf 10 (some .int) false (lc_Rd 5) (lc_G Q 0 0) lc_E0 0 0 n 64 [(0, .ref (50)), (1, .int (lc_i (2))), (2, .int (lc_i (lc_fnd (lc_fo (lc_sV m 1) f s q k t)))), (3, .int (lc_i (((k : Nat) : Int)))), (4, .int (lc_i ((k : Int) % 36))), (5, .long (x)), (7, .int (lc_i (((t : Nat) : Int))))] [] σ117 := by
              intro N114
              induction N114 with
              | zero =>
                intro t x y3 y4 g4 σ117 h118 h119 fr120 ht hst hm121
                exact absurd hm121 (by omega)
              | succ N114 ih116 =>
                intro t x y3 y4 g4 σ117 h118 h119 fr120 ht hst hm121
                have h122 : σ117 (51) = some (lc_aI 222 (N)) := (fr120 _ (by omega) (by omega)).trans h112
                have hrg := lc_fo_rr (f := f) (s := s) (d := 1) (k := k) (t := t) hres (by omega) ht
                refine lc_iload dX11_bestOf_64 6 rfl ?_
                refine lc_bipush dX11_bestOf_66 (by decide) ?_
                refine lc_icmp_ge (tgt := 198) dX11_bestOf_68 (by decide) (by omega) (fun h_68_122 => ?_) (fun h_68_122 => ?_)
                · skip
                  refine lc_iinc (lv' := [(0, .ref (50)), (1, .int (lc_i (2))), (2, .int (lc_i (lc_fnd (lc_fo (lc_sV m 1) f s q k t)))), (3, .int (lc_i (((k : Nat) : Int) + 1))), (4, .int (lc_i ((k : Int) % 36))), (5, .long (x)), (7, .int (lc_i (((t : Nat) : Int))))]) dX11_bestOf_198 3 rfl (by decide) rfl ?_
                  refine lc_goto (tgt := 16) dX11_bestOf_201 (by decide) ?_
                  refine lc_pick (lv' := [(0, .ref (50)), (1, .int (lc_i (2))), (2, .int (lc_i (lc_fnd (lc_fo (lc_sV m 1) f s q k t)))), (3, .int (lc_i (((k : Nat) : Int) + 1)))]) [0, 1, 2, 3] rfl ?_
                  refine lc_lveq (lv' := [(0, .ref (50)), (1, .int (lc_i (2))), (2, .int (lc_i (lc_fnd (lc_fo (lc_sV m 1) f s q (k + 1) 0)))), (3, .int (lc_i (((k + 1 : Nat) : Int))))]) (by rw [show ((k + 1 : Nat) : Int) = (k : Int) + 1 from by omega, show lc_fnd (lc_fo (lc_sV m 1) f s q k t) = lc_fnd (lc_fo (lc_sV m 1) f s q (k + 1) 0) from by rw [show t = 36 from by omega, lc_fo_36]]) ?_
                  exact ih12 (k + 1) (y3) (y4) (g4) σ117 (by rw [← lc_fo_36, ← show t = 36 from by omega]; exact h118) h119 (fun i _ _ => ((fr120 i (by omega) (by omega)).trans ((fr104 i (by omega)).trans (fr16 i (by omega) (by omega))))) (by omega) (fun q9 => absurd hres q9) (by omega)
                · skip
                  refine lc_lload dX11_bestOf_71 5 rfl ?_
                  refine lc_iload dX11_bestOf_73 6 rfl ?_
                  refine lc_lshr dX11_bestOf_75 rfl ?_
                  refine lc_lconst (x := 1) dX11_bestOf_76 (by decide) ?_
                  refine lc_land dX11_bestOf_77 ?_
                  refine lc_lconst (x := 1) dX11_bestOf_78 (by decide) ?_
                  refine lc_lcmp dX11_bestOf_79 ?_
                  refine lc_if_neR (tgt := 192) dX11_bestOf_80 (by decide) (fun h_80_123 => ?_) (fun h_80_123 => ?_)
                  · skip
                    refine lc_iinc (lv' := [(0, .ref (50)), (1, .int (lc_i (2))), (2, .int (lc_i (lc_fnd (lc_fo (lc_sV m 1) f s q k t)))), (3, .int (lc_i (((k : Nat) : Int)))), (4, .int (lc_i ((k : Int) % 36))), (5, .long (x)), (7, .int (lc_i (((t : Nat) : Int) + 1)))]) dX11_bestOf_192 6 rfl (by decide) rfl ?_
                    refine lc_goto (tgt := 64) dX11_bestOf_195 (by decide) ?_
                    refine lc_lveq (lv' := [(0, .ref (50)), (1, .int (lc_i (2))), (2, .int (lc_i (lc_fnd (lc_fo (lc_sV m 1) f s q k (t + 1))))), (3, .int (lc_i (((k : Nat) : Int)))), (4, .int (lc_i ((k : Int) % 36))), (5, .long (x)), (7, .int (lc_i (((t + 1 : Nat) : Int))))]) (by rw [show ((t + 1 : Nat) : Int) = (t : Int) + 1 from by omega, lc_fo_n (V := lc_sV m 1) (q := q) (show k < 72 from by omega) (fun q9 : lc_bit f s k t => h_80_123 (lc_cmp0.mpr ((lc_bs_t hst (by omega)).mpr q9)))]) ?_
                    exact ih116 (t + 1) (x) (y3) (y4) (g4) σ117 (by rw [lc_fo_n (V := lc_sV m 1) (q := q) (show k < 72 from by omega) (fun q9 : lc_bit f s k t => h_80_123 (lc_cmp0.mpr ((lc_bs_t hst (by omega)).mpr q9)))]; exact h118) h119 (fun i _ _ => (fr120 i (by omega) (by omega))) (by omega) (hst) (by omega)
                  · skip
                    have hbr := lc_bit_r hf hs (show k < 72 from by omega) (show t < 36 from by omega) ((lc_bs_t hst (by omega)).mp (lc_cmp0.mp h_80_123) : lc_bit f s k t)
                    refine lc_aload_n dX11_bestOf_83 rfl 0 rfl ?_
                    refine lc_get dX11_bestOf_84 lc_fX11_7 h118 rfl ?_
                    refine lc_iconst dX11_bestOf_87 ?_
                    refine lc_aload_n dX11_bestOf_88 rfl 0 rfl ?_
                    refine lc_get dX11_bestOf_89 lc_fX11_13 h118 rfl ?_
                    refine lc_iconst dX11_bestOf_92 ?_
                    refine lc_callS (As := [.ref (51), .int (lc_i (0)), .ref (52), .int (lc_i (0))]) (stk := []) dX11_bestOf_93 lc_mX11_48 lc_yX11_copies (lc_cX11_copies l n (51) (52) (222) (222) (N) (g4) (0) (0) σ117 h122 h119 (by omega) (by omega) (by omega) (by omega)) rfl ⟨Nat.le_of_ble_eq_true rfl, Nat.le_of_ble_eq_true rfl⟩ ⟨Nat.le_of_ble_eq_true rfl, Nat.le_of_ble_eq_true rfl⟩ rfl (Nat.le_of_ble_eq_true rfl) (fun v127 n128 σ129 q130 => ?_)
                    obtain ⟨rfl, rfl, h126, fr125⟩ := q130
                    have h131 : σ129 (51) = some (lc_aI 222 (N)) := (fr125 _ (by omega)).trans h122
                    have h132 : σ129 (50) = some (.inr (11, [.ref (51), .ref (52), .ref (53), .ref (54), .ref (55), .int (lc_i (kept)), .ref (56), .int (lc_i (if bs = true then 1 else 0)), .ref (57), .int (lc_i (z)), .int (lc_i (at9)), .int (lc_i (sn)), .int (lc_i (sr)), .int (lc_i (y3)), .int (lc_i (y4)), .int (lc_i (w3)), .int (lc_i (lc_bst f s (lc_fo (lc_sV m 1) f s q k t)))]) : lc_Cel) := (fr125 _ (by omega)).trans h118
                    have hR133 := lc_RM_c (N' := g4) hR (show ct ≤ 60 from by omega)
                    refine lc_aload_n dX11_bestOf_96 rfl 0 rfl ?_
                    refine lc_get dX11_bestOf_97 lc_fX11_13 h132 rfl ?_
                    refine lc_iload dX11_bestOf_100 4 rfl ?_
                    refine lc_iload dX11_bestOf_102 6 rfl ?_
                    refine lc_callS (As := [.ref (52), .int (lc_i ((k : Int) % 36)), .int (lc_i (((t : Nat) : Int)))]) (stk := []) dX11_bestOf_104 lc_mX11_113 lc_yX11_makes (lc_cX11_makes l n (52) (lc_cpy (N) (0) (g4) (0)) (f) (s) (q) (m) (mo) (ca) (ct) (po) ((k : Int) % 36) (((t : Nat) : Int)) σ129 h126 (hf) (hs) (hct) (hR133) (by omega) (by omega) (hbr.1)) rfl ⟨Nat.le_of_ble_eq_true rfl, Nat.le_of_ble_eq_true rfl⟩ ⟨Nat.le_of_ble_eq_true rfl, Nat.le_of_ble_eq_true rfl⟩ rfl (Nat.le_of_ble_eq_true rfl) (fun v138 n139 σ140 q141 => ?_)
                    obtain ⟨N136, rfl, rfl, h135, hR137, fr134⟩ := q141
                    have h142 : σ140 (51) = some (lc_aI 222 (N)) := (fr134 _ (by omega)).trans h131
                    have h143 : σ140 (50) = some (.inr (11, [.ref (51), .ref (52), .ref (53), .ref (54), .ref (55), .int (lc_i (kept)), .ref (56), .int (lc_i (if bs = true then 1 else 0)), .ref (57), .int (lc_i (z)), .int (lc_i (at9)), .int (lc_i (sn)), .int (lc_i (sr)), .int (lc_i (y3)), .int (lc_i (y4)), .int (lc_i (w3)), .int (lc_i (lc_bst f s (lc_fo (lc_sV m 1) f s q k t)))]) : lc_Cel) := (fr134 _ (by omega)).trans h132
                    have hfm := lc_mvf_ok (x := (k : Int) % 36) (y := (t : Int)) hf hs
                    have hwm := lc_wth_r (lc_mvf f s ((k : Int) % 36) (t : Int)) (3 - s)
                    have hsm := lc_sv_r m 1 (lc_mvf f s ((k : Int) % 36) (t : Int)) (3 - s) (lc_mvq f q (t : Int))
                    have hqm := lc_mvq_r (f := f) (y := (t : Int)) hq
                    refine lc_iload_n dX11_bestOf_107 rfl 1 rfl ?_
                    refine lc_iconst dX11_bestOf_108 ?_
                    refine lc_icmp_ne (tgt := 123) dX11_bestOf_109 (by decide) (by omega) (fun h_109_143 => ?_) (fun h_109_143 => ?_)
                    · skip
                      refine lc_aload_n dX11_bestOf_123 rfl 0 rfl ?_
                      refine lc_aload_n dX11_bestOf_124 rfl 0 rfl ?_
                      refine lc_get dX11_bestOf_125 lc_fX11_13 h143 rfl ?_
                      refine lc_callV (As := [.ref (52)]) (stk := []) (b := 50) dX11_bestOf_128 lc_mX11_131 lc_yX11_deep h143 rfl (lc_cX11_deep l n (52) (N136) (lc_mvf (f) (s) ((k : Int) % 36) (((t : Nat) : Int))) (3 - (s)) (lc_mvq (f) (q) (((t : Nat) : Int))) (m) ((mo) + 1) (lc_mvc (f) (ca) (((t : Nat) : Int))) (lc_mvt (f) (ct) (((t : Nat) : Int))) (lc_mvp (f) (s) ((k : Int) % 36) (((t : Nat) : Int)) (ct) (po)) (kept) (bs) (z) (at9) (sn) (sr) (y3) (y4) (w3) (lc_bst f s (lc_fo (lc_sV m 1) f s q k t)) σ140 h143 h135 (by omega) (hfm) (by omega) (hqm) (hm) (hR137)) rfl ⟨Nat.le_of_ble_eq_true rfl, Nat.le_of_ble_eq_true rfl⟩ ⟨Nat.le_of_ble_eq_true rfl, Nat.le_of_ble_eq_true rfl⟩ rfl (Nat.le_of_ble_eq_true rfl) (fun v149 n150 σ151 q152 => ?_)
                      obtain ⟨z145, z146, rfl, rfl, h148, fr147⟩ := q152
                      have h153 : σ151 (51) = some (lc_aI 222 (N)) := (fr147 _ (by omega)).trans h142
                      have h154 : σ151 (52) = some (lc_aI 222 (N136)) := (fr147 _ (by omega)).trans h135
                      refine lc_ineg dX11_bestOf_131 ?_
                      refine lc_istore (lv' := [(0, .ref (50)), (1, .int (lc_i (2))), (2, .int (lc_i (lc_fnd (lc_fo (lc_sV m 1) f s q k t)))), (3, .int (lc_i (((k : Nat) : Int)))), (4, .int (lc_i ((k : Int) % 36))), (5, .long (x)), (7, .int (lc_i (((t : Nat) : Int)))), (8, .int (lc_i (-((lc_sv (m) 1 (lc_mvf (f) (s) ((k : Int) % 36) (((t : Nat) : Int))) (3 - (s)) (lc_mvq (f) (q) (((t : Nat) : Int)))).1))))]) dX11_bestOf_132 (by decide) rfl ?_
                      refine lc_iload_n dX11_bestOf_134 rfl 2 rfl ?_
                      refine lc_bipush dX11_bestOf_135 (by decide) ?_
                      refine lc_icmp_eq (tgt := 149) dX11_bestOf_137 (by decide) (by omega) (fun h_137_154 => ?_) (fun h_137_154 => ?_)
                      · skip
                        refine lc_iconst dX11_bestOf_149 ?_
                        refine lc_goto (tgt := 154) dX11_bestOf_150 (by decide) ?_
                        refine lc_istore (lv' := [(0, .ref (50)), (1, .int (lc_i (2))), (2, .int (lc_i (lc_fnd (lc_fo (lc_sV m 1) f s q k t)))), (3, .int (lc_i (((k : Nat) : Int)))), (4, .int (lc_i ((k : Int) % 36))), (5, .long (x)), (7, .int (lc_i (((t : Nat) : Int)))), (8, .int (lc_i (-((lc_sv (m) 1 (lc_mvf (f) (s) ((k : Int) % 36) (((t : Nat) : Int))) (3 - (s)) (lc_mvq (f) (q) (((t : Nat) : Int)))).1)))), (9, .int (lc_i (1)))]) dX11_bestOf_154 (by decide) rfl ?_
                        have eW := lc_bst_u hres (show k < 72 from by omega) (show t < 36 from by omega) ((lc_bs_t hst (by omega)).mp (lc_cmp0.mp h_80_123) : lc_bit f s k t) (show -((lc_sv (m) 1 (lc_mvf (f) (s) ((k : Int) % 36) (((t : Nat) : Int))) (3 - (s)) (lc_mvq (f) (q) (((t : Nat) : Int)))).1) = -(lc_sV m 1 (lc_mvf f s ((k : Int) % 36) (t : Int)) (3 - s) (lc_mvq f q (t : Int))) from rfl) (Or.inl h_137_154)
                        refine lc_iload dX11_bestOf_156 8 rfl ?_
                        refine lc_if_eq (tgt := 172) dX11_bestOf_158 (by decide) (by omega) (fun h_158_155 => ?_) (fun h_158_155 => ?_)
                        · exact absurd h_158_155 (by decide)
                        · skip
                          refine lc_bipush dX11_bestOf_161 (by decide) ?_
                          refine lc_iload dX11_bestOf_163 4 rfl ?_
                          refine lc_imul dX11_bestOf_165 ?_
                          refine lc_iload dX11_bestOf_166 6 rfl ?_
                          refine lc_iadd dX11_bestOf_168 ?_
                          refine lc_goto (tgt := 173) dX11_bestOf_169 (by decide) ?_
                          refine lc_top (congrArg (fun z => Value.int (lc_i z)) (show (((100) * ((k : Int) % 36)) + (((t : Nat) : Int)) : Int) = lc_fnd (lc_fo (lc_sV m 1) f s q k (t + 1)) from by rw [eW.1]; omega)) ?_
                          refine lc_istore_n (lv' := [(0, .ref (50)), (1, .int (lc_i (2))), (2, .int (lc_i (lc_fnd (lc_fo (lc_sV m 1) f s q k (t + 1))))), (3, .int (lc_i (((k : Nat) : Int)))), (4, .int (lc_i ((k : Int) % 36))), (5, .long (x)), (7, .int (lc_i (((t : Nat) : Int)))), (8, .int (lc_i (-((lc_sv (m) 1 (lc_mvf (f) (s) ((k : Int) % 36) (((t : Nat) : Int))) (3 - (s)) (lc_mvq (f) (q) (((t : Nat) : Int)))).1)))), (9, .int (lc_i (1)))]) dX11_bestOf_173 rfl (by decide) rfl ?_
                          refine lc_aload_n dX11_bestOf_174 rfl 0 rfl ?_
                          refine lc_iload dX11_bestOf_175 8 rfl ?_
                          refine lc_if_eq (tgt := 185) dX11_bestOf_177 (by decide) (by omega) (fun h_177_156 => ?_) (fun h_177_156 => ?_)
                          · exact absurd h_177_156 (by decide)
                          · skip
                            refine lc_iload dX11_bestOf_180 7 rfl ?_
                            refine lc_goto (tgt := 189) dX11_bestOf_182 (by decide) ?_
                            refine lc_top (congrArg (fun z => Value.int (lc_i z)) (show (-((lc_sv (m) 1 (lc_mvf (f) (s) ((k : Int) % 36) (((t : Nat) : Int))) (3 - (s)) (lc_mvq (f) (q) (((t : Nat) : Int)))).1) : Int) = lc_bst f s (lc_fo (lc_sV m 1) f s q k (t + 1)) from by rw [eW.2])) ?_
                            refine lc_wI (vs' := [.ref (51), .ref (52), .ref (53), .ref (54), .ref (55), .int (lc_i (kept)), .ref (56), .int (lc_i (if bs = true then 1 else 0)), .ref (57), .int (lc_i (z)), .int (lc_i (at9)), .int (lc_i (sn)), .int (lc_i (sr)), .int (lc_i (z145)), .int (lc_i (z146)), .int (lc_i (w3)), .int (lc_i (lc_bst f s (lc_fo (lc_sV m 1) f s q k (t + 1))))]) dX11_bestOf_189 lc_fX11_128 h148 (Nat.le_of_ble_eq_true rfl) rfl rfl rfl (fun σ158 h159 fr160 => ?_)
                            have h161 : σ158 (51) = some (lc_aI 222 (N)) := (fr160 _ (by omega)).trans h153
                            have h162 : σ158 (52) = some (lc_aI 222 (N136)) := (fr160 _ (by omega)).trans h154
                            refine lc_iinc (lv' := [(0, .ref (50)), (1, .int (lc_i (2))), (2, .int (lc_i (lc_fnd (lc_fo (lc_sV m 1) f s q k (t + 1))))), (3, .int (lc_i (((k : Nat) : Int)))), (4, .int (lc_i ((k : Int) % 36))), (5, .long (x)), (7, .int (lc_i (((t : Nat) : Int) + 1))), (8, .int (lc_i (-((lc_sv (m) 1 (lc_mvf (f) (s) ((k : Int) % 36) (((t : Nat) : Int))) (3 - (s)) (lc_mvq (f) (q) (((t : Nat) : Int)))).1)))), (9, .int (lc_i (1)))]) dX11_bestOf_192 6 rfl (by decide) rfl ?_
                            refine lc_goto (tgt := 64) dX11_bestOf_195 (by decide) ?_
                            refine lc_pick (lv' := [(0, .ref (50)), (1, .int (lc_i (2))), (2, .int (lc_i (lc_fnd (lc_fo (lc_sV m 1) f s q k (t + 1))))), (3, .int (lc_i (((k : Nat) : Int)))), (4, .int (lc_i ((k : Int) % 36))), (5, .long (x)), (7, .int (lc_i (((t : Nat) : Int) + 1)))]) [0, 1, 2, 3, 4, 5, 6] rfl ?_
                            refine lc_lveq (lv' := [(0, .ref (50)), (1, .int (lc_i (2))), (2, .int (lc_i (lc_fnd (lc_fo (lc_sV m 1) f s q k (t + 1))))), (3, .int (lc_i (((k : Nat) : Int)))), (4, .int (lc_i ((k : Int) % 36))), (5, .long (x)), (7, .int (lc_i (((t + 1 : Nat) : Int))))]) (by rw [show ((t + 1 : Nat) : Int) = (t : Int) + 1 from by omega]) ?_
                            exact ih116 (t + 1) (x) (z145) (z146) (N136) σ158 h159 h162 (fun i _ _ => ((fr160 i (by omega)).trans ((fr147 i (by omega)).trans ((fr134 i (by omega)).trans ((fr125 i (by omega)).trans (fr120 i (by omega) (by omega))))))) (by omega) (hst) (by omega)
                      · skip
                        refine lc_iload dX11_bestOf_140 7 rfl ?_
                        refine lc_aload_n dX11_bestOf_142 rfl 0 rfl ?_
                        refine lc_get dX11_bestOf_143 lc_fX11_128 h148 rfl ?_
                        refine lc_icmp_le (tgt := 153) dX11_bestOf_146 (by decide) (by omega) (fun h_146_162 => ?_) (fun h_146_162 => ?_)
                        · skip
                          refine lc_iconst dX11_bestOf_153 ?_
                          refine lc_istore (lv' := [(0, .ref (50)), (1, .int (lc_i (2))), (2, .int (lc_i (lc_fnd (lc_fo (lc_sV m 1) f s q k t)))), (3, .int (lc_i (((k : Nat) : Int)))), (4, .int (lc_i ((k : Int) % 36))), (5, .long (x)), (7, .int (lc_i (((t : Nat) : Int)))), (8, .int (lc_i (-((lc_sv (m) 1 (lc_mvf (f) (s) ((k : Int) % 36) (((t : Nat) : Int))) (3 - (s)) (lc_mvq (f) (q) (((t : Nat) : Int)))).1)))), (9, .int (lc_i (0)))]) dX11_bestOf_154 (by decide) rfl ?_
                          have eW := lc_bst_v (show k < 72 from by omega) (show t < 36 from by omega) ((lc_bs_t hst (by omega)).mp (lc_cmp0.mp h_80_123) : lc_bit f s k t) (show -((lc_sv (m) 1 (lc_mvf (f) (s) ((k : Int) % 36) (((t : Nat) : Int))) (3 - (s)) (lc_mvq (f) (q) (((t : Nat) : Int)))).1) = -(lc_sV m 1 (lc_mvf f s ((k : Int) % 36) (t : Int)) (3 - s) (lc_mvq f q (t : Int))) from rfl) h_137_154 (by omega)
                          refine lc_iload dX11_bestOf_156 8 rfl ?_
                          refine lc_if_eq (tgt := 172) dX11_bestOf_158 (by decide) (by omega) (fun h_158_163 => ?_) (fun h_158_163 => ?_)
                          · skip
                            refine lc_iload_n dX11_bestOf_172 rfl 2 rfl ?_
                            refine lc_top (congrArg (fun z => Value.int (lc_i z)) (show (lc_fnd (lc_fo (lc_sV m 1) f s q k t) : Int) = lc_fnd (lc_fo (lc_sV m 1) f s q k (t + 1)) from by rw [eW])) ?_
                            refine lc_istore_n (lv' := [(0, .ref (50)), (1, .int (lc_i (2))), (2, .int (lc_i (lc_fnd (lc_fo (lc_sV m 1) f s q k (t + 1))))), (3, .int (lc_i (((k : Nat) : Int)))), (4, .int (lc_i ((k : Int) % 36))), (5, .long (x)), (7, .int (lc_i (((t : Nat) : Int)))), (8, .int (lc_i (-((lc_sv (m) 1 (lc_mvf (f) (s) ((k : Int) % 36) (((t : Nat) : Int))) (3 - (s)) (lc_mvq (f) (q) (((t : Nat) : Int)))).1)))), (9, .int (lc_i (0)))]) dX11_bestOf_173 rfl (by decide) rfl ?_
                            refine lc_aload_n dX11_bestOf_174 rfl 0 rfl ?_
                            refine lc_iload dX11_bestOf_175 8 rfl ?_
                            refine lc_if_eq (tgt := 185) dX11_bestOf_177 (by decide) (by omega) (fun h_177_164 => ?_) (fun h_177_164 => ?_)
                            · skip
                              refine lc_aload_n dX11_bestOf_185 rfl 0 rfl ?_
                              refine lc_get dX11_bestOf_186 lc_fX11_128 h148 rfl ?_
                              refine lc_top (congrArg (fun z => Value.int (lc_i z)) (show (lc_bst f s (lc_fo (lc_sV m 1) f s q k t) : Int) = lc_bst f s (lc_fo (lc_sV m 1) f s q k (t + 1)) from by rw [eW])) ?_
                              refine lc_wI (vs' := [.ref (51), .ref (52), .ref (53), .ref (54), .ref (55), .int (lc_i (kept)), .ref (56), .int (lc_i (if bs = true then 1 else 0)), .ref (57), .int (lc_i (z)), .int (lc_i (at9)), .int (lc_i (sn)), .int (lc_i (sr)), .int (lc_i (z145)), .int (lc_i (z146)), .int (lc_i (w3)), .int (lc_i (lc_bst f s (lc_fo (lc_sV m 1) f s q k (t + 1))))]) dX11_bestOf_189 lc_fX11_128 h148 (Nat.le_of_ble_eq_true rfl) rfl rfl rfl (fun σ166 h167 fr168 => ?_)
                              have h169 : σ166 (51) = some (lc_aI 222 (N)) := (fr168 _ (by omega)).trans h153
                              have h170 : σ166 (52) = some (lc_aI 222 (N136)) := (fr168 _ (by omega)).trans h154
                              refine lc_iinc (lv' := [(0, .ref (50)), (1, .int (lc_i (2))), (2, .int (lc_i (lc_fnd (lc_fo (lc_sV m 1) f s q k (t + 1))))), (3, .int (lc_i (((k : Nat) : Int)))), (4, .int (lc_i ((k : Int) % 36))), (5, .long (x)), (7, .int (lc_i (((t : Nat) : Int) + 1))), (8, .int (lc_i (-((lc_sv (m) 1 (lc_mvf (f) (s) ((k : Int) % 36) (((t : Nat) : Int))) (3 - (s)) (lc_mvq (f) (q) (((t : Nat) : Int)))).1)))), (9, .int (lc_i (0)))]) dX11_bestOf_192 6 rfl (by decide) rfl ?_
                              refine lc_goto (tgt := 64) dX11_bestOf_195 (by decide) ?_
                              refine lc_pick (lv' := [(0, .ref (50)), (1, .int (lc_i (2))), (2, .int (lc_i (lc_fnd (lc_fo (lc_sV m 1) f s q k (t + 1))))), (3, .int (lc_i (((k : Nat) : Int)))), (4, .int (lc_i ((k : Int) % 36))), (5, .long (x)), (7, .int (lc_i (((t : Nat) : Int) + 1)))]) [0, 1, 2, 3, 4, 5, 6] rfl ?_
                              refine lc_lveq (lv' := [(0, .ref (50)), (1, .int (lc_i (2))), (2, .int (lc_i (lc_fnd (lc_fo (lc_sV m 1) f s q k (t + 1))))), (3, .int (lc_i (((k : Nat) : Int)))), (4, .int (lc_i ((k : Int) % 36))), (5, .long (x)), (7, .int (lc_i (((t + 1 : Nat) : Int))))]) (by rw [show ((t + 1 : Nat) : Int) = (t : Int) + 1 from by omega]) ?_
                              exact ih116 (t + 1) (x) (z145) (z146) (N136) σ166 h167 h170 (fun i _ _ => ((fr168 i (by omega)).trans ((fr147 i (by omega)).trans ((fr134 i (by omega)).trans ((fr125 i (by omega)).trans (fr120 i (by omega) (by omega))))))) (by omega) (hst) (by omega)
                            · exact absurd h_177_164 (by decide)
                          · exact absurd h_158_163 (by decide)
                        · skip
                          refine lc_iconst dX11_bestOf_149 ?_
                          refine lc_goto (tgt := 154) dX11_bestOf_150 (by decide) ?_
                          refine lc_istore (lv' := [(0, .ref (50)), (1, .int (lc_i (2))), (2, .int (lc_i (lc_fnd (lc_fo (lc_sV m 1) f s q k t)))), (3, .int (lc_i (((k : Nat) : Int)))), (4, .int (lc_i ((k : Int) % 36))), (5, .long (x)), (7, .int (lc_i (((t : Nat) : Int)))), (8, .int (lc_i (-((lc_sv (m) 1 (lc_mvf (f) (s) ((k : Int) % 36) (((t : Nat) : Int))) (3 - (s)) (lc_mvq (f) (q) (((t : Nat) : Int)))).1)))), (9, .int (lc_i (1)))]) dX11_bestOf_154 (by decide) rfl ?_
                          have eW := lc_bst_u hres (show k < 72 from by omega) (show t < 36 from by omega) ((lc_bs_t hst (by omega)).mp (lc_cmp0.mp h_80_123) : lc_bit f s k t) (show -((lc_sv (m) 1 (lc_mvf (f) (s) ((k : Int) % 36) (((t : Nat) : Int))) (3 - (s)) (lc_mvq (f) (q) (((t : Nat) : Int)))).1) = -(lc_sV m 1 (lc_mvf f s ((k : Int) % 36) (t : Int)) (3 - s) (lc_mvq f q (t : Int))) from rfl) (Or.inr (by omega))
                          refine lc_iload dX11_bestOf_156 8 rfl ?_
                          refine lc_if_eq (tgt := 172) dX11_bestOf_158 (by decide) (by omega) (fun h_158_170 => ?_) (fun h_158_170 => ?_)
                          · exact absurd h_158_170 (by decide)
                          · skip
                            refine lc_bipush dX11_bestOf_161 (by decide) ?_
                            refine lc_iload dX11_bestOf_163 4 rfl ?_
                            refine lc_imul dX11_bestOf_165 ?_
                            refine lc_iload dX11_bestOf_166 6 rfl ?_
                            refine lc_iadd dX11_bestOf_168 ?_
                            refine lc_goto (tgt := 173) dX11_bestOf_169 (by decide) ?_
                            refine lc_top (congrArg (fun z => Value.int (lc_i z)) (show (((100) * ((k : Int) % 36)) + (((t : Nat) : Int)) : Int) = lc_fnd (lc_fo (lc_sV m 1) f s q k (t + 1)) from by rw [eW.1]; omega)) ?_
                            refine lc_istore_n (lv' := [(0, .ref (50)), (1, .int (lc_i (2))), (2, .int (lc_i (lc_fnd (lc_fo (lc_sV m 1) f s q k (t + 1))))), (3, .int (lc_i (((k : Nat) : Int)))), (4, .int (lc_i ((k : Int) % 36))), (5, .long (x)), (7, .int (lc_i (((t : Nat) : Int)))), (8, .int (lc_i (-((lc_sv (m) 1 (lc_mvf (f) (s) ((k : Int) % 36) (((t : Nat) : Int))) (3 - (s)) (lc_mvq (f) (q) (((t : Nat) : Int)))).1)))), (9, .int (lc_i (1)))]) dX11_bestOf_173 rfl (by decide) rfl ?_
                            refine lc_aload_n dX11_bestOf_174 rfl 0 rfl ?_
                            refine lc_iload dX11_bestOf_175 8 rfl ?_
                            refine lc_if_eq (tgt := 185) dX11_bestOf_177 (by decide) (by omega) (fun h_177_171 => ?_) (fun h_177_171 => ?_)
                            · exact absurd h_177_171 (by decide)
                            · skip
                              refine lc_iload dX11_bestOf_180 7 rfl ?_
                              refine lc_goto (tgt := 189) dX11_bestOf_182 (by decide) ?_
                              refine lc_top (congrArg (fun z => Value.int (lc_i z)) (show (-((lc_sv (m) 1 (lc_mvf (f) (s) ((k : Int) % 36) (((t : Nat) : Int))) (3 - (s)) (lc_mvq (f) (q) (((t : Nat) : Int)))).1) : Int) = lc_bst f s (lc_fo (lc_sV m 1) f s q k (t + 1)) from by rw [eW.2])) ?_
                              refine lc_wI (vs' := [.ref (51), .ref (52), .ref (53), .ref (54), .ref (55), .int (lc_i (kept)), .ref (56), .int (lc_i (if bs = true then 1 else 0)), .ref (57), .int (lc_i (z)), .int (lc_i (at9)), .int (lc_i (sn)), .int (lc_i (sr)), .int (lc_i (z145)), .int (lc_i (z146)), .int (lc_i (w3)), .int (lc_i (lc_bst f s (lc_fo (lc_sV m 1) f s q k (t + 1))))]) dX11_bestOf_189 lc_fX11_128 h148 (Nat.le_of_ble_eq_true rfl) rfl rfl rfl (fun σ173 h174 fr175 => ?_)
                              have h176 : σ173 (51) = some (lc_aI 222 (N)) := (fr175 _ (by omega)).trans h153
                              have h177 : σ173 (52) = some (lc_aI 222 (N136)) := (fr175 _ (by omega)).trans h154
                              refine lc_iinc (lv' := [(0, .ref (50)), (1, .int (lc_i (2))), (2, .int (lc_i (lc_fnd (lc_fo (lc_sV m 1) f s q k (t + 1))))), (3, .int (lc_i (((k : Nat) : Int)))), (4, .int (lc_i ((k : Int) % 36))), (5, .long (x)), (7, .int (lc_i (((t : Nat) : Int) + 1))), (8, .int (lc_i (-((lc_sv (m) 1 (lc_mvf (f) (s) ((k : Int) % 36) (((t : Nat) : Int))) (3 - (s)) (lc_mvq (f) (q) (((t : Nat) : Int)))).1)))), (9, .int (lc_i (1)))]) dX11_bestOf_192 6 rfl (by decide) rfl ?_
                              refine lc_goto (tgt := 64) dX11_bestOf_195 (by decide) ?_
                              refine lc_pick (lv' := [(0, .ref (50)), (1, .int (lc_i (2))), (2, .int (lc_i (lc_fnd (lc_fo (lc_sV m 1) f s q k (t + 1))))), (3, .int (lc_i (((k : Nat) : Int)))), (4, .int (lc_i ((k : Int) % 36))), (5, .long (x)), (7, .int (lc_i (((t : Nat) : Int) + 1)))]) [0, 1, 2, 3, 4, 5, 6] rfl ?_
                              refine lc_lveq (lv' := [(0, .ref (50)), (1, .int (lc_i (2))), (2, .int (lc_i (lc_fnd (lc_fo (lc_sV m 1) f s q k (t + 1))))), (3, .int (lc_i (((k : Nat) : Int)))), (4, .int (lc_i ((k : Int) % 36))), (5, .long (x)), (7, .int (lc_i (((t + 1 : Nat) : Int))))]) (by rw [show ((t + 1 : Nat) : Int) = (t : Int) + 1 from by omega]) ?_
                              exact ih116 (t + 1) (x) (z145) (z146) (N136) σ173 h174 h177 (fun i _ _ => ((fr175 i (by omega)).trans ((fr147 i (by omega)).trans ((fr134 i (by omega)).trans ((fr125 i (by omega)).trans (fr120 i (by omega) (by omega))))))) (by omega) (hst) (by omega)
                    · exact absurd h_109_143 (by decide)
            exact loop115 1000 (0) (set106) (z102) (z103) (g2) σ110 h105 h113 (fun _ _ _ => rfl) (by omega) (by rw [decide_eq_true (show (k : Int) < 36 from by omega)]; exact hs107) (by omega)
  exact loop11 1000 (0) (w1) (w2) (N2) σ5 h6 h9 (fun _ _ _ => rfl) (by omega) (fun _ => rfl) (by omega)

theorem lc_cX11_bestOf (l : Launch) (n : Nat) (N : Int → Int) (f : Int → Int) (s q m mo ca ct : Int) (po : Int → Int) (kept : Int) (bs : Bool) (z at9 sn sr w1 w2 w3 bw : Int) (N2 : Int → Int) (d : Int) (σ : lc_S) (h0_0 : σ (50) = some (.inr (11, [.ref (51), .ref (52), .ref (53), .ref (54), .ref (55), .int (lc_i (kept)), .ref (56), .int (lc_i (if bs = true then 1 else 0)), .ref (57), .int (lc_i (z)), .int (lc_i (at9)), .int (lc_i (sn)), .int (lc_i (sr)), .int (lc_i (w1)), .int (lc_i (w2)), .int (lc_i (w3)), .int (lc_i (bw))]) : lc_Cel)) (h0_1 : σ (51) = some (lc_aI 222 (N))) (h0_2 : σ (52) = some (lc_aI 222 (N2))) (hf : ∀ j : Int, 0 ≤ j → j < 36 → 0 ≤ f j ∧ f j ≤ 2) (hs : 1 ≤ s ∧ s ≤ 2) (hct : 0 ≤ ct ∧ ct ≤ 60) (hq : 0 ≤ q ∧ q ≤ 60) (hm : 0 ≤ m ∧ m ≤ 60) (hR : lc_RM N (f, s, q, m, mo, ca, ct, po)) (hd : d = 1 ∨ d = 2) : lc_Con l yX11_bestOf cX11_bestOf 10 (some .int) (lc_Rd 5) [.ref (50), .int (lc_i (d))] n σ (fun v n2 σ2 => ∃ (z1 z2 : Int) (g2 : Int → Int), v = some (.int (lc_i (lc_fnd (lc_sv m d.toNat f s q)))) ∧ n = n2 ∧ σ2 (50) = some (.inr (11, [.ref (51), .ref (52), .ref (53), .ref (54), .ref (55), .int (lc_i (kept)), .ref (56), .int (lc_i (if bs = true then 1 else 0)), .ref (57), .int (lc_i (z)), .int (lc_i (at9)), .int (lc_i (sn)), .int (lc_i (sr)), .int (lc_i (z1)), .int (lc_i (z2)), .int (lc_i (w3)), .int (lc_i ((lc_sv m d.toNat f s q).1))]) : lc_Cel) ∧ σ2 (52) = some (lc_aI 222 (g2)) ∧ ∀ i : Nat, i ≠ 50 → i ≠ 52 → σ2 i = σ i) := by
  rcases hd with hd | hd
  · rw [hd]; exact lc_cX11_bestOf_1 l n N f s q m mo ca ct po kept bs z at9 sn sr w1 w2 w3 bw N2 σ h0_0 h0_1 h0_2 hf hs hct hq hm hR
  · rw [hd]; exact lc_cX11_bestOf_2 l n N f s q m mo ca ct po kept bs z at9 sn sr w1 w2 w3 bw N2 σ h0_0 h0_1 h0_2 hf hs hct hq hm hR
