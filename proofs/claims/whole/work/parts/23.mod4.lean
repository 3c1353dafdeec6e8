/-! the reference's sets and counts -/
theorem lc_num_ext {P Q : Int → Bool} : ∀ N : Nat, (∀ i : Int, 0 ≤ i → i < N → P i = Q i) → lc_num P N = lc_num Q N
  | 0, _ => rfl
  | N + 1, h => by
    unfold lc_num
    rw [lc_num_ext N (fun i h1 h2 => h i h1 (by omega)), h N (by omega) (by omega)]
theorem lc_num_00 {P : Int → Bool} {i : Int} (hi : 0 ≤ i) (h : ¬ P i = true) : lc_num P (i + 1).toNat = lc_num P i.toNat + 0 := by
  rw [lc_num_0 hi h, Int.add_zero]
def lc_eP (f : Int → Int) (fr : Int) (c : Bool) (i j : Int) : Bool := bif c then lc_cap f fr j else (decide (j < i) && lc_step f fr j)
def lc_en (f : Int → Int) (s : Int) (c : Bool) (fr j : Int) : Bool := decide (f fr = s) && (bif c then lc_cap f fr j else lc_step f fr j)
theorem lc_eP_c {f : Int → Int} {fr : Int} {c : Bool} {i j : Int} (hc : c = true) : lc_eP f fr c i j = lc_cap f fr j := by
  subst hc; rfl
theorem lc_eP_f {f : Int → Int} {fr : Int} {c : Bool} {i j : Int} (hc : ¬ c = true) : lc_eP f fr c i j = (decide (j < i) && lc_step f fr j) := by
  unfold lc_eP; exact lc_bif_f hc
theorem lc_eP_0 {f : Int → Int} {fr : Int} {c : Bool} {i j : Int} (hc : ¬ c = true) (h : ¬ lc_step f fr i = true) : lc_eP f fr c i j = lc_eP f fr c (i + 1) j := by
  rw [lc_eP_f hc, lc_eP_f hc]
  by_cases e : j = i
  · rw [e, Bool.eq_false_iff.mpr h, Bool.and_false, Bool.and_false]
  · rw [show decide (j < i) = decide (j < i + 1) from decide_eq_decide.mpr (by omega)]
theorem lc_eP_1 {f : Int → Int} {fr : Int} {c : Bool} {i j : Int} (hc : ¬ c = true) (h : lc_step f fr i = true) : (lc_eP f fr c i j || decide (j = i)) = lc_eP f fr c (i + 1) j := by
  rw [lc_eP_f hc, lc_eP_f hc]
  by_cases e : j = i
  · rw [e, h, decide_eq_true rfl, decide_eq_true (show i < i + 1 by omega)]
    simp
  · rw [show decide (j < i) = decide (j < i + 1) from decide_eq_decide.mpr (by omega), decide_eq_false e, Bool.or_false]
theorem lc_eP_z {f : Int → Int} {fr : Int} {c : Bool} {j : Int} (hc : ¬ c = true) (hj : 0 ≤ j) : lc_eP f fr c 0 j = false := by
  rw [lc_eP_f hc, decide_eq_false (show ¬ j < 0 by omega), Bool.false_and]
theorem lc_eP_e {f : Int → Int} {s fr : Int} {c : Bool} {i j : Int} (hs : f fr = s) (h : c = true ∨ i = 36) (hj : j < 36) : lc_eP f fr c i j = lc_en f s c fr j := by
  unfold lc_en
  rw [decide_eq_true hs, Bool.true_and]
  by_cases hc : c = true
  · rw [lc_eP_c hc, lc_bif_t hc]
  · rw [lc_eP_f hc, lc_bif_f hc, decide_eq_true (show j < i by rcases h with h | h; (exact absurd h hc); omega), Bool.true_and]
theorem lc_en_0 {f : Int → Int} {s fr : Int} {c : Bool} {j : Int} (hs : ¬ f fr = s) : lc_en f s c fr j = false := by
  unfold lc_en
  rw [decide_eq_false hs, Bool.false_and]
theorem lc_bnd {a b : Bool} (h1 : a = true) (h2 : b = true) : (a && b) = true := by rw [h1, h2]; rfl
theorem lc_bnd_1 {a b : Bool} (h : (a && b) = true) : a = true := (Bool.and_eq_true_iff.mp h).1
theorem lc_bnd_2 {a b : Bool} (h : (a && b) = true) : b = true := (Bool.and_eq_true_iff.mp h).2
/-- of the pieces that capture at a point all are of the other side -/
theorem lc_cap_o {f : Int → Int} (hf : ∀ j : Int, 0 ≤ j → j < 36 → 0 ≤ f j ∧ f j ≤ 2) {p sd : Int} (hp : 0 ≤ p ∧ p < 36) (h : sd = 3 - f p) : lc_num (fun j : Int => decide (f j = sd) && lc_cap f j p) 36 = lc_num (fun j : Int => lc_cap f j p) 36 := by
  refine lc_num_ext 36 fun j h1 h2 => ?_
  have h3 := hf j h1 h2
  have h4 := hf p hp.1 hp.2
  by_cases e : lc_cap f j p = true
  · have h5 := (lc_cap_iff.mp e).1
    rw [e, decide_eq_true (show f j = sd by omega)]
    rfl
  · rw [Bool.eq_false_iff.mpr e, Bool.and_false]
theorem lc_oc_z {f g : Int → Int} (h : ∀ j : Int, g j = 0 ↔ f j = 0) (x d : Int) (k : Nat) : lc_oc g x d k = lc_oc f x d k := by
  unfold lc_oc
  rw [show decide (g (lc_wp x d k) ≠ 0) = decide (f (lc_wp x d k) ≠ 0) from decide_eq_decide.mpr (not_congr (h _))]
theorem lc_Kf_z {f g : Int → Int} (h : ∀ j : Int, g j = 0 ↔ f j = 0) (x d : Int) : ∀ n k : Nat, lc_Kf g x d n k = lc_Kf f x d n k
  | 0, _ => rfl
  | n + 1, k => by
    unfold lc_Kf
    rw [lc_oc_z h, lc_Kf_z h x d n (k + 1)]
theorem lc_K_z {f g : Int → Int} (h : ∀ j : Int, g j = 0 ↔ f j = 0) (x d : Int) : lc_K g x d = lc_K f x d := lc_Kf_z h x d 23 1
theorem lc_M_z {f g : Int → Int} (h : ∀ j : Int, g j = 0 ↔ f j = 0) (x d : Int) : lc_M g x d = lc_M f x d := by
  unfold lc_M
  rw [lc_K_z h]
theorem lc_Lo_z {f g : Int → Int} (h : ∀ j : Int, g j = 0 ↔ f j = 0) (x d : Int) : lc_Lo g x d = lc_Lo f x d := by
  unfold lc_Lo
  rw [lc_K_z h]
theorem lc_try_z {f g : Int → Int} (h : ∀ j : Int, g j = 0 ↔ f j = 0) (to : Int) (w : Int × Int × Int × Int) (x d : Int) : lc_try g to w x d = lc_try f to w x d := by
  unfold lc_try
  rw [lc_K_z h, lc_M_z h, lc_Lo_z h]
theorem lc_two_z {f g : Int → Int} (h : ∀ j : Int, g j = 0 ↔ f j = 0) (to : Int) (w : Int × Int × Int × Int) (x : Int) : lc_two g to w x = lc_two f to w x := by
  unfold lc_two
  rw [lc_try_z h, lc_try_z h]
theorem lc_wy_z {f g : Int → Int} (h : ∀ j : Int, g j = 0 ↔ f j = 0) (a b : Int) : lc_wy g a b = lc_wy f a b := by
  unfold lc_wy lc_find
  rw [lc_two_z h, lc_two_z h]
/-- covers: a piece of the other side stands at the point instead -/
theorem lc_cov_cap {f : Int → Int} (hf : ∀ j : Int, 0 ≤ j → j < 36 → 0 ≤ f j ∧ f j ≤ 2) {p : Int} (hp : 0 ≤ p ∧ p < 36) (h : f p ≠ 0) : lc_num (fun j : Int => decide (lc_u f p (3 - f p) j = f p) && lc_cap (lc_u f p (3 - f p)) j p) 36 = lc_num (fun j : Int => lc_cov f p j) 36 := by
  have h4 := hf p hp.1 hp.2
  have hz : ∀ j : Int, lc_u f p (3 - f p) j = 0 ↔ f j = 0 := by
    intro j
    by_cases e : j = p
    · rw [e, lc_u_s]; omega
    · rw [lc_u_n _ _ e]
  refine lc_num_ext 36 fun j h1 h2 => ?_
  have h3 := hf j h1 h2
  by_cases e : j = p
  · rw [e, lc_u_s, decide_eq_false (show ¬ 3 - f p = f p by omega), Bool.false_and]
    refine (Bool.eq_false_iff.mpr (fun q => (lc_cov_iff.mp q).1.1 rfl)).symm
  · rw [lc_u_n _ _ e]
    unfold lc_cov lc_cap
    rw [lc_wy_z hz, lc_u_n _ _ e, lc_u_s, ← Bool.decide_and]
    exact decide_eq_decide.mpr ⟨fun q => ⟨⟨e, q.1⟩, q.2.2⟩, fun q => ⟨q.1.2, ⟨by omega, q.2⟩⟩⟩
theorem lc_RM_p {N f : Int → Int} {s q m mo ca c p w : Int} {po : Int → Int} (hR : lc_RM N (f, s, q, m, mo, ca, c, po)) (hp : 0 ≤ p ∧ p < 36) : lc_RM (lc_u N (6 + p) w) (lc_u f p w, s, q, m, mo, ca, c, po) := by
  obtain ⟨h0, h1, h2, h3, h4, h5, h6, h7⟩ := hR
  refine ⟨?_, ?_, ?_, ?_, ?_, ?_, ?_, ?_⟩
  · rw [lc_u_n _ _ (by omega)]; exact h0
  · rw [lc_u_n _ _ (by omega)]; exact h1
  · rw [lc_u_n _ _ (by omega)]; exact h2
  · rw [lc_u_n _ _ (by omega)]; exact h3
  · rw [lc_u_n _ _ (by omega)]; exact h4
  · rw [lc_u_n _ _ (by omega)]; exact h5
  · intro j h8 h9
    show _ = lc_u f p w j
    by_cases e : j = p
    · rw [e, lc_u_s, lc_u_s]
    · rw [lc_u_n _ _ (by omega), lc_u_n _ _ e]; exact h6 j h8 h9
  · intro i h8 h9
    obtain ⟨a1, a2, a3⟩ := h7 i h8 h9
    exact ⟨by rw [lc_u_n _ _ (by omega)]; exact a1, by rw [lc_u_n _ _ (by omega)]; exact a2, by rw [lc_u_n _ _ (by omega)]; exact a3⟩
theorem lc_RM_e {N N' : Int → Int} {a : lc_St} (hR : lc_RM N a) (hc : a.2.2.2.2.2.2.1 ≤ 60) (h : ∀ i : Int, 0 ≤ i → i < 222 → N' i = N i) : lc_RM N' a := by
  obtain ⟨h0, h1, h2, h3, h4, h5, h6, h7⟩ := hR
  refine ⟨(h 0 (by omega) (by omega)).trans h0, (h 1 (by omega) (by omega)).trans h1, (h 2 (by omega) (by omega)).trans h2, (h 3 (by omega) (by omega)).trans h3, (h 4 (by omega) (by omega)).trans h4, (h 5 (by omega) (by omega)).trans h5, fun p h8 h9 => (h _ (by omega) (by omega)).trans (h6 p h8 h9), fun i h8 h9 => ?_⟩
  obtain ⟨a1, a2, a3⟩ := h7 i h8 h9
  exact ⟨(h _ (by omega) (by omega)).trans a1, (h _ (by omega) (by omega)).trans a2, (h _ (by omega) (by omega)).trans a3⟩
theorem lc_RM_c {N N' : Int → Int} {a : lc_St} (hR : lc_RM N a) (hc : a.2.2.2.2.2.2.1 ≤ 60) : lc_RM (lc_cpy N 0 N' 0) a := lc_RM_e hR hc (fun i h1 h2 => by
  unfold lc_cpy
  rw [if_pos (by omega)]
  congr 1
  omega)
theorem lc_c3_r {c : Int} (h : 0 ≤ c ∧ c < 450283905890997363) : (0 ≤ lc_c3a c ∧ lc_c3a c < 531441) ∧ (0 ≤ lc_c3b c ∧ lc_c3b c < 531441) ∧ (0 ≤ lc_c3c c ∧ lc_c3c c < 1594323) := by
  unfold lc_c3a lc_c3b lc_c3c
  omega
theorem lc_c3_i {c d : Int} (h : 0 ≤ c ∧ c < 450283905890997363) (h2 : 0 ≤ d ∧ d < 450283905890997363) (ha : lc_c3a c = lc_c3a d) (hb : lc_c3b c = lc_c3b d) (hc : lc_c3c c = lc_c3c d) : c = d := by
  unfold lc_c3a at ha
  unfold lc_c3b at hb
  unfold lc_c3c at hc
  omega
/-- the way that matters, place by place -/
def lc_bw (f : Int → Int) (fr to : Int) : Nat → Int × Int × Int × Int
  | 0 => (0, 0, 0, 0)
  | k + 1 => if lc_pt ((k : Int) / 2) = fr then lc_try f to (lc_bw f fr to k) ((k : Int) / 2) (lc_dk k) else lc_bw f fr to k
def lc_bF (w : Int × Int × Int × Int) : Int := if w.1 = 0 then -105 else 2 * w.2.2.1 + (if w.2.2.2 = 1 then 0 else 1)
def lc_bL (w : Int × Int × Int × Int) : Int := if w.1 = 0 then 1000 else w.1
def lc_bP (w : Int × Int × Int × Int) : Int := if w.1 = 0 then 1000 else w.2.1
theorem lc_bw_0 {f : Int → Int} {fr to : Int} {k : Nat} (h : ¬ lc_pt ((k : Int) / 2) = fr) : lc_bw f fr to (k + 1) = lc_bw f fr to k := if_neg h
theorem lc_bw_1 {f : Int → Int} {fr to : Int} {k : Nat} (h : lc_pt ((k : Int) / 2) = fr) : lc_bw f fr to (k + 1) = lc_try f to (lc_bw f fr to k) ((k : Int) / 2) (lc_dk k) := if_pos h
theorem lc_bw_r (f : Int → Int) (fr to : Int) : ∀ k : Nat, k ≤ 96 → lc_wok (lc_bw f fr to k)
  | 0, _ => lc_w0 _
  | k + 1, hk => by
    unfold lc_bw
    split
    · refine lc_try_ok (lc_bw_r f fr to k (by omega)) (by omega) ?_
      unfold lc_dk
      split
      · exact Or.inl rfl
      · exact Or.inr rfl
    · exact lc_bw_r f fr to k (by omega)
theorem lc_bw_n2 {f : Int → Int} {fr to d : Int} {k : Nat} (hd : d = lc_dk k) (hto : 0 ≤ to) (h : ¬ lc_go f ((k : Int) / 2) d = to) : lc_bw f fr to (k + 1) = lc_bw f fr to k := by
  by_cases h1 : lc_pt ((k : Int) / 2) = fr
  · rw [lc_bw_1 h1, ← hd]
    exact lc_try_n1 (fun q => h ((lc_go_iff hto).mpr q))
  · exact lc_bw_0 h1
theorem lc_Kp_K {f : Int → Int} {x d to : Int} (hto : 0 ≤ to) (h : lc_go f x d = to) : lc_Kp f x d = (lc_K f x d : Int) := by
  unfold lc_Kp
  refine if_neg (fun q => ?_)
  unfold lc_go at h
  rw [if_pos (Or.inl q)] at h
  omega
theorem lc_bw_n3 {f : Int → Int} {fr to d : Int} {k : Nat} (hk : k < 96) (hd : d = lc_dk k) (hto : 0 ≤ to) (h : lc_go f ((k : Int) / 2) d = to) (h3 : ¬ (lc_Lo f ((k : Int) / 2) d < lc_bL (lc_bw f fr to k) ∨ (lc_Lo f ((k : Int) / 2) d = lc_bL (lc_bw f fr to k) ∧ lc_Kp f ((k : Int) / 2) d < lc_bP (lc_bw f fr to k)))) : lc_bw f fr to (k + 1) = lc_bw f fr to k := by
  by_cases h1 : lc_pt ((k : Int) / 2) = fr
  · rw [lc_bw_1 h1, ← hd]
    refine lc_try_n2 (fun q => h3 ?_)
    have hL := lc_Lo_r f ((k : Int) / 2) d
    rw [lc_Kp_K hto h]
    unfold lc_bL lc_bP
    rcases q with q | q | q
    · rw [if_pos q, if_pos q]; exact Or.inl (by omega)
    · rw [if_neg (by omega)]; exact Or.inl q
    · by_cases e : (lc_bw f fr to k).1 = 0
      · rw [if_pos e]; exact Or.inl (by omega)
      · rw [if_neg e, if_neg e]; exact Or.inr q
  · exact lc_bw_0 h1
theorem lc_bw_up {f : Int → Int} {fr to d : Int} {k : Nat} (hd : d = lc_dk k) (hto : 0 ≤ to) (h1 : lc_pt ((k : Int) / 2) = fr) (h : lc_go f ((k : Int) / 2) d = to) (h3 : lc_Lo f ((k : Int) / 2) d < lc_bL (lc_bw f fr to k) ∨ (lc_Lo f ((k : Int) / 2) d = lc_bL (lc_bw f fr to k) ∧ lc_Kp f ((k : Int) / 2) d < lc_bP (lc_bw f fr to k))) : lc_bF (lc_bw f fr to (k + 1)) = (k : Int) ∧ lc_bL (lc_bw f fr to (k + 1)) = lc_Lo f ((k : Int) / 2) d ∧ lc_bP (lc_bw f fr to (k + 1)) = lc_Kp f ((k : Int) / 2) d := by
  have hg := (lc_go_iff hto).mp h
  have e : lc_bw f fr to (k + 1) = (lc_Lo f ((k : Int) / 2) d, (lc_K f ((k : Int) / 2) d : Int), (k : Int) / 2, d) := by
    rw [lc_bw_1 h1, ← hd]
    refine lc_try_t hg ?_
    rw [lc_Kp_K hto h] at h3
    unfold lc_bL lc_bP at h3
    by_cases e : (lc_bw f fr to k).1 = 0
    · exact Or.inl e
    · rw [if_neg e, if_neg e] at h3; exact Or.inr h3
  rw [e, lc_Kp_K hto h]
  have hn : ¬ lc_Lo f ((k : Int) / 2) d = 0 := by omega
  refine ⟨?_, if_neg hn, if_neg hn⟩
  show (if lc_Lo f ((k : Int) / 2) d = 0 then (-105 : Int) else 2 * ((k : Int) / 2) + (if d = 1 then 0 else 1)) = k
  rw [if_neg hn, hd]
  unfold lc_dk
  by_cases e2 : (k : Int) % 2 = 0
  · rw [if_pos e2, if_pos rfl]; omega
  · rw [if_neg e2, if_neg (by decide)]; omega
theorem lc_bw_c {f : Int → Int} {fr to : Int} {a : Nat} : ∀ n : Nat, (∀ k : Nat, a ≤ k → k < a + n → ¬ lc_pt ((k : Int) / 2) = fr) → lc_bw f fr to (a + n) = lc_bw f fr to a
  | 0, _ => rfl
  | n + 1, h => by
    show lc_bw f fr to (a + n + 1) = _
    rw [lc_bw_0 (h (a + n) (by omega) (by omega))]
    exact lc_bw_c n (fun k h1 h2 => h k h1 (by omega))
theorem lc_bw_t {f : Int → Int} {fr to : Int} {a : Nat} (h : lc_pt (a : Int) = fr) : lc_bw f fr to (2 * a + 1 + 1) = lc_two f to (lc_bw f fr to (2 * a)) a := by
  have e1 : ((2 * a : Nat) : Int) / 2 = (a : Int) := by omega
  have e2 : ((2 * a + 1 : Nat) : Int) / 2 = (a : Int) := by omega
  rw [lc_bw_1 (k := 2 * a + 1) (by rw [e2]; exact h), lc_bw_1 (k := 2 * a) (by rw [e1]; exact h), e1, e2]
  unfold lc_two
  rw [if_neg (by omega), show lc_dk (2 * a) = 1 from if_pos (by omega), show lc_dk (2 * a + 1) = -1 from if_neg (by omega)]
theorem lc_sp_o : ∀ p : Fin 36, (lc_sp ((p.val : Int) * 2) = -1 ∧ lc_sp ((p.val : Int) * 2 + 1) = -1) ∨ (lc_sp ((p.val : Int) * 2) ≠ -1 ∧ lc_sp ((p.val : Int) * 2 + 1) = -1) ∨ (lc_sp ((p.val : Int) * 2) ≠ -1 ∧ lc_sp ((p.val : Int) * 2 + 1) ≠ -1 ∧ lc_sp ((p.val : Int) * 2) < lc_sp ((p.val : Int) * 2 + 1)) := by decide +kernel
theorem lc_bw_e {f : Int → Int} {fr to : Int} (hfr : 0 ≤ fr ∧ fr < 36) : lc_bw f fr to 96 = lc_wy f fr to := by
  have ho := lc_sp_o ⟨fr.toNat, by omega⟩
  have e0 : ((fr.toNat : Nat) : Int) = fr := by omega
  simp only [e0] at ho
  have hsp := fun (x : Int) (hx : 0 ≤ x ∧ x < 48) => lc_sp_pt (p := fr) (x := x) hfr hx
  have r1 := lc_sp_r (x := fr * 2) (by omega)
  have r2 := lc_sp_r (x := fr * 2 + 1) (by omega)
  show _ = lc_two f to (lc_two f to (0, 0, 0, 0) (lc_sp (fr * 2))) (lc_sp (fr * 2 + 1))
  generalize lc_sp (fr * 2) = A at *
  generalize lc_sp (fr * 2 + 1) = B at *
  have hm : ∀ w : Int × Int × Int × Int, lc_two f to w (-1) = w := fun w => if_pos rfl
  rcases ho with ⟨h1, h2⟩ | ⟨h1, h2⟩ | ⟨h1, h2, h3⟩
  · rw [h1, h2, hm, hm]
    exact lc_bw_c (a := 0) 96 (fun k h3 h4 q => by have := (hsp ((k : Int) / 2) (by omega)).mp q; omega)
  · rw [h2, hm]
    have e1 : ((A.toNat : Nat) : Int) = A := by omega
    have q1 : lc_pt ((A.toNat : Nat) : Int) = fr := (hsp _ (by omega)).mpr (Or.inl e1.symm)
    have t1 := lc_bw_t (f := f) (to := to) q1
    rw [e1] at t1
    have t2 := lc_bw_c (f := f) (fr := fr) (to := to) (a := 0) (2 * A.toNat) (fun k h3 h4 q => by have := (hsp ((k : Int) / 2) (by omega)).mp q; omega)
    have t3 := lc_bw_c (f := f) (fr := fr) (to := to) (a := 2 * A.toNat + 1 + 1) (96 - (2 * A.toNat + 1 + 1)) (fun k h3 h4 q => by have := (hsp ((k : Int) / 2) (by omega)).mp q; omega)
    rw [show 2 * A.toNat + 1 + 1 + (96 - (2 * A.toNat + 1 + 1)) = 96 by omega] at t3
    rw [Nat.zero_add] at t2
    rw [t3, t1, t2]
    rfl
  · have e1 : ((A.toNat : Nat) : Int) = A := by omega
    have e2 : ((B.toNat : Nat) : Int) = B := by omega
    have q1 : lc_pt ((A.toNat : Nat) : Int) = fr := (hsp _ (by omega)).mpr (Or.inl e1.symm)
    have q2 : lc_pt ((B.toNat : Nat) : Int) = fr := (hsp _ (by omega)).mpr (Or.inr e2.symm)
    have t1 := lc_bw_t (f := f) (to := to) q1
    have t4 := lc_bw_t (f := f) (to := to) q2
    rw [e1] at t1
    rw [e2] at t4
    have t2 := lc_bw_c (f := f) (fr := fr) (to := to) (a := 0) (2 * A.toNat) (fun k h3 h4 q => by have := (hsp ((k : Int) / 2) (by omega)).mp q; omega)
    have t5 := lc_bw_c (f := f) (fr := fr) (to := to) (a := 2 * A.toNat + 1 + 1) (2 * B.toNat - (2 * A.toNat + 1 + 1)) (fun k h3 h4 q => by have := (hsp ((k : Int) / 2) (by omega)).mp q; omega)
    have t3 := lc_bw_c (f := f) (fr := fr) (to := to) (a := 2 * B.toNat + 1 + 1) (96 - (2 * B.toNat + 1 + 1)) (fun k h3 h4 q => by have := (hsp ((k : Int) / 2) (by omega)).mp q; omega)
    rw [show 2 * B.toNat + 1 + 1 + (96 - (2 * B.toNat + 1 + 1)) = 96 by omega] at t3
    rw [show 2 * A.toNat + 1 + 1 + (2 * B.toNat - (2 * A.toNat + 1 + 1)) = 2 * B.toNat by omega] at t5
    rw [Nat.zero_add] at t2
    rw [t3, t4, t5, t1, t2]
    rfl

set_option maxRecDepth 100000 in
set_option maxHeartbeats 600000 in
theorem lc_cX11_why (l : Launch) (n : Nat) (a : Nat) (N : Int → Int) (f : Int → Int) (s q m mo ca ct : Int) (po : Int → Int) (kept : Int) (bs : Bool) (z at9 sn sr w1 w2 w3 bw : Int) (fr to : Int) (c : Bool) (σ : lc_S) (h0_0 : σ (50) = some (.inr (11, [.ref (51), .ref (52), .ref (53), .ref (54), .ref (55), .int (lc_i (kept)), .ref (56), .int (lc_i (if bs = true then 1 else 0)), .ref (57), .int (lc_i (z)), .int (lc_i (at9)), .int (lc_i (sn)), .int (lc_i (sr)), .int (lc_i (w1)), .int (lc_i (w2)), .int (lc_i (w3)), .int (lc_i (bw))]) : lc_Cel)) (h0_1 : σ (a) = some (lc_aI 222 (N))) (ha : 50 < a) (hf : ∀ j : Int, 0 ≤ j → j < 36 → 0 ≤ f j ∧ f j ≤ 2) (hs : 1 ≤ s ∧ s ≤ 2) (hq : -2147483648 ≤ q ∧ q < 2147483648) (hm : -2147483648 ≤ m ∧ m < 2147483648) (hR : lc_RM N (f, s, q, m, mo, ca, ct, po)) (hfr : 0 ≤ fr ∧ fr < 36) (hto : 0 ≤ to ∧ to < 36) : lc_Con l yX11_why cX11_why 6 (some .int) (lc_Rd 3) [.ref (50), .ref (a), .int (lc_i (fr)), .int (lc_i (to)), .int (lc_i (if c = true then 1 else 0))] n σ (fun v n2 σ2 => ∃ (z1 z2 : Int), v = some (.int (lc_i (lc_why f s q m fr to c))) ∧ n = n2 ∧ σ2 (50) = some (.inr (11, [.ref (51), .ref (52), .ref (53), .ref (54), .ref (55), .int (lc_i (kept)), .ref (56), .int (lc_i (if bs = true then 1 else 0)), .ref (57), .int (lc_i (z)), .int (lc_i (at9)), .int (lc_i (sn)), .int (lc_i (sr)), .int (lc_i (z1)), .int (lc_i (z2)), .int (lc_i (w3)), .int (lc_i (bw))]) : lc_Cel) ∧ ∀ i : Nat, i ≠ 50 → σ2 i = σ i) := by
  obtain ⟨h0R, h1R, h2R, h3R, h4R, h5R, h6R, h7R⟩ := id hR
  have h0R : N 0 = s := h0R
  have h1R : N 1 = q := h1R
  have h4R : N 4 = m := h4R
  have h5R : N 5 = ct := h5R
  have h6R : ∀ p : Int, 0 ≤ p → p < 36 → N (6 + p) = f p := h6R
  have hr1 := lc_res_r (lc_cnt f 1 36) (lc_cnt f 2 36) q m
  have hf1 := hf fr hfr.1 hfr.2
  have hf2 := hf to hto.1 hto.2
  have hne : f fr ≠ 0 → f to = 0 → fr ≠ to := fun q1 q2 q3 => q1 (by rw [q3]; exact q2)
  refine lc_con RX11 false (by decide) rfl (fun h => absurd h (by decide)) (Nat.le_of_ble_eq_true rfl) ?_
  suffices H : ∀ Q : lc_QT, (∀ v n2 σ2, (fun v n2 σ2 => ∃ (z1 z2 : Int), v = some (.int (lc_i (lc_why f s q m fr to c))) ∧ n = n2 ∧ σ2 (50) = some (.inr (11, [.ref (51), .ref (52), .ref (53), .ref (54), .ref (55), .int (lc_i (kept)), .ref (56), .int (lc_i (if bs = true then 1 else 0)), .ref (57), .int (lc_i (z)), .int (lc_i (at9)), .int (lc_i (sn)), .int (lc_i (sr)), .int (lc_i (z1)), .int (lc_i (z2)), .int (lc_i (w3)), .int (lc_i (bw))]) : lc_Cel) ∧ ∀ i : Nat, i ≠ 50 → σ2 i = σ i : lc_QT) v n2 σ2 → Q v n2 σ2) → lc_V l RX11 cX11_why 6 (some .int) false (lc_Rd 3) (lc_G Q 0 0) lc_E0 0 0 n 0 [(0, .ref (50)), (1, .ref (a)), (2, .int (lc_i (fr))), (3, .int (lc_i (to))), (4, .int (lc_i (if c = true then 1 else 0)))] [] σ from H _ (fun _ _ _ h => h)
  intro Q hQ
  refine lc_aload_n dX11_why_0 rfl 1 rfl ?_
  refine lc_callS (As := [.ref (a)]) (stk := []) dX11_why_1 lc_mX11_94 lc_yX11_result (lc_cX11_result l n (a) (N) (f) (s) (q) (m) (mo) (ca) (ct) (po) σ h0_1 (hf) (hR) (by omega) (by omega)) rfl ⟨Nat.le_of_ble_eq_true rfl, Nat.le_of_ble_eq_true rfl⟩ ⟨Nat.le_of_ble_eq_true rfl, Nat.le_of_ble_eq_true rfl⟩ rfl (Nat.le_of_ble_eq_true rfl) (fun v1 n2 σ3 q4 => ?_)
  obtain ⟨rfl, rfl, rfl⟩ := q4
  refine lc_if_le (tgt := 9) dX11_why_4 (by decide) (by omega) (fun h_4_4 => ?_) (fun h_4_4 => ?_)
  · skip
    refine lc_aload_n dX11_why_9 rfl 1 rfl ?_
    refine lc_bipush dX11_why_10 (by decide) ?_
    refine lc_iload_n dX11_why_12 rfl 2 rfl ?_
    refine lc_iadd dX11_why_13 ?_
    refine lc_iald dX11_why_14 h0_1 (by omega) (by decide) ?_
    refine lc_top (congrArg (fun z => Value.int (lc_i z)) (show ((N) ((6) + (fr)) : Int) = f fr from h6R fr (by omega) (by omega))) ?_
    refine lc_aload_n dX11_why_15 rfl 1 rfl ?_
    refine lc_iconst dX11_why_16 ?_
    refine lc_iald dX11_why_17 h0_1 (by omega) (by decide) ?_
    refine lc_top (congrArg (fun z => Value.int (lc_i z)) (show ((N) (0) : Int) = s from h0R)) ?_
    refine lc_icmp_eq (tgt := 23) dX11_why_18 (by decide) (by omega) (fun h_18_5 => ?_) (fun h_18_5 => ?_)
    · skip
      refine lc_aload_n dX11_why_23 rfl 1 rfl ?_
      refine lc_bipush dX11_why_24 (by decide) ?_
      refine lc_iload_n dX11_why_26 rfl 3 rfl ?_
      refine lc_iadd dX11_why_27 ?_
      refine lc_iald dX11_why_28 h0_1 (by omega) (by decide) ?_
      refine lc_top (congrArg (fun z => Value.int (lc_i z)) (show ((N) ((6) + (to)) : Int) = f to from h6R to (by omega) (by omega))) ?_
      refine lc_aload_n dX11_why_29 rfl 1 rfl ?_
      refine lc_iconst dX11_why_30 ?_
      refine lc_iald dX11_why_31 h0_1 (by omega) (by decide) ?_
      refine lc_top (congrArg (fun z => Value.int (lc_i z)) (show ((N) (0) : Int) = s from h0R)) ?_
      refine lc_icmp_ne (tgt := 37) dX11_why_32 (by decide) (by omega) (fun h_32_6 => ?_) (fun h_32_6 => ?_)
      · skip
        refine lc_iload dX11_why_37 4 rfl ?_
        refine lc_if_eqB (tgt := 65) dX11_why_39 (by decide) (fun h_39_7 => ?_) (fun h_39_7 => ?_)
        · skip
          refine lc_aload_n dX11_why_65 rfl 1 rfl ?_
          refine lc_bipush dX11_why_66 (by decide) ?_
          refine lc_iload_n dX11_why_68 rfl 3 rfl ?_
          refine lc_iadd dX11_why_69 ?_
          refine lc_iald dX11_why_70 h0_1 (by omega) (by decide) ?_
          refine lc_top (congrArg (fun z => Value.int (lc_i z)) (show ((N) ((6) + (to)) : Int) = f to from h6R to (by omega) (by omega))) ?_
          refine lc_if_ne (tgt := 86) dX11_why_71 (by decide) (by omega) (fun h_71_8 => ?_) (fun h_71_8 => ?_)
          · skip
            refine lc_iconst dX11_why_86 ?_
            refine lc_istore (lv' := [(0, .ref (50)), (1, .ref (a)), (2, .int (lc_i (fr))), (3, .int (lc_i (to))), (4, .int (lc_i (if c = true then 1 else 0))), (5, .int (lc_i (0)))]) dX11_why_87 (by decide) rfl ?_
            refine lc_iload dX11_why_89 5 rfl ?_
            refine lc_if_eq (tgt := 98) dX11_why_91 (by decide) (by omega) (fun h_91_9 => ?_) (fun h_91_9 => ?_)
            · skip
              refine lc_iconst dX11_why_98 ?_
              exact lc_iret dX11_why_99 rfl (Nat.le_of_ble_eq_true rfl) (Nat.le_of_ble_eq_true rfl) (hQ _ _ _ ⟨w1, w2, lc_some (by unfold lc_why; rw [if_neg (show ¬ lc_res (lc_cnt f 1 36) (lc_cnt f 2 36) q m ≠ 0 from by omega), if_neg (show ¬ f fr ≠ s from by omega), if_neg (show ¬ f to = s from by omega), lc_bif_f h_39_7, if_neg (show ¬ lc_step f fr to = true from fun q9 => by have q8 := lc_step_iff.mp q9; omega)]), rfl, h0_0, (fun i _ => rfl)⟩)
            · exact absurd h_91_9 (by decide)
          · skip
            refine lc_iload_n dX11_why_74 rfl 2 rfl ?_
            refine lc_iload_n dX11_why_75 rfl 3 rfl ?_
            refine lc_callS (As := [.int (lc_i (fr)), .int (lc_i (to))]) (stk := []) dX11_why_76 lc_mX11_102 lc_yX11_isBeside (lc_cX11_isBeside l n (fr) (to) σ (by omega) (by omega)) rfl ⟨Nat.le_of_ble_eq_true rfl, Nat.le_of_ble_eq_true rfl⟩ ⟨Nat.le_of_ble_eq_true rfl, Nat.le_of_ble_eq_true rfl⟩ rfl (Nat.le_of_ble_eq_true rfl) (fun v11 n12 σ13 q14 => ?_)
            obtain ⟨rfl, rfl, rfl⟩ := q14
            refine lc_if_eqB (tgt := 86) dX11_why_79 (by decide) (fun h_79_14 => ?_) (fun h_79_14 => ?_)
            · skip
              refine lc_iconst dX11_why_86 ?_
              refine lc_istore (lv' := [(0, .ref (50)), (1, .ref (a)), (2, .int (lc_i (fr))), (3, .int (lc_i (to))), (4, .int (lc_i (if c = true then 1 else 0))), (5, .int (lc_i (0)))]) dX11_why_87 (by decide) rfl ?_
              refine lc_iload dX11_why_89 5 rfl ?_
              refine lc_if_eq (tgt := 98) dX11_why_91 (by decide) (by omega) (fun h_91_15 => ?_) (fun h_91_15 => ?_)
              · skip
                refine lc_iconst dX11_why_98 ?_
                exact lc_iret dX11_why_99 rfl (Nat.le_of_ble_eq_true rfl) (Nat.le_of_ble_eq_true rfl) (hQ _ _ _ ⟨w1, w2, lc_some (by unfold lc_why; rw [if_neg (show ¬ lc_res (lc_cnt f 1 36) (lc_cnt f 2 36) q m ≠ 0 from by omega), if_neg (show ¬ f fr ≠ s from by omega), if_neg (show ¬ f to = s from by omega), lc_bif_f h_39_7, if_neg (show ¬ lc_step f fr to = true from fun q9 => by have q8 := lc_step_iff.mp q9; omega)]), rfl, h0_0, (fun i _ => rfl)⟩)
              · exact absurd h_91_15 (by decide)
            · skip
              refine lc_iconst dX11_why_82 ?_
              refine lc_goto (tgt := 87) dX11_why_83 (by decide) ?_
              refine lc_istore (lv' := [(0, .ref (50)), (1, .ref (a)), (2, .int (lc_i (fr))), (3, .int (lc_i (to))), (4, .int (lc_i (if c = true then 1 else 0))), (5, .int (lc_i (1)))]) dX11_why_87 (by decide) rfl ?_
              refine lc_iload dX11_why_89 5 rfl ?_
              refine lc_if_eq (tgt := 98) dX11_why_91 (by decide) (by omega) (fun h_91_16 => ?_) (fun h_91_16 => ?_)
              · exact absurd h_91_16 (by decide)
              · skip
                refine lc_iconst dX11_why_94 ?_
                refine lc_goto (tgt := 99) dX11_why_95 (by decide) ?_
                exact lc_iret dX11_why_99 rfl (Nat.le_of_ble_eq_true rfl) (Nat.le_of_ble_eq_true rfl) (hQ _ _ _ ⟨w1, w2, lc_some (by unfold lc_why; rw [if_neg (show ¬ lc_res (lc_cnt f 1 36) (lc_cnt f 2 36) q m ≠ 0 from by omega), if_neg (show ¬ f fr ≠ s from by omega), if_neg (show ¬ f to = s from by omega), lc_bif_f h_39_7, if_pos (show lc_step f fr to = true from lc_step_iff.mpr (by omega))]), rfl, h0_0, (fun i _ => rfl)⟩)
        · skip
          refine lc_aload_n dX11_why_42 rfl 0 rfl ?_
          refine lc_aload_n dX11_why_43 rfl 1 rfl ?_
          refine lc_iload_n dX11_why_44 rfl 2 rfl ?_
          refine lc_callV (As := [.ref (a), .int (lc_i (fr))]) (stk := []) (b := 50) dX11_why_45 lc_mX11_98 lc_yX11_targets h0_0 rfl (lc_cX11_targets l n (a) (N) (f) (s) (q) (m) (mo) (ca) (ct) (po) (kept) (bs) (z) (at9) (sn) (sr) (w1) (w2) (w3) (bw) (fr) σ h0_0 h0_1 (by omega) (hf) (hR) (by omega)) rfl ⟨Nat.le_of_ble_eq_true rfl, Nat.le_of_ble_eq_true rfl⟩ ⟨Nat.le_of_ble_eq_true rfl, Nat.le_of_ble_eq_true rfl⟩ rfl (Nat.le_of_ble_eq_true rfl) (fun v24 n25 σ26 q27 => ?_)
          obtain ⟨set22, z18, z19, rfl, rfl, hs23, h21, fr20⟩ := q27
          have h28 : σ26 (a) = some (lc_aI 222 (N)) := (fr20 _ (by omega)).trans h0_1
          refine lc_iload_n dX11_why_48 rfl 3 rfl ?_
          refine lc_lshr dX11_why_49 rfl ?_
          refine lc_lconst (x := 1) dX11_why_50 (by decide) ?_
          refine lc_land dX11_why_51 ?_
          refine lc_lconst (x := 1) dX11_why_52 (by decide) ?_
          refine lc_lcmp dX11_why_53 ?_
          refine lc_if_neR (tgt := 61) dX11_why_54 (by decide) (fun h_54_28 => ?_) (fun h_54_28 => ?_)
          · skip
            refine lc_iconst dX11_why_61 ?_
            refine lc_goto (tgt := 87) dX11_why_62 (by decide) ?_
            refine lc_istore (lv' := [(0, .ref (50)), (1, .ref (a)), (2, .int (lc_i (fr))), (3, .int (lc_i (to))), (4, .int (lc_i (if c = true then 1 else 0))), (5, .int (lc_i (0)))]) dX11_why_87 (by decide) rfl ?_
            refine lc_iload dX11_why_89 5 rfl ?_
            refine lc_if_eq (tgt := 98) dX11_why_91 (by decide) (by omega) (fun h_91_29 => ?_) (fun h_91_29 => ?_)
            · skip
              refine lc_iconst dX11_why_98 ?_
              exact lc_iret dX11_why_99 rfl (Nat.le_of_ble_eq_true rfl) (Nat.le_of_ble_eq_true rfl) (hQ _ _ _ ⟨z18, z19, lc_some (by unfold lc_why; rw [if_neg (show ¬ lc_res (lc_cnt f 1 36) (lc_cnt f 2 36) q m ≠ 0 from by omega), if_neg (show ¬ f fr ≠ s from by omega), if_neg (show ¬ f to = s from by omega), lc_bif_t h_39_7, if_neg (show ¬ lc_cap f fr to = true from fun q9 => h_54_28 (lc_cmp0.mpr ((lc_bs_t hs23 hto).mpr q9)))]), rfl, h21, (fun i _ => (fr20 i (by omega)))⟩)
            · exact absurd h_91_29 (by decide)
          · skip
            refine lc_iconst dX11_why_57 ?_
            refine lc_goto (tgt := 87) dX11_why_58 (by decide) ?_
            refine lc_istore (lv' := [(0, .ref (50)), (1, .ref (a)), (2, .int (lc_i (fr))), (3, .int (lc_i (to))), (4, .int (lc_i (if c = true then 1 else 0))), (5, .int (lc_i (1)))]) dX11_why_87 (by decide) rfl ?_
            refine lc_iload dX11_why_89 5 rfl ?_
            refine lc_if_eq (tgt := 98) dX11_why_91 (by decide) (by omega) (fun h_91_30 => ?_) (fun h_91_30 => ?_)
            · exact absurd h_91_30 (by decide)
            · skip
              refine lc_iconst dX11_why_94 ?_
              refine lc_goto (tgt := 99) dX11_why_95 (by decide) ?_
              exact lc_iret dX11_why_99 rfl (Nat.le_of_ble_eq_true rfl) (Nat.le_of_ble_eq_true rfl) (hQ _ _ _ ⟨z18, z19, lc_some (by unfold lc_why; rw [if_neg (show ¬ lc_res (lc_cnt f 1 36) (lc_cnt f 2 36) q m ≠ 0 from by omega), if_neg (show ¬ f fr ≠ s from by omega), if_neg (show ¬ f to = s from by omega), lc_bif_t h_39_7, if_pos (show lc_cap f fr to = true from (lc_bs_t hs23 hto).mp (lc_cmp0.mp h_54_28))]), rfl, h21, (fun i _ => (fr20 i (by omega)))⟩)
      · skip
        refine lc_iconst dX11_why_35 ?_
        exact lc_iret dX11_why_36 rfl (Nat.le_of_ble_eq_true rfl) (Nat.le_of_ble_eq_true rfl) (hQ _ _ _ ⟨w1, w2, lc_some (by unfold lc_why; rw [if_neg (show ¬ lc_res (lc_cnt f 1 36) (lc_cnt f 2 36) q m ≠ 0 from by omega), if_neg (show ¬ f fr ≠ s from by omega), if_pos (show f to = s from by omega)]), rfl, h0_0, (fun i _ => rfl)⟩)
    · skip
      refine lc_iconst dX11_why_21 ?_
      exact lc_iret dX11_why_22 rfl (Nat.le_of_ble_eq_true rfl) (Nat.le_of_ble_eq_true rfl) (hQ _ _ _ ⟨w1, w2, lc_some (by unfold lc_why; rw [if_neg (show ¬ lc_res (lc_cnt f 1 36) (lc_cnt f 2 36) q m ≠ 0 from by omega), if_pos (show f fr ≠ s from by omega)]), rfl, h0_0, (fun i _ => rfl)⟩)
  · skip
    refine lc_iconst dX11_why_7 ?_
    exact lc_iret dX11_why_8 rfl (Nat.le_of_ble_eq_true rfl) (Nat.le_of_ble_eq_true rfl) (hQ _ _ _ ⟨w1, w2, lc_some (by unfold lc_why; rw [if_pos (show lc_res (lc_cnt f 1 36) (lc_cnt f 2 36) q m ≠ 0 from by omega)]), rfl, h0_0, (fun i _ => rfl)⟩)

set_option maxRecDepth 100000 in
set_option maxHeartbeats 600000 in
theorem lc_cX11_ends (l : Launch) (n : Nat) (a : Nat) (N : Int → Int) (f : Int → Int) (s q m mo ca ct : Int) (po : Int → Int) (kept : Int) (bs : Bool) (z at9 sn sr w1 w2 w3 bw : Int) (fr : Int) (c : Bool) (σ : lc_S) (h0_0 : σ (50) = some (.inr (11, [.ref (51), .ref (52), .ref (53), .ref (54), .ref (55), .int (lc_i (kept)), .ref (56), .int (lc_i (if bs = true then 1 else 0)), .ref (57), .int (lc_i (z)), .int (lc_i (at9)), .int (lc_i (sn)), .int (lc_i (sr)), .int (lc_i (w1)), .int (lc_i (w2)), .int (lc_i (w3)), .int (lc_i (bw))]) : lc_Cel)) (h0_1 : σ (a) = some (lc_aI 222 (N))) (ha : 50 < a) (hf : ∀ j : Int, 0 ≤ j → j < 36 → 0 ≤ f j ∧ f j ≤ 2) (hs : 1 ≤ s ∧ s ≤ 2) (hR : lc_RM N (f, s, q, m, mo, ca, ct, po)) (hfr : 0 ≤ fr ∧ fr < 36) : lc_Con l yX11_ends cX11_ends 7 (some .long) (lc_Rd 3) [.ref (50), .ref (a), .int (lc_i (fr)), .int (lc_i (if c = true then 1 else 0))] n σ (fun v n2 σ2 => ∃ (set : Int64) (z1 z2 : Int), v = some (.long set) ∧ n = n2 ∧ lc_bs set (fun j => lc_en f s c fr j) ∧ σ2 (50) = some (.inr (11, [.ref (51), .ref (52), .ref (53), .ref (54), .ref (55), .int (lc_i (kept)), .ref (56), .int (lc_i (if bs = true then 1 else 0)), .ref (57), .int (lc_i (z)), .int (lc_i (at9)), .int (lc_i (sn)), .int (lc_i (sr)), .int (lc_i (z1)), .int (lc_i (z2)), .int (lc_i (w3)), .int (lc_i (bw))]) : lc_Cel) ∧ ∀ i : Nat, i ≠ 50 → σ2 i = σ i) := by
  obtain ⟨h0R, h1R, h2R, h3R, h4R, h5R, h6R, h7R⟩ := id hR
  have h0R : N 0 = s := h0R
  have h1R : N 1 = q := h1R
  have h4R : N 4 = m := h4R
  have h5R : N 5 = ct := h5R
  have h6R : ∀ p : Int, 0 ≤ p → p < 36 → N (6 + p) = f p := h6R
  have hf1 := hf fr hfr.1 hfr.2
  refine lc_con RX11 false (by decide) rfl (fun h => absurd h (by decide)) (Nat.le_of_ble_eq_true rfl) ?_
  suffices H : ∀ Q : lc_QT, (∀ v n2 σ2, (fun v n2 σ2 => ∃ (set : Int64) (z1 z2 : Int), v = some (.long set) ∧ n = n2 ∧ lc_bs set (fun j => lc_en f s c fr j) ∧ σ2 (50) = some (.inr (11, [.ref (51), .ref (52), .ref (53), .ref (54), .ref (55), .int (lc_i (kept)), .ref (56), .int (lc_i (if bs = true then 1 else 0)), .ref (57), .int (lc_i (z)), .int (lc_i (at9)), .int (lc_i (sn)), .int (lc_i (sr)), .int (lc_i (z1)), .int (lc_i (z2)), .int (lc_i (w3)), .int (lc_i (bw))]) : lc_Cel) ∧ ∀ i : Nat, i ≠ 50 → σ2 i = σ i : lc_QT) v n2 σ2 → Q v n2 σ2) → lc_V l RX11 cX11_ends 7 (some .long) false (lc_Rd 3) (lc_G Q 0 0) lc_E0 0 0 n 0 [(0, .ref (50)), (1, .ref (a)), (2, .int (lc_i (fr))), (3, .int (lc_i (if c = true then 1 else 0)))] [] σ from H _ (fun _ _ _ h => h)
  intro Q hQ
  refine lc_aload_n dX11_ends_0 rfl 1 rfl ?_
  refine lc_bipush dX11_ends_1 (by decide) ?_
  refine lc_iload_n dX11_ends_3 rfl 2 rfl ?_
  refine lc_iadd dX11_ends_4 ?_
  refine lc_iald dX11_ends_5 h0_1 (by omega) (by decide) ?_
  refine lc_top (congrArg (fun z => Value.int (lc_i z)) (show ((N) ((6) + (fr)) : Int) = f fr from h6R fr (by omega) (by omega))) ?_
  refine lc_aload_n dX11_ends_6 rfl 1 rfl ?_
  refine lc_iconst dX11_ends_7 ?_
  refine lc_iald dX11_ends_8 h0_1 (by omega) (by decide) ?_
  refine lc_top (congrArg (fun z => Value.int (lc_i z)) (show ((N) (0) : Int) = s from h0R)) ?_
  refine lc_icmp_eq (tgt := 14) dX11_ends_9 (by decide) (by omega) (fun h_9_0 => ?_) (fun h_9_0 => ?_)
  · skip
    refine lc_iload_n dX11_ends_14 rfl 3 rfl ?_
    refine lc_if_eqB (tgt := 27) dX11_ends_15 (by decide) (fun h_15_1 => ?_) (fun h_15_1 => ?_)
    · skip
      refine lc_lconst (x := 0) dX11_ends_27 (by decide) ?_
      refine lc_lstore (lv' := [(0, .ref (50)), (1, .ref (a)), (2, .int (lc_i (fr))), (3, .int (lc_i (if c = true then 1 else 0))), (4, .long ((0 : Int64)))]) dX11_ends_28 (by decide) rfl ?_
      refine lc_iconst dX11_ends_30 ?_
      refine lc_istore (lv' := [(0, .ref (50)), (1, .ref (a)), (2, .int (lc_i (fr))), (3, .int (lc_i (if c = true then 1 else 0))), (4, .long ((0 : Int64))), (6, .int (lc_i (0)))]) dX11_ends_31 (by decide) rfl ?_
      have loop4 : ∀ (N3 : Nat) (i : Int) (x : Int64), (0 ≤ i ∧ i ≤ 36) → (lc_bs x (lc_eP f fr c i)) → (c = true → i = 0) → 36 - i < (N3 : Int) → lc_V l RX11 cX11_ends 7 (some .long) false (lc_Rd 3) (lc_G Q 0 0) lc_E0 0 0 n 33 [(0, .ref (50)), (1, .ref (a)), (2, .int (lc_i (fr))), (3, .int (lc_i (if c = true then 1 else 0))), (4, .long (x)), (6, .int (lc_i (i)))] [] σ := by
        intro N3
        induction N3 with
        | zero =>
          intro i x hi hx hci hm6
          exact absurd hm6 (by omega)
        | succ N3 ih5 =>
          intro i x hi hx hci hm6
          have hfi : i < 36 → 0 ≤ f i ∧ f i ≤ 2 := fun q9 => hf i hi.1 q9
          have hne : f fr ≠ 0 → f i = 0 → fr ≠ i := fun q1 q2 q3 => q1 (by rw [q3]; exact q2)
          refine lc_iload dX11_ends_33 5 rfl ?_
          refine lc_bipush dX11_ends_35 (by decide) ?_
          refine lc_icmp_ge (tgt := 82) dX11_ends_37 (by decide) (by omega) (fun h_37_6 => ?_) (fun h_37_6 => ?_)
          · skip
            refine lc_lload dX11_ends_82 4 rfl ?_
            exact lc_lret dX11_ends_84 rfl (Nat.le_of_ble_eq_true rfl) (Nat.le_of_ble_eq_true rfl) (hQ _ _ _ ⟨x, w1, w2, rfl, rfl, lc_bs_ext hx (fun j _ h2 => lc_eP_e (by omega) (Or.inr (by omega)) h2), h0_0, (fun i _ => rfl)⟩)
          · skip
            refine lc_iload_n dX11_ends_40 rfl 3 rfl ?_
            refine lc_if_neB (tgt := 82) dX11_ends_41 (by decide) (fun h_41_7 => ?_) (fun h_41_7 => ?_)
            · skip
              refine lc_lload dX11_ends_82 4 rfl ?_
              exact lc_lret dX11_ends_84 rfl (Nat.le_of_ble_eq_true rfl) (Nat.le_of_ble_eq_true rfl) (hQ _ _ _ ⟨x, w1, w2, rfl, rfl, lc_bs_ext hx (fun j _ h2 => lc_eP_e (by omega) (Or.inl h_41_7) h2), h0_0, (fun i _ => rfl)⟩)
            · skip
              refine lc_lload dX11_ends_44 4 rfl ?_
              refine lc_aload_n dX11_ends_46 rfl 1 rfl ?_
              refine lc_bipush dX11_ends_47 (by decide) ?_
              refine lc_iload dX11_ends_49 5 rfl ?_
              refine lc_iadd dX11_ends_51 ?_
              refine lc_iald dX11_ends_52 h0_1 (by omega) (by decide) ?_
              refine lc_top (congrArg (fun z => Value.int (lc_i z)) (show ((N) ((6) + (i)) : Int) = f i from h6R i (by omega) (by omega))) ?_
              refine lc_if_ne (tgt := 72) dX11_ends_53 (by decide) (by omega) (fun h_53_8 => ?_) (fun h_53_8 => ?_)
              · skip
                refine lc_lconst (x := 0) dX11_ends_72 (by decide) ?_
                refine lc_lor dX11_ends_73 ?_
                refine lc_lstore (lv' := [(0, .ref (50)), (1, .ref (a)), (2, .int (lc_i (fr))), (3, .int (lc_i (if c = true then 1 else 0))), (4, .long ((x) ||| ((0 : Int64)))), (6, .int (lc_i (i)))]) dX11_ends_74 (by decide) rfl ?_
                refine lc_iinc (lv' := [(0, .ref (50)), (1, .ref (a)), (2, .int (lc_i (fr))), (3, .int (lc_i (if c = true then 1 else 0))), (4, .long ((x) ||| ((0 : Int64)))), (6, .int (lc_i (i + 1)))]) dX11_ends_76 5 rfl (by decide) rfl ?_
                refine lc_goto (tgt := 33) dX11_ends_79 (by decide) ?_
                exact ih5 (i + 1) ((x) ||| ((0 : Int64))) (by omega) (lc_bs_ext (lc_bs_id hx) (fun j _ _ => lc_eP_0 h_41_7 (fun q9 => by have q8 := lc_step_iff.mp q9; omega))) (fun q9 => absurd q9 h_41_7) (by omega)
              · skip
                refine lc_iload_n dX11_ends_56 rfl 2 rfl ?_
                refine lc_iload dX11_ends_57 5 rfl ?_
                refine lc_callS (As := [.int (lc_i (fr)), .int (lc_i (i))]) (stk := [.long (x)]) dX11_ends_59 lc_mX11_102 lc_yX11_isBeside (lc_cX11_isBeside l n (fr) (i) σ (by omega) (by omega)) rfl ⟨Nat.le_of_ble_eq_true rfl, Nat.le_of_ble_eq_true rfl⟩ ⟨Nat.le_of_ble_eq_true rfl, Nat.le_of_ble_eq_true rfl⟩ rfl (Nat.le_of_ble_eq_true rfl) (fun v10 n11 σ12 q13 => ?_)
                obtain ⟨rfl, rfl, rfl⟩ := q13
                refine lc_if_eqB (tgt := 72) dX11_ends_62 (by decide) (fun h_62_13 => ?_) (fun h_62_13 => ?_)
                · skip
                  refine lc_lconst (x := 0) dX11_ends_72 (by decide) ?_
                  refine lc_lor dX11_ends_73 ?_
                  refine lc_lstore (lv' := [(0, .ref (50)), (1, .ref (a)), (2, .int (lc_i (fr))), (3, .int (lc_i (if c = true then 1 else 0))), (4, .long ((x) ||| ((0 : Int64)))), (6, .int (lc_i (i)))]) dX11_ends_74 (by decide) rfl ?_
                  refine lc_iinc (lv' := [(0, .ref (50)), (1, .ref (a)), (2, .int (lc_i (fr))), (3, .int (lc_i (if c = true then 1 else 0))), (4, .long ((x) ||| ((0 : Int64)))), (6, .int (lc_i (i + 1)))]) dX11_ends_76 5 rfl (by decide) rfl ?_
                  refine lc_goto (tgt := 33) dX11_ends_79 (by decide) ?_
                  exact ih5 (i + 1) ((x) ||| ((0 : Int64))) (by omega) (lc_bs_ext (lc_bs_id hx) (fun j _ _ => lc_eP_0 h_41_7 (fun q9 => by have q8 := lc_step_iff.mp q9; omega))) (fun q9 => absurd q9 h_41_7) (by omega)
                · skip
                  refine lc_lconst (x := 1) dX11_ends_65 (by decide) ?_
                  refine lc_iload dX11_ends_66 5 rfl ?_
                  refine lc_lshl dX11_ends_68 rfl ?_
                  refine lc_goto (tgt := 73) dX11_ends_69 (by decide) ?_
                  refine lc_lor dX11_ends_73 ?_
                  refine lc_lstore (lv' := [(0, .ref (50)), (1, .ref (a)), (2, .int (lc_i (fr))), (3, .int (lc_i (if c = true then 1 else 0))), (4, .long ((x) ||| (((1 : Int64)) <<< ((lc_i (i)).toInt64 &&& 63)))), (6, .int (lc_i (i)))]) dX11_ends_74 (by decide) rfl ?_
                  refine lc_iinc (lv' := [(0, .ref (50)), (1, .ref (a)), (2, .int (lc_i (fr))), (3, .int (lc_i (if c = true then 1 else 0))), (4, .long ((x) ||| (((1 : Int64)) <<< ((lc_i (i)).toInt64 &&& 63)))), (6, .int (lc_i (i + 1)))]) dX11_ends_76 5 rfl (by decide) rfl ?_
                  refine lc_goto (tgt := 33) dX11_ends_79 (by decide) ?_
                  exact ih5 (i + 1) ((x) ||| (((1 : Int64)) <<< ((lc_i (i)).toInt64 &&& 63))) (by omega) (lc_bs_ext (lc_bs_or hx (by omega)) (fun j _ _ => lc_eP_1 h_41_7 (lc_step_iff.mpr (by omega)))) (fun q9 => absurd q9 h_41_7) (by omega)
      exact loop4 1000 (0) ((0 : Int64)) (by omega) (lc_bs_ext lc_bs_0 (fun j h1 _ => (lc_eP_z h_15_1 h1).symm)) (fun _ => rfl) (by omega)
    · skip
      refine lc_aload_n dX11_ends_18 rfl 0 rfl ?_
      refine lc_aload_n dX11_ends_19 rfl 1 rfl ?_
      refine lc_iload_n dX11_ends_20 rfl 2 rfl ?_
      refine lc_callV (As := [.ref (a), .int (lc_i (fr))]) (stk := []) (b := 50) dX11_ends_21 lc_mX11_98 lc_yX11_targets h0_0 rfl (lc_cX11_targets l n (a) (N) (f) (s) (q) (m) (mo) (ca) (ct) (po) (kept) (bs) (z) (at9) (sn) (sr) (w1) (w2) (w3) (bw) (fr) σ h0_0 h0_1 (by omega) (hf) (hR) (by omega)) rfl ⟨Nat.le_of_ble_eq_true rfl, Nat.le_of_ble_eq_true rfl⟩ ⟨Nat.le_of_ble_eq_true rfl, Nat.le_of_ble_eq_true rfl⟩ rfl (Nat.le_of_ble_eq_true rfl) (fun v21 n22 σ23 q24 => ?_)
      obtain ⟨set19, z15, z16, rfl, rfl, hs20, h18, fr17⟩ := q24
      have h25 : σ23 (a) = some (lc_aI 222 (N)) := (fr17 _ (by omega)).trans h0_1
      refine lc_goto (tgt := 28) dX11_ends_24 (by decide) ?_
      refine lc_lstore (lv' := [(0, .ref (50)), (1, .ref (a)), (2, .int (lc_i (fr))), (3, .int (lc_i (if c = true then 1 else 0))), (4, .long (set19))]) dX11_ends_28 (by decide) rfl ?_
      refine lc_iconst dX11_ends_30 ?_
      refine lc_istore (lv' := [(0, .ref (50)), (1, .ref (a)), (2, .int (lc_i (fr))), (3, .int (lc_i (if c = true then 1 else 0))), (4, .long (set19)), (6, .int (lc_i (0)))]) dX11_ends_31 (by decide) rfl ?_
      have loop27 : ∀ (N26 : Nat) (i : Int) (x : Int64), (0 ≤ i ∧ i ≤ 36) → (lc_bs x (lc_eP f fr c i)) → (c = true → i = 0) → 36 - i < (N26 : Int) → lc_V l RX11 cX11_ends 7 (some .long) false (lc_Rd 3) (lc_G Q 0 0) lc_E0 0 0 n 33 [(0, .ref (50)), (1, .ref (a)), (2, .int (lc_i (fr))), (3, .int (lc_i (if c = true then 1 else 0))), (4, .long (x)), (6, .int (lc_i (i)))] [] σ23 := by
        intro N26
        induction N26 with
        | zero =>
          intro i x hi hx hci hm29
          exact absurd hm29 (by omega)
        | succ N26 ih28 =>
          intro i x hi hx hci hm29
          have hfi : i < 36 → 0 ≤ f i ∧ f i ≤ 2 := fun q9 => hf i hi.1 q9
          have hne : f fr ≠ 0 → f i = 0 → fr ≠ i := fun q1 q2 q3 => q1 (by rw [q3]; exact q2)
          refine lc_iload dX11_ends_33 5 rfl ?_
          refine lc_bipush dX11_ends_35 (by decide) ?_
          refine lc_icmp_ge (tgt := 82) dX11_ends_37 (by decide) (by omega) (fun h_37_29 => ?_) (fun h_37_29 => ?_)
          · skip
            refine lc_lload dX11_ends_82 4 rfl ?_
            exact lc_lret dX11_ends_84 rfl (Nat.le_of_ble_eq_true rfl) (Nat.le_of_ble_eq_true rfl) (hQ _ _ _ ⟨x, z15, z16, rfl, rfl, lc_bs_ext hx (fun j _ h2 => lc_eP_e (by omega) (Or.inr (by omega)) h2), h18, (fun i _ => (fr17 i (by omega)))⟩)
          · skip
            refine lc_iload_n dX11_ends_40 rfl 3 rfl ?_
            refine lc_if_neB (tgt := 82) dX11_ends_41 (by decide) (fun h_41_30 => ?_) (fun h_41_30 => ?_)
            · skip
              refine lc_lload dX11_ends_82 4 rfl ?_
              exact lc_lret dX11_ends_84 rfl (Nat.le_of_ble_eq_true rfl) (Nat.le_of_ble_eq_true rfl) (hQ _ _ _ ⟨x, z15, z16, rfl, rfl, lc_bs_ext hx (fun j _ h2 => lc_eP_e (by omega) (Or.inl h_41_30) h2), h18, (fun i _ => (fr17 i (by omega)))⟩)
            · skip
              refine lc_lload dX11_ends_44 4 rfl ?_
              refine lc_aload_n dX11_ends_46 rfl 1 rfl ?_
              refine lc_bipush dX11_ends_47 (by decide) ?_
              refine lc_iload dX11_ends_49 5 rfl ?_
              refine lc_iadd dX11_ends_51 ?_
              refine lc_iald dX11_ends_52 h25 (by omega) (by decide) ?_
              refine lc_top (congrArg (fun z => Value.int (lc_i z)) (show ((N) ((6) + (i)) : Int) = f i from h6R i (by omega) (by omega))) ?_
              refine lc_if_ne (tgt := 72) dX11_ends_53 (by decide) (by omega) (fun h_53_31 => ?_) (fun h_53_31 => ?_)
              · skip
                refine lc_lconst (x := 0) dX11_ends_72 (by decide) ?_
                refine lc_lor dX11_ends_73 ?_
                refine lc_lstore (lv' := [(0, .ref (50)), (1, .ref (a)), (2, .int (lc_i (fr))), (3, .int (lc_i (if c = true then 1 else 0))), (4, .long ((x) ||| ((0 : Int64)))), (6, .int (lc_i (i)))]) dX11_ends_74 (by decide) rfl ?_
                refine lc_iinc (lv' := [(0, .ref (50)), (1, .ref (a)), (2, .int (lc_i (fr))), (3, .int (lc_i (if c = true then 1 else 0))), (4, .long ((x) ||| ((0 : Int64)))), (6, .int (lc_i (i + 1)))]) dX11_ends_76 5 rfl (by decide) rfl ?_
                refine lc_goto (tgt := 33) dX11_ends_79 (by decide) ?_
                exact ih28 (i + 1) ((x) ||| ((0 : Int64))) (by omega) (lc_bs_ext (lc_bs_id hx) (fun j _ _ => lc_eP_0 h_41_30 (fun q9 => by have q8 := lc_step_iff.mp q9; omega))) (fun q9 => absurd q9 h_41_30) (by omega)
              · skip
                refine lc_iload_n dX11_ends_56 rfl 2 rfl ?_
                refine lc_iload dX11_ends_57 5 rfl ?_
                refine lc_callS (As := [.int (lc_i (fr)), .int (lc_i (i))]) (stk := [.long (x)]) dX11_ends_59 lc_mX11_102 lc_yX11_isBeside (lc_cX11_isBeside l n (fr) (i) σ23 (by omega) (by omega)) rfl ⟨Nat.le_of_ble_eq_true rfl, Nat.le_of_ble_eq_true rfl⟩ ⟨Nat.le_of_ble_eq_true rfl, Nat.le_of_ble_eq_true rfl⟩ rfl (Nat.le_of_ble_eq_true rfl) (fun v33 n34 σ35 q36 => ?_)
                obtain ⟨rfl, rfl, rfl⟩ := q36
                refine lc_if_eqB (tgt := 72) dX11_ends_62 (by decide) (fun h_62_36 => ?_) (fun h_62_36 => ?_)
                · skip
                  refine lc_lconst (x := 0) dX11_ends_72 (by decide) ?_
                  refine lc_lor dX11_ends_73 ?_
                  refine lc_lstore (lv' := [(0, .ref (50)), (1, .ref (a)), (2, .int (lc_i (fr))), (3, .int (lc_i (if c = true then 1 else 0))), (4, .long ((x) ||| ((0 : Int64)))), (6, .int (lc_i (i)))]) dX11_ends_74 (by decide) rfl ?_
                  refine lc_iinc (lv' := [(0, .ref (50)), (1, .ref (a)), (2, .int (lc_i (fr))), (3, .int (lc_i (if c = true then 1 else 0))), (4, .long ((x) ||| ((0 : Int64)))), (6, .int (lc_i (i + 1)))]) dX11_ends_76 5 rfl (by decide) rfl ?_
                  refine lc_goto (tgt := 33) dX11_ends_79 (by decide) ?_
                  exact ih28 (i + 1) ((x) ||| ((0 : Int64))) (by omega) (lc_bs_ext (lc_bs_id hx) (fun j _ _ => lc_eP_0 h_41_30 (fun q9 => by have q8 := lc_step_iff.mp q9; omega))) (fun q9 => absurd q9 h_41_30) (by omega)
                · skip
                  refine lc_lconst (x := 1) dX11_ends_65 (by decide) ?_
                  refine lc_iload dX11_ends_66 5 rfl ?_
                  refine lc_lshl dX11_ends_68 rfl ?_
                  refine lc_goto (tgt := 73) dX11_ends_69 (by decide) ?_
                  refine lc_lor dX11_ends_73 ?_
                  refine lc_lstore (lv' := [(0, .ref (50)), (1, .ref (a)), (2, .int (lc_i (fr))), (3, .int (lc_i (if c = true then 1 else 0))), (4, .long ((x) ||| (((1 : Int64)) <<< ((lc_i (i)).toInt64 &&& 63)))), (6, .int (lc_i (i)))]) dX11_ends_74 (by decide) rfl ?_
                  refine lc_iinc (lv' := [(0, .ref (50)), (1, .ref (a)), (2, .int (lc_i (fr))), (3, .int (lc_i (if c = true then 1 else 0))), (4, .long ((x) ||| (((1 : Int64)) <<< ((lc_i (i)).toInt64 &&& 63)))), (6, .int (lc_i (i + 1)))]) dX11_ends_76 5 rfl (by decide) rfl ?_
                  refine lc_goto (tgt := 33) dX11_ends_79 (by decide) ?_
                  exact ih28 (i + 1) ((x) ||| (((1 : Int64)) <<< ((lc_i (i)).toInt64 &&& 63))) (by omega) (lc_bs_ext (lc_bs_or hx (by omega)) (fun j _ _ => lc_eP_1 h_41_30 (lc_step_iff.mpr (by omega)))) (fun q9 => absurd q9 h_41_30) (by omega)
      exact loop27 1000 (0) (set19) (by omega) (lc_bs_ext hs20 (fun j _ _ => (lc_eP_c h_15_1).symm)) (fun _ => rfl) (by omega)
  · skip
    refine lc_lconst (x := 0) dX11_ends_12 (by decide) ?_
    exact lc_lret dX11_ends_13 rfl (Nat.le_of_ble_eq_true rfl) (Nat.le_of_ble_eq_true rfl) (hQ _ _ _ ⟨(0 : Int64), w1, w2, rfl, rfl, lc_bs_ext lc_bs_0 (fun j _ _ => (lc_en_0 (by omega)).symm), h0_0, (fun i _ => rfl)⟩)

set_option maxRecDepth 100000 in
set_option maxHeartbeats 600000 in
theorem lc_cX11_captors (l : Launch) (n : Nat) (a : Nat) (N : Int → Int) (f : Int → Int) (s q m mo ca ct : Int) (po : Int → Int) (kept : Int) (bs : Bool) (z at9 sn sr w1 w2 w3 bw : Int) (p sd : Int) (σ : lc_S) (h0_0 : σ (50) = some (.inr (11, [.ref (51), .ref (52), .ref (53), .ref (54), .ref (55), .int (lc_i (kept)), .ref (56), .int (lc_i (if bs = true then 1 else 0)), .ref (57), .int (lc_i (z)), .int (lc_i (at9)), .int (lc_i (sn)), .int (lc_i (sr)), .int (lc_i (w1)), .int (lc_i (w2)), .int (lc_i (w3)), .int (lc_i (bw))]) : lc_Cel)) (h0_1 : σ (a) = some (lc_aI 222 (N))) (ha : 50 < a) (hf : ∀ j : Int, 0 ≤ j → j < 36 → 0 ≤ f j ∧ f j ≤ 2) (hR : lc_RM N (f, s, q, m, mo, ca, ct, po)) (hp : 0 ≤ p ∧ p < 36) (hsd : -2147483648 ≤ sd ∧ sd < 2147483648) : lc_Con l yX11_captors cX11_captors 6 (some .int) (lc_Rd 3) [.ref (50), .ref (a), .int (lc_i (p)), .int (lc_i (sd))] n σ (fun v n2 σ2 => ∃ (z1 z2 : Int), v = some (.int (lc_i (lc_num (fun j : Int => decide (f j = sd) && lc_cap f j p) 36))) ∧ n = n2 ∧ σ2 (50) = some (.inr (11, [.ref (51), .ref (52), .ref (53), .ref (54), .ref (55), .int (lc_i (kept)), .ref (56), .int (lc_i (if bs = true then 1 else 0)), .ref (57), .int (lc_i (z)), .int (lc_i (at9)), .int (lc_i (sn)), .int (lc_i (sr)), .int (lc_i (z1)), .int (lc_i (z2)), .int (lc_i (w3)), .int (lc_i (bw))]) : lc_Cel) ∧ ∀ i : Nat, i ≠ 50 → σ2 i = σ i) := by
  obtain ⟨h0R, h1R, h2R, h3R, h4R, h5R, h6R, h7R⟩ := id hR
  have h0R : N 0 = s := h0R
  have h1R : N 1 = q := h1R
  have h4R : N 4 = m := h4R
  have h5R : N 5 = ct := h5R
  have h6R : ∀ p : Int, 0 ≤ p → p < 36 → N (6 + p) = f p := h6R
  refine lc_con RX11 false (by decide) rfl (fun h => absurd h (by decide)) (Nat.le_of_ble_eq_true rfl) ?_
  suffices H : ∀ Q : lc_QT, (∀ v n2 σ2, (fun v n2 σ2 => ∃ (z1 z2 : Int), v = some (.int (lc_i (lc_num (fun j : Int => decide (f j = sd) && lc_cap f j p) 36))) ∧ n = n2 ∧ σ2 (50) = some (.inr (11, [.ref (51), .ref (52), .ref (53), .ref (54), .ref (55), .int (lc_i (kept)), .ref (56), .int (lc_i (if bs = true then 1 else 0)), .ref (57), .int (lc_i (z)), .int (lc_i (at9)), .int (lc_i (sn)), .int (lc_i (sr)), .int (lc_i (z1)), .int (lc_i (z2)), .int (lc_i (w3)), .int (lc_i (bw))]) : lc_Cel) ∧ ∀ i : Nat, i ≠ 50 → σ2 i = σ i : lc_QT) v n2 σ2 → Q v n2 σ2) → lc_V l RX11 cX11_captors 6 (some .int) false (lc_Rd 3) (lc_G Q 0 0) lc_E0 0 0 n 0 [(0, .ref (50)), (1, .ref (a)), (2, .int (lc_i (p))), (3, .int (lc_i (sd)))] [] σ from H _ (fun _ _ _ h => h)
  intro Q hQ
  refine lc_iconst dX11_captors_0 ?_
  refine lc_top (congrArg (fun z => Value.int (lc_i z)) (show (0 : Int) = lc_num (fun j : Int => decide (f j = sd) && lc_cap f j p) (0 : Int).toNat from rfl)) ?_
  refine lc_istore (lv' := [(0, .ref (50)), (1, .ref (a)), (2, .int (lc_i (p))), (3, .int (lc_i (sd))), (4, .int (lc_i (lc_num (fun j : Int => decide (f j = sd) && lc_cap f j p) (0 : Int).toNat)))]) dX11_captors_1 (by decide) rfl ?_
  refine lc_iconst dX11_captors_3 ?_
  refine lc_istore (lv' := [(0, .ref (50)), (1, .ref (a)), (2, .int (lc_i (p))), (3, .int (lc_i (sd))), (4, .int (lc_i (lc_num (fun j : Int => decide (f j = sd) && lc_cap f j p) (0 : Int).toNat))), (5, .int (lc_i (0)))]) dX11_captors_4 (by decide) rfl ?_
  have loop2 : ∀ (N1 : Nat) (i : Int) (y1 : Int) (y2 : Int) (σ4 : lc_S), (σ4 (50) = some (.inr (11, [.ref (51), .ref (52), .ref (53), .ref (54), .ref (55), .int (lc_i (kept)), .ref (56), .int (lc_i (if bs = true then 1 else 0)), .ref (57), .int (lc_i (z)), .int (lc_i (at9)), .int (lc_i (sn)), .int (lc_i (sr)), .int (lc_i (y1)), .int (lc_i (y2)), .int (lc_i (w3)), .int (lc_i (bw))]) : lc_Cel)) → (∀ i : Nat, i ≠ 50 → σ4 i = σ i) → (0 ≤ i ∧ i ≤ 36) → 36 - i < (N1 : Int) → lc_V l RX11 cX11_captors 6 (some .int) false (lc_Rd 3) (lc_G Q 0 0) lc_E0 0 0 n 6 [(0, .ref (50)), (1, .ref (a)), (2, .int (lc_i (p))), (3, .int (lc_i (sd))), (4, .int (lc_i (lc_num (fun j : Int => decide (f j = sd) && lc_cap f j p) (i).toNat))), (5, .int (lc_i (i)))] [] σ4 := by
    intro N1
    induction N1 with
    | zero =>
      intro i y1 y2 σ4 h5 fr6 hi hm7
      exact absurd hm7 (by omega)
    | succ N1 ih3 =>
      intro i y1 y2 σ4 h5 fr6 hi hm7
      have h8 : σ4 (a) = some (lc_aI 222 (N)) := (fr6 _ (by omega)).trans h0_1
      have hfi : i < 36 → 0 ≤ f i ∧ f i ≤ 2 := fun q9 => hf i hi.1 q9
      have hnr9 := lc_num_r (fun j : Int => decide (f j = sd) && lc_cap f j p) i.toNat
      refine lc_iload dX11_captors_6 5 rfl ?_
      refine lc_bipush dX11_captors_8 (by decide) ?_
      refine lc_icmp_ge (tgt := 56) dX11_captors_10 (by decide) (by omega) (fun h_10_8 => ?_) (fun h_10_8 => ?_)
      · skip
        refine lc_iload dX11_captors_56 4 rfl ?_
        exact lc_iret dX11_captors_58 rfl (Nat.le_of_ble_eq_true rfl) (Nat.le_of_ble_eq_true rfl) (hQ _ _ _ ⟨y1, y2, lc_some (by rw [show (i).toNat = 36 from by omega]), rfl, h5, (fun i _ => (fr6 i (by omega)))⟩)
      · skip
        refine lc_iload dX11_captors_13 4 rfl ?_
        refine lc_aload_n dX11_captors_15 rfl 1 rfl ?_
        refine lc_bipush dX11_captors_16 (by decide) ?_
        refine lc_iload dX11_captors_18 5 rfl ?_
        refine lc_iadd dX11_captors_20 ?_
        refine lc_iald dX11_captors_21 h8 (by omega) (by decide) ?_
        refine lc_top (congrArg (fun z => Value.int (lc_i z)) (show ((N) ((6) + (i)) : Int) = f i from h6R i (by omega) (by omega))) ?_
        refine lc_iload_n dX11_captors_22 rfl 3 rfl ?_
        refine lc_icmp_ne (tgt := 46) dX11_captors_23 (by decide) (by omega) (fun h_23_9 => ?_) (fun h_23_9 => ?_)
        · skip
          refine lc_iconst dX11_captors_46 ?_
          refine lc_iadd dX11_captors_47 ?_
          refine lc_istore (lv' := [(0, .ref (50)), (1, .ref (a)), (2, .int (lc_i (p))), (3, .int (lc_i (sd))), (4, .int (lc_i ((lc_num (fun j : Int => decide (f j = sd) && lc_cap f j p) (i).toNat) + (0)))), (5, .int (lc_i (i)))]) dX11_captors_48 (by decide) rfl ?_
          refine lc_iinc (lv' := [(0, .ref (50)), (1, .ref (a)), (2, .int (lc_i (p))), (3, .int (lc_i (sd))), (4, .int (lc_i ((lc_num (fun j : Int => decide (f j = sd) && lc_cap f j p) (i).toNat) + (0)))), (5, .int (lc_i (i + 1)))]) dX11_captors_50 5 rfl (by decide) rfl ?_
          refine lc_goto (tgt := 6) dX11_captors_53 (by decide) ?_
          refine lc_lveq (lv' := [(0, .ref (50)), (1, .ref (a)), (2, .int (lc_i (p))), (3, .int (lc_i (sd))), (4, .int (lc_i (lc_num (fun j : Int => decide (f j = sd) && lc_cap f j p) (i + 1).toNat))), (5, .int (lc_i (i + 1)))]) (by rw [lc_num_00 (P := (fun j : Int => decide (f j = sd) && lc_cap f j p)) hi.1 (fun q9 => h_23_9 (of_decide_eq_true (lc_bnd_1 q9)))]) ?_
          exact ih3 (i + 1) (y1) (y2) σ4 h5 (fun i _ => (fr6 i (by omega))) (by omega) (by omega)
        · skip
          refine lc_aload_n dX11_captors_26 rfl 0 rfl ?_
          refine lc_aload_n dX11_captors_27 rfl 1 rfl ?_
          refine lc_iload dX11_captors_28 5 rfl ?_
          refine lc_callV (As := [.ref (a), .int (lc_i (i))]) (stk := [.int (lc_i (lc_num (fun j : Int => decide (f j = sd) && lc_cap f j p) (i).toNat))]) (b := 50) dX11_captors_30 lc_mX11_98 lc_yX11_targets h5 rfl (lc_cX11_targets l n (a) (N) (f) (s) (q) (m) (mo) (ca) (ct) (po) (kept) (bs) (z) (at9) (sn) (sr) (y1) (y2) (w3) (bw) (i) σ4 h5 h8 (by omega) (hf) (hR) (by omega)) rfl ⟨Nat.le_of_ble_eq_true rfl, Nat.le_of_ble_eq_true rfl⟩ ⟨Nat.le_of_ble_eq_true rfl, Nat.le_of_ble_eq_true rfl⟩ rfl (Nat.le_of_ble_eq_true rfl) (fun v17 n18 σ19 q20 => ?_)
          obtain ⟨set15, z11, z12, rfl, rfl, hs16, h14, fr13⟩ := q20
          have h21 : σ19 (a) = some (lc_aI 222 (N)) := (fr13 _ (by omega)).trans h8
          refine lc_iload_n dX11_captors_33 rfl 2 rfl ?_
          refine lc_lshr dX11_captors_34 rfl ?_
          refine lc_lconst (x := 1) dX11_captors_35 (by decide) ?_
          refine lc_land dX11_captors_36 ?_
          refine lc_lconst (x := 1) dX11_captors_37 (by decide) ?_
          refine lc_lcmp dX11_captors_38 ?_
          refine lc_if_neR (tgt := 46) dX11_captors_39 (by decide) (fun h_39_21 => ?_) (fun h_39_21 => ?_)
          · skip
            refine lc_iconst dX11_captors_46 ?_
            refine lc_iadd dX11_captors_47 ?_
            refine lc_istore (lv' := [(0, .ref (50)), (1, .ref (a)), (2, .int (lc_i (p))), (3, .int (lc_i (sd))), (4, .int (lc_i ((lc_num (fun j : Int => decide (f j = sd) && lc_cap f j p) (i).toNat) + (0)))), (5, .int (lc_i (i)))]) dX11_captors_48 (by decide) rfl ?_
            refine lc_iinc (lv' := [(0, .ref (50)), (1, .ref (a)), (2, .int (lc_i (p))), (3, .int (lc_i (sd))), (4, .int (lc_i ((lc_num (fun j : Int => decide (f j = sd) && lc_cap f j p) (i).toNat) + (0)))), (5, .int (lc_i (i + 1)))]) dX11_captors_50 5 rfl (by decide) rfl ?_
            refine lc_goto (tgt := 6) dX11_captors_53 (by decide) ?_
            refine lc_lveq (lv' := [(0, .ref (50)), (1, .ref (a)), (2, .int (lc_i (p))), (3, .int (lc_i (sd))), (4, .int (lc_i (lc_num (fun j : Int => decide (f j = sd) && lc_cap f j p) (i + 1).toNat))), (5, .int (lc_i (i + 1)))]) (by rw [lc_num_00 (P := (fun j : Int => decide (f j = sd) && lc_cap f j p)) hi.1 (fun q9 => h_39_21 (lc_cmp0.mpr ((lc_bs_t hs16 hp).mpr (lc_bnd_2 q9))))]) ?_
            exact ih3 (i + 1) (z11) (z12) σ19 h14 (fun i _ => ((fr13 i (by omega)).trans (fr6 i (by omega)))) (by omega) (by omega)
          · skip
            refine lc_iconst dX11_captors_42 ?_
            refine lc_goto (tgt := 47) dX11_captors_43 (by decide) ?_
            refine lc_iadd dX11_captors_47 ?_
            refine lc_istore (lv' := [(0, .ref (50)), (1, .ref (a)), (2, .int (lc_i (p))), (3, .int (lc_i (sd))), (4, .int (lc_i ((lc_num (fun j : Int => decide (f j = sd) && lc_cap f j p) (i).toNat) + (1)))), (5, .int (lc_i (i)))]) dX11_captors_48 (by decide) rfl ?_
            refine lc_iinc (lv' := [(0, .ref (50)), (1, .ref (a)), (2, .int (lc_i (p))), (3, .int (lc_i (sd))), (4, .int (lc_i ((lc_num (fun j : Int => decide (f j = sd) && lc_cap f j p) (i).toNat) + (1)))), (5, .int (lc_i (i + 1)))]) dX11_captors_50 5 rfl (by decide) rfl ?_
            refine lc_goto (tgt := 6) dX11_captors_53 (by decide) ?_
            refine lc_lveq (lv' := [(0, .ref (50)), (1, .ref (a)), (2, .int (lc_i (p))), (3, .int (lc_i (sd))), (4, .int (lc_i (lc_num (fun j : Int => decide (f j = sd) && lc_cap f j p) (i + 1).toNat))), (5, .int (lc_i (i + 1)))]) (by rw [lc_num_1 (P := (fun j : Int => decide (f j = sd) && lc_cap f j p)) hi.1 (lc_bnd (decide_eq_true h_23_9) ((lc_bs_t hs16 hp).mp (lc_cmp0.mp h_39_21)))]) ?_
            exact ih3 (i + 1) (z11) (z12) σ19 h14 (fun i _ => ((fr13 i (by omega)).trans (fr6 i (by omega)))) (by omega) (by omega)
  exact loop2 1000 (0) (w1) (w2) σ h0_0 (fun _ _ => rfl) (by omega) (by omega)

set_option maxRecDepth 100000 in
set_option maxHeartbeats 600000 in
theorem lc_cX11_quietOnes (l : Launch) (n : Nat) (N : Int → Int) (f : Int → Int) (s q m mo ca ct : Int) (po : Int → Int) (kept : Int) (bs : Bool) (z at9 sn sr w1 w2 w3 bw : Int) (p : Int) (σ : lc_S) (h0_0 : σ (50) = some (.inr (11, [.ref (51), .ref (52), .ref (53), .ref (54), .ref (55), .int (lc_i (kept)), .ref (56), .int (lc_i (if bs = true then 1 else 0)), .ref (57), .int (lc_i (z)), .int (lc_i (at9)), .int (lc_i (sn)), .int (lc_i (sr)), .int (lc_i (w1)), .int (lc_i (w2)), .int (lc_i (w3)), .int (lc_i (bw))]) : lc_Cel)) (h0_1 : σ (51) = some (lc_aI 222 (N))) (hf : ∀ j : Int, 0 ≤ j → j < 36 → 0 ≤ f j ∧ f j ≤ 2) (hR : lc_RM N (f, s, q, m, mo, ca, ct, po)) (hp : 0 ≤ p ∧ p < 36) (h0 : f p ≠ 0) : lc_Con l yX11_quietOnes cX11_quietOnes 4 (some .int) (lc_Rd 2) [.ref (50), .int (lc_i (p))] n σ (fun v n2 σ2 => v = some (.int (lc_i (lc_num (fun j : Int => lc_step f p j) 36))) ∧ n = n2 ∧ σ = σ2) := by
  obtain ⟨h0R, h1R, h2R, h3R, h4R, h5R, h6R, h7R⟩ := id hR
  have h0R : N 0 = s := h0R
  have h1R : N 1 = q := h1R
  have h4R : N 4 = m := h4R
  have h5R : N 5 = ct := h5R
  have h6R : ∀ p : Int, 0 ≤ p → p < 36 → N (6 + p) = f p := h6R
  refine lc_con RX11 false (by decide) rfl (fun h => absurd h (by decide)) (Nat.le_of_ble_eq_true rfl) ?_
  suffices H : ∀ Q : lc_QT, (∀ v n2 σ2, (fun v n2 σ2 => v = some (.int (lc_i (lc_num (fun j : Int => lc_step f p j) 36))) ∧ n = n2 ∧ σ = σ2 : lc_QT) v n2 σ2 → Q v n2 σ2) → lc_V l RX11 cX11_quietOnes 4 (some .int) false (lc_Rd 2) (lc_G Q 0 0) lc_E0 0 0 n 0 [(0, .ref (50)), (1, .int (lc_i (p)))] [] σ from H _ (fun _ _ _ h => h)
  intro Q hQ
  refine lc_iconst dX11_quietOnes_0 ?_
  refine lc_top (congrArg (fun z => Value.int (lc_i z)) (show (0 : Int) = lc_num (fun j : Int => lc_step f p j) (0 : Int).toNat from rfl)) ?_
  refine lc_istore_n (lv' := [(0, .ref (50)), (1, .int (lc_i (p))), (2, .int (lc_i (lc_num (fun j : Int => lc_step f p j) (0 : Int).toNat)))]) dX11_quietOnes_1 rfl (by decide) rfl ?_
  refine lc_iconst dX11_quietOnes_2 ?_
  refine lc_istore_n (lv' := [(0, .ref (50)), (1, .int (lc_i (p))), (2, .int (lc_i (lc_num (fun j : Int => lc_step f p j) (0 : Int).toNat))), (3, .int (lc_i (0)))]) dX11_quietOnes_3 rfl (by decide) rfl ?_
  have loop2 : ∀ (N1 : Nat) (i : Int), (0 ≤ i ∧ i ≤ 36) → 36 - i < (N1 : Int) → lc_V l RX11 cX11_quietOnes 4 (some .int) false (lc_Rd 2) (lc_G Q 0 0) lc_E0 0 0 n 4 [(0, .ref (50)), (1, .int (lc_i (p))), (2, .int (lc_i (lc_num (fun j : Int => lc_step f p j) (i).toNat))), (3, .int (lc_i (i)))] [] σ := by
    intro N1
    induction N1 with
    | zero =>
      intro i hi hm4
      exact absurd hm4 (by omega)
    | succ N1 ih3 =>
      intro i hi hm4
      have hfi : i < 36 → 0 ≤ f i ∧ f i ≤ 2 := fun q9 => hf i hi.1 q9
      have hnr9 := lc_num_r (fun j : Int => lc_step f p j) i.toNat
      have hne : f i = 0 → p ≠ i := fun q2 q3 => h0 (by rw [q3]; exact q2)
      refine lc_iload_n dX11_quietOnes_4 rfl 3 rfl ?_
      refine lc_bipush dX11_quietOnes_5 (by decide) ?_
      refine lc_icmp_ge (tgt := 44) dX11_quietOnes_7 (by decide) (by omega) (fun h_7_4 => ?_) (fun h_7_4 => ?_)
      · skip
        refine lc_iload_n dX11_quietOnes_44 rfl 2 rfl ?_
        exact lc_iret dX11_quietOnes_45 rfl (Nat.le_of_ble_eq_true rfl) (Nat.le_of_ble_eq_true rfl) (hQ _ _ _ ⟨lc_some (by rw [show (i).toNat = 36 from by omega]), rfl, rfl⟩)
      · skip
        refine lc_iload_n dX11_quietOnes_10 rfl 2 rfl ?_
        refine lc_aload_n dX11_quietOnes_11 rfl 0 rfl ?_
        refine lc_get dX11_quietOnes_12 lc_fX11_7 h0_0 rfl ?_
        refine lc_bipush dX11_quietOnes_15 (by decide) ?_
        refine lc_iload_n dX11_quietOnes_17 rfl 3 rfl ?_
        refine lc_iadd dX11_quietOnes_18 ?_
        refine lc_iald dX11_quietOnes_19 h0_1 (by omega) (by decide) ?_
        refine lc_top (congrArg (fun z => Value.int (lc_i z)) (show ((N) ((6) + (i)) : Int) = f i from h6R i (by omega) (by omega))) ?_
        refine lc_if_ne (tgt := 35) dX11_quietOnes_20 (by decide) (by omega) (fun h_20_5 => ?_) (fun h_20_5 => ?_)
        · skip
          refine lc_iconst dX11_quietOnes_35 ?_
          refine lc_iadd dX11_quietOnes_36 ?_
          refine lc_istore_n (lv' := [(0, .ref (50)), (1, .int (lc_i (p))), (2, .int (lc_i ((lc_num (fun j : Int => lc_step f p j) (i).toNat) + (0)))), (3, .int (lc_i (i)))]) dX11_quietOnes_37 rfl (by decide) rfl ?_
          refine lc_iinc (lv' := [(0, .ref (50)), (1, .int (lc_i (p))), (2, .int (lc_i ((lc_num (fun j : Int => lc_step f p j) (i).toNat) + (0)))), (3, .int (lc_i (i + 1)))]) dX11_quietOnes_38 3 rfl (by decide) rfl ?_
          refine lc_goto (tgt := 4) dX11_quietOnes_41 (by decide) ?_
          refine lc_lveq (lv' := [(0, .ref (50)), (1, .int (lc_i (p))), (2, .int (lc_i (lc_num (fun j : Int => lc_step f p j) (i + 1).toNat))), (3, .int (lc_i (i + 1)))]) (by rw [lc_num_00 (P := (fun j : Int => lc_step f p j)) hi.1 (fun q9 => by have q8 := lc_step_iff.mp q9; omega)]) ?_
          exact ih3 (i + 1) (by omega) (by omega)
        · skip
          refine lc_iload_n dX11_quietOnes_23 rfl 1 rfl ?_
          refine lc_iload_n dX11_quietOnes_24 rfl 3 rfl ?_
          refine lc_callS (As := [.int (lc_i (p)), .int (lc_i (i))]) (stk := [.int (lc_i (lc_num (fun j : Int => lc_step f p j) (i).toNat))]) dX11_quietOnes_25 lc_mX11_102 lc_yX11_isBeside (lc_cX11_isBeside l n (p) (i) σ (by omega) (by omega)) rfl ⟨Nat.le_of_ble_eq_true rfl, Nat.le_of_ble_eq_true rfl⟩ ⟨Nat.le_of_ble_eq_true rfl, Nat.le_of_ble_eq_true rfl⟩ rfl (Nat.le_of_ble_eq_true rfl) (fun v7 n8 σ9 q10 => ?_)
          obtain ⟨rfl, rfl, rfl⟩ := q10
          refine lc_if_eqB (tgt := 35) dX11_quietOnes_28 (by decide) (fun h_28_10 => ?_) (fun h_28_10 => ?_)
          · skip
            refine lc_iconst dX11_quietOnes_35 ?_
            refine lc_iadd dX11_quietOnes_36 ?_
            refine lc_istore_n (lv' := [(0, .ref (50)), (1, .int (lc_i (p))), (2, .int (lc_i ((lc_num (fun j : Int => lc_step f p j) (i).toNat) + (0)))), (3, .int (lc_i (i)))]) dX11_quietOnes_37 rfl (by decide) rfl ?_
            refine lc_iinc (lv' := [(0, .ref (50)), (1, .int (lc_i (p))), (2, .int (lc_i ((lc_num (fun j : Int => lc_step f p j) (i).toNat) + (0)))), (3, .int (lc_i (i + 1)))]) dX11_quietOnes_38 3 rfl (by decide) rfl ?_
            refine lc_goto (tgt := 4) dX11_quietOnes_41 (by decide) ?_
            refine lc_lveq (lv' := [(0, .ref (50)), (1, .int (lc_i (p))), (2, .int (lc_i (lc_num (fun j : Int => lc_step f p j) (i + 1).toNat))), (3, .int (lc_i (i + 1)))]) (by rw [lc_num_00 (P := (fun j : Int => lc_step f p j)) hi.1 (fun q9 => by have q8 := lc_step_iff.mp q9; omega)]) ?_
            exact ih3 (i + 1) (by omega) (by omega)
          · skip
            refine lc_iconst dX11_quietOnes_31 ?_
            refine lc_goto (tgt := 36) dX11_quietOnes_32 (by decide) ?_
            refine lc_iadd dX11_quietOnes_36 ?_
            refine lc_istore_n (lv' := [(0, .ref (50)), (1, .int (lc_i (p))), (2, .int (lc_i ((lc_num (fun j : Int => lc_step f p j) (i).toNat) + (1)))), (3, .int (lc_i (i)))]) dX11_quietOnes_37 rfl (by decide) rfl ?_
            refine lc_iinc (lv' := [(0, .ref (50)), (1, .int (lc_i (p))), (2, .int (lc_i ((lc_num (fun j : Int => lc_step f p j) (i).toNat) + (1)))), (3, .int (lc_i (i + 1)))]) dX11_quietOnes_38 3 rfl (by decide) rfl ?_
            refine lc_goto (tgt := 4) dX11_quietOnes_41 (by decide) ?_
            refine lc_lveq (lv' := [(0, .ref (50)), (1, .int (lc_i (p))), (2, .int (lc_i (lc_num (fun j : Int => lc_step f p j) (i + 1).toNat))), (3, .int (lc_i (i + 1)))]) (by rw [lc_num_1 (P := (fun j : Int => lc_step f p j)) hi.1 (lc_step_iff.mpr (by omega))]) ?_
            exact ih3 (i + 1) (by omega) (by omega)
  exact loop2 1000 (0) (by omega) (by omega)

set_option maxRecDepth 100000 in
set_option maxHeartbeats 600000 in
theorem lc_cX11_covered (l : Launch) (n : Nat) (N : Int → Int) (f : Int → Int) (s q m mo ca ct : Int) (po : Int → Int) (kept : Int) (bs : Bool) (z at9 sn sr w1 w2 w3 bw : Int) (N3 : Int → Int) (p : Int) (σ : lc_S) (h0_0 : σ (50) = some (.inr (11, [.ref (51), .ref (52), .ref (53), .ref (54), .ref (55), .int (lc_i (kept)), .ref (56), .int (lc_i (if bs = true then 1 else 0)), .ref (57), .int (lc_i (z)), .int (lc_i (at9)), .int (lc_i (sn)), .int (lc_i (sr)), .int (lc_i (w1)), .int (lc_i (w2)), .int (lc_i (w3)), .int (lc_i (bw))]) : lc_Cel)) (h0_1 : σ (51) = some (lc_aI 222 (N))) (h0_2 : σ (53) = some (lc_aI 222 (N3))) (hf : ∀ j : Int, 0 ≤ j → j < 36 → 0 ≤ f j ∧ f j ≤ 2) (hct : 0 ≤ ct ∧ ct ≤ 60) (hR : lc_RM N (f, s, q, m, mo, ca, ct, po)) (hp : 0 ≤ p ∧ p < 36) (h0 : f p ≠ 0) : lc_Con l yX11_covered cX11_covered 3 (some .int) (lc_Rd 4) [.ref (50), .int (lc_i (p))] n σ (fun v n2 σ2 => ∃ (z1 z2 : Int) (g3 : Int → Int), v = some (.int (lc_i (lc_num (fun j : Int => lc_cov f p j) 36))) ∧ n = n2 ∧ σ2 (50) = some (.inr (11, [.ref (51), .ref (52), .ref (53), .ref (54), .ref (55), .int (lc_i (kept)), .ref (56), .int (lc_i (if bs = true then 1 else 0)), .ref (57), .int (lc_i (z)), .int (lc_i (at9)), .int (lc_i (sn)), .int (lc_i (sr)), .int (lc_i (z1)), .int (lc_i (z2)), .int (lc_i (w3)), .int (lc_i (bw))]) : lc_Cel) ∧ σ2 (53) = some (lc_aI 222 (g3)) ∧ ∀ i : Nat, i ≠ 50 → i ≠ 53 → σ2 i = σ i) := by
  obtain ⟨h0R, h1R, h2R, h3R, h4R, h5R, h6R, h7R⟩ := id hR
  have h0R : N 0 = s := h0R
  have h1R : N 1 = q := h1R
  have h4R : N 4 = m := h4R
  have h5R : N 5 = ct := h5R
  have h6R : ∀ p : Int, 0 ≤ p → p < 36 → N (6 + p) = f p := h6R
  have hfp := hf p hp.1 hp.2
  refine lc_con RX11 false (by decide) rfl (fun h => absurd h (by decide)) (Nat.le_of_ble_eq_true rfl) ?_
  suffices H : ∀ Q : lc_QT, (∀ v n2 σ2, (fun v n2 σ2 => ∃ (z1 z2 : Int) (g3 : Int → Int), v = some (.int (lc_i (lc_num (fun j : Int => lc_cov f p j) 36))) ∧ n = n2 ∧ σ2 (50) = some (.inr (11, [.ref (51), .ref (52), .ref (53), .ref (54), .ref (55), .int (lc_i (kept)), .ref (56), .int (lc_i (if bs = true then 1 else 0)), .ref (57), .int (lc_i (z)), .int (lc_i (at9)), .int (lc_i (sn)), .int (lc_i (sr)), .int (lc_i (z1)), .int (lc_i (z2)), .int (lc_i (w3)), .int (lc_i (bw))]) : lc_Cel) ∧ σ2 (53) = some (lc_aI 222 (g3)) ∧ ∀ i : Nat, i ≠ 50 → i ≠ 53 → σ2 i = σ i : lc_QT) v n2 σ2 → Q v n2 σ2) → lc_V l RX11 cX11_covered 3 (some .int) false (lc_Rd 4) (lc_G Q 0 0) lc_E0 0 0 n 0 [(0, .ref (50)), (1, .int (lc_i (p)))] [] σ from H _ (fun _ _ _ h => h)
  intro Q hQ
  refine lc_aload_n dX11_covered_0 rfl 0 rfl ?_
  refine lc_get dX11_covered_1 lc_fX11_7 h0_0 rfl ?_
  refine lc_bipush dX11_covered_4 (by decide) ?_
  refine lc_iload_n dX11_covered_6 rfl 1 rfl ?_
  refine lc_iadd dX11_covered_7 ?_
  refine lc_iald dX11_covered_8 h0_1 (by omega) (by decide) ?_
  refine lc_top (congrArg (fun z => Value.int (lc_i z)) (show ((N) ((6) + (p)) : Int) = f p from h6R p (by omega) (by omega))) ?_
  refine lc_istore_n (lv' := [(0, .ref (50)), (1, .int (lc_i (p))), (2, .int (lc_i (f p)))]) dX11_covered_9 rfl (by decide) rfl ?_
  refine lc_aload_n dX11_covered_10 rfl 0 rfl ?_
  refine lc_get dX11_covered_11 lc_fX11_7 h0_0 rfl ?_
  refine lc_iconst dX11_covered_14 ?_
  refine lc_aload_n dX11_covered_15 rfl 0 rfl ?_
  refine lc_get dX11_covered_16 lc_fX11_16 h0_0 rfl ?_
  refine lc_iconst dX11_covered_19 ?_
  refine lc_callS (As := [.ref (51), .int (lc_i (0)), .ref (53), .int (lc_i (0))]) (stk := []) dX11_covered_20 lc_mX11_48 lc_yX11_copies (lc_cX11_copies l n (51) (53) (222) (222) (N) (N3) (0) (0) σ h0_1 h0_2 (by omega) (by omega) (by omega) (by omega)) rfl ⟨Nat.le_of_ble_eq_true rfl, Nat.le_of_ble_eq_true rfl⟩ ⟨Nat.le_of_ble_eq_true rfl, Nat.le_of_ble_eq_true rfl⟩ rfl (Nat.le_of_ble_eq_true rfl) (fun v3 n4 σ5 q6 => ?_)
  obtain ⟨rfl, rfl, h2, fr1⟩ := q6
  have h7 : σ5 (50) = some (.inr (11, [.ref (51), .ref (52), .ref (53), .ref (54), .ref (55), .int (lc_i (kept)), .ref (56), .int (lc_i (if bs = true then 1 else 0)), .ref (57), .int (lc_i (z)), .int (lc_i (at9)), .int (lc_i (sn)), .int (lc_i (sr)), .int (lc_i (w1)), .int (lc_i (w2)), .int (lc_i (w3)), .int (lc_i (bw))]) : lc_Cel) := (fr1 _ (by omega)).trans h0_0
  have h8 : σ5 (51) = some (lc_aI 222 (N)) := (fr1 _ (by omega)).trans h0_1
  refine lc_aload_n dX11_covered_23 rfl 0 rfl ?_
  refine lc_get dX11_covered_24 lc_fX11_16 h7 rfl ?_
  refine lc_bipush dX11_covered_27 (by decide) ?_
  refine lc_iload_n dX11_covered_29 rfl 1 rfl ?_
  refine lc_iadd dX11_covered_30 ?_
  refine lc_iconst dX11_covered_31 ?_
  refine lc_iload_n dX11_covered_32 rfl 2 rfl ?_
  refine lc_isub dX11_covered_33 ?_
  refine lc_sI dX11_covered_34 h2 (by omega) (by decide) (fun σ9 h10 fr11 => ?_)
  have h12 : σ9 (50) = some (.inr (11, [.ref (51), .ref (52), .ref (53), .ref (54), .ref (55), .int (lc_i (kept)), .ref (56), .int (lc_i (if bs = true then 1 else 0)), .ref (57), .int (lc_i (z)), .int (lc_i (at9)), .int (lc_i (sn)), .int (lc_i (sr)), .int (lc_i (w1)), .int (lc_i (w2)), .int (lc_i (w3)), .int (lc_i (bw))]) : lc_Cel) := (fr11 _ (by omega)).trans h7
  have h13 : σ9 (51) = some (lc_aI 222 (N)) := (fr11 _ (by omega)).trans h8
  have hR14 := lc_RM_p (p := p) (w := 3 - f p) (lc_RM_c (N' := N3) hR (show ct ≤ 60 from by omega)) hp
  have hfu := lc_uf_ok (p := p) (w := 3 - f p) hf (by omega)
  refine lc_aload_n dX11_covered_35 rfl 0 rfl ?_
  refine lc_aload_n dX11_covered_36 rfl 0 rfl ?_
  refine lc_get dX11_covered_37 lc_fX11_16 h12 rfl ?_
  refine lc_iload_n dX11_covered_40 rfl 1 rfl ?_
  refine lc_iload_n dX11_covered_41 rfl 2 rfl ?_
  refine lc_callV (As := [.ref (53), .int (lc_i (p)), .int (lc_i (f p))]) (stk := []) (b := 50) dX11_covered_42 lc_mX11_154 lc_yX11_captors h12 rfl (lc_cX11_captors l n (53) (lc_u (lc_cpy (N) (0) (N3) (0)) ((6) + (p)) ((3) - (f p))) (lc_u f p (3 - f p)) (s) (q) (m) (mo) (ca) (ct) (po) (kept) (bs) (z) (at9) (sn) (sr) (w1) (w2) (w3) (bw) (p) (f p) σ9 h12 h10 (by omega) (hfu) (hR14) (by omega) (by omega)) rfl ⟨Nat.le_of_ble_eq_true rfl, Nat.le_of_ble_eq_true rfl⟩ ⟨Nat.le_of_ble_eq_true rfl, Nat.le_of_ble_eq_true rfl⟩ rfl (Nat.le_of_ble_eq_true rfl) (fun v19 n20 σ21 q22 => ?_)
  obtain ⟨z15, z16, rfl, rfl, h18, fr17⟩ := q22
  have h23 : σ21 (51) = some (lc_aI 222 (N)) := (fr17 _ (by omega)).trans h13
  have h24 : σ21 (53) = some (lc_aI 222 (lc_u (lc_cpy (N) (0) (N3) (0)) ((6) + (p)) ((3) - (f p)))) := (fr17 _ (by omega)).trans h10
  exact lc_iret dX11_covered_45 rfl (Nat.le_of_ble_eq_true rfl) (Nat.le_of_ble_eq_true rfl) (hQ _ _ _ ⟨z15, z16, _, lc_some (lc_cov_cap hf hp h0), rfl, h18, h24, (fun i _ _ => ((fr17 i (by omega)).trans ((fr11 i (by omega)).trans (fr1 i (by omega)))))⟩)

set_option maxRecDepth 100000 in
set_option maxHeartbeats 600000 in
theorem lc_cX11_threatened (l : Launch) (n : Nat) (N : Int → Int) (f : Int → Int) (s q m mo ca ct : Int) (po : Int → Int) (kept : Int) (bs : Bool) (z at9 sn sr w1 w2 w3 bw : Int) (σ : lc_S) (h0_0 : σ (50) = some (.inr (11, [.ref (51), .ref (52), .ref (53), .ref (54), .ref (55), .int (lc_i (kept)), .ref (56), .int (lc_i (if bs = true then 1 else 0)), .ref (57), .int (lc_i (z)), .int (lc_i (at9)), .int (lc_i (sn)), .int (lc_i (sr)), .int (lc_i (w1)), .int (lc_i (w2)), .int (lc_i (w3)), .int (lc_i (bw))]) : lc_Cel)) (h0_1 : σ (51) = some (lc_aI 222 (N))) (hf : ∀ j : Int, 0 ≤ j → j < 36 → 0 ≤ f j ∧ f j ≤ 2) (hs : 1 ≤ s ∧ s ≤ 2) (hR : lc_RM N (f, s, q, m, mo, ca, ct, po)) : lc_Con l yX11_threatened cX11_threatened 3 (some .int) (lc_Rd 4) [.ref (50)] n σ (fun v n2 σ2 => ∃ (z1 z2 : Int), v = some (.int (lc_i (lc_num (fun j : Int => lc_thr f s j) 36))) ∧ n = n2 ∧ σ2 (50) = some (.inr (11, [.ref (51), .ref (52), .ref (53), .ref (54), .ref (55), .int (lc_i (kept)), .ref (56), .int (lc_i (if bs = true then 1 else 0)), .ref (57), .int (lc_i (z)), .int (lc_i (at9)), .int (lc_i (sn)), .int (lc_i (sr)), .int (lc_i (z1)), .int (lc_i (z2)), .int (lc_i (w3)), .int (lc_i (bw))]) : lc_Cel) ∧ ∀ i : Nat, i ≠ 50 → σ2 i = σ i) := by
  obtain ⟨h0R, h1R, h2R, h3R, h4R, h5R, h6R, h7R⟩ := id hR
  have h0R : N 0 = s := h0R
  have h1R : N 1 = q := h1R
  have h4R : N 4 = m := h4R
  have h5R : N 5 = ct := h5R
  have h6R : ∀ p : Int, 0 ≤ p → p < 36 → N (6 + p) = f p := h6R
  refine lc_con RX11 false (by decide) rfl (fun h => absurd h (by decide)) (Nat.le_of_ble_eq_true rfl) ?_
  suffices H : ∀ Q : lc_QT, (∀ v n2 σ2, (fun v n2 σ2 => ∃ (z1 z2 : Int), v = some (.int (lc_i (lc_num (fun j : Int => lc_thr f s j) 36))) ∧ n = n2 ∧ σ2 (50) = some (.inr (11, [.ref (51), .ref (52), .ref (53), .ref (54), .ref (55), .int (lc_i (kept)), .ref (56), .int (lc_i (if bs = true then 1 else 0)), .ref (57), .int (lc_i (z)), .int (lc_i (at9)), .int (lc_i (sn)), .int (lc_i (sr)), .int (lc_i (z1)), .int (lc_i (z2)), .int (lc_i (w3)), .int (lc_i (bw))]) : lc_Cel) ∧ ∀ i : Nat, i ≠ 50 → σ2 i = σ i : lc_QT) v n2 σ2 → Q v n2 σ2) → lc_V l RX11 cX11_threatened 3 (some .int) false (lc_Rd 4) (lc_G Q 0 0) lc_E0 0 0 n 0 [(0, .ref (50))] [] σ from H _ (fun _ _ _ h => h)
  intro Q hQ
  refine lc_iconst dX11_threatened_0 ?_
  refine lc_top (congrArg (fun z => Value.int (lc_i z)) (show (0 : Int) = lc_num (fun j : Int => lc_thr f s j) (0 : Int).toNat from rfl)) ?_
  refine lc_istore_n (lv' := [(0, .ref (50)), (1, .int (lc_i (lc_num (fun j : Int => lc_thr f s j) (0 : Int).toNat)))]) dX11_threatened_1 rfl (by decide) rfl ?_
  refine lc_iconst dX11_threatened_2 ?_
  refine lc_istore_n (lv' := [(0, .ref (50)), (1, .int (lc_i (lc_num (fun j : Int => lc_thr f s j) (0 : Int).toNat))), (2, .int (lc_i (0)))]) dX11_threatened_3 rfl (by decide) rfl ?_
  have loop2 : ∀ (N1 : Nat) (i : Int) (y1 : Int) (y2 : Int) (σ4 : lc_S), (σ4 (50) = some (.inr (11, [.ref (51), .ref (52), .ref (53), .ref (54), .ref (55), .int (lc_i (kept)), .ref (56), .int (lc_i (if bs = true then 1 else 0)), .ref (57), .int (lc_i (z)), .int (lc_i (at9)), .int (lc_i (sn)), .int (lc_i (sr)), .int (lc_i (y1)), .int (lc_i (y2)), .int (lc_i (w3)), .int (lc_i (bw))]) : lc_Cel)) → (∀ i : Nat, i ≠ 50 → σ4 i = σ i) → (0 ≤ i ∧ i ≤ 36) → 36 - i < (N1 : Int) → lc_V l RX11 cX11_threatened 3 (some .int) false (lc_Rd 4) (lc_G Q 0 0) lc_E0 0 0 n 4 [(0, .ref (50)), (1, .int (lc_i (lc_num (fun j : Int => lc_thr f s j) (i).toNat))), (2, .int (lc_i (i)))] [] σ4 := by
    intro N1
    induction N1 with
    | zero =>
      intro i y1 y2 σ4 h5 fr6 hi hm7
      exact absurd hm7 (by omega)
    | succ N1 ih3 =>
      intro i y1 y2 σ4 h5 fr6 hi hm7
      have h8 : σ4 (51) = some (lc_aI 222 (N)) := (fr6 _ (by omega)).trans h0_1
      have hfi : i < 36 → 0 ≤ f i ∧ f i ≤ 2 := fun q9 => hf i hi.1 q9
      have hnr9 := lc_num_r (fun j : Int => lc_thr f s j) i.toNat
      have hnr := lc_num_r (fun j : Int => lc_cap f j i) 36
      refine lc_iload_n dX11_threatened_4 rfl 2 rfl ?_
      refine lc_bipush dX11_threatened_5 (by decide) ?_
      refine lc_icmp_ge (tgt := 62) dX11_threatened_7 (by decide) (by omega) (fun h_7_8 => ?_) (fun h_7_8 => ?_)
      · skip
        refine lc_iload_n dX11_threatened_62 rfl 1 rfl ?_
        exact lc_iret dX11_threatened_63 rfl (Nat.le_of_ble_eq_true rfl) (Nat.le_of_ble_eq_true rfl) (hQ _ _ _ ⟨y1, y2, lc_some (by rw [show (i).toNat = 36 from by omega]), rfl, h5, (fun i _ => (fr6 i (by omega)))⟩)
      · skip
        refine lc_iload_n dX11_threatened_10 rfl 1 rfl ?_
        refine lc_aload_n dX11_threatened_11 rfl 0 rfl ?_
        refine lc_get dX11_threatened_12 lc_fX11_7 h5 rfl ?_
        refine lc_bipush dX11_threatened_15 (by decide) ?_
        refine lc_iload_n dX11_threatened_17 rfl 2 rfl ?_
        refine lc_iadd dX11_threatened_18 ?_
        refine lc_iald dX11_threatened_19 h8 (by omega) (by decide) ?_
        refine lc_top (congrArg (fun z => Value.int (lc_i z)) (show ((N) ((6) + (i)) : Int) = f i from h6R i (by omega) (by omega))) ?_
        refine lc_aload_n dX11_threatened_20 rfl 0 rfl ?_
        refine lc_get dX11_threatened_21 lc_fX11_7 h5 rfl ?_
        refine lc_iconst dX11_threatened_24 ?_
        refine lc_iald dX11_threatened_25 h8 (by omega) (by decide) ?_
        refine lc_top (congrArg (fun z => Value.int (lc_i z)) (show ((N) (0) : Int) = s from h0R)) ?_
        refine lc_icmp_ne (tgt := 53) dX11_threatened_26 (by decide) (by omega) (fun h_26_9 => ?_) (fun h_26_9 => ?_)
        · skip
          refine lc_iconst dX11_threatened_53 ?_
          refine lc_iadd dX11_threatened_54 ?_
          refine lc_istore_n (lv' := [(0, .ref (50)), (1, .int (lc_i ((lc_num (fun j : Int => lc_thr f s j) (i).toNat) + (0)))), (2, .int (lc_i (i)))]) dX11_threatened_55 rfl (by decide) rfl ?_
          refine lc_iinc (lv' := [(0, .ref (50)), (1, .int (lc_i ((lc_num (fun j : Int => lc_thr f s j) (i).toNat) + (0)))), (2, .int (lc_i (i + 1)))]) dX11_threatened_56 2 rfl (by decide) rfl ?_
          refine lc_goto (tgt := 4) dX11_threatened_59 (by decide) ?_
          refine lc_lveq (lv' := [(0, .ref (50)), (1, .int (lc_i (lc_num (fun j : Int => lc_thr f s j) (i + 1).toNat))), (2, .int (lc_i (i + 1)))]) (by rw [lc_num_00 (P := (fun j : Int => lc_thr f s j)) hi.1 (fun q9 => h_26_9 (lc_thr_iff.mp q9).1)]) ?_
          exact ih3 (i + 1) (y1) (y2) σ4 h5 (fun i _ => (fr6 i (by omega))) (by omega) (by omega)
        · skip
          refine lc_aload_n dX11_threatened_29 rfl 0 rfl ?_
          refine lc_aload_n dX11_threatened_30 rfl 0 rfl ?_
          refine lc_get dX11_threatened_31 lc_fX11_7 h5 rfl ?_
          refine lc_iload_n dX11_threatened_34 rfl 2 rfl ?_
          refine lc_iconst dX11_threatened_35 ?_
          refine lc_aload_n dX11_threatened_36 rfl 0 rfl ?_
          refine lc_get dX11_threatened_37 lc_fX11_7 h5 rfl ?_
          refine lc_iconst dX11_threatened_40 ?_
          refine lc_iald dX11_threatened_41 h8 (by omega) (by decide) ?_
          refine lc_top (congrArg (fun z => Value.int (lc_i z)) (show ((N) (0) : Int) = s from h0R)) ?_
          refine lc_isub dX11_threatened_42 ?_
          refine lc_callV (As := [.ref (51), .int (lc_i (i)), .int (lc_i ((3) - (s)))]) (stk := [.int (lc_i (lc_num (fun j : Int => lc_thr f s j) (i).toNat))]) (b := 50) dX11_threatened_43 lc_mX11_154 lc_yX11_captors h5 rfl (lc_cX11_captors l n (51) (N) (f) (s) (q) (m) (mo) (ca) (ct) (po) (kept) (bs) (z) (at9) (sn) (sr) (y1) (y2) (w3) (bw) (i) ((3) - (s)) σ4 h5 h8 (by omega) (hf) (hR) (by omega) (by omega)) rfl ⟨Nat.le_of_ble_eq_true rfl, Nat.le_of_ble_eq_true rfl⟩ ⟨Nat.le_of_ble_eq_true rfl, Nat.le_of_ble_eq_true rfl⟩ rfl (Nat.le_of_ble_eq_true rfl) (fun v15 n16 σ17 q18 => ?_)
          obtain ⟨z11, z12, rfl, rfl, h14, fr13⟩ := q18
          have h19 : σ17 (51) = some (lc_aI 222 (N)) := (fr13 _ (by omega)).trans h8
          refine lc_top (congrArg (fun z => Value.int (lc_i z)) (show (lc_num (fun j : Int => decide ((f) j = (3) - (s)) && lc_cap (f) j (i)) 36 : Int) = lc_num (fun j : Int => lc_cap f j i) 36 from lc_cap_o hf (by omega) (by omega))) ?_
          refine lc_if_le (tgt := 53) dX11_threatened_46 (by decide) (by omega) (fun h_46_19 => ?_) (fun h_46_19 => ?_)
          · skip
            refine lc_iconst dX11_threatened_53 ?_
            refine lc_iadd dX11_threatened_54 ?_
            refine lc_istore_n (lv' := [(0, .ref (50)), (1, .int (lc_i ((lc_num (fun j : Int => lc_thr f s j) (i).toNat) + (0)))), (2, .int (lc_i (i)))]) dX11_threatened_55 rfl (by decide) rfl ?_
            refine lc_iinc (lv' := [(0, .ref (50)), (1, .int (lc_i ((lc_num (fun j : Int => lc_thr f s j) (i).toNat) + (0)))), (2, .int (lc_i (i + 1)))]) dX11_threatened_56 2 rfl (by decide) rfl ?_
            refine lc_goto (tgt := 4) dX11_threatened_59 (by decide) ?_
            refine lc_lveq (lv' := [(0, .ref (50)), (1, .int (lc_i (lc_num (fun j : Int => lc_thr f s j) (i + 1).toNat))), (2, .int (lc_i (i + 1)))]) (by rw [lc_num_00 (P := (fun j : Int => lc_thr f s j)) hi.1 (fun q9 => absurd (lc_thr_iff.mp q9).2 (by omega))]) ?_
            exact ih3 (i + 1) (z11) (z12) σ17 h14 (fun i _ => ((fr13 i (by omega)).trans (fr6 i (by omega)))) (by omega) (by omega)
          · skip
            refine lc_iconst dX11_threatened_49 ?_
            refine lc_goto (tgt := 54) dX11_threatened_50 (by decide) ?_
            refine lc_iadd dX11_threatened_54 ?_
            refine lc_istore_n (lv' := [(0, .ref (50)), (1, .int (lc_i ((lc_num (fun j : Int => lc_thr f s j) (i).toNat) + (1)))), (2, .int (lc_i (i)))]) dX11_threatened_55 rfl (by decide) rfl ?_
            refine lc_iinc (lv' := [(0, .ref (50)), (1, .int (lc_i ((lc_num (fun j : Int => lc_thr f s j) (i).toNat) + (1)))), (2, .int (lc_i (i + 1)))]) dX11_threatened_56 2 rfl (by decide) rfl ?_
            refine lc_goto (tgt := 4) dX11_threatened_59 (by decide) ?_
            refine lc_lveq (lv' := [(0, .ref (50)), (1, .int (lc_i (lc_num (fun j : Int => lc_thr f s j) (i + 1).toNat))), (2, .int (lc_i (i + 1)))]) (by rw [lc_num_1 (P := (fun j : Int => lc_thr f s j)) hi.1 (lc_thr_iff.mpr ⟨h_26_9, by omega⟩)]) ?_
            exact ih3 (i + 1) (z11) (z12) σ17 h14 (fun i _ => ((fr13 i (by omega)).trans (fr6 i (by omega)))) (by omega) (by omega)
  exact loop2 1000 (0) (w1) (w2) σ h0_0 (fun _ _ => rfl) (by omega) (by omega)

theorem lc_bw_rr {w : Int × Int × Int × Int} (h : lc_wok w) : (-105 ≤ lc_bF w ∧ lc_bF w < 97) ∧ (1 ≤ lc_bL w ∧ lc_bL w ≤ 1000) ∧ (1 ≤ lc_bP w ∧ lc_bP w ≤ 1000) := by
  obtain ⟨h1, h2⟩ := h
  unfold lc_bF lc_bL lc_bP
  by_cases e : w.1 = 0
  · rw [if_pos e, if_pos e, if_pos e]; omega
  · have h3 := h2 e
    rw [if_neg e, if_neg e, if_neg e]
    split <;> omega
theorem lc_Kp_r (f : Int → Int) (x d : Int) : 1 ≤ lc_Kp f x d ∧ lc_Kp f x d ≤ 24 := by
  have h := lc_K_r f x d
  unfold lc_Kp
  split <;> omega

set_option maxRecDepth 100000 in
set_option maxHeartbeats 600000 in
theorem lc_cX11_bestWay (l : Launch) (n : Nat) (a : Nat) (N : Int → Int) (f : Int → Int) (s q m mo ca ct : Int) (po : Int → Int) (kept : Int) (bs : Bool) (z at9 sn sr w1 w2 w3 bw : Int) (fr to : Int) (σ : lc_S) (h0_0 : σ (50) = some (.inr (11, [.ref (51), .ref (52), .ref (53), .ref (54), .ref (55), .int (lc_i (kept)), .ref (56), .int (lc_i (if bs = true then 1 else 0)), .ref (57), .int (lc_i (z)), .int (lc_i (at9)), .int (lc_i (sn)), .int (lc_i (sr)), .int (lc_i (w1)), .int (lc_i (w2)), .int (lc_i (w3)), .int (lc_i (bw))]) : lc_Cel)) (h0_1 : σ (a) = some (lc_aI 222 (N))) (ha : 50 < a) (hf : ∀ j : Int, 0 ≤ j → j < 36 → 0 ≤ f j ∧ f j ≤ 2) (hR : lc_RM N (f, s, q, m, mo, ca, ct, po)) (hfr : 0 ≤ fr ∧ fr < 36) (hto : 0 ≤ to ∧ to < 36) : lc_Con l yX11_bestWay cX11_bestWay 10 (some .int) (lc_Rd 2) [.ref (50), .ref (a), .int (lc_i (fr)), .int (lc_i (to))] n σ (fun v n2 σ2 => v = some (.int (lc_i (lc_bF (lc_wy f fr to)))) ∧ n = n2 ∧ σ2 (50) = some (.inr (11, [.ref (51), .ref (52), .ref (53), .ref (54), .ref (55), .int (lc_i (kept)), .ref (56), .int (lc_i (if bs = true then 1 else 0)), .ref (57), .int (lc_i (z)), .int (lc_i (at9)), .int (lc_i (sn)), .int (lc_i (sr)), .int (lc_i (lc_bL (lc_wy f fr to))), .int (lc_i (lc_bP (lc_wy f fr to))), .int (lc_i (lc_bF (lc_wy f fr to))), .int (lc_i (bw))]) : lc_Cel) ∧ ∀ i : Nat, i ≠ 50 → σ2 i = σ i) := by
  obtain ⟨h0R, h1R, h2R, h3R, h4R, h5R, h6R, h7R⟩ := id hR
  have h0R : N 0 = s := h0R
  have h1R : N 1 = q := h1R
  have h4R : N 4 = m := h4R
  have h5R : N 5 = ct := h5R
  have h6R : ∀ p : Int, 0 ≤ p → p < 36 → N (6 + p) = f p := h6R
  refine lc_con RX11 false (by decide) rfl (fun h => absurd h (by decide)) (Nat.le_of_ble_eq_true rfl) ?_
  suffices H : ∀ Q : lc_QT, (∀ v n2 σ2, (fun v n2 σ2 => v = some (.int (lc_i (lc_bF (lc_wy f fr to)))) ∧ n = n2 ∧ σ2 (50) = some (.inr (11, [.ref (51), .ref (52), .ref (53), .ref (54), .ref (55), .int (lc_i (kept)), .ref (56), .int (lc_i (if bs = true then 1 else 0)), .ref (57), .int (lc_i (z)), .int (lc_i (at9)), .int (lc_i (sn)), .int (lc_i (sr)), .int (lc_i (lc_bL (lc_wy f fr to))), .int (lc_i (lc_bP (lc_wy f fr to))), .int (lc_i (lc_bF (lc_wy f fr to))), .int (lc_i (bw))]) : lc_Cel) ∧ ∀ i : Nat, i ≠ 50 → σ2 i = σ i : lc_QT) v n2 σ2 → Q v n2 σ2) → lc_V l RX11 cX11_bestWay 10 (some .int) false (lc_Rd 2) (lc_G Q 0 0) lc_E0 0 0 n 0 [(0, .ref (50)), (1, .ref (a)), (2, .int (lc_i (fr))), (3, .int (lc_i (to)))] [] σ from H _ (fun _ _ _ h => h)
  intro Q hQ
  refine lc_bipush dX11_bestWay_0 (by decide) ?_
  refine lc_istore (lv' := [(0, .ref (50)), (1, .ref (a)), (2, .int (lc_i (fr))), (3, .int (lc_i (to))), (4, .int (lc_i ((-105))))]) dX11_bestWay_2 (by decide) rfl ?_
  refine lc_sipush dX11_bestWay_4 (by decide) ?_
  refine lc_istore (lv' := [(0, .ref (50)), (1, .ref (a)), (2, .int (lc_i (fr))), (3, .int (lc_i (to))), (4, .int (lc_i ((-105)))), (5, .int (lc_i (1000)))]) dX11_bestWay_7 (by decide) rfl ?_
  refine lc_sipush dX11_bestWay_9 (by decide) ?_
  refine lc_istore (lv' := [(0, .ref (50)), (1, .ref (a)), (2, .int (lc_i (fr))), (3, .int (lc_i (to))), (4, .int (lc_i ((-105)))), (5, .int (lc_i (1000))), (6, .int (lc_i (1000)))]) dX11_bestWay_12 (by decide) rfl ?_
  refine lc_iconst dX11_bestWay_14 ?_
  refine lc_istore (lv' := [(0, .ref (50)), (1, .ref (a)), (2, .int (lc_i (fr))), (3, .int (lc_i (to))), (4, .int (lc_i ((-105)))), (5, .int (lc_i (1000))), (6, .int (lc_i (1000))), (7, .int (lc_i (0)))]) dX11_bestWay_15 (by decide) rfl ?_
  have loop2 : ∀ (N1 : Nat) (k : Nat) (y1 : Int) (y2 : Int) (σ4 : lc_S), (σ4 (50) = some (.inr (11, [.ref (51), .ref (52), .ref (53), .ref (54), .ref (55), .int (lc_i (kept)), .ref (56), .int (lc_i (if bs = true then 1 else 0)), .ref (57), .int (lc_i (z)), .int (lc_i (at9)), .int (lc_i (sn)), .int (lc_i (sr)), .int (lc_i (y1)), .int (lc_i (y2)), .int (lc_i (w3)), .int (lc_i (bw))]) : lc_Cel)) → (∀ i : Nat, i ≠ 50 → σ4 i = σ i) → (k ≤ 96) → 96 - (k : Int) < (N1 : Int) → lc_V l RX11 cX11_bestWay 10 (some .int) false (lc_Rd 2) (lc_G Q 0 0) lc_E0 0 0 n 17 [(0, .ref (50)), (1, .ref (a)), (2, .int (lc_i (fr))), (3, .int (lc_i (to))), (4, .int (lc_i (lc_bF (lc_bw f fr to k)))), (5, .int (lc_i (lc_bL (lc_bw f fr to k)))), (6, .int (lc_i (lc_bP (lc_bw f fr to k)))), (7, .int (lc_i ((k : Int))))] [] σ4 := by
    intro N1
    induction N1 with
    | zero =>
      intro k y1 y2 σ4 h5 fr6 hk hm7
      exact absurd hm7 (by omega)
    | succ N1 ih3 =>
      intro k y1 y2 σ4 h5 fr6 hk hm7
      have h8 : σ4 (a) = some (lc_aI 222 (N)) := (fr6 _ (by omega)).trans h0_1
      have hwr := lc_bw_rr (lc_bw_r f fr to k hk)
      refine lc_iload dX11_bestWay_17 7 rfl ?_
      refine lc_bipush dX11_bestWay_19 (by decide) ?_
      have hpk := fun h9 : k < 96 => lc_pt_r (x := (k : Int) / 2) (by omega)
      refine lc_icmp_ge (tgt := 125) dX11_bestWay_21 (by decide) (by omega) (fun h_21_8 => ?_) (fun h_21_8 => ?_)
      · skip
        refine lc_aload_n dX11_bestWay_125 rfl 0 rfl ?_
        refine lc_iload dX11_bestWay_126 5 rfl ?_
        refine lc_wI (vs' := [.ref (51), .ref (52), .ref (53), .ref (54), .ref (55), .int (lc_i (kept)), .ref (56), .int (lc_i (if bs = true then 1 else 0)), .ref (57), .int (lc_i (z)), .int (lc_i (at9)), .int (lc_i (sn)), .int (lc_i (sr)), .int (lc_i (lc_bL (lc_bw f fr to k))), .int (lc_i (y2)), .int (lc_i (w3)), .int (lc_i (bw))]) dX11_bestWay_128 lc_fX11_81 h5 (Nat.le_of_ble_eq_true rfl) rfl rfl rfl (fun σ10 h11 fr12 => ?_)
        have h13 : σ10 (a) = some (lc_aI 222 (N)) := (fr12 _ (by omega)).trans h8
        refine lc_aload_n dX11_bestWay_131 rfl 0 rfl ?_
        refine lc_iload dX11_bestWay_132 6 rfl ?_
        refine lc_wI (vs' := [.ref (51), .ref (52), .ref (53), .ref (54), .ref (55), .int (lc_i (kept)), .ref (56), .int (lc_i (if bs = true then 1 else 0)), .ref (57), .int (lc_i (z)), .int (lc_i (at9)), .int (lc_i (sn)), .int (lc_i (sr)), .int (lc_i (lc_bL (lc_bw f fr to k))), .int (lc_i (lc_bP (lc_bw f fr to k))), .int (lc_i (w3)), .int (lc_i (bw))]) dX11_bestWay_134 lc_fX11_84 h11 (Nat.le_of_ble_eq_true rfl) rfl rfl rfl (fun σ14 h15 fr16 => ?_)
        have h17 : σ14 (a) = some (lc_aI 222 (N)) := (fr16 _ (by omega)).trans h13
        refine lc_aload_n dX11_bestWay_137 rfl 0 rfl ?_
        refine lc_iload dX11_bestWay_138 4 rfl ?_
        refine lc_wI (vs' := [.ref (51), .ref (52), .ref (53), .ref (54), .ref (55), .int (lc_i (kept)), .ref (56), .int (lc_i (if bs = true then 1 else 0)), .ref (57), .int (lc_i (z)), .int (lc_i (at9)), .int (lc_i (sn)), .int (lc_i (sr)), .int (lc_i (lc_bL (lc_bw f fr to k))), .int (lc_i (lc_bP (lc_bw f fr to k))), .int (lc_i (lc_bF (lc_bw f fr to k))), .int (lc_i (bw))]) dX11_bestWay_140 lc_fX11_91 h15 (Nat.le_of_ble_eq_true rfl) rfl rfl rfl (fun σ18 h19 fr20 => ?_)
        have h21 : σ18 (a) = some (lc_aI 222 (N)) := (fr20 _ (by omega)).trans h17
        refine lc_iload dX11_bestWay_143 4 rfl ?_
        have ek : k = 96 := (by omega)
        subst ek
        have eW := lc_bw_e (f := f) (to := to) hfr
        exact lc_iret dX11_bestWay_145 rfl (Nat.le_of_ble_eq_true rfl) (Nat.le_of_ble_eq_true rfl) (hQ _ _ _ ⟨by rw [eW], rfl, by rw [← eW]; exact h19, (fun i _ => ((fr20 i (by omega)).trans ((fr16 i (by omega)).trans ((fr12 i (by omega)).trans (fr6 i (by omega))))))⟩)
      · skip
        refine lc_iload dX11_bestWay_24 7 rfl ?_
        refine lc_bipush dX11_bestWay_26 (by decide) ?_
        refine lc_idiv dX11_bestWay_28 (by omega) ?_
        refine lc_top (congrArg (fun z => Value.int (lc_i z)) (show (((k : Int)) / (48) : Int) = (k : Int) / 2 / 24 from by omega)) ?_
        refine lc_istore (lv' := [(0, .ref (50)), (1, .ref (a)), (2, .int (lc_i (fr))), (3, .int (lc_i (to))), (4, .int (lc_i (lc_bF (lc_bw f fr to k)))), (5, .int (lc_i (lc_bL (lc_bw f fr to k)))), (6, .int (lc_i (lc_bP (lc_bw f fr to k)))), (7, .int (lc_i ((k : Int)))), (8, .int (lc_i ((k : Int) / 2 / 24)))]) dX11_bestWay_29 (by decide) rfl ?_
        refine lc_iload dX11_bestWay_31 7 rfl ?_
        refine lc_iconst dX11_bestWay_33 ?_
        refine lc_idiv dX11_bestWay_34 (by omega) ?_
        refine lc_bipush dX11_bestWay_35 (by decide) ?_
        refine lc_irem dX11_bestWay_37 (by omega) ?_
        refine lc_istore (lv' := [(0, .ref (50)), (1, .ref (a)), (2, .int (lc_i (fr))), (3, .int (lc_i (to))), (4, .int (lc_i (lc_bF (lc_bw f fr to k)))), (5, .int (lc_i (lc_bL (lc_bw f fr to k)))), (6, .int (lc_i (lc_bP (lc_bw f fr to k)))), (7, .int (lc_i ((k : Int)))), (8, .int (lc_i ((k : Int) / 2 / 24))), (9, .int (lc_i ((((k : Int)) / (2)) % (24))))]) dX11_bestWay_38 (by decide) rfl ?_
        refine lc_iload dX11_bestWay_40 8 rfl ?_
        refine lc_iload dX11_bestWay_42 9 rfl ?_
        refine lc_callS (As := [.int (lc_i ((k : Int) / 2 / 24)), .int (lc_i ((((k : Int)) / (2)) % (24)))]) (stk := []) dX11_bestWay_44 lc_mX11_77 lc_yX11_pointAt (lc_cX11_pointAt l n ((k : Int) / 2 / 24) ((((k : Int)) / (2)) % (24)) σ4 (by omega) (by omega)) rfl ⟨Nat.le_of_ble_eq_true rfl, Nat.le_of_ble_eq_true rfl⟩ ⟨Nat.le_of_ble_eq_true rfl, Nat.le_of_ble_eq_true rfl⟩ rfl (Nat.le_of_ble_eq_true rfl) (fun v22 n23 σ24 q25 => ?_)
        obtain ⟨rfl, rfl, rfl⟩ := q25
        refine lc_top (congrArg (fun z => Value.int (lc_i z)) (show (lc_pa ((k : Int) / 2 / 24) ((((k : Int)) / (2)) % (24)) : Int) = lc_pt ((k : Int) / 2) from rfl)) ?_
        refine lc_iload_n dX11_bestWay_47 rfl 2 rfl ?_
        refine lc_icmp_ne (tgt := 119) dX11_bestWay_48 (by decide) (by omega) (fun h_48_25 => ?_) (fun h_48_25 => ?_)
        · skip
          have eW := lc_bw_0 (f := f) (to := to) (k := k) h_48_25
          refine lc_iinc (lv' := [(0, .ref (50)), (1, .ref (a)), (2, .int (lc_i (fr))), (3, .int (lc_i (to))), (4, .int (lc_i (lc_bF (lc_bw f fr to k)))), (5, .int (lc_i (lc_bL (lc_bw f fr to k)))), (6, .int (lc_i (lc_bP (lc_bw f fr to k)))), (7, .int (lc_i ((k : Int) + 1))), (8, .int (lc_i ((k : Int) / 2 / 24))), (9, .int (lc_i ((((k : Int)) / (2)) % (24))))]) dX11_bestWay_119 7 rfl (by decide) rfl ?_
          refine lc_goto (tgt := 17) dX11_bestWay_122 (by decide) ?_
          refine lc_pick (lv' := [(0, .ref (50)), (1, .ref (a)), (2, .int (lc_i (fr))), (3, .int (lc_i (to))), (4, .int (lc_i (lc_bF (lc_bw f fr to k)))), (5, .int (lc_i (lc_bL (lc_bw f fr to k)))), (6, .int (lc_i (lc_bP (lc_bw f fr to k)))), (7, .int (lc_i ((k : Int) + 1)))]) [0, 1, 2, 3, 4, 5, 6, 7] rfl ?_
          refine lc_lveq (lv' := [(0, .ref (50)), (1, .ref (a)), (2, .int (lc_i (fr))), (3, .int (lc_i (to))), (4, .int (lc_i (lc_bF (lc_bw f fr to (k + 1))))), (5, .int (lc_i (lc_bL (lc_bw f fr to (k + 1))))), (6, .int (lc_i (lc_bP (lc_bw f fr to (k + 1))))), (7, .int (lc_i (((k + 1 : Nat) : Int))))]) (by rw [eW, show ((k + 1 : Nat) : Int) = (k : Int) + 1 from by omega]) ?_
          exact ih3 (k + 1) (y1) (y2) σ4 h5 (fun i _ => (fr6 i (by omega))) (by omega) (by omega)
        · skip
          refine lc_aload_n dX11_bestWay_51 rfl 0 rfl ?_
          refine lc_aload_n dX11_bestWay_52 rfl 1 rfl ?_
          refine lc_iload dX11_bestWay_53 8 rfl ?_
          refine lc_iload dX11_bestWay_55 9 rfl ?_
          refine lc_iload dX11_bestWay_57 7 rfl ?_
          refine lc_iconst dX11_bestWay_59 ?_
          refine lc_irem dX11_bestWay_60 (by omega) ?_
          refine lc_if_ne (tgt := 68) dX11_bestWay_61 (by decide) (by omega) (fun h_61_26 => ?_) (fun h_61_26 => ?_)
          · skip
            refine lc_iconst dX11_bestWay_68 ?_
            refine lc_callV (As := [.ref (a), .int (lc_i ((k : Int) / 2 / 24)), .int (lc_i ((((k : Int)) / (2)) % (24))), .int (lc_i (0))]) (stk := []) (b := 50) dX11_bestWay_69 lc_mX11_87 lc_yX11_goes h5 rfl (lc_cX11_goes l n (a) (N) (f) (s) (q) (m) (mo) (ca) (ct) (po) (kept) (bs) (z) (at9) (sn) (sr) (y1) (y2) (w3) (bw) ((k : Int) / 2) ((-1)) σ4 h5 h8 (ha) (hf) (hR) (by omega) (by decide)) rfl ⟨Nat.le_of_ble_eq_true rfl, Nat.le_of_ble_eq_true rfl⟩ ⟨Nat.le_of_ble_eq_true rfl, Nat.le_of_ble_eq_true rfl⟩ rfl (Nat.le_of_ble_eq_true rfl) (fun v30 n31 σ32 q33 => ?_)
            obtain ⟨rfl, rfl, h29, fr28⟩ := q33
            have h34 : σ32 (a) = some (lc_aI 222 (N)) := (fr28 _ (by omega)).trans h8
            have hgr := lc_go_r (f := f) (d := (-1)) (x := (k : Int) / 2) (by omega)
            refine lc_iload_n dX11_bestWay_72 rfl 3 rfl ?_
            refine lc_icmp_ne (tgt := 119) dX11_bestWay_73 (by decide) (by omega) (fun h_73_34 => ?_) (fun h_73_34 => ?_)
            · skip
              have eW := lc_bw_n2 (f := f) (fr := fr) (to := to) (k := k) (show (-1) = lc_dk k from (show lc_dk k = (-1) from if_neg (by omega)).symm) hto.1 h_73_34
              refine lc_iinc (lv' := [(0, .ref (50)), (1, .ref (a)), (2, .int (lc_i (fr))), (3, .int (lc_i (to))), (4, .int (lc_i (lc_bF (lc_bw f fr to k)))), (5, .int (lc_i (lc_bL (lc_bw f fr to k)))), (6, .int (lc_i (lc_bP (lc_bw f fr to k)))), (7, .int (lc_i ((k : Int) + 1))), (8, .int (lc_i ((k : Int) / 2 / 24))), (9, .int (lc_i ((((k : Int)) / (2)) % (24))))]) dX11_bestWay_119 7 rfl (by decide) rfl ?_
              refine lc_goto (tgt := 17) dX11_bestWay_122 (by decide) ?_
              refine lc_pick (lv' := [(0, .ref (50)), (1, .ref (a)), (2, .int (lc_i (fr))), (3, .int (lc_i (to))), (4, .int (lc_i (lc_bF (lc_bw f fr to k)))), (5, .int (lc_i (lc_bL (lc_bw f fr to k)))), (6, .int (lc_i (lc_bP (lc_bw f fr to k)))), (7, .int (lc_i ((k : Int) + 1)))]) [0, 1, 2, 3, 4, 5, 6, 7] rfl ?_
              refine lc_lveq (lv' := [(0, .ref (50)), (1, .ref (a)), (2, .int (lc_i (fr))), (3, .int (lc_i (to))), (4, .int (lc_i (lc_bF (lc_bw f fr to (k + 1))))), (5, .int (lc_i (lc_bL (lc_bw f fr to (k + 1))))), (6, .int (lc_i (lc_bP (lc_bw f fr to (k + 1))))), (7, .int (lc_i (((k + 1 : Nat) : Int))))]) (by rw [eW, show ((k + 1 : Nat) : Int) = (k : Int) + 1 from by omega]) ?_
              exact ih3 (k + 1) (lc_Lo (f) ((k : Int) / 2) ((-1))) (lc_Kp (f) ((k : Int) / 2) ((-1))) σ32 h29 (fun i _ => ((fr28 i (by omega)).trans (fr6 i (by omega)))) (by omega) (by omega)
            · skip
              have hLr := lc_Lo_r f ((k : Int) / 2) (-1)
              have hKr := lc_Kp_r f ((k : Int) / 2) (-1)
              refine lc_aload_n dX11_bestWay_76 rfl 0 rfl ?_
              refine lc_get dX11_bestWay_77 lc_fX11_81 h29 rfl ?_
              refine lc_iload dX11_bestWay_80 5 rfl ?_
              refine lc_icmp_lt (tgt := 103) dX11_bestWay_82 (by decide) (by omega) (fun h_82_35 => ?_) (fun h_82_35 => ?_)
              · skip
                refine lc_iload dX11_bestWay_103 7 rfl ?_
                refine lc_istore (lv' := [(0, .ref (50)), (1, .ref (a)), (2, .int (lc_i (fr))), (3, .int (lc_i (to))), (4, .int (lc_i ((k : Int)))), (5, .int (lc_i (lc_bL (lc_bw f fr to k)))), (6, .int (lc_i (lc_bP (lc_bw f fr to k)))), (7, .int (lc_i ((k : Int)))), (8, .int (lc_i ((k : Int) / 2 / 24))), (9, .int (lc_i ((((k : Int)) / (2)) % (24))))]) dX11_bestWay_105 (by decide) rfl ?_
                refine lc_aload_n dX11_bestWay_107 rfl 0 rfl ?_
                refine lc_get dX11_bestWay_108 lc_fX11_81 h29 rfl ?_
                refine lc_istore (lv' := [(0, .ref (50)), (1, .ref (a)), (2, .int (lc_i (fr))), (3, .int (lc_i (to))), (4, .int (lc_i ((k : Int)))), (5, .int (lc_i (lc_Lo (f) ((k : Int) / 2) ((-1))))), (6, .int (lc_i (lc_bP (lc_bw f fr to k)))), (7, .int (lc_i ((k : Int)))), (8, .int (lc_i ((k : Int) / 2 / 24))), (9, .int (lc_i ((((k : Int)) / (2)) % (24))))]) dX11_bestWay_111 (by decide) rfl ?_
                refine lc_aload_n dX11_bestWay_113 rfl 0 rfl ?_
                refine lc_get dX11_bestWay_114 lc_fX11_84 h29 rfl ?_
                refine lc_istore (lv' := [(0, .ref (50)), (1, .ref (a)), (2, .int (lc_i (fr))), (3, .int (lc_i (to))), (4, .int (lc_i ((k : Int)))), (5, .int (lc_i (lc_Lo (f) ((k : Int) / 2) ((-1))))), (6, .int (lc_i (lc_Kp (f) ((k : Int) / 2) ((-1))))), (7, .int (lc_i ((k : Int)))), (8, .int (lc_i ((k : Int) / 2 / 24))), (9, .int (lc_i ((((k : Int)) / (2)) % (24))))]) dX11_bestWay_117 (by decide) rfl ?_
                have eW := lc_bw_up (f := f) (fr := fr) (to := to) (k := k) (show (-1) = lc_dk k from (show lc_dk k = (-1) from if_neg (by omega)).symm) hto.1 h_48_25 h_73_34 (by omega)
                refine lc_iinc (lv' := [(0, .ref (50)), (1, .ref (a)), (2, .int (lc_i (fr))), (3, .int (lc_i (to))), (4, .int (lc_i ((k : Int)))), (5, .int (lc_i (lc_Lo (f) ((k : Int) / 2) ((-1))))), (6, .int (lc_i (lc_Kp (f) ((k : Int) / 2) ((-1))))), (7, .int (lc_i ((k : Int) + 1))), (8, .int (lc_i ((k : Int) / 2 / 24))), (9, .int (lc_i ((((k : Int)) / (2)) % (24))))]) dX11_bestWay_119 7 rfl (by decide) rfl ?_
                refine lc_goto (tgt := 17) dX11_bestWay_122 (by decide) ?_
                refine lc_pick (lv' := [(0, .ref (50)), (1, .ref (a)), (2, .int (lc_i (fr))), (3, .int (lc_i (to))), (4, .int (lc_i ((k : Int)))), (5, .int (lc_i (lc_Lo (f) ((k : Int) / 2) ((-1))))), (6, .int (lc_i (lc_Kp (f) ((k : Int) / 2) ((-1))))), (7, .int (lc_i ((k : Int) + 1)))]) [0, 1, 2, 3, 4, 5, 6, 7] rfl ?_
                refine lc_lveq (lv' := [(0, .ref (50)), (1, .ref (a)), (2, .int (lc_i (fr))), (3, .int (lc_i (to))), (4, .int (lc_i (lc_bF (lc_bw f fr to (k + 1))))), (5, .int (lc_i (lc_bL (lc_bw f fr to (k + 1))))), (6, .int (lc_i (lc_bP (lc_bw f fr to (k + 1))))), (7, .int (lc_i (((k + 1 : Nat) : Int))))]) (by rw [eW.1, eW.2.1, eW.2.2, show ((k + 1 : Nat) : Int) = (k : Int) + 1 from by omega]) ?_
                exact ih3 (k + 1) (lc_Lo (f) ((k : Int) / 2) ((-1))) (lc_Kp (f) ((k : Int) / 2) ((-1))) σ32 h29 (fun i _ => ((fr28 i (by omega)).trans (fr6 i (by omega)))) (by omega) (by omega)
              · skip
                refine lc_aload_n dX11_bestWay_85 rfl 0 rfl ?_
                refine lc_get dX11_bestWay_86 lc_fX11_81 h29 rfl ?_
                refine lc_iload dX11_bestWay_89 5 rfl ?_
                refine lc_icmp_ne (tgt := 119) dX11_bestWay_91 (by decide) (by omega) (fun h_91_36 => ?_) (fun h_91_36 => ?_)
                · skip
                  have eW := lc_bw_n3 (f := f) (fr := fr) (to := to) (k := k) (by omega) (show (-1) = lc_dk k from (show lc_dk k = (-1) from if_neg (by omega)).symm) hto.1 h_73_34 (by omega)
                  refine lc_iinc (lv' := [(0, .ref (50)), (1, .ref (a)), (2, .int (lc_i (fr))), (3, .int (lc_i (to))), (4, .int (lc_i (lc_bF (lc_bw f fr to k)))), (5, .int (lc_i (lc_bL (lc_bw f fr to k)))), (6, .int (lc_i (lc_bP (lc_bw f fr to k)))), (7, .int (lc_i ((k : Int) + 1))), (8, .int (lc_i ((k : Int) / 2 / 24))), (9, .int (lc_i ((((k : Int)) / (2)) % (24))))]) dX11_bestWay_119 7 rfl (by decide) rfl ?_
                  refine lc_goto (tgt := 17) dX11_bestWay_122 (by decide) ?_
                  refine lc_pick (lv' := [(0, .ref (50)), (1, .ref (a)), (2, .int (lc_i (fr))), (3, .int (lc_i (to))), (4, .int (lc_i (lc_bF (lc_bw f fr to k)))), (5, .int (lc_i (lc_bL (lc_bw f fr to k)))), (6, .int (lc_i (lc_bP (lc_bw f fr to k)))), (7, .int (lc_i ((k : Int) + 1)))]) [0, 1, 2, 3, 4, 5, 6, 7] rfl ?_
                  refine lc_lveq (lv' := [(0, .ref (50)), (1, .ref (a)), (2, .int (lc_i (fr))), (3, .int (lc_i (to))), (4, .int (lc_i (lc_bF (lc_bw f fr to (k + 1))))), (5, .int (lc_i (lc_bL (lc_bw f fr to (k + 1))))), (6, .int (lc_i (lc_bP (lc_bw f fr to (k + 1))))), (7, .int (lc_i (((k + 1 : Nat) : Int))))]) (by rw [eW, show ((k + 1 : Nat) : Int) = (k : Int) + 1 from by omega]) ?_
                  exact ih3 (k + 1) (lc_Lo (f) ((k : Int) / 2) ((-1))) (lc_Kp (f) ((k : Int) / 2) ((-1))) σ32 h29 (fun i _ => ((fr28 i (by omega)).trans (fr6 i (by omega)))) (by omega) (by omega)
                · skip
                  refine lc_aload_n dX11_bestWay_94 rfl 0 rfl ?_
                  refine lc_get dX11_bestWay_95 lc_fX11_84 h29 rfl ?_
                  refine lc_iload dX11_bestWay_98 6 rfl ?_
                  refine lc_icmp_ge (tgt := 119) dX11_bestWay_100 (by decide) (by omega) (fun h_100_37 => ?_) (fun h_100_37 => ?_)
                  · skip
                    have eW := lc_bw_n3 (f := f) (fr := fr) (to := to) (k := k) (by omega) (show (-1) = lc_dk k from (show lc_dk k = (-1) from if_neg (by omega)).symm) hto.1 h_73_34 (by omega)
                    refine lc_iinc (lv' := [(0, .ref (50)), (1, .ref (a)), (2, .int (lc_i (fr))), (3, .int (lc_i (to))), (4, .int (lc_i (lc_bF (lc_bw f fr to k)))), (5, .int (lc_i (lc_bL (lc_bw f fr to k)))), (6, .int (lc_i (lc_bP (lc_bw f fr to k)))), (7, .int (lc_i ((k : Int) + 1))), (8, .int (lc_i ((k : Int) / 2 / 24))), (9, .int (lc_i ((((k : Int)) / (2)) % (24))))]) dX11_bestWay_119 7 rfl (by decide) rfl ?_
                    refine lc_goto (tgt := 17) dX11_bestWay_122 (by decide) ?_
                    refine lc_pick (lv' := [(0, .ref (50)), (1, .ref (a)), (2, .int (lc_i (fr))), (3, .int (lc_i (to))), (4, .int (lc_i (lc_bF (lc_bw f fr to k)))), (5, .int (lc_i (lc_bL (lc_bw f fr to k)))), (6, .int (lc_i (lc_bP (lc_bw f fr to k)))), (7, .int (lc_i ((k : Int) + 1)))]) [0, 1, 2, 3, 4, 5, 6, 7] rfl ?_
                    refine lc_lveq (lv' := [(0, .ref (50)), (1, .ref (a)), (2, .int (lc_i (fr))), (3, .int (lc_i (to))), (4, .int (lc_i (lc_bF (lc_bw f fr to (k + 1))))), (5, .int (lc_i (lc_bL (lc_bw f fr to (k + 1))))), (6, .int (lc_i (lc_bP (lc_bw f fr to (k + 1))))), (7, .int (lc_i (((k + 1 : Nat) : Int))))]) (by rw [eW, show ((k + 1 : Nat) : Int) = (k : Int) + 1 from by omega]) ?_
                    exact ih3 (k + 1) (lc_Lo (f) ((k : Int) / 2) ((-1))) (lc_Kp (f) ((k : Int) / 2) ((-1))) σ32 h29 (fun i _ => ((fr28 i (by omega)).trans (fr6 i (by omega)))) (by omega) (by omega)
                  · skip
                    refine lc_iload dX11_bestWay_103 7 rfl ?_
                    refine lc_istore (lv' := [(0, .ref (50)), (1, .ref (a)), (2, .int (lc_i (fr))), (3, .int (lc_i (to))), (4, .int (lc_i ((k : Int)))), (5, .int (lc_i (lc_bL (lc_bw f fr to k)))), (6, .int (lc_i (lc_bP (lc_bw f fr to k)))), (7, .int (lc_i ((k : Int)))), (8, .int (lc_i ((k : Int) / 2 / 24))), (9, .int (lc_i ((((k : Int)) / (2)) % (24))))]) dX11_bestWay_105 (by decide) rfl ?_
                    refine lc_aload_n dX11_bestWay_107 rfl 0 rfl ?_
                    refine lc_get dX11_bestWay_108 lc_fX11_81 h29 rfl ?_
                    refine lc_istore (lv' := [(0, .ref (50)), (1, .ref (a)), (2, .int (lc_i (fr))), (3, .int (lc_i (to))), (4, .int (lc_i ((k : Int)))), (5, .int (lc_i (lc_Lo (f) ((k : Int) / 2) ((-1))))), (6, .int (lc_i (lc_bP (lc_bw f fr to k)))), (7, .int (lc_i ((k : Int)))), (8, .int (lc_i ((k : Int) / 2 / 24))), (9, .int (lc_i ((((k : Int)) / (2)) % (24))))]) dX11_bestWay_111 (by decide) rfl ?_
                    refine lc_aload_n dX11_bestWay_113 rfl 0 rfl ?_
                    refine lc_get dX11_bestWay_114 lc_fX11_84 h29 rfl ?_
                    refine lc_istore (lv' := [(0, .ref (50)), (1, .ref (a)), (2, .int (lc_i (fr))), (3, .int (lc_i (to))), (4, .int (lc_i ((k : Int)))), (5, .int (lc_i (lc_Lo (f) ((k : Int) / 2) ((-1))))), (6, .int (lc_i (lc_Kp (f) ((k : Int) / 2) ((-1))))), (7, .int (lc_i ((k : Int)))), (8, .int (lc_i ((k : Int) / 2 / 24))), (9, .int (lc_i ((((k : Int)) / (2)) % (24))))]) dX11_bestWay_117 (by decide) rfl ?_
                    have eW := lc_bw_up (f := f) (fr := fr) (to := to) (k := k) (show (-1) = lc_dk k from (show lc_dk k = (-1) from if_neg (by omega)).symm) hto.1 h_48_25 h_73_34 (by omega)
                    refine lc_iinc (lv' := [(0, .ref (50)), (1, .ref (a)), (2, .int (lc_i (fr))), (3, .int (lc_i (to))), (4, .int (lc_i ((k : Int)))), (5, .int (lc_i (lc_Lo (f) ((k : Int) / 2) ((-1))))), (6, .int (lc_i (lc_Kp (f) ((k : Int) / 2) ((-1))))), (7, .int (lc_i ((k : Int) + 1))), (8, .int (lc_i ((k : Int) / 2 / 24))), (9, .int (lc_i ((((k : Int)) / (2)) % (24))))]) dX11_bestWay_119 7 rfl (by decide) rfl ?_
                    refine lc_goto (tgt := 17) dX11_bestWay_122 (by decide) ?_
                    refine lc_pick (lv' := [(0, .ref (50)), (1, .ref (a)), (2, .int (lc_i (fr))), (3, .int (lc_i (to))), (4, .int (lc_i ((k : Int)))), (5, .int (lc_i (lc_Lo (f) ((k : Int) / 2) ((-1))))), (6, .int (lc_i (lc_Kp (f) ((k : Int) / 2) ((-1))))), (7, .int (lc_i ((k : Int) + 1)))]) [0, 1, 2, 3, 4, 5, 6, 7] rfl ?_
                    refine lc_lveq (lv' := [(0, .ref (50)), (1, .ref (a)), (2, .int (lc_i (fr))), (3, .int (lc_i (to))), (4, .int (lc_i (lc_bF (lc_bw f fr to (k + 1))))), (5, .int (lc_i (lc_bL (lc_bw f fr to (k + 1))))), (6, .int (lc_i (lc_bP (lc_bw f fr to (k + 1))))), (7, .int (lc_i (((k + 1 : Nat) : Int))))]) (by rw [eW.1, eW.2.1, eW.2.2, show ((k + 1 : Nat) : Int) = (k : Int) + 1 from by omega]) ?_
                    exact ih3 (k + 1) (lc_Lo (f) ((k : Int) / 2) ((-1))) (lc_Kp (f) ((k : Int) / 2) ((-1))) σ32 h29 (fun i _ => ((fr28 i (by omega)).trans (fr6 i (by omega)))) (by omega) (by omega)
          · skip
            refine lc_iconst dX11_bestWay_64 ?_
            refine lc_goto (tgt := 69) dX11_bestWay_65 (by decide) ?_
            refine lc_callV (As := [.ref (a), .int (lc_i ((k : Int) / 2 / 24)), .int (lc_i ((((k : Int)) / (2)) % (24))), .int (lc_i (1))]) (stk := []) (b := 50) dX11_bestWay_69 lc_mX11_87 lc_yX11_goes h5 rfl (lc_cX11_goes l n (a) (N) (f) (s) (q) (m) (mo) (ca) (ct) (po) (kept) (bs) (z) (at9) (sn) (sr) (y1) (y2) (w3) (bw) ((k : Int) / 2) (1) σ4 h5 h8 (ha) (hf) (hR) (by omega) (by decide)) rfl ⟨Nat.le_of_ble_eq_true rfl, Nat.le_of_ble_eq_true rfl⟩ ⟨Nat.le_of_ble_eq_true rfl, Nat.le_of_ble_eq_true rfl⟩ rfl (Nat.le_of_ble_eq_true rfl) (fun v41 n42 σ43 q44 => ?_)
            obtain ⟨rfl, rfl, h40, fr39⟩ := q44
            have h45 : σ43 (a) = some (lc_aI 222 (N)) := (fr39 _ (by omega)).trans h8
            have hgr := lc_go_r (f := f) (d := 1) (x := (k : Int) / 2) (by omega)
            refine lc_iload_n dX11_bestWay_72 rfl 3 rfl ?_
            refine lc_icmp_ne (tgt := 119) dX11_bestWay_73 (by decide) (by omega) (fun h_73_45 => ?_) (fun h_73_45 => ?_)
            · skip
              have eW := lc_bw_n2 (f := f) (fr := fr) (to := to) (k := k) (show 1 = lc_dk k from (show lc_dk k = 1 from if_pos (by omega)).symm) hto.1 h_73_45
              refine lc_iinc (lv' := [(0, .ref (50)), (1, .ref (a)), (2, .int (lc_i (fr))), (3, .int (lc_i (to))), (4, .int (lc_i (lc_bF (lc_bw f fr to k)))), (5, .int (lc_i (lc_bL (lc_bw f fr to k)))), (6, .int (lc_i (lc_bP (lc_bw f fr to k)))), (7, .int (lc_i ((k : Int) + 1))), (8, .int (lc_i ((k : Int) / 2 / 24))), (9, .int (lc_i ((((k : Int)) / (2)) % (24))))]) dX11_bestWay_119 7 rfl (by decide) rfl ?_
              refine lc_goto (tgt := 17) dX11_bestWay_122 (by decide) ?_
              refine lc_pick (lv' := [(0, .ref (50)), (1, .ref (a)), (2, .int (lc_i (fr))), (3, .int (lc_i (to))), (4, .int (lc_i (lc_bF (lc_bw f fr to k)))), (5, .int (lc_i (lc_bL (lc_bw f fr to k)))), (6, .int (lc_i (lc_bP (lc_bw f fr to k)))), (7, .int (lc_i ((k : Int) + 1)))]) [0, 1, 2, 3, 4, 5, 6, 7] rfl ?_
              refine lc_lveq (lv' := [(0, .ref (50)), (1, .ref (a)), (2, .int (lc_i (fr))), (3, .int (lc_i (to))), (4, .int (lc_i (lc_bF (lc_bw f fr to (k + 1))))), (5, .int (lc_i (lc_bL (lc_bw f fr to (k + 1))))), (6, .int (lc_i (lc_bP (lc_bw f fr to (k + 1))))), (7, .int (lc_i (((k + 1 : Nat) : Int))))]) (by rw [eW, show ((k + 1 : Nat) : Int) = (k : Int) + 1 from by omega]) ?_
              exact ih3 (k + 1) (lc_Lo (f) ((k : Int) / 2) (1)) (lc_Kp (f) ((k : Int) / 2) (1)) σ43 h40 (fun i _ => ((fr39 i (by omega)).trans (fr6 i (by omega)))) (by omega) (by omega)
            · skip
              have hLr := lc_Lo_r f ((k : Int) / 2) 1
              have hKr := lc_Kp_r f ((k : Int) / 2) 1
              refine lc_aload_n dX11_bestWay_76 rfl 0 rfl ?_
              refine lc_get dX11_bestWay_77 lc_fX11_81 h40 rfl ?_
              refine lc_iload dX11_bestWay_80 5 rfl ?_
              refine lc_icmp_lt (tgt := 103) dX11_bestWay_82 (by decide) (by omega) (fun h_82_46 => ?_) (fun h_82_46 => ?_)
              · skip
                refine lc_iload dX11_bestWay_103 7 rfl ?_
                refine lc_istore (lv' := [(0, .ref (50)), (1, .ref (a)), (2, .int (lc_i (fr))), (3, .int (lc_i (to))), (4, .int (lc_i ((k : Int)))), (5, .int (lc_i (lc_bL (lc_bw f fr to k)))), (6, .int (lc_i (lc_bP (lc_bw f fr to k)))), (7, .int (lc_i ((k : Int)))), (8, .int (lc_i ((k : Int) / 2 / 24))), (9, .int (lc_i ((((k : Int)) / (2)) % (24))))]) dX11_bestWay_105 (by decide) rfl ?_
                refine lc_aload_n dX11_bestWay_107 rfl 0 rfl ?_
                refine lc_get dX11_bestWay_108 lc_fX11_81 h40 rfl ?_
                refine lc_istore (lv' := [(0, .ref (50)), (1, .ref (a)), (2, .int (lc_i (fr))), (3, .int (lc_i (to))), (4, .int (lc_i ((k : Int)))), (5, .int (lc_i (lc_Lo (f) ((k : Int) / 2) (1)))), (6, .int (lc_i (lc_bP (lc_bw f fr to k)))), (7, .int (lc_i ((k : Int)))), (8, .int (lc_i ((k : Int) / 2 / 24))), (9, .int (lc_i ((((k : Int)) / (2)) % (24))))]) dX11_bestWay_111 (by decide) rfl ?_
                refine lc_aload_n dX11_bestWay_113 rfl 0 rfl ?_
                refine lc_get dX11_bestWay_114 lc_fX11_84 h40 rfl ?_
                refine lc_istore (lv' := [(0, .ref (50)), (1, .ref (a)), (2, .int (lc_i (fr))), (3, .int (lc_i (to))), (4, .int (lc_i ((k : Int)))), (5, .int (lc_i (lc_Lo (f) ((k : Int) / 2) (1)))), (6, .int (lc_i (lc_Kp (f) ((k : Int) / 2) (1)))), (7, .int (lc_i ((k : Int)))), (8, .int (lc_i ((k : Int) / 2 / 24))), (9, .int (lc_i ((((k : Int)) / (2)) % (24))))]) dX11_bestWay_117 (by decide) rfl ?_
                have eW := lc_bw_up (f := f) (fr := fr) (to := to) (k := k) (show 1 = lc_dk k from (show lc_dk k = 1 from if_pos (by omega)).symm) hto.1 h_48_25 h_73_45 (by omega)
                refine lc_iinc (lv' := [(0, .ref (50)), (1, .ref (a)), (2, .int (lc_i (fr))), (3, .int (lc_i (to))), (4, .int (lc_i ((k : Int)))), (5, .int (lc_i (lc_Lo (f) ((k : Int) / 2) (1)))), (6, .int (lc_i (lc_Kp (f) ((k : Int) / 2) (1)))), (7, .int (lc_i ((k : Int) + 1))), (8, .int (lc_i ((k : Int) / 2 / 24))), (9, .int (lc_i ((((k : Int)) / (2)) % (24))))]) dX11_bestWay_119 7 rfl (by decide) rfl ?_
                refine lc_goto (tgt := 17) dX11_bestWay_122 (by decide) ?_
                refine lc_pick (lv' := [(0, .ref (50)), (1, .ref (a)), (2, .int (lc_i (fr))), (3, .int (lc_i (to))), (4, .int (lc_i ((k : Int)))), (5, .int (lc_i (lc_Lo (f) ((k : Int) / 2) (1)))), (6, .int (lc_i (lc_Kp (f) ((k : Int) / 2) (1)))), (7, .int (lc_i ((k : Int) + 1)))]) [0, 1, 2, 3, 4, 5, 6, 7] rfl ?_
                refine lc_lveq (lv' := [(0, .ref (50)), (1, .ref (a)), (2, .int (lc_i (fr))), (3, .int (lc_i (to))), (4, .int (lc_i (lc_bF (lc_bw f fr to (k + 1))))), (5, .int (lc_i (lc_bL (lc_bw f fr to (k + 1))))), (6, .int (lc_i (lc_bP (lc_bw f fr to (k + 1))))), (7, .int (lc_i (((k + 1 : Nat) : Int))))]) (by rw [eW.1, eW.2.1, eW.2.2, show ((k + 1 : Nat) : Int) = (k : Int) + 1 from by omega]) ?_
                exact ih3 (k + 1) (lc_Lo (f) ((k : Int) / 2) (1)) (lc_Kp (f) ((k : Int) / 2) (1)) σ43 h40 (fun i _ => ((fr39 i (by omega)).trans (fr6 i (by omega)))) (by omega) (by omega)
              · skip
                refine lc_aload_n dX11_bestWay_85 rfl 0 rfl ?_
                refine lc_get dX11_bestWay_86 lc_fX11_81 h40 rfl ?_
                refine lc_iload dX11_bestWay_89 5 rfl ?_
                refine lc_icmp_ne (tgt := 119) dX11_bestWay_91 (by decide) (by omega) (fun h_91_47 => ?_) (fun h_91_47 => ?_)
                · skip
                  have eW := lc_bw_n3 (f := f) (fr := fr) (to := to) (k := k) (by omega) (show 1 = lc_dk k from (show lc_dk k = 1 from if_pos (by omega)).symm) hto.1 h_73_45 (by omega)
                  refine lc_iinc (lv' := [(0, .ref (50)), (1, .ref (a)), (2, .int (lc_i (fr))), (3, .int (lc_i (to))), (4, .int (lc_i (lc_bF (lc_bw f fr to k)))), (5, .int (lc_i (lc_bL (lc_bw f fr to k)))), (6, .int (lc_i (lc_bP (lc_bw f fr to k)))), (7, .int (lc_i ((k : Int) + 1))), (8, .int (lc_i ((k : Int) / 2 / 24))), (9, .int (lc_i ((((k : Int)) / (2)) % (24))))]) dX11_bestWay_119 7 rfl (by decide) rfl ?_
                  refine lc_goto (tgt := 17) dX11_bestWay_122 (by decide) ?_
                  refine lc_pick (lv' := [(0, .ref (50)), (1, .ref (a)), (2, .int (lc_i (fr))), (3, .int (lc_i (to))), (4, .int (lc_i (lc_bF (lc_bw f fr to k)))), (5, .int (lc_i (lc_bL (lc_bw f fr to k)))), (6, .int (lc_i (lc_bP (lc_bw f fr to k)))), (7, .int (lc_i ((k : Int) + 1)))]) [0, 1, 2, 3, 4, 5, 6, 7] rfl ?_
                  refine lc_lveq (lv' := [(0, .ref (50)), (1, .ref (a)), (2, .int (lc_i (fr))), (3, .int (lc_i (to))), (4, .int (lc_i (lc_bF (lc_bw f fr to (k + 1))))), (5, .int (lc_i (lc_bL (lc_bw f fr to (k + 1))))), (6, .int (lc_i (lc_bP (lc_bw f fr to (k + 1))))), (7, .int (lc_i (((k + 1 : Nat) : Int))))]) (by rw [eW, show ((k + 1 : Nat) : Int) = (k : Int) + 1 from by omega]) ?_
                  exact ih3 (k + 1) (lc_Lo (f) ((k : Int) / 2) (1)) (lc_Kp (f) ((k : Int) / 2) (1)) σ43 h40 (fun i _ => ((fr39 i (by omega)).trans (fr6 i (by omega)))) (by omega) (by omega)
                · skip
                  refine lc_aload_n dX11_bestWay_94 rfl 0 rfl ?_
                  refine lc_get dX11_bestWay_95 lc_fX11_84 h40 rfl ?_
                  refine lc_iload dX11_bestWay_98 6 rfl ?_
                  refine lc_icmp_ge (tgt := 119) dX11_bestWay_100 (by decide) (by omega) (fun h_100_48 => ?_) (fun h_100_48 => ?_)
                  · skip
                    have eW := lc_bw_n3 (f := f) (fr := fr) (to := to) (k := k) (by omega) (show 1 = lc_dk k from (show lc_dk k = 1 from if_pos (by omega)).symm) hto.1 h_73_45 (by omega)
                    refine lc_iinc (lv' := [(0, .ref (50)), (1, .ref (a)), (2, .int (lc_i (fr))), (3, .int (lc_i (to))), (4, .int (lc_i (lc_bF (lc_bw f fr to k)))), (5, .int (lc_i (lc_bL (lc_bw f fr to k)))), (6, .int (lc_i (lc_bP (lc_bw f fr to k)))), (7, .int (lc_i ((k : Int) + 1))), (8, .int (lc_i ((k : Int) / 2 / 24))), (9, .int (lc_i ((((k : Int)) / (2)) % (24))))]) dX11_bestWay_119 7 rfl (by decide) rfl ?_
                    refine lc_goto (tgt := 17) dX11_bestWay_122 (by decide) ?_
                    refine lc_pick (lv' := [(0, .ref (50)), (1, .ref (a)), (2, .int (lc_i (fr))), (3, .int (lc_i (to))), (4, .int (lc_i (lc_bF (lc_bw f fr to k)))), (5, .int (lc_i (lc_bL (lc_bw f fr to k)))), (6, .int (lc_i (lc_bP (lc_bw f fr to k)))), (7, .int (lc_i ((k : Int) + 1)))]) [0, 1, 2, 3, 4, 5, 6, 7] rfl ?_
                    refine lc_lveq (lv' := [(0, .ref (50)), (1, .ref (a)), (2, .int (lc_i (fr))), (3, .int (lc_i (to))), (4, .int (lc_i (lc_bF (lc_bw f fr to (k + 1))))), (5, .int (lc_i (lc_bL (lc_bw f fr to (k + 1))))), (6, .int (lc_i (lc_bP (lc_bw f fr to (k + 1))))), (7, .int (lc_i (((k + 1 : Nat) : Int))))]) (by rw [eW, show ((k + 1 : Nat) : Int) = (k : Int) + 1 from by omega]) ?_
                    exact ih3 (k + 1) (lc_Lo (f) ((k : Int) / 2) (1)) (lc_Kp (f) ((k : Int) / 2) (1)) σ43 h40 (fun i _ => ((fr39 i (by omega)).trans (fr6 i (by omega)))) (by omega) (by omega)
                  · skip
                    refine lc_iload dX11_bestWay_103 7 rfl ?_
                    refine lc_istore (lv' := [(0, .ref (50)), (1, .ref (a)), (2, .int (lc_i (fr))), (3, .int (lc_i (to))), (4, .int (lc_i ((k : Int)))), (5, .int (lc_i (lc_bL (lc_bw f fr to k)))), (6, .int (lc_i (lc_bP (lc_bw f fr to k)))), (7, .int (lc_i ((k : Int)))), (8, .int (lc_i ((k : Int) / 2 / 24))), (9, .int (lc_i ((((k : Int)) / (2)) % (24))))]) dX11_bestWay_105 (by decide) rfl ?_
                    refine lc_aload_n dX11_bestWay_107 rfl 0 rfl ?_
                    refine lc_get dX11_bestWay_108 lc_fX11_81 h40 rfl ?_
                    refine lc_istore (lv' := [(0, .ref (50)), (1, .ref (a)), (2, .int (lc_i (fr))), (3, .int (lc_i (to))), (4, .int (lc_i ((k : Int)))), (5, .int (lc_i (lc_Lo (f) ((k : Int) / 2) (1)))), (6, .int (lc_i (lc_bP (lc_bw f fr to k)))), (7, .int (lc_i ((k : Int)))), (8, .int (lc_i ((k : Int) / 2 / 24))), (9, .int (lc_i ((((k : Int)) / (2)) % (24))))]) dX11_bestWay_111 (by decide) rfl ?_
                    refine lc_aload_n dX11_bestWay_113 rfl 0 rfl ?_
                    refine lc_get dX11_bestWay_114 lc_fX11_84 h40 rfl ?_
                    refine lc_istore (lv' := [(0, .ref (50)), (1, .ref (a)), (2, .int (lc_i (fr))), (3, .int (lc_i (to))), (4, .int (lc_i ((k : Int)))), (5, .int (lc_i (lc_Lo (f) ((k : Int) / 2) (1)))), (6, .int (lc_i (lc_Kp (f) ((k : Int) / 2) (1)))), (7, .int (lc_i ((k : Int)))), (8, .int (lc_i ((k : Int) / 2 / 24))), (9, .int (lc_i ((((k : Int)) / (2)) % (24))))]) dX11_bestWay_117 (by decide) rfl ?_
                    have eW := lc_bw_up (f := f) (fr := fr) (to := to) (k := k) (show 1 = lc_dk k from (show lc_dk k = 1 from if_pos (by omega)).symm) hto.1 h_48_25 h_73_45 (by omega)
                    refine lc_iinc (lv' := [(0, .ref (50)), (1, .ref (a)), (2, .int (lc_i (fr))), (3, .int (lc_i (to))), (4, .int (lc_i ((k : Int)))), (5, .int (lc_i (lc_Lo (f) ((k : Int) / 2) (1)))), (6, .int (lc_i (lc_Kp (f) ((k : Int) / 2) (1)))), (7, .int (lc_i ((k : Int) + 1))), (8, .int (lc_i ((k : Int) / 2 / 24))), (9, .int (lc_i ((((k : Int)) / (2)) % (24))))]) dX11_bestWay_119 7 rfl (by decide) rfl ?_
                    refine lc_goto (tgt := 17) dX11_bestWay_122 (by decide) ?_
                    refine lc_pick (lv' := [(0, .ref (50)), (1, .ref (a)), (2, .int (lc_i (fr))), (3, .int (lc_i (to))), (4, .int (lc_i ((k : Int)))), (5, .int (lc_i (lc_Lo (f) ((k : Int) / 2) (1)))), (6, .int (lc_i (lc_Kp (f) ((k : Int) / 2) (1)))), (7, .int (lc_i ((k : Int) + 1)))]) [0, 1, 2, 3, 4, 5, 6, 7] rfl ?_
                    refine lc_lveq (lv' := [(0, .ref (50)), (1, .ref (a)), (2, .int (lc_i (fr))), (3, .int (lc_i (to))), (4, .int (lc_i (lc_bF (lc_bw f fr to (k + 1))))), (5, .int (lc_i (lc_bL (lc_bw f fr to (k + 1))))), (6, .int (lc_i (lc_bP (lc_bw f fr to (k + 1))))), (7, .int (lc_i (((k + 1 : Nat) : Int))))]) (by rw [eW.1, eW.2.1, eW.2.2, show ((k + 1 : Nat) : Int) = (k : Int) + 1 from by omega]) ?_
                    exact ih3 (k + 1) (lc_Lo (f) ((k : Int) / 2) (1)) (lc_Kp (f) ((k : Int) / 2) (1)) σ43 h40 (fun i _ => ((fr39 i (by omega)).trans (fr6 i (by omega)))) (by omega) (by omega)
  exact loop2 1000 (0) (w1) (w2) σ h0_0 (fun _ _ => rfl) (by omega) (by omega)

set_option maxRecDepth 100000 in
set_option maxHeartbeats 600000 in
theorem lc_cX11_were (l : Launch) (n : Nat) (N : Int → Int) (f : Int → Int) (s q m mo ca ct : Int) (po : Int → Int) (kept : Int) (bs : Bool) (z at9 sn sr w1 w2 w3 bw : Int) (σ : lc_S) (h0_0 : σ (50) = some (.inr (11, [.ref (51), .ref (52), .ref (53), .ref (54), .ref (55), .int (lc_i (kept)), .ref (56), .int (lc_i (if bs = true then 1 else 0)), .ref (57), .int (lc_i (z)), .int (lc_i (at9)), .int (lc_i (sn)), .int (lc_i (sr)), .int (lc_i (w1)), .int (lc_i (w2)), .int (lc_i (w3)), .int (lc_i (bw))]) : lc_Cel)) (h0_1 : σ (51) = some (lc_aI 222 (N))) (hf : ∀ j : Int, 0 ≤ j → j < 36 → 0 ≤ f j ∧ f j ≤ 2) (hs : 1 ≤ s ∧ s ≤ 2) (hct : 1 ≤ ct ∧ ct ≤ 60) (hpo : ∀ i : Int, 0 ≤ i → i < ct → 0 ≤ po i ∧ po i < 450283905890997363) (hkey : po (ct - 1) = lc_key f s 36) (hR : lc_RM N (f, s, q, m, mo, ca, ct, po)) : lc_Con l yX11_were cX11_were 5 (some .int) (lc_Rd 0) [.ref (50)] n σ (fun v n2 σ2 => v = some (.int (lc_i (lc_num (fun j : Int => decide (po j = lc_key f s 36)) ct.toNat))) ∧ n = n2 ∧ σ = σ2) := by
  obtain ⟨h0R, h1R, h2R, h3R, h4R, h5R, h6R, h7R⟩ := id hR
  have h0R : N 0 = s := h0R
  have h1R : N 1 = q := h1R
  have h4R : N 4 = m := h4R
  have h5R : N 5 = ct := h5R
  have h6R : ∀ p : Int, 0 ≤ p → p < 36 → N (6 + p) = f p := h6R
  have h7R : ∀ i : Int, 0 ≤ i → i < ct → N (42 + 3 * i) = lc_c3a (po i) ∧ N (42 + 3 * i + 1) = lc_c3b (po i) ∧ N (42 + 3 * i + 2) = lc_c3c (po i) := h7R
  have hpl := hpo (ct - 1) (by omega) (by omega)
  have hrl := lc_c3_r hpl
  refine lc_con RX11 false (by decide) rfl (fun h => absurd h (by decide)) (Nat.le_of_ble_eq_true rfl) ?_
  suffices H : ∀ Q : lc_QT, (∀ v n2 σ2, (fun v n2 σ2 => v = some (.int (lc_i (lc_num (fun j : Int => decide (po j = lc_key f s 36)) ct.toNat))) ∧ n = n2 ∧ σ = σ2 : lc_QT) v n2 σ2 → Q v n2 σ2) → lc_V l RX11 cX11_were 5 (some .int) false (lc_Rd 0) (lc_G Q 0 0) lc_E0 0 0 n 0 [(0, .ref (50))] [] σ from H _ (fun _ _ _ h => h)
  intro Q hQ
  refine lc_iconst dX11_were_0 ?_
  refine lc_top (congrArg (fun z => Value.int (lc_i z)) (show (0 : Int) = lc_num (fun j : Int => decide (po j = lc_key f s 36)) (0 : Int).toNat from rfl)) ?_
  refine lc_istore_n (lv' := [(0, .ref (50)), (1, .int (lc_i (lc_num (fun j : Int => decide (po j = lc_key f s 36)) (0 : Int).toNat)))]) dX11_were_1 rfl (by decide) rfl ?_
  refine lc_bipush dX11_were_2 (by decide) ?_
  refine lc_iconst dX11_were_4 ?_
  refine lc_aload_n dX11_were_5 rfl 0 rfl ?_
  refine lc_get dX11_were_6 lc_fX11_7 h0_0 rfl ?_
  refine lc_iconst dX11_were_9 ?_
  refine lc_iald dX11_were_10 h0_1 (by omega) (by decide) ?_
  refine lc_top (congrArg (fun z => Value.int (lc_i z)) (show ((N) (5) : Int) = ct from h5R)) ?_
  refine lc_iconst dX11_were_11 ?_
  refine lc_isub dX11_were_12 ?_
  refine lc_imul dX11_were_13 ?_
  refine lc_iadd dX11_were_14 ?_
  refine lc_istore_n (lv' := [(0, .ref (50)), (1, .int (lc_i (lc_num (fun j : Int => decide (po j = lc_key f s 36)) (0 : Int).toNat))), (2, .int (lc_i ((42) + ((3) * ((ct) - (1))))))]) dX11_were_15 rfl (by decide) rfl ?_
  refine lc_iconst dX11_were_16 ?_
  refine lc_istore_n (lv' := [(0, .ref (50)), (1, .int (lc_i (lc_num (fun j : Int => decide (po j = lc_key f s 36)) (0 : Int).toNat))), (2, .int (lc_i ((42) + ((3) * ((ct) - (1)))))), (3, .int (lc_i (0)))]) dX11_were_17 rfl (by decide) rfl ?_
  have loop2 : ∀ (N1 : Nat) (i : Int), (0 ≤ i ∧ i ≤ ct) → ct - i < (N1 : Int) → lc_V l RX11 cX11_were 5 (some .int) false (lc_Rd 0) (lc_G Q 0 0) lc_E0 0 0 n 18 [(0, .ref (50)), (1, .int (lc_i (lc_num (fun j : Int => decide (po j = lc_key f s 36)) (i).toNat))), (2, .int (lc_i ((42) + ((3) * ((ct) - (1)))))), (3, .int (lc_i (i)))] [] σ := by
    intro N1
    induction N1 with
    | zero =>
      intro i hi hm4
      exact absurd hm4 (by omega)
    | succ N1 ih3 =>
      intro i hi hm4
      have hnr9 := lc_num_r (fun j : Int => decide (po j = lc_key f s 36)) i.toNat
      refine lc_iload_n dX11_were_18 rfl 3 rfl ?_
      refine lc_aload_n dX11_were_19 rfl 0 rfl ?_
      refine lc_get dX11_were_20 lc_fX11_7 h0_0 rfl ?_
      refine lc_iconst dX11_were_23 ?_
      refine lc_iald dX11_were_24 h0_1 (by omega) (by decide) ?_
      refine lc_top (congrArg (fun z => Value.int (lc_i z)) (show ((N) (5) : Int) = ct from h5R)) ?_
      refine lc_icmp_ge (tgt := 106) dX11_were_25 (by decide) (by omega) (fun h_25_4 => ?_) (fun h_25_4 => ?_)
      · skip
        refine lc_iload_n dX11_were_106 rfl 1 rfl ?_
        exact lc_iret dX11_were_107 rfl (Nat.le_of_ble_eq_true rfl) (Nat.le_of_ble_eq_true rfl) (hQ _ _ _ ⟨lc_some (by rw [show i = ct from by omega]), rfl, rfl⟩)
      · skip
        have hpi := hpo i hi.1 (by omega)
        have hri := lc_c3_r hpi
        refine lc_bipush dX11_were_28 (by decide) ?_
        refine lc_iconst dX11_were_30 ?_
        refine lc_iload_n dX11_were_31 rfl 3 rfl ?_
        refine lc_imul dX11_were_32 ?_
        refine lc_iadd dX11_were_33 ?_
        refine lc_istore (lv' := [(0, .ref (50)), (1, .int (lc_i (lc_num (fun j : Int => decide (po j = lc_key f s 36)) (i).toNat))), (2, .int (lc_i ((42) + ((3) * ((ct) - (1)))))), (3, .int (lc_i (i))), (4, .int (lc_i ((42) + ((3) * (i)))))]) dX11_were_34 (by decide) rfl ?_
        refine lc_iload_n dX11_were_36 rfl 1 rfl ?_
        refine lc_aload_n dX11_were_37 rfl 0 rfl ?_
        refine lc_get dX11_were_38 lc_fX11_7 h0_0 rfl ?_
        refine lc_iload dX11_were_41 4 rfl ?_
        refine lc_iald dX11_were_43 h0_1 (by omega) (by decide) ?_
        refine lc_top (congrArg (fun z => Value.int (lc_i z)) (show ((N) ((42) + ((3) * (i))) : Int) = lc_c3a (po i) from (h7R i (by omega) (by omega)).1)) ?_
        refine lc_aload_n dX11_were_44 rfl 0 rfl ?_
        refine lc_get dX11_were_45 lc_fX11_7 h0_0 rfl ?_
        refine lc_iload_n dX11_were_48 rfl 2 rfl ?_
        refine lc_iald dX11_were_49 h0_1 (by omega) (by decide) ?_
        refine lc_top (congrArg (fun z => Value.int (lc_i z)) (show ((N) ((42) + ((3) * ((ct) - (1)))) : Int) = lc_c3a (po (ct - 1)) from (h7R (ct - 1) (by omega) (by omega)).1)) ?_
        refine lc_icmp_ne (tgt := 97) dX11_were_50 (by decide) (by omega) (fun h_50_5 => ?_) (fun h_50_5 => ?_)
        · skip
          refine lc_iconst dX11_were_97 ?_
          refine lc_iadd dX11_were_98 ?_
          refine lc_istore_n (lv' := [(0, .ref (50)), (1, .int (lc_i ((lc_num (fun j : Int => decide (po j = lc_key f s 36)) (i).toNat) + (0)))), (2, .int (lc_i ((42) + ((3) * ((ct) - (1)))))), (3, .int (lc_i (i))), (4, .int (lc_i ((42) + ((3) * (i)))))]) dX11_were_99 rfl (by decide) rfl ?_
          refine lc_iinc (lv' := [(0, .ref (50)), (1, .int (lc_i ((lc_num (fun j : Int => decide (po j = lc_key f s 36)) (i).toNat) + (0)))), (2, .int (lc_i ((42) + ((3) * ((ct) - (1)))))), (3, .int (lc_i (i + 1))), (4, .int (lc_i ((42) + ((3) * (i)))))]) dX11_were_100 3 rfl (by decide) rfl ?_
          refine lc_goto (tgt := 18) dX11_were_103 (by decide) ?_
          refine lc_pick (lv' := [(0, .ref (50)), (1, .int (lc_i ((lc_num (fun j : Int => decide (po j = lc_key f s 36)) (i).toNat) + (0)))), (2, .int (lc_i ((42) + ((3) * ((ct) - (1)))))), (3, .int (lc_i (i + 1)))]) [0, 1, 2, 3] rfl ?_
          refine lc_lveq (lv' := [(0, .ref (50)), (1, .int (lc_i (lc_num (fun j : Int => decide (po j = lc_key f s 36)) (i + 1).toNat))), (2, .int (lc_i ((42) + ((3) * ((ct) - (1)))))), (3, .int (lc_i (i + 1)))]) (by rw [lc_num_00 (P := (fun j : Int => decide (po j = lc_key f s 36))) hi.1 (fun q9 => h_50_5 (by rw [(of_decide_eq_true q9).trans hkey.symm]))]) ?_
          exact ih3 (i + 1) (by omega) (by omega)
        · skip
          refine lc_aload_n dX11_were_53 rfl 0 rfl ?_
          refine lc_get dX11_were_54 lc_fX11_7 h0_0 rfl ?_
          refine lc_iload dX11_were_57 4 rfl ?_
          refine lc_iconst dX11_were_59 ?_
          refine lc_iadd dX11_were_60 ?_
          refine lc_iald dX11_were_61 h0_1 (by omega) (by decide) ?_
          refine lc_top (congrArg (fun z => Value.int (lc_i z)) (show ((N) (((42) + ((3) * (i))) + (1)) : Int) = lc_c3b (po i) from (h7R i (by omega) (by omega)).2.1)) ?_
          refine lc_aload_n dX11_were_62 rfl 0 rfl ?_
          refine lc_get dX11_were_63 lc_fX11_7 h0_0 rfl ?_
          refine lc_iload_n dX11_were_66 rfl 2 rfl ?_
          refine lc_iconst dX11_were_67 ?_
          refine lc_iadd dX11_were_68 ?_
          refine lc_iald dX11_were_69 h0_1 (by omega) (by decide) ?_
          refine lc_top (congrArg (fun z => Value.int (lc_i z)) (show ((N) (((42) + ((3) * ((ct) - (1)))) + (1)) : Int) = lc_c3b (po (ct - 1)) from (h7R (ct - 1) (by omega) (by omega)).2.1)) ?_
          refine lc_icmp_ne (tgt := 97) dX11_were_70 (by decide) (by omega) (fun h_70_6 => ?_) (fun h_70_6 => ?_)
          · skip
            refine lc_iconst dX11_were_97 ?_
            refine lc_iadd dX11_were_98 ?_
            refine lc_istore_n (lv' := [(0, .ref (50)), (1, .int (lc_i ((lc_num (fun j : Int => decide (po j = lc_key f s 36)) (i).toNat) + (0)))), (2, .int (lc_i ((42) + ((3) * ((ct) - (1)))))), (3, .int (lc_i (i))), (4, .int (lc_i ((42) + ((3) * (i)))))]) dX11_were_99 rfl (by decide) rfl ?_
            refine lc_iinc (lv' := [(0, .ref (50)), (1, .int (lc_i ((lc_num (fun j : Int => decide (po j = lc_key f s 36)) (i).toNat) + (0)))), (2, .int (lc_i ((42) + ((3) * ((ct) - (1)))))), (3, .int (lc_i (i + 1))), (4, .int (lc_i ((42) + ((3) * (i)))))]) dX11_were_100 3 rfl (by decide) rfl ?_
            refine lc_goto (tgt := 18) dX11_were_103 (by decide) ?_
            refine lc_pick (lv' := [(0, .ref (50)), (1, .int (lc_i ((lc_num (fun j : Int => decide (po j = lc_key f s 36)) (i).toNat) + (0)))), (2, .int (lc_i ((42) + ((3) * ((ct) - (1)))))), (3, .int (lc_i (i + 1)))]) [0, 1, 2, 3] rfl ?_
            refine lc_lveq (lv' := [(0, .ref (50)), (1, .int (lc_i (lc_num (fun j : Int => decide (po j = lc_key f s 36)) (i + 1).toNat))), (2, .int (lc_i ((42) + ((3) * ((ct) - (1)))))), (3, .int (lc_i (i + 1)))]) (by rw [lc_num_00 (P := (fun j : Int => decide (po j = lc_key f s 36))) hi.1 (fun q9 => h_70_6 (by rw [(of_decide_eq_true q9).trans hkey.symm]))]) ?_
            exact ih3 (i + 1) (by omega) (by omega)
          · skip
            refine lc_aload_n dX11_were_73 rfl 0 rfl ?_
            refine lc_get dX11_were_74 lc_fX11_7 h0_0 rfl ?_
            refine lc_iload dX11_were_77 4 rfl ?_
            refine lc_iconst dX11_were_79 ?_
            refine lc_iadd dX11_were_80 ?_
            refine lc_iald dX11_were_81 h0_1 (by omega) (by decide) ?_
            refine lc_top (congrArg (fun z => Value.int (lc_i z)) (show ((N) (((42) + ((3) * (i))) + (2)) : Int) = lc_c3c (po i) from (h7R i (by omega) (by omega)).2.2)) ?_
            refine lc_aload_n dX11_were_82 rfl 0 rfl ?_
            refine lc_get dX11_were_83 lc_fX11_7 h0_0 rfl ?_
            refine lc_iload_n dX11_were_86 rfl 2 rfl ?_
            refine lc_iconst dX11_were_87 ?_
            refine lc_iadd dX11_were_88 ?_
            refine lc_iald dX11_were_89 h0_1 (by omega) (by decide) ?_
            refine lc_top (congrArg (fun z => Value.int (lc_i z)) (show ((N) (((42) + ((3) * ((ct) - (1)))) + (2)) : Int) = lc_c3c (po (ct - 1)) from (h7R (ct - 1) (by omega) (by omega)).2.2)) ?_
            refine lc_icmp_ne (tgt := 97) dX11_were_90 (by decide) (by omega) (fun h_90_7 => ?_) (fun h_90_7 => ?_)
            · skip
              refine lc_iconst dX11_were_97 ?_
              refine lc_iadd dX11_were_98 ?_
              refine lc_istore_n (lv' := [(0, .ref (50)), (1, .int (lc_i ((lc_num (fun j : Int => decide (po j = lc_key f s 36)) (i).toNat) + (0)))), (2, .int (lc_i ((42) + ((3) * ((ct) - (1)))))), (3, .int (lc_i (i))), (4, .int (lc_i ((42) + ((3) * (i)))))]) dX11_were_99 rfl (by decide) rfl ?_
              refine lc_iinc (lv' := [(0, .ref (50)), (1, .int (lc_i ((lc_num (fun j : Int => decide (po j = lc_key f s 36)) (i).toNat) + (0)))), (2, .int (lc_i ((42) + ((3) * ((ct) - (1)))))), (3, .int (lc_i (i + 1))), (4, .int (lc_i ((42) + ((3) * (i)))))]) dX11_were_100 3 rfl (by decide) rfl ?_
              refine lc_goto (tgt := 18) dX11_were_103 (by decide) ?_
              refine lc_pick (lv' := [(0, .ref (50)), (1, .int (lc_i ((lc_num (fun j : Int => decide (po j = lc_key f s 36)) (i).toNat) + (0)))), (2, .int (lc_i ((42) + ((3) * ((ct) - (1)))))), (3, .int (lc_i (i + 1)))]) [0, 1, 2, 3] rfl ?_
              refine lc_lveq (lv' := [(0, .ref (50)), (1, .int (lc_i (lc_num (fun j : Int => decide (po j = lc_key f s 36)) (i + 1).toNat))), (2, .int (lc_i ((42) + ((3) * ((ct) - (1)))))), (3, .int (lc_i (i + 1)))]) (by rw [lc_num_00 (P := (fun j : Int => decide (po j = lc_key f s 36))) hi.1 (fun q9 => h_90_7 (by rw [(of_decide_eq_true q9).trans hkey.symm]))]) ?_
              exact ih3 (i + 1) (by omega) (by omega)
            · skip
              refine lc_iconst dX11_were_93 ?_
              refine lc_goto (tgt := 98) dX11_were_94 (by decide) ?_
              refine lc_iadd dX11_were_98 ?_
              refine lc_istore_n (lv' := [(0, .ref (50)), (1, .int (lc_i ((lc_num (fun j : Int => decide (po j = lc_key f s 36)) (i).toNat) + (1)))), (2, .int (lc_i ((42) + ((3) * ((ct) - (1)))))), (3, .int (lc_i (i))), (4, .int (lc_i ((42) + ((3) * (i)))))]) dX11_were_99 rfl (by decide) rfl ?_
              refine lc_iinc (lv' := [(0, .ref (50)), (1, .int (lc_i ((lc_num (fun j : Int => decide (po j = lc_key f s 36)) (i).toNat) + (1)))), (2, .int (lc_i ((42) + ((3) * ((ct) - (1)))))), (3, .int (lc_i (i + 1))), (4, .int (lc_i ((42) + ((3) * (i)))))]) dX11_were_100 3 rfl (by decide) rfl ?_
              refine lc_goto (tgt := 18) dX11_were_103 (by decide) ?_
              refine lc_pick (lv' := [(0, .ref (50)), (1, .int (lc_i ((lc_num (fun j : Int => decide (po j = lc_key f s 36)) (i).toNat) + (1)))), (2, .int (lc_i ((42) + ((3) * ((ct) - (1)))))), (3, .int (lc_i (i + 1)))]) [0, 1, 2, 3] rfl ?_
              refine lc_lveq (lv' := [(0, .ref (50)), (1, .int (lc_i (lc_num (fun j : Int => decide (po j = lc_key f s 36)) (i + 1).toNat))), (2, .int (lc_i ((42) + ((3) * ((ct) - (1)))))), (3, .int (lc_i (i + 1)))]) (by rw [lc_num_1 (P := (fun j : Int => decide (po j = lc_key f s 36))) hi.1 (decide_eq_true ((lc_c3_i hpi hpl h_50_5 h_70_6 h_90_7).trans hkey))]) ?_
              exact ih3 (i + 1) (by omega) (by omega)
  exact loop2 1000 (0) (by omega) (by omega)
