/-! lists of moves: ascending stretches of an array, by their members -/
def lc_asc (g : Int → Int) (lo hi : Int) : Prop := ∀ i j : Int, lo ≤ i → i < j → j < hi → g i < g j
def lc_has (g : Int → Int) (lo hi v : Int) : Prop := ∃ i : Int, (lo ≤ i ∧ i < hi) ∧ g i = v
def lc_insd (g : Int → Int) (z v : Int) (g' : Int → Int) (z' : Int) : Prop := (z ≤ z' ∧ z' ≤ z + 1) ∧ lc_asc g' 0 z' ∧ ∀ x : Int, lc_has g' 0 z' x ↔ (x = v ∨ lc_has g 0 z x)
theorem lc_insd_n {g h : Int → Int} {z v r : Int} (ha : lc_asc g 0 z) (hr : 0 ≤ r ∧ r ≤ z) (h1 : ∀ i : Int, r ≤ i → i < z → v < g i) (h2 : r = 0 ∨ g (r - 1) < v) (hl : ∀ j : Int, j ≤ r → h j = g j) (hh : ∀ j : Int, r < j → j ≤ z → h j = g (j - 1)) : lc_insd g z v (lc_u h r v) (z + 1) := by
  have hlow : ∀ i : Int, 0 ≤ i → i < r → g i < v := by
    intro i h3 h4
    rcases h2 with e | e
    · omega
    · by_cases h5 : i = r - 1
      · rw [h5]; exact e
      · have := ha i (r - 1) h3 (by omega) (by omega)
        omega
  have e1 : ∀ i : Int, i < r → lc_u h r v i = g i := fun i h3 => by rw [lc_u_n _ _ (by omega)]; exact hl i (by omega)
  have e2 : lc_u h r v r = v := lc_u_s _ _ _
  have e3 : ∀ i : Int, r < i → i ≤ z → lc_u h r v i = g (i - 1) := fun i h3 h4 => by rw [lc_u_n _ _ (by omega)]; exact hh i h3 h4
  refine ⟨by omega, fun i j hi hij hj => ?_, fun x => ⟨?_, ?_⟩⟩
  · by_cases h3 : i < r
    · rw [e1 i h3]
      by_cases h4 : j < r
      · rw [e1 j h4]; exact ha i j hi hij (by omega)
      · by_cases h5 : j = r
        · rw [h5, e2]; exact hlow i hi h3
        · rw [e3 j (by omega) (by omega)]
          by_cases h6 : i = j - 1
          · omega
          · exact ha i (j - 1) hi (by omega) (by omega)
    · by_cases h4 : i = r
      · rw [h4, e2, e3 j (by omega) (by omega)]; exact h1 (j - 1) (by omega) (by omega)
      · rw [e3 i (by omega) (by omega), e3 j (by omega) (by omega)]; exact ha (i - 1) (j - 1) (by omega) (by omega) (by omega)
  · rintro ⟨i, hi, rfl⟩
    by_cases h3 : i < r
    · exact Or.inr ⟨i, by omega, (e1 i h3).symm⟩
    · by_cases h4 : i = r
      · exact Or.inl (by rw [h4, e2])
      · exact Or.inr ⟨i - 1, by omega, (e3 i (by omega) (by omega)).symm⟩
  · rintro (rfl | ⟨i, hi, rfl⟩)
    · exact ⟨r, by omega, e2⟩
    · by_cases h3 : i < r
      · exact ⟨i, by omega, e1 i h3⟩
      · exact ⟨i + 1, by omega, by rw [e3 (i + 1) (by omega) (by omega), show i + 1 - 1 = i by omega]⟩
theorem lc_insd_o {g : Int → Int} {z v r : Int} (ha : lc_asc g 0 z) (hr : 0 < r ∧ r ≤ z) (h : g (r - 1) = v) : lc_insd g z v g z := by
  refine ⟨by omega, ha, fun x => ⟨fun h1 => Or.inr h1, ?_⟩⟩
  rintro (rfl | h1)
  · exact ⟨r - 1, by omega, h⟩
  · exact h1
/-- rows of moves -/
def lc_row (P : Int → Int → Bool) (fr : Int) : Nat → List Int
  | 0 => []
  | to + 1 => lc_row P fr to ++ (if P fr to = true then [fr * 100 + (to : Int)] else [])
def lc_aal (P : Int → Int → Bool) (w : Nat) : Nat → List Int
  | 0 => []
  | fr + 1 => lc_aal P w fr ++ lc_row P fr w
theorem lc_aal_s (P : Int → Int → Bool) (w N : Nat) : lc_aal P w (N + 1) = lc_aal P w N ++ lc_row P N w := rfl
theorem lc_row_mem {P : Int → Int → Bool} {fr x : Int} : ∀ {N : Nat}, x ∈ lc_row P fr N ↔ ∃ to : Int, (0 ≤ to ∧ to < N) ∧ P fr to = true ∧ x = fr * 100 + to
  | 0 => by
    constructor
    · intro h; exact absurd h List.not_mem_nil
    · rintro ⟨to, h1, -⟩; omega
  | N + 1 => by
    unfold lc_row
    rw [List.mem_append, lc_row_mem (N := N)]
    constructor
    · rintro (⟨to, h1, h2, h3⟩ | h)
      · exact ⟨to, by omega, h2, h3⟩
      · by_cases hp : P fr N = true
        · rw [if_pos hp] at h
          exact ⟨N, by omega, hp, List.mem_singleton.mp h⟩
        · rw [if_neg hp] at h
          exact absurd h List.not_mem_nil
    · rintro ⟨to, h1, h2, h3⟩
      by_cases ht : to = N
      · subst ht
        exact Or.inr (by rw [if_pos h2, h3]; exact List.mem_singleton.mpr rfl)
      · exact Or.inl ⟨to, by omega, h2, h3⟩
theorem lc_aal_mem {P : Int → Int → Bool} {w : Nat} {x : Int} : ∀ {N : Nat}, x ∈ lc_aal P w N ↔ ∃ fr to : Int, (0 ≤ fr ∧ fr < N) ∧ (0 ≤ to ∧ to < w) ∧ P fr to = true ∧ x = fr * 100 + to
  | 0 => by
    constructor
    · intro h; exact absurd h List.not_mem_nil
    · rintro ⟨fr, to, h1, -⟩; omega
  | N + 1 => by
    rw [lc_aal_s, List.mem_append, lc_aal_mem (N := N), lc_row_mem]
    constructor
    · rintro (⟨fr, to, h1, h2⟩ | ⟨to, h1, h2, h3⟩)
      · exact ⟨fr, to, by omega, h2⟩
      · exact ⟨N, to, by omega, by omega, h2, h3⟩
    · rintro ⟨fr, to, h1, h2, h3, h4⟩
      by_cases hf : fr = N
      · subst hf
        exact Or.inr ⟨to, by omega, h3, h4⟩
      · exact Or.inl ⟨fr, to, by omega, h2, h3, h4⟩
def lc_srt (L : List Int) : Prop := List.Pairwise (fun a b : Int => a < b) L
theorem lc_srt_app {a b : List Int} (ha : lc_srt a) (hb : lc_srt b) (h : ∀ x ∈ a, ∀ y ∈ b, x < y) : lc_srt (a ++ b) := List.pairwise_append.mpr ⟨ha, hb, h⟩
theorem lc_row_srt {P : Int → Int → Bool} {fr : Int} : ∀ N : Nat, lc_srt (lc_row P fr N)
  | 0 => List.Pairwise.nil
  | N + 1 => by
    unfold lc_row
    refine lc_srt_app (lc_row_srt N) ?_ ?_
    · split
      · exact List.pairwise_singleton _ _
      · exact List.Pairwise.nil
    · intro x hx y hy
      obtain ⟨to, h1, -, rfl⟩ := lc_row_mem.mp hx
      by_cases hp : P fr N = true
      · rw [if_pos hp] at hy
        rw [List.mem_singleton.mp hy]
        omega
      · rw [if_neg hp] at hy
        exact absurd hy List.not_mem_nil
theorem lc_aal_srt {P : Int → Int → Bool} {w : Nat} (hw : w ≤ 100) : ∀ N : Nat, lc_srt (lc_aal P w N)
  | 0 => List.Pairwise.nil
  | N + 1 => by
    rw [lc_aal_s]
    refine lc_srt_app (lc_aal_srt hw N) (lc_row_srt w) ?_
    intro x hx y hy
    obtain ⟨fr, to, h1, h2, -, rfl⟩ := lc_aal_mem.mp hx
    obtain ⟨t2, h3, -, rfl⟩ := lc_row_mem.mp hy
    omega
/-- an ascending stretch with the members of a sorted list is that list -/
theorem lc_uniq {g : Int → Int} : ∀ (L : List Int) {lo hi : Int}, lo ≤ hi → lc_srt L → lc_asc g lo hi → (∀ x : Int, lc_has g lo hi x ↔ x ∈ L) → hi = lo + L.length ∧ ∀ i : Nat, i < L.length → g (lo + i) = L.getD i 0
  | [], lo, hi, hle, _, _, hm => by
    refine ⟨?_, fun i h => absurd h (Nat.not_lt_zero i)⟩
    by_cases h : lo < hi
    · exact absurd ((hm (g lo)).mp ⟨lo, by omega, rfl⟩) List.not_mem_nil
    · show hi = lo + ((0 : Nat) : Int)
      omega
  | x :: r, lo, hi, hle, hs0, ha, hm => by
    have hs := List.pairwise_cons.mp hs0
    obtain ⟨i, hi1, hi2⟩ := (hm x).mpr List.mem_cons_self
    have hlo : lo < hi := by omega
    have hg : g lo = x := by
      rcases List.mem_cons.mp ((hm (g lo)).mp ⟨lo, by omega, rfl⟩) with h | h
      · exact h
      · have h1 := hs.1 _ h
        by_cases h2 : i = lo
        · rw [← hi2, h2]
        · have := ha lo i (by omega) (by omega) hi1.2
          omega
    have hi0 : ∀ j : Int, lo < j → j < hi → x < g j := fun j h1 h2 => by rw [← hg]; exact ha lo j (by omega) h1 h2
    obtain ⟨e1, e2⟩ := lc_uniq (g := g) r (lo := lo + 1) (hi := hi) (by omega) hs.2 (fun a b h1 h2 h3 => ha a b (by omega) h2 h3) (fun y => by
      constructor
      · rintro ⟨j, hj, rfl⟩
        rcases List.mem_cons.mp ((hm (g j)).mp ⟨j, by omega, rfl⟩) with h | h
        · have := hi0 j (by omega) hj.2
          omega
        · exact h
      · intro hy
        obtain ⟨j, hj, hj2⟩ := (hm y).mpr (List.mem_cons_of_mem _ hy)
        refine ⟨j, ⟨?_, hj.2⟩, hj2⟩
        by_cases h : j = lo
        · have h1 := hs.1 y hy
          rw [h, hg] at hj2
          omega
        · omega)
    refine ⟨by rw [e1, List.length_cons]; omega, fun k hk => ?_⟩
    cases k with
    | zero => show g (lo + ((0 : Nat) : Int)) = x; rw [show lo + ((0 : Nat) : Int) = lo by omega]; exact hg
    | succ k =>
      have h := e2 k (by rw [List.length_cons] at hk; omega)
      show g (lo + ((k + 1 : Nat) : Int)) = r.getD k 0
      rw [← h]
      congr 1
      omega
def lc_rep (g : Int → Int) (L : List Int) : Prop := ∀ i : Nat, i < L.length → g i = L.getD i 0
theorem lc_rep_app {g : Int → Int} {A B : List Int} (h1 : ∀ i : Nat, i < A.length → g i = A.getD i 0) (h2 : ∀ i : Nat, i < B.length → g ((A.length : Int) + i) = B.getD i 0) : lc_rep g (A ++ B) := by
  intro i hi
  rw [List.length_append] at hi
  by_cases h : i < A.length
  · rw [h1 i h, List.getD_eq_getElem?_getD, List.getD_eq_getElem?_getD, List.getElem?_append_left h]
  · have h3 := h2 (i - A.length) (by omega)
    rw [show ((A.length : Int) + ((i - A.length : Nat) : Int)) = (i : Int) by omega] at h3
    rw [h3, List.getD_eq_getElem?_getD, List.getD_eq_getElem?_getD, List.getElem?_append_right (by omega)]
/-- how many a stretch of neighbours can hold -/
def lc_nb (x : Int) : Bool := decide (((0 ≤ x / 100 ∧ x / 100 < 36) ∧ (0 ≤ x % 100 ∧ x % 100 < 36)) ∧ ((-1 ≤ x / 100 / 6 - x % 100 / 6 ∧ x / 100 / 6 - x % 100 / 6 ≤ 1) ∧ (-1 ≤ x / 100 % 6 - x % 100 % 6 ∧ x / 100 % 6 - x % 100 % 6 ≤ 1)) ∧ x / 100 ≠ x % 100)
theorem lc_num_le {P Q : Int → Bool} : ∀ N : Nat, (∀ i : Int, 0 ≤ i → i < N → P i = true → Q i = true) → lc_num P N ≤ lc_num Q N
  | 0, _ => Int.le_refl _
  | N + 1, h => by
    have h1 := lc_num_le (P := P) (Q := Q) N (fun i h1 h2 => h i h1 (by omega))
    have h2 := h N (by omega) (by omega)
    unfold lc_num
    by_cases hp : P N = true
    · rw [if_pos hp, if_pos (h2 hp)]; omega
    · rw [if_neg hp]
      split <;> omega
theorem lc_num_lt {P Q : Int → Bool} {y : Int} : ∀ N : Nat, (∀ i : Int, 0 ≤ i → i < N → P i = true → Q i = true) → 0 ≤ y → y < N → ¬ P y = true → Q y = true → lc_num P N + 1 ≤ lc_num Q N
  | 0, _, h1, h2, _, _ => by omega
  | N + 1, h, h1, h2, hp, hq => by
    by_cases hy : y = N
    · subst hy
      have h3 := lc_num_le (P := P) (Q := Q) N (fun i h1 h2 => h i h1 (by omega))
      unfold lc_num
      rw [if_neg hp, if_pos hq]
      omega
    · have h3 := lc_num_lt (P := P) (Q := Q) (y := y) N (fun i h1 h2 => h i h1 (by omega)) h1 (by omega) hp hq
      have h4 := h N (by omega) (by omega)
      unfold lc_num
      by_cases hpN : P N = true
      · rw [if_pos hpN, if_pos (h4 hpN)]; omega
      · rw [if_neg hpN]
        split <;> omega
theorem lc_nb_all : lc_num lc_nb 3600 = 220 := by decide +kernel
theorem lc_nb_r {x : Int} (h : lc_nb x = true) : 0 ≤ x ∧ x < 3600 := by
  have := of_decide_eq_true h
  omega
theorem lc_stretch {g : Int → Int} {lo : Int} : ∀ (k : Nat), lc_asc g lo (lo + k) → (∀ i : Int, lo ≤ i → i < lo + k → lc_nb (g i) = true) → ∀ x : Int, (∀ i : Int, lo ≤ i → i < lo + k → g i < x) → (k : Int) ≤ lc_num (fun v => lc_nb v && decide (v < x)) 3600
  | 0, _, _, x, _ => (lc_num_r _ 3600).1
  | k + 1, ha, hn, x, hx => by
    have h1 := lc_stretch (g := g) (lo := lo) k (fun i j a b c => ha i j a b (by omega)) (fun i a b => hn i a (by omega)) (g (lo + k)) (fun i a b => ha i (lo + k) a b (by omega))
    have h2 := hn (lo + k) (by omega) (by omega)
    have h3 := lc_nb_r h2
    have h4 := hx (lo + k) (by omega) (by omega)
    have h5 := lc_num_lt (P := fun v => lc_nb v && decide (v < g (lo + k))) (Q := fun v => lc_nb v && decide (v < x)) (y := g (lo + k)) 3600 (fun i _ _ h => by
      simp only [Bool.and_eq_true, decide_eq_true_eq] at h ⊢
      exact ⟨h.1, by omega⟩) h3.1 (by omega) (by simp) (by simp [h2, h4])
    omega
theorem lc_room220 {g : Int → Int} {lo z v : Int} (hz : lo ≤ z) (ha : lc_asc g lo z) (hn : ∀ x : Int, lc_has g lo z x → lc_nb x = true ∧ x < v) (hv : lc_nb v = true) : z + 1 ≤ lo + 220 := by
  have h1 := lc_stretch (g := g) (lo := lo) (z - lo).toNat (by rw [show lo + ((z - lo).toNat : Int) = z by omega]; exact ha) (fun i a b => (hn _ ⟨i, by omega, rfl⟩).1) v (fun i a b => (hn _ ⟨i, by omega, rfl⟩).2)
  have h3 := lc_nb_r hv
  have h2 := lc_num_lt (P := fun w => lc_nb w && decide (w < v)) (Q := lc_nb) (y := v) 3600 (fun i _ _ h => by
    simp only [Bool.and_eq_true] at h
    exact h.1) h3.1 (by omega) (by simp) hv
  rw [lc_nb_all] at h2
  omega
/-- captures of a piece: found by its places and directions -/
def lc_T (f : Int → Int) (fr j d x : Int) : Prop := lc_sp (fr * 2 + j) ≠ -1 ∧ 0 < lc_Lo f (lc_sp (fr * 2 + j)) d ∧ lc_M f (lc_sp (fr * 2 + j)) d ≠ -1 ∧ f (lc_M f (lc_sp (fr * 2 + j)) d) = 3 - f fr ∧ x = fr * 100 + lc_M f (lc_sp (fr * 2 + j)) d
def lc_U (f : Int → Int) (fr j d x : Int) : Prop := (0 < j ∧ (lc_T f fr 0 1 x ∨ lc_T f fr 0 (-1) x)) ∨ (1 < j ∧ (lc_T f fr 1 1 x ∨ lc_T f fr 1 (-1) x)) ∨ (d < 1 ∧ lc_T f fr j 1 x) ∨ (d < -1 ∧ lc_T f fr j (-1) x)
theorem lc_U_0 {f : Int → Int} {fr x : Int} : ¬ lc_U f fr 0 1 x := by
  rintro (⟨h, -⟩ | ⟨h, -⟩ | ⟨h, -⟩ | ⟨h, -⟩) <;> omega
theorem lc_U_step {f : Int → Int} {fr j d x : Int} (hd : d = 1 ∨ d = -1) : lc_U f fr j (d + (-2)) x ↔ (lc_U f fr j d x ∨ lc_T f fr j d x) := by
  unfold lc_U
  rcases hd with rfl | rfl
  · constructor
    · rintro (h | h | ⟨-, h⟩ | ⟨h, -⟩)
      · exact Or.inl (Or.inl h)
      · exact Or.inl (Or.inr (Or.inl h))
      · exact Or.inr h
      · omega
    · rintro ((h | h | ⟨h, -⟩ | ⟨h, -⟩) | h)
      · exact Or.inl h
      · exact Or.inr (Or.inl h)
      · omega
      · omega
      · exact Or.inr (Or.inr (Or.inl ⟨by omega, h⟩))
  · constructor
    · rintro (h | h | ⟨-, h⟩ | ⟨-, h⟩)
      · exact Or.inl (Or.inl h)
      · exact Or.inl (Or.inr (Or.inl h))
      · exact Or.inl (Or.inr (Or.inr (Or.inl ⟨by omega, h⟩)))
      · exact Or.inr h
    · rintro ((h | h | ⟨-, h⟩ | ⟨h, -⟩) | h)
      · exact Or.inl h
      · exact Or.inr (Or.inl h)
      · exact Or.inr (Or.inr (Or.inl ⟨by omega, h⟩))
      · omega
      · exact Or.inr (Or.inr (Or.inr ⟨by omega, h⟩))
theorem lc_U_end {f : Int → Int} {fr j d x : Int} (hj : j = 0 ∨ j = 1) (hd : d = -3 ∨ ((d = 1 ∨ d = -1 ∨ d = -3) ∧ lc_sp (fr * 2 + j) = -1)) : lc_U f fr (j + 1) 1 x ↔ lc_U f fr j d x := by
  have key : lc_U f fr (j + 1) 1 x ↔ ((0 < j ∧ (lc_T f fr 0 1 x ∨ lc_T f fr 0 (-1) x)) ∨ (lc_T f fr j 1 x ∨ lc_T f fr j (-1) x)) := by
    unfold lc_U
    rcases hj with rfl | rfl
    · constructor
      · rintro (⟨-, h⟩ | ⟨h, -⟩ | ⟨h, -⟩ | ⟨h, -⟩)
        · exact Or.inr h
        · omega
        · omega
        · omega
      · rintro (⟨h, -⟩ | h)
        · omega
        · exact Or.inl ⟨by omega, h⟩
    · constructor
      · rintro (⟨-, h⟩ | ⟨-, h⟩ | ⟨h, -⟩ | ⟨h, -⟩)
        · exact Or.inl ⟨by omega, h⟩
        · exact Or.inr h
        · omega
        · omega
      · rintro (⟨-, h⟩ | h)
        · exact Or.inl ⟨by omega, h⟩
        · exact Or.inr (Or.inl ⟨by omega, h⟩)
  rw [key]
  unfold lc_U
  rcases hd with rfl | ⟨hd, hsp⟩
  · constructor
    · rintro (h | h | h)
      · exact Or.inl h
      · exact Or.inr (Or.inr (Or.inl ⟨by omega, h⟩))
      · exact Or.inr (Or.inr (Or.inr ⟨by omega, h⟩))
    · rintro (h | ⟨h, -⟩ | ⟨-, h⟩ | ⟨-, h⟩)
      · exact Or.inl h
      · omega
      · exact Or.inr (Or.inl h)
      · exact Or.inr (Or.inr h)
  · have n1 : ∀ d2 : Int, ¬ lc_T f fr j d2 x := fun d2 h => h.1 hsp
    constructor
    · rintro (h | h | h)
      · exact Or.inl h
      · exact absurd h (n1 _)
      · exact absurd h (n1 _)
    · rintro (h | ⟨h, -⟩ | ⟨-, h⟩ | ⟨-, h⟩)
      · exact Or.inl h
      · omega
      · exact absurd h (n1 _)
      · exact absurd h (n1 _)
theorem lc_try_pos {f : Int → Int} {to x d : Int} {w : Int × Int × Int × Int} (h : 0 ≤ w.1) : 0 ≤ (lc_try f to w x d).1 ∧ (0 < (lc_try f to w x d).1 ↔ (0 < w.1 ∨ (0 < lc_Lo f x d ∧ lc_M f x d = to))) := by
  by_cases h1 : 0 < lc_Lo f x d ∧ lc_M f x d = to
  · by_cases h2 : w.1 = 0 ∨ (lc_Lo f x d < w.1 ∨ (lc_Lo f x d = w.1 ∧ (lc_K f x d : Int) < w.2.1))
    · rw [lc_try_t h1 h2]
      exact ⟨by show 0 ≤ lc_Lo f x d; omega, ⟨fun _ => Or.inr h1, fun _ => h1.1⟩⟩
    · rw [lc_try_n2 h2]
      exact ⟨h, ⟨fun q => Or.inl q, fun _ => by omega⟩⟩
  · rw [lc_try_n1 h1]
    exact ⟨h, ⟨fun q => Or.inl q, fun q => q.elim id (fun q => absurd q h1)⟩⟩
theorem lc_two_pos {f : Int → Int} {to x : Int} {w : Int × Int × Int × Int} (h : 0 ≤ w.1) : 0 ≤ (lc_two f to w x).1 ∧ (0 < (lc_two f to w x).1 ↔ (0 < w.1 ∨ (x ≠ -1 ∧ ((0 < lc_Lo f x 1 ∧ lc_M f x 1 = to) ∨ (0 < lc_Lo f x (-1) ∧ lc_M f x (-1) = to))))) := by
  unfold lc_two
  by_cases hx : x = -1
  · rw [if_pos hx]
    exact ⟨h, ⟨fun q => Or.inl q, fun q => q.elim id (fun q => absurd hx q.1)⟩⟩
  · rw [if_neg hx]
    obtain ⟨a1, a2⟩ := lc_try_pos (f := f) (to := to) (x := x) (d := 1) h
    obtain ⟨b1, b2⟩ := lc_try_pos (f := f) (to := to) (x := x) (d := -1) a1
    refine ⟨b1, b2.trans ?_⟩
    rw [a2]
    constructor
    · rintro ((h1 | h1) | h1)
      · exact Or.inl h1
      · exact Or.inr ⟨hx, Or.inl h1⟩
      · exact Or.inr ⟨hx, Or.inr h1⟩
    · rintro (h1 | ⟨-, h1 | h1⟩)
      · exact Or.inl (Or.inl h1)
      · exact Or.inl (Or.inr h1)
      · exact Or.inr h1
theorem lc_wy_pos {f : Int → Int} {fr to : Int} : 0 < (lc_wy f fr to).1 ↔ ((lc_sp (fr * 2) ≠ -1 ∧ ((0 < lc_Lo f (lc_sp (fr * 2)) 1 ∧ lc_M f (lc_sp (fr * 2)) 1 = to) ∨ (0 < lc_Lo f (lc_sp (fr * 2)) (-1) ∧ lc_M f (lc_sp (fr * 2)) (-1) = to))) ∨ (lc_sp (fr * 2 + 1) ≠ -1 ∧ ((0 < lc_Lo f (lc_sp (fr * 2 + 1)) 1 ∧ lc_M f (lc_sp (fr * 2 + 1)) 1 = to) ∨ (0 < lc_Lo f (lc_sp (fr * 2 + 1)) (-1) ∧ lc_M f (lc_sp (fr * 2 + 1)) (-1) = to)))) := by
  obtain ⟨a1, a2⟩ := lc_two_pos (f := f) (to := to) (x := lc_sp (fr * 2)) (w := (0, (0, 0, 0))) (Int.le_refl 0)
  obtain ⟨b1, b2⟩ := lc_two_pos (f := f) (to := to) (x := lc_sp (fr * 2 + 1)) a1
  refine b2.trans ?_
  rw [a2]
  constructor
  · rintro ((h | h) | h)
    · exact absurd h (by decide)
    · exact Or.inl h
    · exact Or.inr h
  · rintro (h | h)
    · exact Or.inl (Or.inr h)
    · exact Or.inr h
theorem lc_U_cap {f : Int → Int} {fr x : Int} (hf : ∀ j : Int, 0 ≤ j → j < 36 → 0 ≤ f j ∧ f j ≤ 2) (hfr : 0 ≤ fr ∧ fr < 36) (hs : 1 ≤ f fr) : lc_U f fr 2 1 x ↔ ∃ to : Int, (0 ≤ to ∧ to < 36) ∧ lc_cap f fr to = true ∧ x = fr * 100 + to := by
  have h2 := hf fr hfr.1 hfr.2
  have side : ∀ (y : Int) (d : Int), -1 ≤ y ∧ y < 48 → y ≠ -1 → lc_M f y d ≠ -1 → 0 ≤ lc_M f y d ∧ lc_M f y d < 36 := fun y d h1 h3 h4 => by
    have := lc_M_r f d (x := y) (by omega)
    omega
  have r0 := lc_sp_r (x := fr * 2) (by omega)
  have r1 := lc_sp_r (x := fr * 2 + 1) (by omega)
  have z0 : fr * 2 + 0 = fr * 2 := by omega
  constructor
  · intro h
    have hT : ∃ j d : Int, (j = 0 ∨ j = 1) ∧ (d = 1 ∨ d = -1) ∧ lc_T f fr j d x := by
      rcases h with ⟨-, h | h⟩ | ⟨-, h | h⟩ | ⟨h, -⟩ | ⟨h, -⟩
      · exact ⟨0, 1, Or.inl rfl, Or.inl rfl, h⟩
      · exact ⟨0, -1, Or.inl rfl, Or.inr rfl, h⟩
      · exact ⟨1, 1, Or.inr rfl, Or.inl rfl, h⟩
      · exact ⟨1, -1, Or.inr rfl, Or.inr rfl, h⟩
      · omega
      · omega
    obtain ⟨j, d, hj, hd, t1, t2, t3, t4, t5⟩ := hT
    have hr : -1 ≤ lc_sp (fr * 2 + j) ∧ lc_sp (fr * 2 + j) < 48 := lc_sp_r (by omega)
    have hM := side _ d hr t1 t3
    refine ⟨_, hM, lc_cap_iff.mpr ⟨⟨⟨by omega, by omega⟩, by omega⟩, lc_wy_pos.mpr ?_⟩, t5⟩
    rcases hj with rfl | rfl
    · rw [z0] at t1 t2 ⊢
      rcases hd with rfl | rfl
      · exact Or.inl ⟨t1, Or.inl ⟨t2, rfl⟩⟩
      · exact Or.inl ⟨t1, Or.inr ⟨t2, rfl⟩⟩
    · rcases hd with rfl | rfl
      · exact Or.inr ⟨t1, Or.inl ⟨t2, rfl⟩⟩
      · exact Or.inr ⟨t1, Or.inr ⟨t2, rfl⟩⟩
  · rintro ⟨to, hto, hc, rfl⟩
    obtain ⟨⟨⟨c1, c2⟩, c3⟩, c4⟩ := lc_cap_iff.mp hc
    have hft := hf to hto.1 hto.2
    have mk : ∀ j d : Int, lc_sp (fr * 2 + j) ≠ -1 → 0 < lc_Lo f (lc_sp (fr * 2 + j)) d → lc_M f (lc_sp (fr * 2 + j)) d = to → lc_T f fr j d (fr * 100 + to) := by
      intro j d t1 t2 t3
      exact ⟨t1, t2, by omega, by rw [t3]; omega, by rw [t3]⟩
    rcases lc_wy_pos.mp c4 with ⟨t1, ⟨t2, t3⟩ | ⟨t2, t3⟩⟩ | ⟨t1, ⟨t2, t3⟩ | ⟨t2, t3⟩⟩
    · exact Or.inl ⟨by omega, Or.inl (mk 0 1 (by rw [z0]; exact t1) (by rw [z0]; exact t2) (by rw [z0]; exact t3))⟩
    · exact Or.inl ⟨by omega, Or.inr (mk 0 (-1) (by rw [z0]; exact t1) (by rw [z0]; exact t2) (by rw [z0]; exact t3))⟩
    · exact Or.inr (Or.inl ⟨by omega, Or.inl (mk 1 1 t1 t2 t3)⟩)
    · exact Or.inr (Or.inl ⟨by omega, Or.inr (mk 1 (-1) t1 t2 t3)⟩)
/-- the moves of a side, in their order -/
def lc_PC (f : Int → Int) (s fr to : Int) : Bool := decide (f fr = s) && lc_cap f fr to
def lc_PQ (f : Int → Int) (s fr to : Int) : Bool := decide (f fr = s) && lc_step f fr to
def lc_caps (f : Int → Int) (s q m : Int) : List Int := if lc_res (lc_cnt f 1 36) (lc_cnt f 2 36) q m = 0 then lc_aal (lc_PC f s) 36 36 else []
def lc_mv (f : Int → Int) (s q m : Int) : List Int := if lc_res (lc_cnt f 1 36) (lc_cnt f 2 36) q m = 0 then lc_aal (lc_PC f s) 36 36 ++ lc_aal (lc_PQ f s) 36 36 else []
