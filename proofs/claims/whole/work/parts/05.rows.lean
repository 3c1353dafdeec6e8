/-! rows that name the store behind them by facts (written by wip/whole/gen/kit2.py) -/
def lc_Rd (d : Nat) : Room := { frames := d, cells := 0, slots := 0, locals := 60 * d }
def lc_Ra (d c s : Nat) : Room := { frames := d, cells := c, slots := s, locals := 60 * d }
theorem lc_some {a b : Int} (h : a = b) : some (Value.int (lc_i a)) = some (Value.int (lc_i b)) := by rw [h]
theorem lc_b1 : narrow .boolean (.int (lc_i 1)) = .int (lc_i 1) := rfl
theorem lc_b0 : narrow .boolean (.int (lc_i 0)) = .int (lc_i 0) := rfl
theorem lc_bite {P : Prop} [Decidable P] : narrow .boolean (.int (lc_i (if P then 1 else 0))) = .int (lc_i (if P then 1 else 0)) := by
  by_cases h : P
  · rw [if_pos h]; rfl
  · rw [if_neg h]; rfl
theorem lc_refArr {t : FieldType} (y : Nat) : narrow (.array t) (.ref y) = .ref y ∧ fits (.array t) (.ref y) = true := ⟨rfl, rfl⟩
theorem lc_refObj {t : String} (y : Nat) : narrow (.object t) (.ref y) = .ref y ∧ fits (.object t) (.ref y) = true := ⟨rfl, rfl⟩

section LcRows2
variable {l : Launch} {own : String} {cc : ByteArray} {nL : Nat} {ret : Option FieldType} {ini : Bool} {R : Room} {G : lc_GT} {E : lc_ET} {k z n pc : Nat} {lv : List (Nat × Value)} {stk : List Value} {σ : lc_S}

theorem lc_wI {b idx ci q : Nat} {ty : FieldType} {vs vs' : List Value} {x : Int32} (hd : decode cc pc = .ok (.putfield idx, 3)) (hF : lc_FL own idx ci q false ty) (hb : σ b = some (.inr (ci, vs))) (hq : q < vs.length) (hx : narrow ty (.int x) = .int x) (hf : fits ty (.int x) = true) (hv : vs.set q (.int x) = vs') (kk : ∀ σ1 : lc_S, σ1 b = some ((.inr (ci, vs') : lc_Cel)) → (∀ i : Nat, i ≠ b → σ1 i = σ i) → lc_V l own cc nL ret ini R G E k z n (pc + 3) lv stk σ1) : lc_V l own cc nL ret ini R G E k z n pc lv (.int x :: .ref b :: stk) σ := by
  subst hv
  exact lc_putI hd hF hb hq hx hf (kk _ (lc_up_s _ _ _) (fun i h => lc_up_n _ _ h))

theorem lc_wR {b idx ci q : Nat} {ty : FieldType} {vs vs' : List Value} {x : Nat} (hd : decode cc pc = .ok (.putfield idx, 3)) (hF : lc_FL own idx ci q false ty) (hb : σ b = some (.inr (ci, vs))) (hq : q < vs.length) (hx : ∀ y : Nat, narrow ty (.ref y) = .ref y ∧ fits ty (.ref y) = true) (hv : vs.set q (.ref x) = vs') (kk : ∀ σ1 : lc_S, σ1 b = some ((.inr (ci, vs') : lc_Cel)) → (∀ i : Nat, i ≠ b → σ1 i = σ i) → lc_V l own cc nL ret ini R G E k z n (pc + 3) lv stk σ1) : lc_V l own cc nL ret ini R G E k z n pc lv (.ref x :: .ref b :: stk) σ := by
  subst hv
  exact lc_putR hd hF hb hq hx (kk _ (lc_up_s _ _ _) (fun i h => lc_up_n _ _ h))

theorem lc_wF {b idx ci q : Nat} {ty : FieldType} {vs vs' : List Value} {x : Nat} (hd : decode cc pc = .ok (.putfield idx, 3)) (hF : lc_FL own idx ci q true ty) (hb : σ b = some (.inr (ci, vs))) (hq : q < vs.length) (hini : ini = true) (hown : (vwCl[ci]?).map (fun q => q.1) = some own) (hx : ∀ y : Nat, narrow ty (.ref y) = .ref y ∧ fits ty (.ref y) = true) (hv : vs.set q (.ref x) = vs') (kk : ∀ σ1 : lc_S, σ1 b = some ((.inr (ci, vs') : lc_Cel)) → (∀ i : Nat, i ≠ b → σ1 i = σ i) → lc_V l own cc nL ret ini R G E k z n (pc + 3) lv stk σ1) : lc_V l own cc nL ret ini R G E k z n pc lv (.ref x :: .ref b :: stk) σ := by
  subst hv
  exact lc_putF hd hF hb hq hini hown hx (kk _ (lc_up_s _ _ _) (fun i h => lc_up_n _ _ h))

theorem lc_sI {a m : Nat} {f : Int → Int} {j : Int} {x : Int} (hd : decode cc pc = .ok (.iastore, 1)) (ha : σ a = some (lc_aI m f)) (hj : 0 ≤ j ∧ j < m) (hm : m < 2147483648) (kk : ∀ σ1 : lc_S, σ1 a = some (lc_aI m (lc_u f j x)) → (∀ i : Nat, i ≠ a → σ1 i = σ i) → lc_V l own cc nL ret ini R G E k z n (pc + 1) lv stk σ1) : lc_V l own cc nL ret ini R G E k z n pc lv (.int (lc_i x) :: .int (lc_i j) :: .ref a :: stk) σ := lc_iast hd ha hj hm (kk _ (lc_up_s _ _ _) (fun i h => lc_up_n _ _ h))

theorem lc_sJ {a m : Nat} {f : Int → Int64} {j : Int} {x : Int64} (hd : decode cc pc = .ok (.lastore, 1)) (ha : σ a = some (lc_aJ m f)) (hj : 0 ≤ j ∧ j < m) (hm : m < 2147483648) (kk : ∀ σ1 : lc_S, σ1 a = some (lc_aJ m (lc_u f j x)) → (∀ i : Nat, i ≠ a → σ1 i = σ i) → lc_V l own cc nL ret ini R G E k z n (pc + 1) lv stk σ1) : lc_V l own cc nL ret ini R G E k z n pc lv (.long x :: .int (lc_i j) :: .ref a :: stk) σ := lc_last hd ha hj hm (kk _ (lc_up_s _ _ _) (fun i h => lc_up_n _ _ h))

theorem lc_sC {a m : Nat} {f : Int → Int} {j : Int} {x : Int} (hd : decode cc pc = .ok (.castore, 1)) (ha : σ a = some (lc_aC m f)) (hj : 0 ≤ j ∧ j < m) (hm : m < 2147483648) (hx : narrow .char (.int (lc_i x)) = .int (lc_i x)) (kk : ∀ σ1 : lc_S, σ1 a = some (lc_aC m (lc_u f j x)) → (∀ i : Nat, i ≠ a → σ1 i = σ i) → lc_V l own cc nL ret ini R G E k z n (pc + 1) lv stk σ1) : lc_V l own cc nL ret ini R G E k z n pc lv (.int (lc_i x) :: .int (lc_i j) :: .ref a :: stk) σ := lc_cast hd ha hj hm hx (kk _ (lc_up_s _ _ _) (fun i h => lc_up_n _ _ h))

theorem lc_sS {a m x : Nat} {f : Int → Option Nat} {j : Int} {vs : List Value} (hd : decode cc pc = .ok (.aastore, 1)) (ha : σ a = some (lc_aS m f)) (hj : 0 ≤ j ∧ j < m) (hm : m < 2147483648) (hx : σ x = some (.inr (7, vs))) (kk : ∀ σ1 : lc_S, σ1 a = some (lc_aS m (lc_u f j (some x))) → (∀ i : Nat, i ≠ a → σ1 i = σ i) → lc_V l own cc nL ret ini R G E k z n (pc + 1) lv stk σ1) : lc_V l own cc nL ret ini R G E k z n pc lv (.ref x :: .int (lc_i j) :: .ref a :: stk) σ := lc_aast hd ha hj hm hx (kk _ (lc_up_s _ _ _) (fun i h => lc_up_n _ _ h))

theorem lc_extI {a m : Nat} {f g : Int → Int} (ha : σ a = some (lc_aI m f)) (h : ∀ i : Int, 0 ≤ i → i < m → f i = g i) (kk : ∀ σ1 : lc_S, σ1 a = some (lc_aI m g) → (∀ i : Nat, i ≠ a → σ1 i = σ i) → lc_V l own cc nL ret ini R G E k z n pc lv stk σ1) : lc_V l own cc nL ret ini R G E k z n pc lv stk σ := by
  intro b1 b0 D ar p e s mm args below meth c H locs ls hC hH hS hl
  refine kk _ (lc_up_s σ a (lc_aI m g)) (fun i h => lc_up_n _ _ h) b1 b0 D ar p e s mm args below meth c H locs ls hC (lc_H_put hH _ (hH.2 a _ ha).1 ?_ rfl (fun _ _ => rfl)) hS hl
  refine ((hH.2 a _ ha).2 : H[b0 + a]? = _).trans (congrArg some ?_)
  show arrV (ar 0) m (fun i => Value.int (lc_i (f i))) = arrV (ar 0) m (fun i => Value.int (lc_i (g i)))
  refine lc_arr_ext _ _ _ _ fun i hi => ?_
  show Value.int (lc_i (f i)) = Value.int (lc_i (g i))
  rw [h i (by omega) (by omega)]

theorem lc_extJ {a m : Nat} {f g : Int → Int64} (ha : σ a = some (lc_aJ m f)) (h : ∀ i : Int, 0 ≤ i → i < m → f i = g i) (kk : ∀ σ1 : lc_S, σ1 a = some (lc_aJ m g) → (∀ i : Nat, i ≠ a → σ1 i = σ i) → lc_V l own cc nL ret ini R G E k z n pc lv stk σ1) : lc_V l own cc nL ret ini R G E k z n pc lv stk σ := by
  intro b1 b0 D ar p e s mm args below meth c H locs ls hC hH hS hl
  refine kk _ (lc_up_s σ a (lc_aJ m g)) (fun i h => lc_up_n _ _ h) b1 b0 D ar p e s mm args below meth c H locs ls hC (lc_H_put hH _ (hH.2 a _ ha).1 ?_ rfl (fun _ _ => rfl)) hS hl
  refine ((hH.2 a _ ha).2 : H[b0 + a]? = _).trans (congrArg some ?_)
  show arrV (ar 1) m (fun i => Value.long (f i)) = arrV (ar 1) m (fun i => Value.long (g i))
  refine lc_arr_ext _ _ _ _ fun i hi => ?_
  show Value.long (f i) = Value.long (g i)
  rw [h i (by omega) (by omega)]

theorem lc_extC {a m : Nat} {f g : Int → Int} (ha : σ a = some (lc_aC m f)) (h : ∀ i : Int, 0 ≤ i → i < m → f i = g i) (kk : ∀ σ1 : lc_S, σ1 a = some (lc_aC m g) → (∀ i : Nat, i ≠ a → σ1 i = σ i) → lc_V l own cc nL ret ini R G E k z n pc lv stk σ1) : lc_V l own cc nL ret ini R G E k z n pc lv stk σ := by
  intro b1 b0 D ar p e s mm args below meth c H locs ls hC hH hS hl
  refine kk _ (lc_up_s σ a (lc_aC m g)) (fun i h => lc_up_n _ _ h) b1 b0 D ar p e s mm args below meth c H locs ls hC (lc_H_put hH _ (hH.2 a _ ha).1 ?_ rfl (fun _ _ => rfl)) hS hl
  refine ((hH.2 a _ ha).2 : H[b0 + a]? = _).trans (congrArg some ?_)
  show arrV (ar 2) m (fun i => Value.int (lc_i (f i))) = arrV (ar 2) m (fun i => Value.int (lc_i (g i)))
  refine lc_arr_ext _ _ _ _ fun i hi => ?_
  show Value.int (lc_i (f i)) = Value.int (lc_i (g i))
  rw [h i (by omega) (by omega)]

theorem lc_extS {a m : Nat} {f g : Int → Option Nat} (ha : σ a = some (lc_aS m f)) (h : ∀ i : Int, 0 ≤ i → i < m → f i = g i) (kk : ∀ σ1 : lc_S, σ1 a = some (lc_aS m g) → (∀ i : Nat, i ≠ a → σ1 i = σ i) → lc_V l own cc nL ret ini R G E k z n pc lv stk σ1) : lc_V l own cc nL ret ini R G E k z n pc lv stk σ := by
  intro b1 b0 D ar p e s mm args below meth c H locs ls hC hH hS hl
  refine kk _ (lc_up_s σ a (lc_aS m g)) (fun i h => lc_up_n _ _ h) b1 b0 D ar p e s mm args below meth c H locs ls hC (lc_H_put hH _ (hH.2 a _ ha).1 ?_ rfl (fun _ _ => rfl)) hS hl
  refine ((hH.2 a _ ha).2 : H[b0 + a]? = _).trans (congrArg some ?_)
  show arrV (ar 3) m (fun i => va_rf ((f i).map (lc_a b1 b0))) = arrV (ar 3) m (fun i => va_rf ((g i).map (lc_a b1 b0)))
  refine lc_arr_ext _ _ _ _ fun i hi => ?_
  show va_rf ((f i).map (lc_a b1 b0)) = va_rf ((g i).map (lc_a b1 b0))
  rw [h i (by omega) (by omega)]

theorem lc_pick {lv' : List (Nat × Value)} (ks : List Nat) (h : lv_pick lv ks = lv') (kk : lc_V l own cc nL ret ini R G E k z n pc lv' stk σ) : lc_V l own cc nL ret ini R G E k z n pc lv stk σ := by
  refine lc_locs (lv' := lv') (fun q hq => ?_) kk
  rw [← h] at hq
  obtain ⟨i, -, hi⟩ := List.mem_filterMap.mp hq
  exact List.mem_of_getElem? hi

theorem lc_lveq {lv' : List (Nat × Value)} (h : lv = lv') (kk : lc_V l own cc nL ret ini R G E k z n pc lv' stk σ) : lc_V l own cc nL ret ini R G E k z n pc lv stk σ := by
  rw [h]
  exact kk

theorem lc_alenV {a : Nat} {t : Nat} {x : vp_A} {v : Int} (hd : decode cc pc = .ok (.arraylength, 1)) (ha : σ a = some (.inl (t, x))) (ht : t < 4) (hv : ((x.1 : Nat) : Int) = v) (kk : lc_V l own cc nL ret ini R G E k z n (pc + 1) lv (.int (lc_i v) :: stk) σ) : lc_V l own cc nL ret ini R G E k z n pc lv (.ref a :: stk) σ := by
  subst hv
  exact lc_alen hd ha ht kk

theorem lc_if_eqB {P : Prop} [Decidable P] {off : Int} {tgt : Nat} (hd : decode cc pc = .ok (.ifCond .eq off, 3)) (ht : (pc : Int) + off = (tgt : Int)) (kt : ¬ P → lc_V l own cc nL ret ini R G E k z n tgt lv stk σ) (kf : P → lc_V l own cc nL ret ini R G E k z n (pc + 3) lv stk σ) : lc_V l own cc nL ret ini R G E k z n pc lv (.int (lc_i (if P then 1 else 0)) :: stk) σ := by
  refine lc_if_eq hd ht ?_ (fun h => kt ?_) (fun h => kf ?_)
  · by_cases h : P
    · rw [if_pos h]; omega
    · rw [if_neg h]; omega
  · intro q
    rw [if_pos q] at h
    exact absurd h (by decide)
  · by_cases q : P
    · exact q
    · rw [if_neg q] at h
      exact absurd rfl h

theorem lc_if_neB {P : Prop} [Decidable P] {off : Int} {tgt : Nat} (hd : decode cc pc = .ok (.ifCond .ne off, 3)) (ht : (pc : Int) + off = (tgt : Int)) (kt : P → lc_V l own cc nL ret ini R G E k z n tgt lv stk σ) (kf : ¬ P → lc_V l own cc nL ret ini R G E k z n (pc + 3) lv stk σ) : lc_V l own cc nL ret ini R G E k z n pc lv (.int (lc_i (if P then 1 else 0)) :: stk) σ := by
  refine lc_if_ne hd ht ?_ (fun h => kt ?_) (fun h => kf ?_)
  · by_cases h : P
    · rw [if_pos h]; omega
    · rw [if_neg h]; omega
  · by_cases q : P
    · exact q
    · rw [if_neg q] at h
      exact absurd rfl h
  · intro q
    rw [if_pos q] at h
    exact absurd h (by decide)

theorem lc_swC {dflt lo hi : Int} {offs : Array Int} {len : Nat} {a v : Int} {off : Int} {tgt : Nat} (hd : decode cc pc = .ok (.tableswitch dflt lo hi offs, len)) (ha : a = v) (h1 : lo ≤ v ∧ v ≤ hi ∧ -2147483648 ≤ v ∧ v < 2147483648) (ho : offs[(v - lo).toNat]? = some off) (ht : (pc : Int) + off = (tgt : Int)) (kk : lc_V l own cc nL ret ini R G E k z n tgt lv stk σ) : lc_V l own cc nL ret ini R G E k z n pc lv (.int (lc_i a) :: stk) σ := by
  subst ha
  have e : (lc_i a).toInt = a := lc_i_toInt h1.2.2.1 h1.2.2.2
  exact lc_swIn hd (by rw [e]; omega) (by rw [e]; omega) (by rw [e]; exact ho) ht kk

theorem lc_swD {dflt lo hi : Int} {offs : Array Int} {len : Nat} {a : Int} {tgt : Nat} (hd : decode cc pc = .ok (.tableswitch dflt lo hi offs, len)) (hr : -2147483648 ≤ a ∧ a < 2147483648) (h : a < lo ∨ hi < a) (ht : (pc : Int) + dflt = (tgt : Int)) (kk : lc_V l own cc nL ret ini R G E k z n tgt lv stk σ) : lc_V l own cc nL ret ini R G E k z n pc lv (.int (lc_i a) :: stk) σ := by
  have e : (lc_i a).toInt = a := lc_i_toInt hr.1 hr.2
  exact lc_swOut hd (by rw [e]; exact h) ht kk

end LcRows2
