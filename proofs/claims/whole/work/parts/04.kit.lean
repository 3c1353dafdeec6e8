/-! The machine's rows over a store of numbered cells: an int is lc_i of an Int, a reference is a cell's number, 0 is the script. -/
def lc_i (z : Int) : Int32 := Int32.ofInt z
theorem lc_i_add (a b : Int) : lc_i (a + b) = lc_i a + lc_i b := Int32.ofInt_add a b
theorem lc_i_sub (a b : Int) : lc_i (a - b) = lc_i a - lc_i b := Int32.ofInt_sub a b
theorem lc_i_mul (a b : Int) : lc_i (a * b) = lc_i a * lc_i b := Int32.ofInt_mul a b
theorem lc_i_neg (a : Int) : lc_i (-a) = -lc_i a := Int32.ofInt_neg a
theorem lc_i_of (x : Int32) : lc_i x.toInt = x := Int32.ofInt_toInt x
theorem lc_i_toInt {a : Int} (h1 : -2147483648 ≤ a) (h2 : a < 2147483648) : (lc_i a).toInt = a := Int32.toInt_ofInt_of_le (by omega) (by omega)
theorem lc_i_lt {a b : Int} (h : -2147483648 ≤ a ∧ a < 2147483648 ∧ -2147483648 ≤ b ∧ b < 2147483648) : lc_i a < lc_i b ↔ a < b := by
  rw [Int32.lt_iff_toInt_lt, lc_i_toInt h.1 h.2.1, lc_i_toInt h.2.2.1 h.2.2.2]
theorem lc_i_le {a b : Int} (h : -2147483648 ≤ a ∧ a < 2147483648 ∧ -2147483648 ≤ b ∧ b < 2147483648) : lc_i a ≤ lc_i b ↔ a ≤ b := by
  rw [Int32.le_iff_toInt_le, lc_i_toInt h.1 h.2.1, lc_i_toInt h.2.2.1 h.2.2.2]
theorem lc_i_eq {a b : Int} (h : -2147483648 ≤ a ∧ a < 2147483648 ∧ -2147483648 ≤ b ∧ b < 2147483648) : lc_i a = lc_i b ↔ a = b := by
  rw [← Int32.toInt_inj, lc_i_toInt h.1 h.2.1, lc_i_toInt h.2.2.1 h.2.2.2]
theorem lc_i_0 : lc_i 0 = 0 := by decide
theorem lc_i_div {a b : Int} (h : 0 ≤ a ∧ a < 2147483648 ∧ 0 < b ∧ b < 2147483648) : lc_i a / lc_i b = lc_i (a / b) := by
  have h1 : lc_i (a.tdiv b) = lc_i a / lc_i b := Int32.ofInt_tdiv (by have : Int32.minValue.toInt = -2147483648 := by decide
                                                                      omega) (by have : Int32.maxValue.toInt = 2147483647 := by decide
                                                                                 omega) (by have : Int32.minValue.toInt = -2147483648 := by decide
                                                                                            omega) (by have : Int32.maxValue.toInt = 2147483647 := by decide
                                                                                                       omega)
  rw [← h1, Int.tdiv_eq_ediv_of_nonneg h.1]
theorem lc_i_rem {a b : Int} (h : 0 ≤ a ∧ a < 2147483648 ∧ 0 < b ∧ b < 2147483648) : lc_i a - lc_i a / lc_i b * lc_i b = lc_i (a % b) := by
  rw [lc_i_div h, ← lc_i_mul, ← lc_i_sub]
  congr 1
  have := Int.emod_add_mul_ediv a b
  have h2 : a / b * b = b * (a / b) := Int.mul_comm _ _
  omega
theorem lc_i_in {j : Int} {n : Nat} (h : 0 ≤ j ∧ j < n) (hn : n < 2147483648) : vp_in (lc_i j) n := vp_in_iff.mpr (by rw [lc_i_toInt (by omega) (by omega)]; exact h)
theorem lc_i_cl {j : Int} (h : 0 ≤ j ∧ j < 2147483648) : (lc_i j).toNatClampNeg = j.toNat := by
  show (lc_i j).toInt.toNat = _
  rw [lc_i_toInt (by omega) h.2]
theorem lc_i_nat (n : Nat) : lc_i (n : Int) = Int32.ofNat n := Int32.ofInt_eq_ofNat
/-- a cell: an array (its kind, its length, its contents) or an object (its class, its fields) -/
abbrev lc_Cel : Type := (Nat × vp_A) ⊕ (Nat × List Value)
abbrev lc_S : Type := Nat → Option lc_Cel
def lc_up (σ : lc_S) (b : Nat) (c : lc_Cel) : lc_S := fun i => if i = b then some c else σ i
theorem lc_up_s (σ : lc_S) (b : Nat) (c : lc_Cel) : lc_up σ b c b = some c := if_pos rfl
theorem lc_up_n (σ : lc_S) {b i : Nat} (c : lc_Cel) (h : i ≠ b) : lc_up σ b c i = σ i := if_neg h
theorem lc_up_up (σ : lc_S) (b : Nat) (c d : lc_Cel) : lc_up (lc_up σ b c) b d = lc_up σ b d := by
  funext i
  unfold lc_up
  by_cases h : i = b <;> simp [h]
theorem lc_up_comm (σ : lc_S) {a b : Nat} (c d : lc_Cel) (h : a ≠ b) : lc_up (lc_up σ a c) b d = lc_up (lc_up σ b d) a c := by
  funext i
  unfold lc_up
  by_cases h1 : i = a
  · subst h1
    simp [h]
  · simp [h1]
theorem lc_up_id (σ : lc_S) {b : Nat} {c : lc_Cel} (h : σ b = some c) : lc_up σ b c = σ := by
  funext i
  unfold lc_up
  by_cases h1 : i = b
  · subst h1
    simp [h]
  · simp [h1]
/-- arrays of ints, longs, chars, states -/
def lc_aI (n : Nat) (f : Int → Int) : lc_Cel := .inl (0, (n, .inl (fun j => lc_i (f j))))
def lc_aJ (n : Nat) (f : Int → Int64) : lc_Cel := .inl (1, (n, .inr (.inl (fun j => f j))))
def lc_aC (n : Nat) (f : Int → Int) : lc_Cel := .inl (2, (n, .inl (fun j => lc_i (f j))))
def lc_aS (n : Nat) (f : Int → Option Nat) : lc_Cel := .inl (3, (n, .inr (.inr (.inr (.inr (fun j => f j))))))
def lc_u {α : Type} (f : Int → α) (j : Int) (x : α) : Int → α := fun i => if i = j then x else f i
theorem lc_u_s {α : Type} (f : Int → α) (j : Int) (x : α) : lc_u f j x j = x := if_pos rfl
theorem lc_u_n {α : Type} (f : Int → α) {i j : Int} (x : α) (h : i ≠ j) : lc_u f j x i = f i := if_neg h
/-- addresses -/
def lc_a (b b0 i : Nat) : Nat := if i = 0 then b else b0 + i
theorem lc_a_p {b b0 i : Nat} (h : 0 < i) : lc_a b b0 i = b0 + i := if_neg (Nat.ne_of_gt h)
def lc_v (b b0 : Nat) (v : Value) : Value := match v with
  | .ref i => .ref (lc_a b b0 i)
  | w => w
theorem lc_v_cat (b b0 : Nat) (v : Value) : (lc_v b b0 v).category = v.category := by cases v <;> rfl
def lc_L (b b0 : Nat) (lv : List (Nat × Value)) : List (Nat × Value) := lv.map (fun q => (q.1, lc_v b b0 q.2))
def lc_A (b b0 : Nat) (a : vp_A) : vp_A := match a with
  | (n, .inr (.inr (.inr (.inr f)))) => (n, .inr (.inr (.inr (.inr (fun j => (f j).map (lc_a b b0))))))
  | x => x
def lc_cE (b b0 : Nat) (ar : Nat → ClassId) (c : lc_Cel) : va_E := match c with
  | .inl (k, a) => .inl (ar k, lc_A b b0 a)
  | .inr (ci, vs) => .inr (ci, vs.map (lc_v b b0))
def lc_ty (ar : Nat → ClassId) : List (ClassId × FieldType) := [(ar 0, .int), (ar 1, .long), (ar 2, .char), (ar 3, .object "LoopCaptures$State")]
def lc_H (b b0 n : Nat) (D : va_G) (ar : Nat → ClassId) (σ : lc_S) (H : Heap) : Prop := H.size = b0 + n ∧ ∀ (i : Nat) (c : lc_Cel), σ i = some c → 0 < i ∧ va_at D vwCl (b0 + i, lc_cE b b0 ar c) H
theorem lc_H_one {b b0 n : Nat} {D : va_G} {ar : Nat → ClassId} {σ : lc_S} {H : Heap} (h : lc_H b b0 n D ar σ H) {i : Nat} {c : lc_Cel} (hi : σ i = some c) : va_P D vwCl [(b0 + i, lc_cE b b0 ar c)] H := by
  intro k q hk
  have hz : k < 1 := (List.getElem?_eq_some_iff.mp hk).1
  rw [show k = 0 by omega] at hk
  cases hk
  exact (h.2 i c hi).2
theorem lc_H_put {b b0 n : Nat} {D : va_G} {ar : Nat → ClassId} {σ : lc_S} {H H1 : Heap} (h : lc_H b b0 n D ar σ H) {j : Nat} (c : lc_Cel) (hj : 0 < j) (hn : va_at D vwCl (b0 + j, lc_cE b b0 ar c) H1) (z : H1.size = H.size) (oq : ∀ q : Nat, q ≠ b0 + j → H1[q]? = H[q]?) : lc_H b b0 n D ar (lc_up σ j c) H1 := by
  refine ⟨z.trans h.1, fun i x hi => ?_⟩
  unfold lc_up at hi
  by_cases hij : i = j
  · subst hij
    rw [if_pos rfl] at hi
    cases hi
    exact ⟨hj, hn⟩
  · rw [if_neg hij] at hi
    exact ⟨(h.2 i x hi).1, (h.2 i x hi).2.kept (oq (b0 + i) (by omega))⟩
theorem lc_H_new {b b0 n : Nat} {D : va_G} {ar : Nat → ClassId} {σ : lc_S} {H H1 : Heap} (h : lc_H b b0 n D ar σ H) (c : lc_Cel) (hz : 0 < n) (hn : va_at D vwCl (b0 + n, lc_cE b b0 ar c) H1) (z : H1.size = H.size + 1) (oq : ∀ q : Nat, q < H.size → H1[q]? = H[q]?) : lc_H b b0 (n + 1) D ar (lc_up σ n c) H1 := by
  refine ⟨by rw [z, h.1]; rfl, fun i x hi => ?_⟩
  unfold lc_up at hi
  by_cases hij : i = n
  · subst hij
    rw [if_pos rfl] at hi
    cases hi
    exact ⟨hz, hn⟩
  · rw [if_neg hij] at hi
    exact ⟨(h.2 i x hi).1, (h.2 i x hi).2.kept (oq (b0 + i) (h.2 i x hi).2.lt)⟩
/-- contents may be replaced by others that agree within the length -/
theorem lc_arr_ext (cA : ClassId) (n : Nat) (f g : Nat → Value) (h : ∀ j : Nat, j < n → f j = g j) : arrV cA n f = arrV cA n g := by
  have e : (Array.ofFn (n := n) fun j => f j.val) = (Array.ofFn (n := n) fun j => g j.val) := congrArg Array.ofFn (funext fun j => h j.val j.isLt)
  show ({ cls := cA, slots := Array.ofFn (n := n) fun j => f j.val, vm := .none } : Cell) = { cls := cA, slots := Array.ofFn (n := n) fun j => g j.val, vm := .none }
  rw [e]
abbrev lc_QT : Type := Option Value → Nat → lc_S → Prop
abbrev lc_GT : Type := Nat → Nat → va_G → (Nat → ClassId) → List Frame → Array Value → State → State → Prop
abbrev lc_ET : Type := Nat → Nat → Array Value → State → Prop
def lc_E0 : lc_ET := fun _ _ _ _ => True
/-- what stays true of the machine's tables for the whole run, beside the words -/
def lc_X (U : State) : Prop := va_Nw (.methodLinkNest RX10 36 yX4_init RX10) U ∧ va_Nw (.methodLinkNest RX3 20 yX4_init RX10) U ∧ va_Nw (.methodLinkNest RX10 72 yX5_init RX10) U ∧ va_AO "LoopCaptures$State" U
theorem lc_X_warm {s U : State} (hW : s.WarmedH U.vm) (h : lc_X s) : lc_X U := ⟨va_Nw.warmM hW h.1, va_Nw.warmM hW h.2.1, va_Nw.warmM hW h.2.2.1, va_AO.moved hW.alike h.2.2.2⟩
theorem lc_X_same {u U : State} (e : u.vm = U.vm) (h : lc_X u) : lc_X U := ⟨va_Nw.same rfl e h.1, va_Nw.same rfl e h.2.1, va_Nw.same rfl e h.2.2.1, va_AO.moved (by rw [e]; exact Vm.Alike.refl U.vm) h.2.2.2⟩
def lc_C (E : lc_ET) (b b0 : Nat) (D : va_G) (ar : Nat → ClassId) (own : String) (cc : ByteArray) (nL : Nat) (ret : Option FieldType) (ini : Bool) (p : Program) (s : State) (m : MethodId) (args : Array Value) (meth : Method) (c : Code) : Prop :=
  p.tables.exec = Jvm.exec ∧ c.code = cc ∧ meth.sig.returnType = ret ∧ c.maxLocals = nL ∧ s.vm.findClass own = some m.cls ∧ (∀ w ∈ lc_WS, w.before args s = true) ∧ va_K D vwCl (lc_ty ar) s ∧ meth.locks = false ∧ b0 < s.heap.size ∧ (ini = true → meth.name = "<init>") ∧ lc_X s ∧ E b b0 args s
def lc_V (l : Launch) (own : String) (cc : ByteArray) (nL : Nat) (ret : Option FieldType) (ini : Bool) (R : Room) (G : lc_GT) (E : lc_ET) (k z n pc : Nat) (lv : List (Nat × Value)) (stk : List Value) (σ : lc_S) : Prop :=
  ∀ (b b0 : Nat) (D : va_G) (ar : Nat → ClassId) (p : Program) (e : Env) (s : State) (m : MethodId) (args : Array Value) (below : List Frame) (meth : Method) (c : Code) (H : Heap) (locs : List Loc) (ls : Array Slot),
    lc_C E b b0 D ar own cc nL ret ini p s m args meth c → lc_H b b0 n D ar σ H → va_S (fun q => b0 < q) s.heap H locs → lv_has ls nL (lc_L b b0 lv) →
    W p l e R s m args below meth c H locs k z (G b b0 D ar below args s) (F0 m pc ls (stk.map (lc_v b b0)))
def lc_Q (b b0 : Nat) (D : va_G) (ar : Nat → ClassId) (Q : lc_QT) : Array Value → State → Outcome → State → Prop := fun _ st o t =>
  (∃ (v : Option Value) (n : Nat) (σ : lc_S), o = .returned (v.map (lc_v b b0)) ∧ Q v n σ ∧ lc_H b b0 n D ar σ t.heap) ∧ va_F (fun q => b0 < q) st t
def lc_G (Q : lc_QT) (mc ms : Nat) : lc_GT := fun b b0 D ar below args s => MQ below (lc_Q b b0 D ar Q) args s mc ms (fun q => b0 < q)
def lc_Pre (b b0 n : Nat) (D : va_G) (ar : Nat → ClassId) (σ : lc_S) (U : State) : Prop := b0 < U.heap.size ∧ lc_H b b0 n D ar σ U.heap ∧ va_K D vwCl (lc_ty ar) U ∧ lc_X U
/-- a method's contract -/
def lc_Con (l : Launch) (y : MethodName) (cc : ByteArray) (nL : Nat) (ret : Option FieldType) (R : Room) (av : List Value) (n : Nat) (σ : lc_S) (Q : lc_QT) : Prop :=
  ∀ (b b0 : Nat) (D : va_G) (ar : Nat → ClassId), Met l y (.code y cc nL ret :: lc_WS) R (va_Pc (av.map (lc_v b b0)) (lc_Pre b b0 n D ar σ)) (lc_Q b b0 D ar Q) R.cells R.slots (fun q => b0 < q)
theorem lc_sl_len (b b0 : Nat) (vs : List Value) : (lg_sl (vs.map (lc_v b b0))).length = (lg_sl vs).length := by
  induction vs with
  | nil => rfl
  | cons v t ih => cases v <;> simp_all [lg_sl, lc_v, Value.category]
theorem lc_args (b b0 : Nat) (vs : List Value) : ∀ k : Nat, lv_args k (vs.map (lc_v b b0)) = lc_L b b0 (lv_args k vs) := by
  induction vs with
  | nil => intro k; rfl
  | cons v t ih => intro k; cases v <;> simp_all [lv_args, lc_v, lc_L, Value.category]
theorem lc_con {l : Launch} {y : MethodName} {cc : ByteArray} {nL : Nat} {ret : Option FieldType} {R : Room} {av : List Value} {n : Nat} {σ : lc_S} {Q : lc_QT} (own : String) (ini : Bool) (hy : plainName y.cls = true) (ho : y.cls = own) (hi : ini = true → y.name = "<init>") (hlen : (lg_sl av).length ≤ nL)
    (hV : lc_V l own cc nL ret ini R (lc_G Q R.cells R.slots) lc_E0 0 0 n 0 (lv_args 0 av) [] σ) : lc_Con l y cc nL ret R av n σ Q := by
  intro b b0 D ar
  refine Met.ofW (cc := cc) (maxL := nL) (ret := ret) hy rfl ?_
  intro p e s m args below meth c s₁ B hml hv
  obtain ⟨rfl, hb0, hH, hK, hX⟩ := hv
  have hts := atoms_spec (ws := .code y cc nL ret :: lc_WS) B.pre
  have hown : s.vm.findClass own = some m.cls := ho ▸ findClass_of_methodNamed B.named
  have hl := lv_entry (av.map (lc_v b b0)) (n := nL) (by rw [lc_sl_len]; exact hlen)
  rw [lg_entry_eq]
  rw [lc_args] at hl
  exact hV b b0 D ar p e s m _ below meth c s.heap [] _ ⟨B.exec, B.bytes, B.returns, hml, hown, fun w hw => hts w (List.mem_cons_of_mem _ hw), hK, B.notSynchronized, hb0, fun h => by rw [(name_of_methodNamed B.named B.method).1]; exact hi h, hX, trivial⟩ hH va_S.rf hl
theorem lc_L_get {b b0 : Nat} {lv : List (Nat × Value)} {q i : Nat} {v : Value} (h : lv[q]? = some (i, v)) : (lc_L b b0 lv)[q]? = some (i, lc_v b b0 v) := by
  unfold lc_L
  rw [List.getElem?_map, h]
  rfl
theorem lc_L_mono {b b0 : Nat} {l l' : List (Nat × Value)} (h : ∀ q ∈ l', q ∈ l) : ∀ q ∈ lc_L b b0 l', q ∈ lc_L b b0 l := by
  intro q hq
  obtain ⟨x, hx, rfl⟩ := List.mem_map.mp hq
  exact List.mem_map.mpr ⟨x, h x hx, rfl⟩
/-- locals: one is set, the list stays in order -/
def lc_ins (i : Nat) (v : Value) : List (Nat × Value) → List (Nat × Value)
  | [] => [(i, v)]
  | q :: r => bif Nat.blt i q.1 then (i, v) :: q :: r else q :: lc_ins i v r
theorem lc_ins_mem {i : Nat} {v : Value} : ∀ {l : List (Nat × Value)} {q : Nat × Value}, q ∈ lc_ins i v l → q = (i, v) ∨ q ∈ l
  | [], q, h => Or.inl (List.mem_singleton.mp h)
  | x :: r, q, h => by
    unfold lc_ins at h
    cases hb : Nat.blt i x.1 with
    | true =>
      rw [hb] at h
      rcases List.mem_cons.mp h with e | e
      · exact Or.inl e
      · exact Or.inr e
    | false =>
      rw [hb] at h
      rcases List.mem_cons.mp h with e | e
      · exact Or.inr (e ▸ List.mem_cons_self)
      · rcases lc_ins_mem e with e1 | e1
        · exact Or.inl e1
        · exact Or.inr (List.mem_cons_of_mem _ e1)
def lc_set (i : Nat) (v : Value) (lv : List (Nat × Value)) : List (Nat × Value) := lc_ins i v (lv.filter (fun q => !(q.1 == i) && !(q.1 + 1 == i && q.2.category == 2)))
def lc_setL (i : Nat) (v : Value) (lv : List (Nat × Value)) : List (Nat × Value) := lc_ins i v (lv.filter (fun q => !(q.1 == i) && (!(q.1 == i + 1) && !(q.1 + 1 == i && q.2.category == 2))))
theorem lc_has_sub {ls : Array Slot} {nL : Nat} {l l' : List (Nat × Value)} (h : lv_has ls nL l) (hl : ∀ q ∈ l', q ∈ l) : lv_has ls nL l' := ⟨h.1, h.2.1, fun q hq => h.2.2 q (hl q hq)⟩
theorem lc_set_has {b b0 i nL : Nat} {lv : List (Nat × Value)} {ls : Array Slot} (v : Value) (h : lv_has ls nL ((i, lc_v b b0 v) :: (lc_L b b0 lv).filter (fun q => !(q.1 == i) && !(q.1 + 1 == i && q.2.category == 2)))) : lv_has ls nL (lc_L b b0 (lc_set i v lv)) := by
  refine lc_has_sub h fun q hq => ?_
  obtain ⟨x, hx, rfl⟩ := List.mem_map.mp hq
  rcases lc_ins_mem hx with e | e
  · rw [e]
    exact List.mem_cons_self
  · obtain ⟨e1, e2⟩ := List.mem_filter.mp e
    exact List.mem_cons_of_mem _ (List.mem_filter.mpr ⟨List.mem_map.mpr ⟨x, e1, rfl⟩, by rw [lc_v_cat]; exact e2⟩)
theorem lc_setL_has {b b0 i nL : Nat} {lv : List (Nat × Value)} {ls : Array Slot} (v : Value) (h : lv_has ls nL ((i, lc_v b b0 v) :: (lc_L b b0 lv).filter (fun q => !(q.1 == i) && (!(q.1 == i + 1) && !(q.1 + 1 == i && q.2.category == 2))))) : lv_has ls nL (lc_L b b0 (lc_setL i v lv)) := by
  refine lc_has_sub h fun q hq => ?_
  obtain ⟨x, hx, rfl⟩ := List.mem_map.mp hq
  rcases lc_ins_mem hx with e | e
  · rw [e]
    exact List.mem_cons_self
  · obtain ⟨e1, e2⟩ := List.mem_filter.mp e
    exact List.mem_cons_of_mem _ (List.mem_filter.mpr ⟨List.mem_map.mpr ⟨x, e1, rfl⟩, by rw [lc_v_cat]; exact e2⟩)
theorem lc_i_nz {y : Int} (h : 0 < y ∧ y < 2147483648) : ¬ lc_i y = 0 := by
  intro e
  rw [← lc_i_0] at e
  have := (lc_i_eq (by omega)).mp e
  omega
theorem lc_sw {x y : Int} (h : -2147483648 ≤ x ∧ x < 2147483648 ∧ -2147483648 ≤ y ∧ y < 2147483648) : -2147483648 ≤ y ∧ y < 2147483648 ∧ -2147483648 ≤ x ∧ x < 2147483648 := by omega
theorem lc_r0 {x : Int} (h : -2147483648 ≤ x ∧ x < 2147483648) : -2147483648 ≤ x ∧ x < 2147483648 ∧ -2147483648 ≤ (0 : Int) ∧ (0 : Int) < 2147483648 := by omega
theorem lc_rf {b b0 : Nat} (o : Option Nat) : va_rf (o.map (lc_a b b0)) = lc_v b b0 (va_rf o) := by cases o <;> rfl
def lc_noref (v : Value) : Bool := match v with
  | .ref _ => false
  | _ => true
theorem lc_fs {b b0 : Nat} {fs : List Value} (h : fs.all lc_noref = true) : fs.map (lc_v b b0) = fs := by
  induction fs with
  | nil => rfl
  | cons v t ih =>
    rw [List.all_cons, Bool.and_eq_true] at h
    rw [List.map_cons, ih h.2]
    congr 1
    cases v <;> first | rfl | (exact absurd h.1 Bool.noConfusion)
theorem lc_cats {b b0 : Nat} (stk : List Value) : ((stk.map (lc_v b b0)).map fun v => v.category).sum = (stk.map fun v => v.category).sum := by
  congr 1
  rw [List.map_map]
  exact List.map_congr_left fun v _ => lc_v_cat b b0 v
theorem lc_goodA {own : String} {idx : Nat} {y : MethodName} {ws : List Cond} (h : ∀ w ∈ ws, w ∈ lc_WS) : GoodIn lc_WS ws := fun w hw => ⟨h w hw, good_of_word (lc_WS_good w (h w hw))⟩
theorem lc_goodV {own : String} {idx na nL : Nat} {y : MethodName} {cc : ByteArray} {ret : Option FieldType} (hm : Cond.methodLink own idx y ∈ lc_WS) (hY : lc_YV y cc nL ret na) : GoodIn lc_WS (wsV own idx y.cls y (.code y cc nL ret :: lc_WS)) := by
  refine lc_goodA (own := own) (idx := idx) (y := y) fun w hw => ?_
  rcases List.mem_append.mp hw with h | h
  · rcases List.mem_cons.mp h with e | h
    · exact e ▸ hm
    · rcases List.mem_cons.mp h with e | h
      · exact e ▸ hY.1
      · rcases List.mem_cons.mp h with e | h
        · exact e ▸ hY.2.1
        · rw [List.mem_singleton.mp h]
          exact hY.2.2.1
  · rcases List.mem_cons.mp h with e | h
    · exact e ▸ hY.2.2.2.1
    · exact h
theorem lc_goodS {own : String} {idx na nL : Nat} {y : MethodName} {cc : ByteArray} {ret : Option FieldType} (hm : Cond.methodLink own idx y ∈ lc_WS) (hY : lc_YS y cc nL ret na) : GoodIn lc_WS (va_wsS own idx y (.code y cc nL ret :: lc_WS)) := by
  refine lc_goodA (own := own) (idx := idx) (y := y) fun w hw => ?_
  rcases List.mem_append.mp hw with h | h
  · rcases List.mem_cons.mp h with e | h
    · exact e ▸ hm
    · rcases List.mem_cons.mp h with e | h
      · exact e ▸ hY.1
      · rw [List.mem_singleton.mp h]
        exact hY.2.1
  · rcases List.mem_cons.mp h with e | h
    · exact e ▸ hY.2.2.1
    · exact h
theorem lc_goodI {na nL : Nat} {y : MethodName} {cc : ByteArray} (hY : lc_YI y cc nL na) : GoodIn lc_WS (.code y cc nL none :: lc_WS) := by
  refine lc_goodA (own := "") (idx := 0) (y := y) fun w hw => ?_
  rcases List.mem_cons.mp hw with e | h
  · exact e ▸ hY.2.2.2.1
  · exact h

section LcRows
variable {l : Launch} {own : String} {cc : ByteArray} {nL : Nat} {ret : Option FieldType} {ini : Bool} {R : Room} {G : lc_GT} {E : lc_ET} {k z n pc : Nat} {lv : List (Nat × Value)} {stk : List Value} {σ : lc_S}

theorem lc_iconst {v : Int} (hd : decode cc pc = .ok (.iconst v, 1)) (kk : lc_V l own cc nL ret ini R G E k z n (pc + 1) lv (.int (lc_i v) :: stk) σ) : lc_V l own cc nL ret ini R G E k z n pc lv stk σ := by
  intro b1 b0 D ar p e s m args below meth c H locs ls hC hH hS hl
  show W p l e R s m args below meth c H locs k z (G b1 b0 D ar below args s) (F0 m pc ls (stk.map (lc_v b1 b0)))
  refine lv_iconst (v := lc_i v) hC.1 hC.2.1 hd rfl ?_
  exact kk b1 b0 D ar p e s m args below meth c H locs ls hC hH hS hl

theorem lc_bipush {v : Int} (hd : decode cc pc = .ok (.bipush v, 2)) (hv : (Int8.ofInt v).toInt32 = lc_i v) (kk : lc_V l own cc nL ret ini R G E k z n (pc + 2) lv (.int (lc_i v) :: stk) σ) : lc_V l own cc nL ret ini R G E k z n pc lv stk σ := by
  intro b1 b0 D ar p e s m args below meth c H locs ls hC hH hS hl
  show W p l e R s m args below meth c H locs k z (G b1 b0 D ar below args s) (F0 m pc ls (stk.map (lc_v b1 b0)))
  refine lv_bipush (v := lc_i v) hC.1 hC.2.1 hd hv ?_
  exact kk b1 b0 D ar p e s m args below meth c H locs ls hC hH hS hl

theorem lc_sipush {v : Int} (hd : decode cc pc = .ok (.sipush v, 3)) (hv : (Int16.ofInt v).toInt32 = lc_i v) (kk : lc_V l own cc nL ret ini R G E k z n (pc + 3) lv (.int (lc_i v) :: stk) σ) : lc_V l own cc nL ret ini R G E k z n pc lv stk σ := by
  intro b1 b0 D ar p e s m args below meth c H locs ls hC hH hS hl
  show W p l e R s m args below meth c H locs k z (G b1 b0 D ar below args s) (F0 m pc ls (stk.map (lc_v b1 b0)))
  refine lv_sipush (v := lc_i v) hC.1 hC.2.1 hd hv ?_
  exact kk b1 b0 D ar p e s m args below meth c H locs ls hC hH hS hl

theorem lc_lconst {v : Fin 2} {x : Int64} (hd : decode cc pc = .ok (.lconst v, 1)) (hv : Int64.ofNat (v : Nat) = x) (kk : lc_V l own cc nL ret ini R G E k z n (pc + 1) lv (.long x :: stk) σ) : lc_V l own cc nL ret ini R G E k z n pc lv stk σ := by
  intro b1 b0 D ar p e s m args below meth c H locs ls hC hH hS hl
  show W p l e R s m args below meth c H locs k z (G b1 b0 D ar below args s) (F0 m pc ls (stk.map (lc_v b1 b0)))
  refine lv_lconst (v := x) hC.1 hC.2.1 hd hv ?_
  exact kk b1 b0 D ar p e s m args below meth c H locs ls hC hH hS hl

theorem lc_ldc2 {i : Nat} {x : Int64} (hd : decode cc pc = .ok (.ldc2_w i, 3)) (hw : Cond.constantLong own i x ∈ lc_WS) (kk : lc_V l own cc nL ret ini R G E k z n (pc + 3) lv (.long x :: stk) σ) : lc_V l own cc nL ret ini R G E k z n pc lv stk σ := by
  intro b1 b0 D ar p e s m args below meth c H locs ls hC hH hS hl
  show W p l e R s m args below meth c H locs k z (G b1 b0 D ar below args s) (F0 m pc ls (stk.map (lc_v b1 b0)))
  refine lv_ldc2 (v := x) hC.1 hC.2.1 hC.2.2.2.2.1 (hC.2.2.2.2.2.1 _ hw) hd ?_
  exact kk b1 b0 D ar p e s m args below meth c H locs ls hC hH hS hl

theorem lc_iload_n {j : Fin 4} {i : Nat} {x : Int32} (hd : decode cc pc = .ok (.iload_n j, 1)) (hi : (j : Nat) = i) (q : Nat) (hv : lv[q]? = some (i, .int x)) (kk : lc_V l own cc nL ret ini R G E k z n (pc + 1) lv (.int x :: stk) σ) : lc_V l own cc nL ret ini R G E k z n pc lv stk σ := by
  intro b1 b0 D ar p e s m args below meth c H locs ls hC hH hS hl
  show W p l e R s m args below meth c H locs k z (G b1 b0 D ar below args s) (F0 m pc ls (stk.map (lc_v b1 b0)))
  refine lv_iload_n (x := x) hC.1 hC.2.1 hd hi (lv_at hl q (lc_L_get hv)) ?_
  exact kk b1 b0 D ar p e s m args below meth c H locs ls hC hH hS hl

theorem lc_iload {i : Nat} {x : Int32} (hd : decode cc pc = .ok (.iload i, 2)) (q : Nat) (hv : lv[q]? = some (i, .int x)) (kk : lc_V l own cc nL ret ini R G E k z n (pc + 2) lv (.int x :: stk) σ) : lc_V l own cc nL ret ini R G E k z n pc lv stk σ := by
  intro b1 b0 D ar p e s m args below meth c H locs ls hC hH hS hl
  show W p l e R s m args below meth c H locs k z (G b1 b0 D ar below args s) (F0 m pc ls (stk.map (lc_v b1 b0)))
  refine lv_iload (x := x) hC.1 hC.2.1 hd (lv_at hl q (lc_L_get hv)) ?_
  exact kk b1 b0 D ar p e s m args below meth c H locs ls hC hH hS hl

theorem lc_aload_n {j : Fin 4} {i : Nat} {x : Nat} (hd : decode cc pc = .ok (.aload_n j, 1)) (hi : (j : Nat) = i) (q : Nat) (hv : lv[q]? = some (i, .ref x)) (kk : lc_V l own cc nL ret ini R G E k z n (pc + 1) lv (.ref x :: stk) σ) : lc_V l own cc nL ret ini R G E k z n pc lv stk σ := by
  intro b1 b0 D ar p e s m args below meth c H locs ls hC hH hS hl
  show W p l e R s m args below meth c H locs k z (G b1 b0 D ar below args s) (F0 m pc ls (stk.map (lc_v b1 b0)))
  refine lv_aload_n (x := lc_a b1 b0 x) hC.1 hC.2.1 hd hi (lv_at hl q (lc_L_get hv)) ?_
  exact kk b1 b0 D ar p e s m args below meth c H locs ls hC hH hS hl

theorem lc_aload {i : Nat} {x : Nat} (hd : decode cc pc = .ok (.aload i, 2)) (q : Nat) (hv : lv[q]? = some (i, .ref x)) (kk : lc_V l own cc nL ret ini R G E k z n (pc + 2) lv (.ref x :: stk) σ) : lc_V l own cc nL ret ini R G E k z n pc lv stk σ := by
  intro b1 b0 D ar p e s m args below meth c H locs ls hC hH hS hl
  show W p l e R s m args below meth c H locs k z (G b1 b0 D ar below args s) (F0 m pc ls (stk.map (lc_v b1 b0)))
  refine lv_aload (x := lc_a b1 b0 x) hC.1 hC.2.1 hd (lv_at hl q (lc_L_get hv)) ?_
  exact kk b1 b0 D ar p e s m args below meth c H locs ls hC hH hS hl

theorem lc_lload_n {j : Fin 4} {i : Nat} {x : Int64} (hd : decode cc pc = .ok (.lload_n j, 1)) (hi : (j : Nat) = i) (q : Nat) (hv : lv[q]? = some (i, .long x)) (kk : lc_V l own cc nL ret ini R G E k z n (pc + 1) lv (.long x :: stk) σ) : lc_V l own cc nL ret ini R G E k z n pc lv stk σ := by
  intro b1 b0 D ar p e s m args below meth c H locs ls hC hH hS hl
  show W p l e R s m args below meth c H locs k z (G b1 b0 D ar below args s) (F0 m pc ls (stk.map (lc_v b1 b0)))
  refine lv_lload_n (x := x) hC.1 hC.2.1 hd hi (lv_at hl q (lc_L_get hv)) ?_
  exact kk b1 b0 D ar p e s m args below meth c H locs ls hC hH hS hl

theorem lc_lload {i : Nat} {x : Int64} (hd : decode cc pc = .ok (.lload i, 2)) (q : Nat) (hv : lv[q]? = some (i, .long x)) (kk : lc_V l own cc nL ret ini R G E k z n (pc + 2) lv (.long x :: stk) σ) : lc_V l own cc nL ret ini R G E k z n pc lv stk σ := by
  intro b1 b0 D ar p e s m args below meth c H locs ls hC hH hS hl
  show W p l e R s m args below meth c H locs k z (G b1 b0 D ar below args s) (F0 m pc ls (stk.map (lc_v b1 b0)))
  refine lv_lload (x := x) hC.1 hC.2.1 hd (lv_at hl q (lc_L_get hv)) ?_
  exact kk b1 b0 D ar p e s m args below meth c H locs ls hC hH hS hl

theorem lc_istore_n {j : Fin 4} {i : Nat} {x : Int32} {lv' : List (Nat × Value)} (hd : decode cc pc = .ok (.istore_n j, 1)) (hi : (j : Nat) = i) (hn : i < nL) (hv : lc_set i (.int x) lv = lv') (kk : lc_V l own cc nL ret ini R G E k z n (pc + 1) lv' stk σ) : lc_V l own cc nL ret ini R G E k z n pc lv (.int x :: stk) σ := by
  intro b1 b0 D ar p e s m args below meth c H locs ls hC hH hS hl
  show W p l e R s m args below meth c H locs k z (G b1 b0 D ar below args s) (F0 m pc ls (.int (x) :: stk.map (lc_v b1 b0)))
  refine lv_istore_n (x := x) hC.1 hC.2.1 hd hi hl hn rfl (fun ls1 h1 => ?_)
  exact kk b1 b0 D ar p e s m args below meth c H locs ls1 hC hH hS (hv ▸ lc_set_has (.int x) h1)

theorem lc_istore {i : Nat} {x : Int32} {lv' : List (Nat × Value)} (hd : decode cc pc = .ok (.istore i, 2)) (hn : i < nL) (hv : lc_set i (.int x) lv = lv') (kk : lc_V l own cc nL ret ini R G E k z n (pc + 2) lv' stk σ) : lc_V l own cc nL ret ini R G E k z n pc lv (.int x :: stk) σ := by
  intro b1 b0 D ar p e s m args below meth c H locs ls hC hH hS hl
  show W p l e R s m args below meth c H locs k z (G b1 b0 D ar below args s) (F0 m pc ls (.int (x) :: stk.map (lc_v b1 b0)))
  refine lv_istore (x := x) hC.1 hC.2.1 hd hl hn rfl (fun ls1 h1 => ?_)
  exact kk b1 b0 D ar p e s m args below meth c H locs ls1 hC hH hS (hv ▸ lc_set_has (.int x) h1)

theorem lc_astore_n {j : Fin 4} {i : Nat} {x : Nat} {lv' : List (Nat × Value)} (hd : decode cc pc = .ok (.astore_n j, 1)) (hi : (j : Nat) = i) (hn : i < nL) (hv : lc_set i (.ref x) lv = lv') (kk : lc_V l own cc nL ret ini R G E k z n (pc + 1) lv' stk σ) : lc_V l own cc nL ret ini R G E k z n pc lv (.ref x :: stk) σ := by
  intro b1 b0 D ar p e s m args below meth c H locs ls hC hH hS hl
  show W p l e R s m args below meth c H locs k z (G b1 b0 D ar below args s) (F0 m pc ls (.ref (lc_a b1 b0 x) :: stk.map (lc_v b1 b0)))
  refine lv_astore_n (x := lc_a b1 b0 x) hC.1 hC.2.1 hd hi hl hn rfl (fun ls1 h1 => ?_)
  exact kk b1 b0 D ar p e s m args below meth c H locs ls1 hC hH hS (hv ▸ lc_set_has (.ref x) h1)

theorem lc_astore {i : Nat} {x : Nat} {lv' : List (Nat × Value)} (hd : decode cc pc = .ok (.astore i, 2)) (hn : i < nL) (hv : lc_set i (.ref x) lv = lv') (kk : lc_V l own cc nL ret ini R G E k z n (pc + 2) lv' stk σ) : lc_V l own cc nL ret ini R G E k z n pc lv (.ref x :: stk) σ := by
  intro b1 b0 D ar p e s m args below meth c H locs ls hC hH hS hl
  show W p l e R s m args below meth c H locs k z (G b1 b0 D ar below args s) (F0 m pc ls (.ref (lc_a b1 b0 x) :: stk.map (lc_v b1 b0)))
  refine lv_astore (x := lc_a b1 b0 x) hC.1 hC.2.1 hd hl hn rfl (fun ls1 h1 => ?_)
  exact kk b1 b0 D ar p e s m args below meth c H locs ls1 hC hH hS (hv ▸ lc_set_has (.ref x) h1)

theorem lc_lstore_n {j : Fin 4} {i : Nat} {x : Int64} {lv' : List (Nat × Value)} (hd : decode cc pc = .ok (.lstore_n j, 1)) (hi : (j : Nat) = i) (hn : i + 1 < nL) (hv : lc_setL i (.long x) lv = lv') (kk : lc_V l own cc nL ret ini R G E k z n (pc + 1) lv' stk σ) : lc_V l own cc nL ret ini R G E k z n pc lv (.long x :: stk) σ := by
  intro b1 b0 D ar p e s m args below meth c H locs ls hC hH hS hl
  show W p l e R s m args below meth c H locs k z (G b1 b0 D ar below args s) (F0 m pc ls (.long (x) :: stk.map (lc_v b1 b0)))
  refine lv_lstore_n (x := x) hC.1 hC.2.1 hd hi hl hn rfl (fun ls1 h1 => ?_)
  exact kk b1 b0 D ar p e s m args below meth c H locs ls1 hC hH hS (hv ▸ lc_setL_has (.long x) h1)

theorem lc_lstore {i : Nat} {x : Int64} {lv' : List (Nat × Value)} (hd : decode cc pc = .ok (.lstore i, 2)) (hn : i + 1 < nL) (hv : lc_setL i (.long x) lv = lv') (kk : lc_V l own cc nL ret ini R G E k z n (pc + 2) lv' stk σ) : lc_V l own cc nL ret ini R G E k z n pc lv (.long x :: stk) σ := by
  intro b1 b0 D ar p e s m args below meth c H locs ls hC hH hS hl
  show W p l e R s m args below meth c H locs k z (G b1 b0 D ar below args s) (F0 m pc ls (.long (x) :: stk.map (lc_v b1 b0)))
  refine lv_lstore (x := x) hC.1 hC.2.1 hd hl hn rfl (fun ls1 h1 => ?_)
  exact kk b1 b0 D ar p e s m args below meth c H locs ls1 hC hH hS (hv ▸ lc_setL_has (.long x) h1)

theorem lc_iinc {i : Nat} {v x : Int} {lv' : List (Nat × Value)} (hd : decode cc pc = .ok (.iinc i v, 3)) (q : Nat) (hq : lv[q]? = some (i, .int (lc_i x))) (hn : i < nL) (hv : lc_set i (.int (lc_i (x + v))) lv = lv') (kk : lc_V l own cc nL ret ini R G E k z n (pc + 3) lv' stk σ) : lc_V l own cc nL ret ini R G E k z n pc lv stk σ := by
  intro b1 b0 D ar p e s m args below meth c H locs ls hC hH hS hl
  refine lv_iinc (v := lc_i (x + v)) hC.1 hC.2.1 hd hl (k := q) (lc_L_get hq) (by rw [lc_i_add]; rfl) hn rfl (fun ls1 h1 => ?_)
  exact kk b1 b0 D ar p e s m args below meth c H locs ls1 hC hH hS (hv ▸ lc_set_has (.int (lc_i (x + v))) h1)

theorem lc_iadd {x y : Int} (hd : decode cc pc = .ok (.iadd, 1)) (kk : lc_V l own cc nL ret ini R G E k z n (pc + 1) lv (.int (lc_i (x + y)) :: stk) σ) : lc_V l own cc nL ret ini R G E k z n pc lv (.int (lc_i y) :: .int (lc_i x) :: stk) σ := by
  intro b1 b0 D ar p e s m args below meth c H locs ls hC hH hS hl
  show W p l e R s m args below meth c H locs k z (G b1 b0 D ar below args s) (F0 m pc ls (.int (lc_i y) :: .int (lc_i x) :: stk.map (lc_v b1 b0)))
  refine lv_iadd hC.1 hC.2.1 hd ?_
  rw [← lc_i_add]
  exact kk b1 b0 D ar p e s m args below meth c H locs ls hC hH hS hl

theorem lc_isub {x y : Int} (hd : decode cc pc = .ok (.isub, 1)) (kk : lc_V l own cc nL ret ini R G E k z n (pc + 1) lv (.int (lc_i (x - y)) :: stk) σ) : lc_V l own cc nL ret ini R G E k z n pc lv (.int (lc_i y) :: .int (lc_i x) :: stk) σ := by
  intro b1 b0 D ar p e s m args below meth c H locs ls hC hH hS hl
  show W p l e R s m args below meth c H locs k z (G b1 b0 D ar below args s) (F0 m pc ls (.int (lc_i y) :: .int (lc_i x) :: stk.map (lc_v b1 b0)))
  refine lv_isub hC.1 hC.2.1 hd ?_
  rw [← lc_i_sub]
  exact kk b1 b0 D ar p e s m args below meth c H locs ls hC hH hS hl

theorem lc_imul {x y : Int} (hd : decode cc pc = .ok (.imul, 1)) (kk : lc_V l own cc nL ret ini R G E k z n (pc + 1) lv (.int (lc_i (x * y)) :: stk) σ) : lc_V l own cc nL ret ini R G E k z n pc lv (.int (lc_i y) :: .int (lc_i x) :: stk) σ := by
  intro b1 b0 D ar p e s m args below meth c H locs ls hC hH hS hl
  show W p l e R s m args below meth c H locs k z (G b1 b0 D ar below args s) (F0 m pc ls (.int (lc_i y) :: .int (lc_i x) :: stk.map (lc_v b1 b0)))
  refine lv_imul hC.1 hC.2.1 hd ?_
  rw [← lc_i_mul]
  exact kk b1 b0 D ar p e s m args below meth c H locs ls hC hH hS hl

theorem lc_idiv {x y : Int} (hd : decode cc pc = .ok (.idiv, 1)) (h : 0 ≤ x ∧ x < 2147483648 ∧ 0 < y ∧ y < 2147483648) (kk : lc_V l own cc nL ret ini R G E k z n (pc + 1) lv (.int (lc_i (x / y)) :: stk) σ) : lc_V l own cc nL ret ini R G E k z n pc lv (.int (lc_i y) :: .int (lc_i x) :: stk) σ := by
  intro b1 b0 D ar p e s m args below meth c H locs ls hC hH hS hl
  show W p l e R s m args below meth c H locs k z (G b1 b0 D ar below args s) (F0 m pc ls (.int (lc_i y) :: .int (lc_i x) :: stk.map (lc_v b1 b0)))
  refine lv_idiv hC.1 hC.2.1 hd (lc_i_nz h.2.2) ?_
  rw [lc_i_div h]
  exact kk b1 b0 D ar p e s m args below meth c H locs ls hC hH hS hl

theorem lc_irem {x y : Int} (hd : decode cc pc = .ok (.irem, 1)) (h : 0 ≤ x ∧ x < 2147483648 ∧ 0 < y ∧ y < 2147483648) (kk : lc_V l own cc nL ret ini R G E k z n (pc + 1) lv (.int (lc_i (x % y)) :: stk) σ) : lc_V l own cc nL ret ini R G E k z n pc lv (.int (lc_i y) :: .int (lc_i x) :: stk) σ := by
  intro b1 b0 D ar p e s m args below meth c H locs ls hC hH hS hl
  show W p l e R s m args below meth c H locs k z (G b1 b0 D ar below args s) (F0 m pc ls (.int (lc_i y) :: .int (lc_i x) :: stk.map (lc_v b1 b0)))
  refine lv_irem hC.1 hC.2.1 hd (lc_i_nz h.2.2) ?_
  rw [lc_i_rem h]
  exact kk b1 b0 D ar p e s m args below meth c H locs ls hC hH hS hl

theorem lc_ineg {x : Int} (hd : decode cc pc = .ok (.ineg, 1)) (kk : lc_V l own cc nL ret ini R G E k z n (pc + 1) lv (.int (lc_i (-x)) :: stk) σ) : lc_V l own cc nL ret ini R G E k z n pc lv (.int (lc_i x) :: stk) σ := by
  intro b1 b0 D ar p e s m args below meth c H locs ls hC hH hS hl
  show W p l e R s m args below meth c H locs k z (G b1 b0 D ar below args s) (F0 m pc ls (.int (lc_i x) :: stk.map (lc_v b1 b0)))
  refine lv_ineg hC.1 hC.2.1 hd ?_
  rw [← lc_i_neg]
  exact kk b1 b0 D ar p e s m args below meth c H locs ls hC hH hS hl

theorem lc_iand {x y : Int32} (hd : decode cc pc = .ok (.iand, 1)) (kk : lc_V l own cc nL ret ini R G E k z n (pc + 1) lv (.int (x &&& y) :: stk) σ) : lc_V l own cc nL ret ini R G E k z n pc lv (.int y :: .int x :: stk) σ := by
  intro b1 b0 D ar p e s m args below meth c H locs ls hC hH hS hl
  show W p l e R s m args below meth c H locs k z (G b1 b0 D ar below args s) (F0 m pc ls (.int y :: .int x :: stk.map (lc_v b1 b0)))
  refine lv_iand hC.1 hC.2.1 hd ?_
  exact kk b1 b0 D ar p e s m args below meth c H locs ls hC hH hS hl

theorem lc_ladd {x y : Int64} (hd : decode cc pc = .ok (.ladd, 1)) (kk : lc_V l own cc nL ret ini R G E k z n (pc + 1) lv (.long (x + y) :: stk) σ) : lc_V l own cc nL ret ini R G E k z n pc lv (.long y :: .long x :: stk) σ := by
  intro b1 b0 D ar p e s m args below meth c H locs ls hC hH hS hl
  show W p l e R s m args below meth c H locs k z (G b1 b0 D ar below args s) (F0 m pc ls (.long y :: .long x :: stk.map (lc_v b1 b0)))
  refine lv_ladd hC.1 hC.2.1 hd ?_
  exact kk b1 b0 D ar p e s m args below meth c H locs ls hC hH hS hl

theorem lc_lsub {x y : Int64} (hd : decode cc pc = .ok (.lsub, 1)) (kk : lc_V l own cc nL ret ini R G E k z n (pc + 1) lv (.long (x - y) :: stk) σ) : lc_V l own cc nL ret ini R G E k z n pc lv (.long y :: .long x :: stk) σ := by
  intro b1 b0 D ar p e s m args below meth c H locs ls hC hH hS hl
  show W p l e R s m args below meth c H locs k z (G b1 b0 D ar below args s) (F0 m pc ls (.long y :: .long x :: stk.map (lc_v b1 b0)))
  refine lv_lsub hC.1 hC.2.1 hd ?_
  exact kk b1 b0 D ar p e s m args below meth c H locs ls hC hH hS hl

theorem lc_lmul {x y : Int64} (hd : decode cc pc = .ok (.lmul, 1)) (kk : lc_V l own cc nL ret ini R G E k z n (pc + 1) lv (.long (x * y) :: stk) σ) : lc_V l own cc nL ret ini R G E k z n pc lv (.long y :: .long x :: stk) σ := by
  intro b1 b0 D ar p e s m args below meth c H locs ls hC hH hS hl
  show W p l e R s m args below meth c H locs k z (G b1 b0 D ar below args s) (F0 m pc ls (.long y :: .long x :: stk.map (lc_v b1 b0)))
  refine lv_lmul hC.1 hC.2.1 hd ?_
  exact kk b1 b0 D ar p e s m args below meth c H locs ls hC hH hS hl

theorem lc_land {x y : Int64} (hd : decode cc pc = .ok (.land, 1)) (kk : lc_V l own cc nL ret ini R G E k z n (pc + 1) lv (.long (x &&& y) :: stk) σ) : lc_V l own cc nL ret ini R G E k z n pc lv (.long y :: .long x :: stk) σ := by
  intro b1 b0 D ar p e s m args below meth c H locs ls hC hH hS hl
  show W p l e R s m args below meth c H locs k z (G b1 b0 D ar below args s) (F0 m pc ls (.long y :: .long x :: stk.map (lc_v b1 b0)))
  refine lv_land hC.1 hC.2.1 hd ?_
  exact kk b1 b0 D ar p e s m args below meth c H locs ls hC hH hS hl

theorem lc_lor {x y : Int64} (hd : decode cc pc = .ok (.lor, 1)) (kk : lc_V l own cc nL ret ini R G E k z n (pc + 1) lv (.long (x ||| y) :: stk) σ) : lc_V l own cc nL ret ini R G E k z n pc lv (.long y :: .long x :: stk) σ := by
  intro b1 b0 D ar p e s m args below meth c H locs ls hC hH hS hl
  show W p l e R s m args below meth c H locs k z (G b1 b0 D ar below args s) (F0 m pc ls (.long y :: .long x :: stk.map (lc_v b1 b0)))
  refine lv_lor hC.1 hC.2.1 hd ?_
  exact kk b1 b0 D ar p e s m args below meth c H locs ls hC hH hS hl

theorem lc_lshl {x v : Int64} {y : Int32} (hd : decode cc pc = .ok (.lshl, 1)) (hv : x <<< (y.toInt64 &&& 63) = v) (kk : lc_V l own cc nL ret ini R G E k z n (pc + 1) lv (.long v :: stk) σ) : lc_V l own cc nL ret ini R G E k z n pc lv (.int y :: .long x :: stk) σ := by
  intro b1 b0 D ar p e s m args below meth c H locs ls hC hH hS hl
  show W p l e R s m args below meth c H locs k z (G b1 b0 D ar below args s) (F0 m pc ls (.int y :: .long x :: stk.map (lc_v b1 b0)))
  refine lv_lshl hC.1 hC.2.1 hd hv ?_
  exact kk b1 b0 D ar p e s m args below meth c H locs ls hC hH hS hl

theorem lc_lshr {x v : Int64} {y : Int32} (hd : decode cc pc = .ok (.lshr, 1)) (hv : x >>> (y.toInt64 &&& 63) = v) (kk : lc_V l own cc nL ret ini R G E k z n (pc + 1) lv (.long v :: stk) σ) : lc_V l own cc nL ret ini R G E k z n pc lv (.int y :: .long x :: stk) σ := by
  intro b1 b0 D ar p e s m args below meth c H locs ls hC hH hS hl
  show W p l e R s m args below meth c H locs k z (G b1 b0 D ar below args s) (F0 m pc ls (.int y :: .long x :: stk.map (lc_v b1 b0)))
  refine lv_lshr hC.1 hC.2.1 hd hv ?_
  exact kk b1 b0 D ar p e s m args below meth c H locs ls hC hH hS hl

theorem lc_i2l {x : Int32} {v : Int64} (hd : decode cc pc = .ok (.i2l, 1)) (hv : x.toInt64 = v) (kk : lc_V l own cc nL ret ini R G E k z n (pc + 1) lv (.long v :: stk) σ) : lc_V l own cc nL ret ini R G E k z n pc lv (.int x :: stk) σ := by
  intro b1 b0 D ar p e s m args below meth c H locs ls hC hH hS hl
  show W p l e R s m args below meth c H locs k z (G b1 b0 D ar below args s) (F0 m pc ls (.int x :: stk.map (lc_v b1 b0)))
  refine lv_i2l hC.1 hC.2.1 hd hv ?_
  exact kk b1 b0 D ar p e s m args below meth c H locs ls hC hH hS hl

theorem lc_l2i {x : Int64} {v : Int32} (hd : decode cc pc = .ok (.l2i, 1)) (hv : x.toInt32 = v) (kk : lc_V l own cc nL ret ini R G E k z n (pc + 1) lv (.int v :: stk) σ) : lc_V l own cc nL ret ini R G E k z n pc lv (.long x :: stk) σ := by
  intro b1 b0 D ar p e s m args below meth c H locs ls hC hH hS hl
  show W p l e R s m args below meth c H locs k z (G b1 b0 D ar below args s) (F0 m pc ls (.long x :: stk.map (lc_v b1 b0)))
  refine lv_l2i hC.1 hC.2.1 hd hv ?_
  exact kk b1 b0 D ar p e s m args below meth c H locs ls hC hH hS hl

theorem lc_i2c {x v : Int32} (hd : decode cc pc = .ok (.i2c, 1)) (hv : (x.toUInt32 % 65536).toInt32 = v) (kk : lc_V l own cc nL ret ini R G E k z n (pc + 1) lv (.int v :: stk) σ) : lc_V l own cc nL ret ini R G E k z n pc lv (.int x :: stk) σ := by
  intro b1 b0 D ar p e s m args below meth c H locs ls hC hH hS hl
  show W p l e R s m args below meth c H locs k z (G b1 b0 D ar below args s) (F0 m pc ls (.int x :: stk.map (lc_v b1 b0)))
  refine lv_i2c hC.1 hC.2.1 hd hv ?_
  exact kk b1 b0 D ar p e s m args below meth c H locs ls hC hH hS hl

theorem lc_lcmp {x y : Int64} (hd : decode cc pc = .ok (.lcmp, 1)) (kk : lc_V l own cc nL ret ini R G E k z n (pc + 1) lv (.int (lg_cmp x y) :: stk) σ) : lc_V l own cc nL ret ini R G E k z n pc lv (.long y :: .long x :: stk) σ := by
  intro b1 b0 D ar p e s m args below meth c H locs ls hC hH hS hl
  show W p l e R s m args below meth c H locs k z (G b1 b0 D ar below args s) (F0 m pc ls (.long y :: .long x :: stk.map (lc_v b1 b0)))
  refine W.lcmp hC.1 hC.2.1 hd ?_
  exact kk b1 b0 D ar p e s m args below meth c H locs ls hC hH hS hl

theorem lc_top {x y : Value} (e : x = y) (kk : lc_V l own cc nL ret ini R G E k z n pc lv (y :: stk) σ) : lc_V l own cc nL ret ini R G E k z n pc lv (x :: stk) σ := by
  rw [e]
  exact kk

theorem lc_locs {lv' : List (Nat × Value)} (h : ∀ q ∈ lv', q ∈ lv) (kk : lc_V l own cc nL ret ini R G E k z n pc lv' stk σ) : lc_V l own cc nL ret ini R G E k z n pc lv stk σ := by
  intro b1 b0 D ar p e s m args below meth c H locs ls hC hH hS hl
  exact kk b1 b0 D ar p e s m args below meth c H locs ls hC hH hS ⟨hl.1, hl.2.1, fun q hq => hl.2.2 q (lc_L_mono h q hq)⟩

theorem lc_pcs {pc' : Nat} (h : pc = pc') (kk : lc_V l own cc nL ret ini R G E k z n pc' lv stk σ) : lc_V l own cc nL ret ini R G E k z n pc lv stk σ := by
  rw [h]
  exact kk

theorem lc_dup {a : Value} (hd : decode cc pc = .ok (.dup, 1)) (ha : a.category = 1) (kk : lc_V l own cc nL ret ini R G E k z n (pc + 1) lv (a :: a :: stk) σ) : lc_V l own cc nL ret ini R G E k z n pc lv (a :: stk) σ := by
  intro b1 b0 D ar p e s m args below meth c H locs ls hC hH hS hl
  show W p l e R s m args below meth c H locs k z (G b1 b0 D ar below args s) (F0 m pc ls (lc_v b1 b0 a :: stk.map (lc_v b1 b0)))
  exact lv_dup hC.1 hC.2.1 hd ((lc_v_cat _ _ _).trans ha) (kk b1 b0 D ar p e s m args below meth c H locs ls hC hH hS hl)

theorem lc_pop {a : Value} (hd : decode cc pc = .ok (.pop, 1)) (ha : a.category = 1) (kk : lc_V l own cc nL ret ini R G E k z n (pc + 1) lv stk σ) : lc_V l own cc nL ret ini R G E k z n pc lv (a :: stk) σ := by
  intro b1 b0 D ar p e s m args below meth c H locs ls hC hH hS hl
  show W p l e R s m args below meth c H locs k z (G b1 b0 D ar below args s) (F0 m pc ls (lc_v b1 b0 a :: stk.map (lc_v b1 b0)))
  exact lv_pop hC.1 hC.2.1 hd ((lc_v_cat _ _ _).trans ha) (kk b1 b0 D ar p e s m args below meth c H locs ls hC hH hS hl)

theorem lc_dup2 {a b : Value} (hd : decode cc pc = .ok (.dup2, 1)) (ha : a.category = 1) (hb : b.category = 1) (kk : lc_V l own cc nL ret ini R G E k z n (pc + 1) lv (a :: b :: a :: b :: stk) σ) : lc_V l own cc nL ret ini R G E k z n pc lv (a :: b :: stk) σ := by
  intro b1 b0 D ar p e s m args below meth c H locs ls hC hH hS hl
  show W p l e R s m args below meth c H locs k z (G b1 b0 D ar below args s) (F0 m pc ls (lc_v b1 b0 a :: lc_v b1 b0 b :: stk.map (lc_v b1 b0)))
  exact lv_dup2_11 hC.1 hC.2.1 hd ((lc_v_cat _ _ _).trans ha) ((lc_v_cat _ _ _).trans hb) (kk b1 b0 D ar p e s m args below meth c H locs ls hC hH hS hl)

theorem lc_icmp_eq {x y : Int} {off : Int} {tgt : Nat} (hd : decode cc pc = .ok (.if_icmp .eq off, 3)) (ht : (pc : Int) + off = (tgt : Int)) (hr : -2147483648 ≤ x ∧ x < 2147483648 ∧ -2147483648 ≤ y ∧ y < 2147483648) (kt : x = y → lc_V l own cc nL ret ini R G E k z n tgt lv stk σ) (kf : x ≠ y → lc_V l own cc nL ret ini R G E k z n (pc + 3) lv stk σ) : lc_V l own cc nL ret ini R G E k z n pc lv (.int (lc_i y) :: .int (lc_i x) :: stk) σ := by
  intro b1 b0 D ar p e s m args below meth c H locs ls hC hH hS hl
  show W p l e R s m args below meth c H locs k z (G b1 b0 D ar below args s) (F0 m pc ls (.int (lc_i y) :: .int (lc_i x) :: stk.map (lc_v b1 b0)))
  exact lv_icmp_eq hC.1 hC.2.1 hd ht (fun h => kt ((lc_i_eq hr).mp h) b1 b0 D ar p e s m args below meth c H locs ls hC hH hS hl) (fun h => kf (fun q => h ((lc_i_eq hr).mpr q)) b1 b0 D ar p e s m args below meth c H locs ls hC hH hS hl)

theorem lc_if_eq {x : Int} {off : Int} {tgt : Nat} (hd : decode cc pc = .ok (.ifCond .eq off, 3)) (ht : (pc : Int) + off = (tgt : Int)) (hr : -2147483648 ≤ x ∧ x < 2147483648) (kt : x = 0 → lc_V l own cc nL ret ini R G E k z n tgt lv stk σ) (kf : x ≠ 0 → lc_V l own cc nL ret ini R G E k z n (pc + 3) lv stk σ) : lc_V l own cc nL ret ini R G E k z n pc lv (.int (lc_i x) :: stk) σ := by
  intro b1 b0 D ar p e s m args below meth c H locs ls hC hH hS hl
  show W p l e R s m args below meth c H locs k z (G b1 b0 D ar below args s) (F0 m pc ls (.int (lc_i x) :: stk.map (lc_v b1 b0)))
  refine lv_if_eq hC.1 hC.2.1 hd ht (fun h => ?_) (fun h => ?_)
  · rw [← lc_i_0] at h
    exact kt ((lc_i_eq (lc_r0 hr)).mp h) b1 b0 D ar p e s m args below meth c H locs ls hC hH hS hl
  · rw [← lc_i_0] at h
    exact kf (fun q => h ((lc_i_eq (lc_r0 hr)).mpr q)) b1 b0 D ar p e s m args below meth c H locs ls hC hH hS hl

theorem lc_icmp_ne {x y : Int} {off : Int} {tgt : Nat} (hd : decode cc pc = .ok (.if_icmp .ne off, 3)) (ht : (pc : Int) + off = (tgt : Int)) (hr : -2147483648 ≤ x ∧ x < 2147483648 ∧ -2147483648 ≤ y ∧ y < 2147483648) (kt : x ≠ y → lc_V l own cc nL ret ini R G E k z n tgt lv stk σ) (kf : x = y → lc_V l own cc nL ret ini R G E k z n (pc + 3) lv stk σ) : lc_V l own cc nL ret ini R G E k z n pc lv (.int (lc_i y) :: .int (lc_i x) :: stk) σ := by
  intro b1 b0 D ar p e s m args below meth c H locs ls hC hH hS hl
  show W p l e R s m args below meth c H locs k z (G b1 b0 D ar below args s) (F0 m pc ls (.int (lc_i y) :: .int (lc_i x) :: stk.map (lc_v b1 b0)))
  exact lv_icmp_ne hC.1 hC.2.1 hd ht (fun h => kt (fun q => h ((lc_i_eq hr).mpr q)) b1 b0 D ar p e s m args below meth c H locs ls hC hH hS hl) (fun h => kf ((lc_i_eq hr).mp h) b1 b0 D ar p e s m args below meth c H locs ls hC hH hS hl)

theorem lc_if_ne {x : Int} {off : Int} {tgt : Nat} (hd : decode cc pc = .ok (.ifCond .ne off, 3)) (ht : (pc : Int) + off = (tgt : Int)) (hr : -2147483648 ≤ x ∧ x < 2147483648) (kt : x ≠ 0 → lc_V l own cc nL ret ini R G E k z n tgt lv stk σ) (kf : x = 0 → lc_V l own cc nL ret ini R G E k z n (pc + 3) lv stk σ) : lc_V l own cc nL ret ini R G E k z n pc lv (.int (lc_i x) :: stk) σ := by
  intro b1 b0 D ar p e s m args below meth c H locs ls hC hH hS hl
  show W p l e R s m args below meth c H locs k z (G b1 b0 D ar below args s) (F0 m pc ls (.int (lc_i x) :: stk.map (lc_v b1 b0)))
  refine lv_if_ne hC.1 hC.2.1 hd ht (fun h => ?_) (fun h => ?_)
  · rw [← lc_i_0] at h
    exact kt (fun q => h ((lc_i_eq (lc_r0 hr)).mpr q)) b1 b0 D ar p e s m args below meth c H locs ls hC hH hS hl
  · rw [← lc_i_0] at h
    exact kf ((lc_i_eq (lc_r0 hr)).mp h) b1 b0 D ar p e s m args below meth c H locs ls hC hH hS hl

theorem lc_icmp_lt {x y : Int} {off : Int} {tgt : Nat} (hd : decode cc pc = .ok (.if_icmp .lt off, 3)) (ht : (pc : Int) + off = (tgt : Int)) (hr : -2147483648 ≤ x ∧ x < 2147483648 ∧ -2147483648 ≤ y ∧ y < 2147483648) (kt : x < y → lc_V l own cc nL ret ini R G E k z n tgt lv stk σ) (kf : y ≤ x → lc_V l own cc nL ret ini R G E k z n (pc + 3) lv stk σ) : lc_V l own cc nL ret ini R G E k z n pc lv (.int (lc_i y) :: .int (lc_i x) :: stk) σ := by
  intro b1 b0 D ar p e s m args below meth c H locs ls hC hH hS hl
  show W p l e R s m args below meth c H locs k z (G b1 b0 D ar below args s) (F0 m pc ls (.int (lc_i y) :: .int (lc_i x) :: stk.map (lc_v b1 b0)))
  exact lv_icmp_lt hC.1 hC.2.1 hd ht (fun h => kt ((lc_i_lt hr).mp h) b1 b0 D ar p e s m args below meth c H locs ls hC hH hS hl) (fun h => kf (Int.not_lt.mp (fun q => h ((lc_i_lt hr).mpr q))) b1 b0 D ar p e s m args below meth c H locs ls hC hH hS hl)

theorem lc_if_lt {x : Int} {off : Int} {tgt : Nat} (hd : decode cc pc = .ok (.ifCond .lt off, 3)) (ht : (pc : Int) + off = (tgt : Int)) (hr : -2147483648 ≤ x ∧ x < 2147483648) (kt : x < 0 → lc_V l own cc nL ret ini R G E k z n tgt lv stk σ) (kf : 0 ≤ x → lc_V l own cc nL ret ini R G E k z n (pc + 3) lv stk σ) : lc_V l own cc nL ret ini R G E k z n pc lv (.int (lc_i x) :: stk) σ := by
  intro b1 b0 D ar p e s m args below meth c H locs ls hC hH hS hl
  show W p l e R s m args below meth c H locs k z (G b1 b0 D ar below args s) (F0 m pc ls (.int (lc_i x) :: stk.map (lc_v b1 b0)))
  refine lv_if_lt hC.1 hC.2.1 hd ht (fun h => ?_) (fun h => ?_)
  · rw [← lc_i_0] at h
    exact kt ((lc_i_lt (lc_r0 hr)).mp h) b1 b0 D ar p e s m args below meth c H locs ls hC hH hS hl
  · rw [← lc_i_0] at h
    exact kf (Int.not_lt.mp (fun q => h ((lc_i_lt (lc_r0 hr)).mpr q))) b1 b0 D ar p e s m args below meth c H locs ls hC hH hS hl

theorem lc_icmp_ge {x y : Int} {off : Int} {tgt : Nat} (hd : decode cc pc = .ok (.if_icmp .ge off, 3)) (ht : (pc : Int) + off = (tgt : Int)) (hr : -2147483648 ≤ x ∧ x < 2147483648 ∧ -2147483648 ≤ y ∧ y < 2147483648) (kt : y ≤ x → lc_V l own cc nL ret ini R G E k z n tgt lv stk σ) (kf : x < y → lc_V l own cc nL ret ini R G E k z n (pc + 3) lv stk σ) : lc_V l own cc nL ret ini R G E k z n pc lv (.int (lc_i y) :: .int (lc_i x) :: stk) σ := by
  intro b1 b0 D ar p e s m args below meth c H locs ls hC hH hS hl
  show W p l e R s m args below meth c H locs k z (G b1 b0 D ar below args s) (F0 m pc ls (.int (lc_i y) :: .int (lc_i x) :: stk.map (lc_v b1 b0)))
  exact lv_icmp_ge hC.1 hC.2.1 hd ht (fun h => kt ((lc_i_le (lc_sw hr)).mp h) b1 b0 D ar p e s m args below meth c H locs ls hC hH hS hl) (fun h => kf (Int.not_le.mp (fun q => h ((lc_i_le (lc_sw hr)).mpr q))) b1 b0 D ar p e s m args below meth c H locs ls hC hH hS hl)

theorem lc_if_ge {x : Int} {off : Int} {tgt : Nat} (hd : decode cc pc = .ok (.ifCond .ge off, 3)) (ht : (pc : Int) + off = (tgt : Int)) (hr : -2147483648 ≤ x ∧ x < 2147483648) (kt : 0 ≤ x → lc_V l own cc nL ret ini R G E k z n tgt lv stk σ) (kf : x < 0 → lc_V l own cc nL ret ini R G E k z n (pc + 3) lv stk σ) : lc_V l own cc nL ret ini R G E k z n pc lv (.int (lc_i x) :: stk) σ := by
  intro b1 b0 D ar p e s m args below meth c H locs ls hC hH hS hl
  show W p l e R s m args below meth c H locs k z (G b1 b0 D ar below args s) (F0 m pc ls (.int (lc_i x) :: stk.map (lc_v b1 b0)))
  refine lv_if_ge hC.1 hC.2.1 hd ht (fun h => ?_) (fun h => ?_)
  · rw [← lc_i_0] at h
    exact kt ((lc_i_le (lc_sw (lc_r0 hr))).mp h) b1 b0 D ar p e s m args below meth c H locs ls hC hH hS hl
  · rw [← lc_i_0] at h
    exact kf (Int.not_le.mp (fun q => h ((lc_i_le (lc_sw (lc_r0 hr))).mpr q))) b1 b0 D ar p e s m args below meth c H locs ls hC hH hS hl

theorem lc_icmp_gt {x y : Int} {off : Int} {tgt : Nat} (hd : decode cc pc = .ok (.if_icmp .gt off, 3)) (ht : (pc : Int) + off = (tgt : Int)) (hr : -2147483648 ≤ x ∧ x < 2147483648 ∧ -2147483648 ≤ y ∧ y < 2147483648) (kt : y < x → lc_V l own cc nL ret ini R G E k z n tgt lv stk σ) (kf : x ≤ y → lc_V l own cc nL ret ini R G E k z n (pc + 3) lv stk σ) : lc_V l own cc nL ret ini R G E k z n pc lv (.int (lc_i y) :: .int (lc_i x) :: stk) σ := by
  intro b1 b0 D ar p e s m args below meth c H locs ls hC hH hS hl
  show W p l e R s m args below meth c H locs k z (G b1 b0 D ar below args s) (F0 m pc ls (.int (lc_i y) :: .int (lc_i x) :: stk.map (lc_v b1 b0)))
  exact lv_icmp_gt hC.1 hC.2.1 hd ht (fun h => kt ((lc_i_lt (lc_sw hr)).mp h) b1 b0 D ar p e s m args below meth c H locs ls hC hH hS hl) (fun h => kf (Int.not_lt.mp (fun q => h ((lc_i_lt (lc_sw hr)).mpr q))) b1 b0 D ar p e s m args below meth c H locs ls hC hH hS hl)

theorem lc_if_gt {x : Int} {off : Int} {tgt : Nat} (hd : decode cc pc = .ok (.ifCond .gt off, 3)) (ht : (pc : Int) + off = (tgt : Int)) (hr : -2147483648 ≤ x ∧ x < 2147483648) (kt : 0 < x → lc_V l own cc nL ret ini R G E k z n tgt lv stk σ) (kf : x ≤ 0 → lc_V l own cc nL ret ini R G E k z n (pc + 3) lv stk σ) : lc_V l own cc nL ret ini R G E k z n pc lv (.int (lc_i x) :: stk) σ := by
  intro b1 b0 D ar p e s m args below meth c H locs ls hC hH hS hl
  show W p l e R s m args below meth c H locs k z (G b1 b0 D ar below args s) (F0 m pc ls (.int (lc_i x) :: stk.map (lc_v b1 b0)))
  refine lv_if_gt hC.1 hC.2.1 hd ht (fun h => ?_) (fun h => ?_)
  · rw [← lc_i_0] at h
    exact kt ((lc_i_lt (lc_sw (lc_r0 hr))).mp h) b1 b0 D ar p e s m args below meth c H locs ls hC hH hS hl
  · rw [← lc_i_0] at h
    exact kf (Int.not_lt.mp (fun q => h ((lc_i_lt (lc_sw (lc_r0 hr))).mpr q))) b1 b0 D ar p e s m args below meth c H locs ls hC hH hS hl

theorem lc_icmp_le {x y : Int} {off : Int} {tgt : Nat} (hd : decode cc pc = .ok (.if_icmp .le off, 3)) (ht : (pc : Int) + off = (tgt : Int)) (hr : -2147483648 ≤ x ∧ x < 2147483648 ∧ -2147483648 ≤ y ∧ y < 2147483648) (kt : x ≤ y → lc_V l own cc nL ret ini R G E k z n tgt lv stk σ) (kf : y < x → lc_V l own cc nL ret ini R G E k z n (pc + 3) lv stk σ) : lc_V l own cc nL ret ini R G E k z n pc lv (.int (lc_i y) :: .int (lc_i x) :: stk) σ := by
  intro b1 b0 D ar p e s m args below meth c H locs ls hC hH hS hl
  show W p l e R s m args below meth c H locs k z (G b1 b0 D ar below args s) (F0 m pc ls (.int (lc_i y) :: .int (lc_i x) :: stk.map (lc_v b1 b0)))
  exact lv_icmp_le hC.1 hC.2.1 hd ht (fun h => kt ((lc_i_le hr).mp h) b1 b0 D ar p e s m args below meth c H locs ls hC hH hS hl) (fun h => kf (Int.not_le.mp (fun q => h ((lc_i_le hr).mpr q))) b1 b0 D ar p e s m args below meth c H locs ls hC hH hS hl)

theorem lc_if_le {x : Int} {off : Int} {tgt : Nat} (hd : decode cc pc = .ok (.ifCond .le off, 3)) (ht : (pc : Int) + off = (tgt : Int)) (hr : -2147483648 ≤ x ∧ x < 2147483648) (kt : x ≤ 0 → lc_V l own cc nL ret ini R G E k z n tgt lv stk σ) (kf : 0 < x → lc_V l own cc nL ret ini R G E k z n (pc + 3) lv stk σ) : lc_V l own cc nL ret ini R G E k z n pc lv (.int (lc_i x) :: stk) σ := by
  intro b1 b0 D ar p e s m args below meth c H locs ls hC hH hS hl
  show W p l e R s m args below meth c H locs k z (G b1 b0 D ar below args s) (F0 m pc ls (.int (lc_i x) :: stk.map (lc_v b1 b0)))
  refine lv_if_le hC.1 hC.2.1 hd ht (fun h => ?_) (fun h => ?_)
  · rw [← lc_i_0] at h
    exact kt ((lc_i_le (lc_r0 hr)).mp h) b1 b0 D ar p e s m args below meth c H locs ls hC hH hS hl
  · rw [← lc_i_0] at h
    exact kf (Int.not_le.mp (fun q => h ((lc_i_le (lc_r0 hr)).mpr q))) b1 b0 D ar p e s m args below meth c H locs ls hC hH hS hl

theorem lc_if_eqR {x : Int32} {off : Int} {tgt : Nat} (hd : decode cc pc = .ok (.ifCond .eq off, 3)) (ht : (pc : Int) + off = (tgt : Int)) (kt : x = 0 → lc_V l own cc nL ret ini R G E k z n tgt lv stk σ) (kf : ¬ x = 0 → lc_V l own cc nL ret ini R G E k z n (pc + 3) lv stk σ) : lc_V l own cc nL ret ini R G E k z n pc lv (.int x :: stk) σ := by
  intro b1 b0 D ar p e s m args below meth c H locs ls hC hH hS hl
  show W p l e R s m args below meth c H locs k z (G b1 b0 D ar below args s) (F0 m pc ls (.int x :: stk.map (lc_v b1 b0)))
  exact lv_if_eq hC.1 hC.2.1 hd ht (fun h => kt h b1 b0 D ar p e s m args below meth c H locs ls hC hH hS hl) (fun h => kf h b1 b0 D ar p e s m args below meth c H locs ls hC hH hS hl)

theorem lc_if_neR {x : Int32} {off : Int} {tgt : Nat} (hd : decode cc pc = .ok (.ifCond .ne off, 3)) (ht : (pc : Int) + off = (tgt : Int)) (kt : ¬ x = 0 → lc_V l own cc nL ret ini R G E k z n tgt lv stk σ) (kf : x = 0 → lc_V l own cc nL ret ini R G E k z n (pc + 3) lv stk σ) : lc_V l own cc nL ret ini R G E k z n pc lv (.int x :: stk) σ := by
  intro b1 b0 D ar p e s m args below meth c H locs ls hC hH hS hl
  show W p l e R s m args below meth c H locs k z (G b1 b0 D ar below args s) (F0 m pc ls (.int x :: stk.map (lc_v b1 b0)))
  exact lv_if_ne hC.1 hC.2.1 hd ht (fun h => kt h b1 b0 D ar p e s m args below meth c H locs ls hC hH hS hl) (fun h => kf h b1 b0 D ar p e s m args below meth c H locs ls hC hH hS hl)

theorem lc_icmp_eqR {x y : Int32} {off : Int} {tgt : Nat} (hd : decode cc pc = .ok (.if_icmp .eq off, 3)) (ht : (pc : Int) + off = (tgt : Int)) (kt : x = y → lc_V l own cc nL ret ini R G E k z n tgt lv stk σ) (kf : ¬ x = y → lc_V l own cc nL ret ini R G E k z n (pc + 3) lv stk σ) : lc_V l own cc nL ret ini R G E k z n pc lv (.int y :: .int x :: stk) σ := by
  intro b1 b0 D ar p e s m args below meth c H locs ls hC hH hS hl
  show W p l e R s m args below meth c H locs k z (G b1 b0 D ar below args s) (F0 m pc ls (.int y :: .int x :: stk.map (lc_v b1 b0)))
  exact lv_icmp_eq hC.1 hC.2.1 hd ht (fun h => kt h b1 b0 D ar p e s m args below meth c H locs ls hC hH hS hl) (fun h => kf h b1 b0 D ar p e s m args below meth c H locs ls hC hH hS hl)

theorem lc_goto {off : Int} {tgt : Nat} (hd : decode cc pc = .ok (.goto off, 3)) (ht : (pc : Int) + off = (tgt : Int)) (kk : lc_V l own cc nL ret ini R G E k z n tgt lv stk σ) : lc_V l own cc nL ret ini R G E k z n pc lv stk σ := by
  intro b1 b0 D ar p e s m args below meth c H locs ls hC hH hS hl
  exact lv_goto hC.1 hC.2.1 hd ht (kk b1 b0 D ar p e s m args below meth c H locs ls hC hH hS hl)

theorem lc_swOut {dflt lo hi : Int} {offs : Array Int} {len : Nat} {x : Int32} {tgt : Nat} (hd : decode cc pc = .ok (.tableswitch dflt lo hi offs, len)) (h : x.toInt < lo ∨ hi < x.toInt) (ht : (pc : Int) + dflt = (tgt : Int)) (kk : lc_V l own cc nL ret ini R G E k z n tgt lv stk σ) : lc_V l own cc nL ret ini R G E k z n pc lv (.int x :: stk) σ := by
  intro b1 b0 D ar p e s m args below meth c H locs ls hC hH hS hl
  show W p l e R s m args below meth c H locs k z (G b1 b0 D ar below args s) (F0 m pc ls (.int x :: stk.map (lc_v b1 b0)))
  exact lv_tableOut hC.1 hC.2.1 hd h ht (kk b1 b0 D ar p e s m args below meth c H locs ls hC hH hS hl)

theorem lc_swIn {dflt lo hi : Int} {offs : Array Int} {len : Nat} {x : Int32} {off : Int} {tgt : Nat} (hd : decode cc pc = .ok (.tableswitch dflt lo hi offs, len)) (h1 : ¬ x.toInt < lo) (h2 : ¬ hi < x.toInt) (ho : offs[(x.toInt - lo).toNat]? = some off) (ht : (pc : Int) + off = (tgt : Int)) (kk : lc_V l own cc nL ret ini R G E k z n tgt lv stk σ) : lc_V l own cc nL ret ini R G E k z n pc lv (.int x :: stk) σ := by
  intro b1 b0 D ar p e s m args below meth c H locs ls hC hH hS hl
  show W p l e R s m args below meth c H locs k z (G b1 b0 D ar below args s) (F0 m pc ls (.int x :: stk.map (lc_v b1 b0)))
  exact lv_tableIn hC.1 hC.2.1 hd h1 h2 ho ht (kk b1 b0 D ar p e s m args below meth c H locs ls hC hH hS hl)

theorem lc_ifnull {x : Nat} {off : Int} (hd : decode cc pc = .ok (.ifnull off, 3)) (kk : lc_V l own cc nL ret ini R G E k z n (pc + 3) lv stk σ) : lc_V l own cc nL ret ini R G E k z n pc lv (.ref x :: stk) σ := by
  intro b1 b0 D ar p e s m args below meth c H locs ls hC hH hS hl
  show W p l e R s m args below meth c H locs k z (G b1 b0 D ar below args s) (F0 m pc ls (.ref (lc_a b1 b0 x) :: stk.map (lc_v b1 b0)))
  exact lv_ifnull hC.1 hC.2.1 hd (kk b1 b0 D ar p e s m args below meth c H locs ls hC hH hS hl)

theorem lc_iret {Q : lc_QT} {mc ms : Nat} {x : Int32} (hd : decode cc pc = .ok (.ireturn, 1)) (hr : ret = some .int) (h1 : k ≤ mc) (h2 : z ≤ ms) (hQ : Q (some (.int x)) n σ) : lc_V l own cc nL ret ini R (lc_G Q mc ms) E k z n pc lv [.int x] σ := by
  intro b1 b0 D ar p e s m args below meth c H locs ls hC hH hS hl
  refine W.widen h1 h2 ?_
  exact W.iret (v := x) hC.1 hC.2.1 (hC.2.2.1.trans hr) (fun t ht hW => ⟨⟨some (.int x), n, σ, rfl, hQ, by rw [ht]; exact hH⟩, hS.F ht⟩) hS.2.2 hd hC.2.2.2.2.2.2.2.1

theorem lc_lret {Q : lc_QT} {mc ms : Nat} {x : Int64} (hd : decode cc pc = .ok (.lreturn, 1)) (hr : ret = some .long) (h1 : k ≤ mc) (h2 : z ≤ ms) (hQ : Q (some (.long x)) n σ) : lc_V l own cc nL ret ini R (lc_G Q mc ms) E k z n pc lv [.long x] σ := by
  intro b1 b0 D ar p e s m args below meth c H locs ls hC hH hS hl
  refine W.widen h1 h2 ?_
  exact W.lret (v := x) hC.1 hC.2.1 (hC.2.2.1.trans hr) (fun t ht hW => ⟨⟨some (.long x), n, σ, rfl, hQ, by rw [ht]; exact hH⟩, hS.F ht⟩) hS.2.2 hd hC.2.2.2.2.2.2.2.1

theorem lc_zret {Q : lc_QT} {mc ms : Nat} {x : Int32} {ty : FieldType} (hd : decode cc pc = .ok (.ireturn, 1)) (hr : ret = some ty) (hx : narrow ty (.int x) = .int x) (h1 : k ≤ mc) (h2 : z ≤ ms) (hQ : Q (some (.int x)) n σ) : lc_V l own cc nL ret ini R (lc_G Q mc ms) E k z n pc lv [.int x] σ := by
  intro b1 b0 D ar p e s m args below meth c H locs ls hC hH hS hl
  refine W.widen h1 h2 ?_
  exact W.zret (v := x) hC.1 hC.2.1 (hC.2.2.1.trans hr) hx (fun t ht hW => ⟨⟨some (.int x), n, σ, rfl, hQ, by rw [ht]; exact hH⟩, hS.F ht⟩) hS.2.2 hd hC.2.2.2.2.2.2.2.1

theorem lc_vret {Q : lc_QT} {mc ms : Nat} (hd : decode cc pc = .ok (.return_, 1)) (hr : ret = none) (h1 : k ≤ mc) (h2 : z ≤ ms) (hQ : Q none n σ) : lc_V l own cc nL ret ini R (lc_G Q mc ms) E k z n pc lv [] σ := by
  intro b1 b0 D ar p e s m args below meth c H locs ls hC hH hS hl
  refine W.widen h1 h2 ?_
  exact W.vret hC.1 hC.2.1 (hC.2.2.1.trans hr) (fun t ht hW => ⟨⟨none, n, σ, rfl, hQ, by rw [ht]; exact hH⟩, hS.F ht⟩) hS.2.2 hd hC.2.2.2.2.2.2.2.1

theorem lc_get {b idx ci q : Nat} {fin : Bool} {ty : FieldType} {vs : List Value} {v : Value} (hd : decode cc pc = .ok (.getfield idx, 3)) (hF : lc_FL own idx ci q fin ty) (hb : σ b = some (.inr (ci, vs))) (hv : vs[q]? = some v) (kk : lc_V l own cc nL ret ini R G E k z n (pc + 3) lv (v :: stk) σ) : lc_V l own cc nL ret ini R G E k z n pc lv (.ref b :: stk) σ := by
  intro b1 b0 D ar p e s m args below meth c H locs ls hC hH hS hl
  obtain ⟨C, T, N, t0, f1, f2, f3, f4, f5, f6, f7, f8, f9⟩ := hF
  have e1 := (hH.2 b _ hb).1
  show W p l e R s m args below meth c H locs k z (G b1 b0 D ar below args s) (F0 m pc ls (.ref (lc_a b1 b0 b) :: stk.map (lc_v b1 b0)))
  rw [lc_a_p e1]
  exact va_get (D := D) (ci := ci) (v := lc_v b1 b0 v) (C := C) (T := T) (N := N) hC.1 hC.2.1 hC.2.2.2.2.2.1 f3 hC.2.2.2.2.1 hC.2.2.2.2.2.2.1 (lc_H_one hH hb) 0 rfl f1 q f2 (hC.2.2.2.2.2.1 _ f4) (fun _ h9 => h9) (by simp [hv]) hd (kk b1 b0 D ar p e s m args below meth c H locs ls hC hH hS hl)

theorem lc_putI {b idx ci q : Nat} {ty : FieldType} {vs : List Value} {x : Int32} (hd : decode cc pc = .ok (.putfield idx, 3)) (hF : lc_FL own idx ci q false ty) (hb : σ b = some (.inr (ci, vs))) (hq : q < vs.length) (hx : narrow ty (.int x) = .int x) (hf : fits ty (.int x) = true) (kk : lc_V l own cc nL ret ini R G E k z n (pc + 3) lv stk (lc_up σ b (.inr (ci, vs.set q (.int x))))) : lc_V l own cc nL ret ini R G E k z n pc lv (.int x :: .ref b :: stk) σ := by
  intro b1 b0 D ar p e s m args below meth c H locs ls hC hH hS hl
  obtain ⟨C, T, N, t0, f1, f2, f3, f4, f5, f6, f7, f8, f9⟩ := hF
  have e1 := (hH.2 b _ hb).1
  show W p l e R s m args below meth c H locs k z (G b1 b0 D ar below args s) (F0 m pc ls (.int x :: .ref (lc_a b1 b0 b) :: stk.map (lc_v b1 b0)))
  rw [lc_a_p e1]
  have hK := hC.2.2.2.2.2.2.1
  have hts := hC.2.2.2.2.2.1
  have hap := va_apart (own := own) hts f3 t0 f5 f6 hK f1
  obtain ⟨r, h1, cell, q1, q2, q3, q4⟩ := (hH.2 b _ hb).2
  have hr : r = (C, T, N) := Option.some.inj (h1.symm.trans f1)
  subst hr
  obtain ⟨hS0, hfc, kC, hkC, hkind⟩ := hK.1 ci _ f1
  obtain ⟨cf, kf, fi, f, hi, hsl⟩ := hS0 q f2
  have hlay := hts _ (f3 _ (u_in_lay f2))
  unfold u_lay at hlay
  rw [if_neg (by rw [f8]; decide)] at hlay
  have hst := (u_facts hfc hkC (u_lays hts f3 f2) hi).1
  have h6 := u_store hfc hkC hkind hlay hi ((f5 q f2).trans (congrArg some f7)) hx hf
  refine W.putK hC.1 hC.2.1 (f := f) ⟨hC.2.2.2.2.1, hts _ f4, ⟨_, _, _, hi⟩, hst⟩ (by rw [q2]; exact h6) q1 q3 (by rw [hsl]; exact k2_hasslot (q4 q f2)) rfl rfl hd fun H' e1' e2 e3 => ?_
  rw [hsl] at e1' ⊢
  refine kk b1 b0 D ar p e s m args below meth c H' _ ls hC (lc_H_put hH _ e1 ⟨_, f1, t_OB.to (V := updV (vp_V (vs.map (lc_v b1 b0))) q (.int x)) ⟨_, e1', q2, q3, t_set q4 hap f2 _⟩ (fun j _ => ?_)⟩ e2 e3) (hS.put e2 e3 (by show b0 < b0 + b; omega)) hl
  rw [vp_updV_set (by simpa using hq)]
  rw [List.map_set]
  rfl

theorem lc_putR {b idx ci q : Nat} {ty : FieldType} {vs : List Value} {x : Nat} (hd : decode cc pc = .ok (.putfield idx, 3)) (hF : lc_FL own idx ci q false ty) (hb : σ b = some (.inr (ci, vs))) (hq : q < vs.length) (hx : ∀ y : Nat, narrow ty (.ref y) = .ref y ∧ fits ty (.ref y) = true) (kk : lc_V l own cc nL ret ini R G E k z n (pc + 3) lv stk (lc_up σ b (.inr (ci, vs.set q (.ref x))))) : lc_V l own cc nL ret ini R G E k z n pc lv (.ref x :: .ref b :: stk) σ := by
  intro b1 b0 D ar p e s m args below meth c H locs ls hC hH hS hl
  obtain ⟨C, T, N, t0, f1, f2, f3, f4, f5, f6, f7, f8, f9⟩ := hF
  have e1 := (hH.2 b _ hb).1
  show W p l e R s m args below meth c H locs k z (G b1 b0 D ar below args s) (F0 m pc ls (.ref (lc_a b1 b0 x) :: .ref (lc_a b1 b0 b) :: stk.map (lc_v b1 b0)))
  rw [lc_a_p e1]
  have hK := hC.2.2.2.2.2.2.1
  have hts := hC.2.2.2.2.2.1
  have hap := va_apart (own := own) hts f3 t0 f5 f6 hK f1
  obtain ⟨r, h1, cell, q1, q2, q3, q4⟩ := (hH.2 b _ hb).2
  have hr : r = (C, T, N) := Option.some.inj (h1.symm.trans f1)
  subst hr
  obtain ⟨hS0, hfc, kC, hkC, hkind⟩ := hK.1 ci _ f1
  obtain ⟨cf, kf, fi, f, hi, hsl⟩ := hS0 q f2
  have hlay := hts _ (f3 _ (u_in_lay f2))
  unfold u_lay at hlay
  rw [if_neg (by rw [f8]; decide)] at hlay
  have hst := (u_facts hfc hkC (u_lays hts f3 f2) hi).1
  have h6 := u_store hfc hkC hkind hlay hi ((f5 q f2).trans (congrArg some f7)) (hx (lc_a b1 b0 x)).1 (hx (lc_a b1 b0 x)).2
  refine W.putK hC.1 hC.2.1 (f := f) ⟨hC.2.2.2.2.1, hts _ f4, ⟨_, _, _, hi⟩, hst⟩ (by rw [q2]; exact h6) q1 q3 (by rw [hsl]; exact k2_hasslot (q4 q f2)) rfl rfl hd fun H' e1' e2 e3 => ?_
  rw [hsl] at e1' ⊢
  refine kk b1 b0 D ar p e s m args below meth c H' _ ls hC (lc_H_put hH _ e1 ⟨_, f1, t_OB.to (V := updV (vp_V (vs.map (lc_v b1 b0))) q (.ref (lc_a b1 b0 x))) ⟨_, e1', q2, q3, t_set q4 hap f2 _⟩ (fun j _ => ?_)⟩ e2 e3) (hS.put e2 e3 (by show b0 < b0 + b; omega)) hl
  rw [vp_updV_set (by simpa using hq)]
  rw [List.map_set]
  rfl

theorem lc_putF {b idx ci q : Nat} {ty : FieldType} {vs : List Value} {x : Nat} (hd : decode cc pc = .ok (.putfield idx, 3)) (hF : lc_FL own idx ci q true ty) (hb : σ b = some (.inr (ci, vs))) (hq : q < vs.length) (hini : ini = true) (hown : (vwCl[ci]?).map (fun q => q.1) = some own) (hx : ∀ y : Nat, narrow ty (.ref y) = .ref y ∧ fits ty (.ref y) = true) (kk : lc_V l own cc nL ret ini R G E k z n (pc + 3) lv stk (lc_up σ b (.inr (ci, vs.set q (.ref x))))) : lc_V l own cc nL ret ini R G E k z n pc lv (.ref x :: .ref b :: stk) σ := by
  intro b1 b0 D ar p e s m args below meth c H locs ls hC hH hS hl
  have hF0 := hF
  obtain ⟨C, T, N, t0, f1, f2, f3, f4, f5, f6, f7, f8, f9⟩ := hF
  have e1 := (hH.2 b _ hb).1
  show W p l e R s m args below meth c H locs k z (G b1 b0 D ar below args s) (F0 m pc ls (.ref (lc_a b1 b0 x) :: .ref (lc_a b1 b0 b) :: stk.map (lc_v b1 b0)))
  rw [lc_a_p e1]
  have hK := hC.2.2.2.2.2.2.1
  have hts := hC.2.2.2.2.2.1
  have hap := va_apart (own := own) hts f3 t0 f5 f6 hK f1
  obtain ⟨r, h1, cell, q1, q2, q3, q4⟩ := (hH.2 b _ hb).2
  have hr : r = (C, T, N) := Option.some.inj (h1.symm.trans f1)
  subst hr
  obtain ⟨hS0, hfc, kC, hkC, hkind⟩ := hK.1 ci _ f1
  obtain ⟨cf, kf, fi, f, hi, hsl⟩ := hS0 q f2
  have hlay := hts _ (f3 _ (u_in_lay f2))
  unfold u_lay at hlay
  rw [if_pos f8] at hlay
  have hst := (u_facts hfc hkC (u_lays hts f3 f2) hi).1
  have hCo : C = own := by
    rw [f1] at hown
    exact Option.some.inj hown
  have hcf : m.cls = cf := by
    obtain ⟨_, _, c', _, _, _, -, -, hf', -, -, -, hown2, -⟩ := Cond.laysFinal_spec hlay
    have e2 : c' = cf := by have := hi.symm.trans hf'; simp at this; exact this.1.symm
    rw [f9, hCo] at hown2
    rw [← e2]; exact Option.some.inj (hC.2.2.2.2.1.symm.trans hown2)
  have h6 := u_fits hfc hkC hkind (Or.inr hlay) hi ((f5 q f2).trans (congrArg some f7)) (hx (lc_a b1 b0 x)).1 (hx (lc_a b1 b0 x)).2
  refine W.putFinK hC.1 hC.2.1 hC.2.2.2.2.1 (hts _ f4) hi hst hcf (hC.2.2.2.2.2.2.2.2.2.1 hini) (by rw [q2]; exact h6) q1 q3 (by rw [hsl]; exact k2_hasslot (q4 q f2)) rfl rfl hd fun H' e1' e2 e3 => ?_
  rw [hsl] at e1' ⊢
  refine kk b1 b0 D ar p e s m args below meth c H' _ ls hC (lc_H_put hH _ e1 ⟨_, f1, t_OB.to (V := updV (vp_V (vs.map (lc_v b1 b0))) q (.ref (lc_a b1 b0 x))) ⟨_, e1', q2, q3, t_set q4 hap f2 _⟩ (fun j _ => ?_)⟩ e2 e3) (hS.put e2 e3 (by show b0 < b0 + b; omega)) hl
  rw [vp_updV_set (by simpa using hq)]
  rw [List.map_set]
  rfl

theorem lc_iald {a m : Nat} {f : Int → Int} {j : Int} (hd : decode cc pc = .ok (.iaload, 1)) (ha : σ a = some (lc_aI m f)) (hj : 0 ≤ j ∧ j < m) (hm : m < 2147483648) (kk : lc_V l own cc nL ret ini R G E k z n (pc + 1) lv (.int (lc_i (f j)) :: stk) σ) : lc_V l own cc nL ret ini R G E k z n pc lv (.int (lc_i j) :: .ref a :: stk) σ := by
  intro b1 b0 D ar p e s mm args below meth c H locs ls hC hH hS hl
  have e1 := (hH.2 a _ ha).1
  show W p l e R s mm args below meth c H locs k z (G b1 b0 D ar below args s) (F0 mm pc ls (.int (lc_i j) :: .ref (lc_a b1 b0 a) :: stk.map (lc_v b1 b0)))
  rw [lc_a_p e1]
  refine va_iald (f := fun i => lc_i (f i)) hC.1 hC.2.1 hC.2.2.2.2.2.2.1 (lc_H_one hH ha) 0 0 rfl rfl (lc_i_in hj hm) hd ?_
  have e2 : (((lc_i j).toNatClampNeg : Nat) : Int) = j := by rw [lc_i_cl (by omega)]; omega
  show W p l e R s mm args below meth c H locs k z (G b1 b0 D ar below args s) (F0 mm (pc + 1) ls (.int (lc_i (f (((lc_i j).toNatClampNeg : Nat) : Int))) :: stk.map (lc_v b1 b0)))
  rw [e2]
  exact kk b1 b0 D ar p e s mm args below meth c H locs ls hC hH hS hl

theorem lc_cald {a m : Nat} {f : Int → Int} {j : Int} (hd : decode cc pc = .ok (.caload, 1)) (ha : σ a = some (lc_aC m f)) (hj : 0 ≤ j ∧ j < m) (hm : m < 2147483648) (kk : lc_V l own cc nL ret ini R G E k z n (pc + 1) lv (.int (lc_i (f j)) :: stk) σ) : lc_V l own cc nL ret ini R G E k z n pc lv (.int (lc_i j) :: .ref a :: stk) σ := by
  intro b1 b0 D ar p e s mm args below meth c H locs ls hC hH hS hl
  have e1 := (hH.2 a _ ha).1
  show W p l e R s mm args below meth c H locs k z (G b1 b0 D ar below args s) (F0 mm pc ls (.int (lc_i j) :: .ref (lc_a b1 b0 a) :: stk.map (lc_v b1 b0)))
  rw [lc_a_p e1]
  refine va_cald (f := fun i => lc_i (f i)) hC.1 hC.2.1 hC.2.2.2.2.2.2.1 (lc_H_one hH ha) 0 2 rfl rfl (lc_i_in hj hm) hd ?_
  have e2 : (((lc_i j).toNatClampNeg : Nat) : Int) = j := by rw [lc_i_cl (by omega)]; omega
  show W p l e R s mm args below meth c H locs k z (G b1 b0 D ar below args s) (F0 mm (pc + 1) ls (.int (lc_i (f (((lc_i j).toNatClampNeg : Nat) : Int))) :: stk.map (lc_v b1 b0)))
  rw [e2]
  exact kk b1 b0 D ar p e s mm args below meth c H locs ls hC hH hS hl

theorem lc_lald {a m : Nat} {f : Int → Int64} {j : Int} (hd : decode cc pc = .ok (.laload, 1)) (ha : σ a = some (lc_aJ m f)) (hj : 0 ≤ j ∧ j < m) (hm : m < 2147483648) (kk : lc_V l own cc nL ret ini R G E k z n (pc + 1) lv (.long (f j) :: stk) σ) : lc_V l own cc nL ret ini R G E k z n pc lv (.int (lc_i j) :: .ref a :: stk) σ := by
  intro b1 b0 D ar p e s mm args below meth c H locs ls hC hH hS hl
  have e1 := (hH.2 a _ ha).1
  show W p l e R s mm args below meth c H locs k z (G b1 b0 D ar below args s) (F0 mm pc ls (.int (lc_i j) :: .ref (lc_a b1 b0 a) :: stk.map (lc_v b1 b0)))
  rw [lc_a_p e1]
  refine va_lald (f := fun i => f i) hC.1 hC.2.1 hC.2.2.2.2.2.2.1 (lc_H_one hH ha) 0 1 rfl rfl (lc_i_in hj hm) hd ?_
  have e2 : (((lc_i j).toNatClampNeg : Nat) : Int) = j := by rw [lc_i_cl (by omega)]; omega
  show W p l e R s mm args below meth c H locs k z (G b1 b0 D ar below args s) (F0 mm (pc + 1) ls (.long (f (((lc_i j).toNatClampNeg : Nat) : Int)) :: stk.map (lc_v b1 b0)))
  rw [e2]
  exact kk b1 b0 D ar p e s mm args below meth c H locs ls hC hH hS hl

theorem lc_aald {a m : Nat} {f : Int → Option Nat} {j : Int} (hd : decode cc pc = .ok (.aaload, 1)) (ha : σ a = some (lc_aS m f)) (hj : 0 ≤ j ∧ j < m) (hm : m < 2147483648) (kk : lc_V l own cc nL ret ini R G E k z n (pc + 1) lv (va_rf (f j) :: stk) σ) : lc_V l own cc nL ret ini R G E k z n pc lv (.int (lc_i j) :: .ref a :: stk) σ := by
  intro b1 b0 D ar p e s mm args below meth c H locs ls hC hH hS hl
  have e1 := (hH.2 a _ ha).1
  show W p l e R s mm args below meth c H locs k z (G b1 b0 D ar below args s) (F0 mm pc ls (.int (lc_i j) :: .ref (lc_a b1 b0 a) :: stk.map (lc_v b1 b0)))
  rw [lc_a_p e1]
  refine va_aldq (f := fun i => (f i).map (lc_a b1 b0)) hC.1 hC.2.1 hC.2.2.2.2.2.2.1 (lc_H_one hH ha) 0 3 rfl rfl (lc_i_in hj hm) hd ?_
  have e2 : (((lc_i j).toNatClampNeg : Nat) : Int) = j := by rw [lc_i_cl (by omega)]; omega
  show W p l e R s mm args below meth c H locs k z (G b1 b0 D ar below args s) (F0 mm (pc + 1) ls (va_rf ((f (((lc_i j).toNatClampNeg : Nat) : Int)).map (lc_a b1 b0)) :: stk.map (lc_v b1 b0)))
  rw [e2]
  rw [lc_rf]
  exact kk b1 b0 D ar p e s mm args below meth c H locs ls hC hH hS hl

theorem lc_iast {a m : Nat} {f : Int → Int} {j : Int} {x : Int} (hd : decode cc pc = .ok (.iastore, 1)) (ha : σ a = some (lc_aI m f)) (hj : 0 ≤ j ∧ j < m) (hm : m < 2147483648) (kk : lc_V l own cc nL ret ini R G E k z n (pc + 1) lv stk (lc_up σ a (lc_aI m (lc_u f j x)))) : lc_V l own cc nL ret ini R G E k z n pc lv (.int (lc_i x) :: .int (lc_i j) :: .ref a :: stk) σ := by
  intro b1 b0 D ar p e_ s mm args below meth c H locs ls hC hH hS hl
  have e1 := (hH.2 a _ ha).1
  show W p l e_ R s mm args below meth c H locs k z (G b1 b0 D ar below args s) (F0 mm pc ls (.int (lc_i x) :: .int (lc_i j) :: .ref (lc_a b1 b0 a) :: stk.map (lc_v b1 b0)))
  rw [lc_a_p e1]
  have hcell : H[b0 + a]? = some (arrV (ar 0) m (fun i => .int (lc_i (f i)))) := (hH.2 a _ ha).2
  refine W.iast hC.1 hC.2.1 hcell ((hC.2.2.2.2.2.2.1.2 0 _ rfl).1 m _) (fun q => by cases q) (by rw [arrV_size]; exact lc_i_in hj hm) rfl rfl hd fun H1 e z1 oq => ?_
  refine kk b1 b0 D ar p e_ s mm args below meth c H1 _ ls hC (lc_H_put hH _ e1 ?_ z1 oq) (hS.put z1 oq (by show b0 < b0 + a; omega)) hl
  rw [arrV_store] at e
  refine e.trans (congrArg some ?_)
  show arrV (ar 0) m _ = arrV (ar 0) m (fun i => .int (lc_i (lc_u f j x i)))
  refine lc_arr_ext _ _ _ _ fun i hi => ?_
  rw [lc_i_cl (by omega)]
  by_cases hij : (i : Int) = j
  · rw [updV, if_pos (by omega), lc_u, if_pos hij] 
  · rw [updV, if_neg (by omega), lc_u, if_neg hij]

theorem lc_last {a m : Nat} {f : Int → Int64} {j : Int} {x : Int64} (hd : decode cc pc = .ok (.lastore, 1)) (ha : σ a = some (lc_aJ m f)) (hj : 0 ≤ j ∧ j < m) (hm : m < 2147483648) (kk : lc_V l own cc nL ret ini R G E k z n (pc + 1) lv stk (lc_up σ a (lc_aJ m (lc_u f j x)))) : lc_V l own cc nL ret ini R G E k z n pc lv (.long x :: .int (lc_i j) :: .ref a :: stk) σ := by
  intro b1 b0 D ar p e_ s mm args below meth c H locs ls hC hH hS hl
  have e1 := (hH.2 a _ ha).1
  show W p l e_ R s mm args below meth c H locs k z (G b1 b0 D ar below args s) (F0 mm pc ls (.long x :: .int (lc_i j) :: .ref (lc_a b1 b0 a) :: stk.map (lc_v b1 b0)))
  rw [lc_a_p e1]
  have hcell : H[b0 + a]? = some (arrV (ar 1) m (fun i => .long (f i))) := (hH.2 a _ ha).2
  refine W.last hC.1 hC.2.1 hcell ((hC.2.2.2.2.2.2.1.2 1 _ rfl).1 m _) (fun q => by cases q) (by rw [arrV_size]; exact lc_i_in hj hm) rfl rfl hd fun H1 e z1 oq => ?_
  refine kk b1 b0 D ar p e_ s mm args below meth c H1 _ ls hC (lc_H_put hH _ e1 ?_ z1 oq) (hS.put z1 oq (by show b0 < b0 + a; omega)) hl
  rw [arrV_store] at e
  refine e.trans (congrArg some ?_)
  show arrV (ar 1) m _ = arrV (ar 1) m (fun i => .long (lc_u f j x i))
  refine lc_arr_ext _ _ _ _ fun i hi => ?_
  rw [lc_i_cl (by omega)]
  by_cases hij : (i : Int) = j
  · rw [updV, if_pos (by omega), lc_u, if_pos hij] 
  · rw [updV, if_neg (by omega), lc_u, if_neg hij]

theorem lc_cast {a m : Nat} {f : Int → Int} {j : Int} {x : Int} (hd : decode cc pc = .ok (.castore, 1)) (ha : σ a = some (lc_aC m f)) (hj : 0 ≤ j ∧ j < m) (hm : m < 2147483648) (hx : narrow .char (.int (lc_i x)) = .int (lc_i x)) (kk : lc_V l own cc nL ret ini R G E k z n (pc + 1) lv stk (lc_up σ a (lc_aC m (lc_u f j x)))) : lc_V l own cc nL ret ini R G E k z n pc lv (.int (lc_i x) :: .int (lc_i j) :: .ref a :: stk) σ := by
  intro b1 b0 D ar p e_ s mm args below meth c H locs ls hC hH hS hl
  have e1 := (hH.2 a _ ha).1
  show W p l e_ R s mm args below meth c H locs k z (G b1 b0 D ar below args s) (F0 mm pc ls (.int (lc_i x) :: .int (lc_i j) :: .ref (lc_a b1 b0 a) :: stk.map (lc_v b1 b0)))
  rw [lc_a_p e1]
  have hcell : H[b0 + a]? = some (arrV (ar 2) m (fun i => .int (lc_i (f i)))) := (hH.2 a _ ha).2
  refine W.cast hC.1 hC.2.1 hcell ((hC.2.2.2.2.2.2.1.2 2 _ rfl).1 m _) (fun q => by cases q) (by rw [arrV_size]; exact lc_i_in hj hm) rfl rfl hd fun H1 e z1 oq => ?_
  refine kk b1 b0 D ar p e_ s mm args below meth c H1 _ ls hC (lc_H_put hH _ e1 ?_ z1 oq) (hS.put z1 oq (by show b0 < b0 + a; omega)) hl
  rw [arrV_store] at e
  rw [hx] at e
  refine e.trans (congrArg some ?_)
  show arrV (ar 2) m _ = arrV (ar 2) m (fun i => .int (lc_i (lc_u f j x i)))
  refine lc_arr_ext _ _ _ _ fun i hi => ?_
  rw [lc_i_cl (by omega)]
  by_cases hij : (i : Int) = j
  · rw [updV, if_pos (by omega), lc_u, if_pos hij]
  · rw [updV, if_neg (by omega), lc_u, if_neg hij]

theorem lc_aast {a m x : Nat} {f : Int → Option Nat} {j : Int} {vs : List Value} (hd : decode cc pc = .ok (.aastore, 1)) (ha : σ a = some (lc_aS m f)) (hj : 0 ≤ j ∧ j < m) (hm : m < 2147483648) (hx : σ x = some (.inr (7, vs))) (kk : lc_V l own cc nL ret ini R G E k z n (pc + 1) lv stk (lc_up σ a (lc_aS m (lc_u f j (some x))))) : lc_V l own cc nL ret ini R G E k z n pc lv (.ref x :: .int (lc_i j) :: .ref a :: stk) σ := by
  intro b1 b0 D ar p e_ s mm args below meth c H locs ls hC hH hS hl
  have e1 := (hH.2 a _ ha).1
  have e3 := (hH.2 x _ hx).1
  show W p l e_ R s mm args below meth c H locs k z (G b1 b0 D ar below args s) (F0 mm pc ls (.ref (lc_a b1 b0 x) :: .int (lc_i j) :: .ref (lc_a b1 b0 a) :: stk.map (lc_v b1 b0)))
  have e5 := lc_a_p (b := b1) (b0 := b0) e3
  rw [lc_a_p e1, e5]
  have hcell : H[b0 + a]? = some (arrV (ar 3) m (fun i => va_rf ((f i).map (lc_a b1 b0)))) := (hH.2 a _ ha).2
  obtain ⟨r', hr', cellV, g1, g2, g3, -⟩ := (hH.2 x _ hx).2
  have hK := hC.2.2.2.2.2.2.1
  have hcls := (hK.1 7 _ rfl).2
  obtain ⟨kA, comp, k1, k2, k3, -⟩ := (hK.2 3 _ rfl).2
  have hcomp : comp = D.1 7 := Option.some.inj (k3.symm.trans hcls.1)
  subst hcomp
  obtain ⟨kC, hkC, -⟩ := id hcls.2
  refine W.aast hC.1 hC.2.1 hcell (fun q h => by cases h) (fun h => by cases h) k1 k2 rfl hkC ⟨by have := lc_i_in hj hm; exact fun q => this (Or.inl q), by rw [arrV_size, lc_i_cl (by omega)]; omega⟩ g1 (fun q h => by rw [g3] at h; cases h) (by rw [g2]; exact hkC) (by rw [g2]; exact va_assign hcls) rfl rfl hd fun H1 e z1 oq => ?_
  refine kk b1 b0 D ar p e_ s mm args below meth c H1 _ ls hC (lc_H_put hH _ e1 ?_ z1 oq) (hS.put z1 oq (by show b0 < b0 + a; omega)) hl
  rw [arrV_store] at e
  refine e.trans (congrArg some ?_)
  show arrV (ar 3) m _ = arrV (ar 3) m (fun i => va_rf ((lc_u f j (some x) i).map (lc_a b1 b0)))
  refine lc_arr_ext _ _ _ _ fun i hi => ?_
  rw [lc_i_cl (by omega)]
  by_cases hij : (i : Int) = j
  · rw [updV, if_pos (by omega), lc_u, if_pos hij]
    show Value.ref (b0 + x) = Value.ref (lc_a b1 b0 x)
    rw [e5]
  · rw [updV, if_neg (by omega), lc_u, if_neg hij]

theorem lc_alen {a : Nat} {t : Nat} {x : vp_A} (hd : decode cc pc = .ok (.arraylength, 1)) (ha : σ a = some (.inl (t, x))) (ht : t < 4) (kk : lc_V l own cc nL ret ini R G E k z n (pc + 1) lv (.int (lc_i (x.1 : Int)) :: stk) σ) : lc_V l own cc nL ret ini R G E k z n pc lv (.ref a :: stk) σ := by
  intro b1 b0 D ar p e s m args below meth c H locs ls hC hH hS hl
  have e1 := (hH.2 a _ ha).1
  show W p l e R s m args below meth c H locs k z (G b1 b0 D ar below args s) (F0 m pc ls (.ref (lc_a b1 b0 a) :: stk.map (lc_v b1 b0)))
  rw [lc_a_p e1]
  have hty : ∃ ty, (lc_ty ar)[t]? = some (ar t, ty) := by
    rcases (show t = 0 ∨ t = 1 ∨ t = 2 ∨ t = 3 by omega) with rfl | rfl | rfl | rfl <;> exact ⟨_, rfl⟩
  obtain ⟨ty, hty⟩ := hty
  exact va_alen hC.1 hC.2.1 hC.2.2.2.2.2.2.1 (lc_H_one hH ha) 0 t rfl hty (by rw [lc_i_nat]; cases x with | mk q w => cases w with | inl w => rfl | inr w => cases w with | inl w => rfl | inr w => cases w with | inl w => rfl | inr w => cases w <;> rfl) hd (kk b1 b0 D ar p e s m args below meth c H locs ls hC hH hS hl)

theorem lc_new {idx ci : Nat} {C : String} {T : u_T} {N : Nat} {t0 : Nat → FieldType} {fs : List Value} (hd : decode cc pc = .ok (.new idx, 3)) (hcl : Cond.classLink own idx C ∈ lc_WS) (hni : Cond.instantiable C N ∈ lc_WS ∧ Cond.initialized C ∈ lc_WS) (hci : vwCl[ci]? = some (C, T, N)) (hkX : ∀ w ∈ u_ws C T N, w ∈ lc_WS) (hty : ∀ j, j < N → parseFieldDescriptor (T j).2.2.1 = some (t0 j)) (hfs : ∀ j, j < N → defaultValue (t0 j) = vp_V fs j) (hfs0 : fs.all lc_noref = true) (hn0 : 0 < n) (hc : k + 1 ≤ R.cells) (hs : z + N ≤ R.slots) (kk : lc_V l own cc nL ret ini R G E (k + 1) (z + N) (n + 1) (pc + 3) lv (.ref n :: stk) (lc_up σ n (.inr (ci, fs)))) : lc_V l own cc nL ret ini R G E k z n pc lv stk σ := by
  intro b1 b0 D ar p e s m args below meth c H locs ls hC hH hS hl
  have hK := hC.2.2.2.2.2.2.1
  have hts := hC.2.2.2.2.2.1
  have hKn := hK.1 ci _ hci
  refine W.newcK hC.1 hC.2.1 hC.2.2.2.2.1 (hts _ hcl) (hts _ hni.1) (hts _ hni.2) rfl hd hc hs hKn.2.1 rfl fun H1 kC hkC e1 z1 o1 => ?_
  have e2 : lc_a b1 b0 n = H.size := by rw [lc_a_p hn0, hH.1]
  have e3 : fs.map (lc_v b1 b0) = fs := lc_fs hfs0
  have h := kk b1 b0 D ar p e s m args below meth c H1 locs ls hC (lc_H_new hH _ hn0 (by
    refine ⟨_, hci, ?_⟩
    show t_OB (b0 + n) _ _ _ H1 (vp_V (fs.map (lc_v b1 b0)))
    rw [e3, ← hH.1]
    exact (u_born t0 hts hkX hKn hkC e1 hty).to hfs) z1 o1) ⟨Nat.le_trans hS.1 (by omega), fun x h1 h2 => (o1 x (Nat.lt_of_lt_of_le h1 hS.1)).trans (hS.2.1 x h1 h2), hS.2.2⟩ hl
  have h2 : W p l e R s m args below meth c H1 locs (k + 1) (z + N) (G b1 b0 D ar below args s) (F0 m (pc + 3) ls (.ref (lc_a b1 b0 n) :: stk.map (lc_v b1 b0))) := h
  rw [e2] at h2
  exact h2

theorem lc_newI {v : Int} (N : Nat) (hd : decode cc pc = .ok (.newarray .int, 2)) (hac : Cond.arrayClass .int ∈ lc_WS) (hv : v = N) (hN : N < 65536) (hn0 : 0 < n) (hc : k + 1 ≤ R.cells) (hs : z + N ≤ R.slots) (kk : lc_V l own cc nL ret ini R G E (k + 1) (z + N) (n + 1) (pc + 2) lv (.ref n :: stk) (lc_up σ n (lc_aI N (fun _ => 0)))) : lc_V l own cc nL ret ini R G E k z n pc lv (.int (lc_i v) :: stk) σ := by
  intro b1 b0 D ar p e s m args below meth c H locs ls hC hH hS hl
  have hK := hC.2.2.2.2.2.2.1
  have hts := hC.2.2.2.2.2.1
  subst hv
  have e2 : lc_a b1 b0 n = H.size := by rw [lc_a_p hn0, hH.1]
  show W p l e R s m args below meth c H locs k z (G b1 b0 D ar below args s) (F0 m pc ls (.int (lc_i N) :: stk.map (lc_v b1 b0)))
  refine va_newaK (atype := .int) (N := N) hC.1 hC.2.1 (hts _ hac) rfl hd rfl (fun q => by rw [← lc_i_0] at q; have := (lc_i_lt (by omega)).mp q; omega) (by rw [lc_i_cl (by omega)]; omega) (by show N * 4 ≤ 536870912; omega) hc hs rfl fun H1 cA e1 z1 o1 hAr hNm => ?_
  have ecA : cA = ar 0 := Option.some.inj (hNm.symm.trans (hK.2 0 _ rfl).2)
  subst ecA
  have h := kk b1 b0 D ar p e s m args below meth c H1 locs ls hC (lc_H_new hH _ hn0 (by
    show H1[b0 + n]? = some _
    rw [← hH.1]
    exact e1) z1 o1) ⟨Nat.le_trans hS.1 (by omega), fun x h1 h2 => (o1 x (Nat.lt_of_lt_of_le h1 hS.1)).trans (hS.2.1 x h1 h2), hS.2.2⟩ hl
  have h2 : W p l e R s m args below meth c H1 locs (k + 1) (z + N) (G b1 b0 D ar below args s) (F0 m (pc + 2) ls (.ref (lc_a b1 b0 n) :: stk.map (lc_v b1 b0))) := h
  rw [e2] at h2
  exact h2

theorem lc_newJ {v : Int} (N : Nat) (hd : decode cc pc = .ok (.newarray .long, 2)) (hac : Cond.arrayClass .long ∈ lc_WS) (hv : v = N) (hN : N < 65536) (hn0 : 0 < n) (hc : k + 1 ≤ R.cells) (hs : z + N ≤ R.slots) (kk : lc_V l own cc nL ret ini R G E (k + 1) (z + N) (n + 1) (pc + 2) lv (.ref n :: stk) (lc_up σ n (lc_aJ N (fun _ => 0)))) : lc_V l own cc nL ret ini R G E k z n pc lv (.int (lc_i v) :: stk) σ := by
  intro b1 b0 D ar p e s m args below meth c H locs ls hC hH hS hl
  have hK := hC.2.2.2.2.2.2.1
  have hts := hC.2.2.2.2.2.1
  subst hv
  have e2 : lc_a b1 b0 n = H.size := by rw [lc_a_p hn0, hH.1]
  show W p l e R s m args below meth c H locs k z (G b1 b0 D ar below args s) (F0 m pc ls (.int (lc_i N) :: stk.map (lc_v b1 b0)))
  refine va_newaK (atype := .long) (N := N) hC.1 hC.2.1 (hts _ hac) rfl hd rfl (fun q => by rw [← lc_i_0] at q; have := (lc_i_lt (by omega)).mp q; omega) (by rw [lc_i_cl (by omega)]; omega) (by show N * 8 ≤ 536870912; omega) hc hs rfl fun H1 cA e1 z1 o1 hAr hNm => ?_
  have ecA : cA = ar 1 := Option.some.inj (hNm.symm.trans (hK.2 1 _ rfl).2)
  subst ecA
  have h := kk b1 b0 D ar p e s m args below meth c H1 locs ls hC (lc_H_new hH _ hn0 (by
    show H1[b0 + n]? = some _
    rw [← hH.1]
    exact e1) z1 o1) ⟨Nat.le_trans hS.1 (by omega), fun x h1 h2 => (o1 x (Nat.lt_of_lt_of_le h1 hS.1)).trans (hS.2.1 x h1 h2), hS.2.2⟩ hl
  have h2 : W p l e R s m args below meth c H1 locs (k + 1) (z + N) (G b1 b0 D ar below args s) (F0 m (pc + 2) ls (.ref (lc_a b1 b0 n) :: stk.map (lc_v b1 b0))) := h
  rw [e2] at h2
  exact h2

theorem lc_newC {v : Int} (N : Nat) (hd : decode cc pc = .ok (.newarray .char, 2)) (hac : Cond.arrayClass .char ∈ lc_WS) (hv : v = N) (hN : N < 65536) (hn0 : 0 < n) (hc : k + 1 ≤ R.cells) (hs : z + N ≤ R.slots) (kk : lc_V l own cc nL ret ini R G E (k + 1) (z + N) (n + 1) (pc + 2) lv (.ref n :: stk) (lc_up σ n (lc_aC N (fun _ => 0)))) : lc_V l own cc nL ret ini R G E k z n pc lv (.int (lc_i v) :: stk) σ := by
  intro b1 b0 D ar p e s m args below meth c H locs ls hC hH hS hl
  have hK := hC.2.2.2.2.2.2.1
  have hts := hC.2.2.2.2.2.1
  subst hv
  have e2 : lc_a b1 b0 n = H.size := by rw [lc_a_p hn0, hH.1]
  show W p l e R s m args below meth c H locs k z (G b1 b0 D ar below args s) (F0 m pc ls (.int (lc_i N) :: stk.map (lc_v b1 b0)))
  refine va_newaK (atype := .char) (N := N) hC.1 hC.2.1 (hts _ hac) rfl hd rfl (fun q => by rw [← lc_i_0] at q; have := (lc_i_lt (by omega)).mp q; omega) (by rw [lc_i_cl (by omega)]; omega) (by show N * 2 ≤ 536870912; omega) hc hs rfl fun H1 cA e1 z1 o1 hAr hNm => ?_
  have ecA : cA = ar 2 := Option.some.inj (hNm.symm.trans (hK.2 2 _ rfl).2)
  subst ecA
  have h := kk b1 b0 D ar p e s m args below meth c H1 locs ls hC (lc_H_new hH _ hn0 (by
    show H1[b0 + n]? = some _
    rw [← hH.1]
    exact e1) z1 o1) ⟨Nat.le_trans hS.1 (by omega), fun x h1 h2 => (o1 x (Nat.lt_of_lt_of_le h1 hS.1)).trans (hS.2.1 x h1 h2), hS.2.2⟩ hl
  have h2 : W p l e R s m args below meth c H1 locs (k + 1) (z + N) (G b1 b0 D ar below args s) (F0 m (pc + 2) ls (.ref (lc_a b1 b0 n) :: stk.map (lc_v b1 b0))) := h
  rw [e2] at h2
  exact h2

theorem lc_newS {v : Int} {idx : Nat} (N : Nat) (hd : decode cc pc = .ok (.anewarray idx, 3)) (hcl : Cond.classLink own idx RX7 ∈ lc_WS) (hv : v = N) (hN : N < 65536) (hn0 : 0 < n) (hc : k + 1 ≤ R.cells) (hs : z + N ≤ R.slots) (kk : lc_V l own cc nL ret ini R G E (k + 1) (z + N) (n + 1) (pc + 3) lv (.ref n :: stk) (lc_up σ n (lc_aS N (fun _ => none)))) : lc_V l own cc nL ret ini R G E k z n pc lv (.int (lc_i v) :: stk) σ := by
  intro b1 b0 D ar p e s m args below meth c H locs ls hC hH hS hl
  have hK := hC.2.2.2.2.2.2.1
  have hts := hC.2.2.2.2.2.1
  have hX := hC.2.2.2.2.2.2.2.2.2.2.1
  subst hv
  have e2 : lc_a b1 b0 n = H.size := by rw [lc_a_p hn0, hH.1]
  have eN : (lc_i (N : Int)).toNatClampNeg = N := by rw [lc_i_cl (by omega)]; omega
  show W p l e R s m args below meth c H locs k z (G b1 b0 D ar below args s) (F0 m pc ls (.int (lc_i N) :: stk.map (lc_v b1 b0)))
  refine W.anew hC.1 hC.2.1 hC.2.2.2.2.1 (hts _ hcl) (va_AO.use hX.2.2.2) rfl hd rfl (fun q => by rw [← lc_i_0] at q; have := (lc_i_lt (by omega)).mp q; omega) (by rw [eN]; omega) hc (by rw [eN]; exact hs) fun cA kA comp f1 f2 f3 f4 => ?_
  have ecA : cA = ar 3 := by
    obtain ⟨_, _, _, _, _, g⟩ := (hK.2 3 _ rfl).2
    exact Option.some.inj (f1.symm.trans g)
  subst ecA
  rw [eN]
  generalize hH1 : H.push ({ cls := ar 3, slots := Array.replicate N .null, vm := .none } : Cell) = H1
  have z1 : H1.size = H.size + 1 := by rw [← hH1, Array.size_push]
  have e1 : H1[H.size]? = some (arrV (ar 3) N (fun _ => .null)) := by rw [← hH1, Array.getElem?_push_size, ← arrV_new]
  have o1 : ∀ q : Nat, q < H.size → H1[q]? = H[q]? := fun q hq => by rw [← hH1, Array.getElem?_push, if_neg (Nat.ne_of_lt hq)]
  have h := kk b1 b0 D ar p e s m args below meth c H1 locs ls hC (lc_H_new hH _ hn0 (by
    show H1[b0 + n]? = some _
    rw [← hH.1]
    exact e1) z1 o1) ⟨Nat.le_trans hS.1 (by omega), fun x h1 h2 => (o1 x (Nat.lt_of_lt_of_le h1 hS.1)).trans (hS.2.1 x h1 h2), hS.2.2⟩ hl
  have h2 : W p l e R s m args below meth c H1 locs (k + 1) (z + N) (G b1 b0 D ar below args s) (F0 m (pc + 3) ls (.ref (lc_a b1 b0 n) :: stk.map (lc_v b1 b0))) := h
  rw [e2] at h2
  exact h2

theorem lc_objInit {b idx : Nat} (hd : decode cc pc = .ok (.invokespecial idx, 3)) (hm : Cond.methodLink own idx objectInit ∈ lc_WS) (hb : 0 < b) (hR : 1 ≤ R.frames ∧ (stk.map (fun v => v.category)).sum + 12 ≤ R.locals) (kk : lc_V l own cc nL ret ini R G E k z n (pc + 3) lv stk σ) : lc_V l own cc nL ret ini R G E k z n pc lv (.ref b :: stk) σ := by
  intro b1 b0 D ar p e s m args below meth c H locs ls hC hH hS hl
  have hts := hC.2.2.2.2.2.1
  show W p l e R s m args below meth c H locs k z (G b1 b0 D ar below args s) (F0 m pc ls (.ref (lc_a b1 b0 b) :: stk.map (lc_v b1 b0)))
  refine W.objInit hC.1 hC.2.1 hC.2.2.2.2.1 (hts _ hm) (hts _ lc_obj.1) (hts _ lc_obj.2) rfl (by rw [hC.2.2.2.1]; exact hl.1) rfl hd hR.1 (by rw [lc_cats]; show 2 * 0 + _ + 12 ≤ _; omega) ?_
  exact kk b1 b0 D ar p e s m args below meth c H locs ls hC hH hS hl

theorem lc_after {p : Program} {e : Env} {s : State} {m : MethodId} {args : Array Value} {below : List Frame} {meth : Method} {c : Code} {H : Heap} {locs : List Loc} {ls : Array Slot} {mc ms b1 b0 : Nat} {D : va_G} {ar : Nat → ClassId} {Q' : lc_QT} {a : Array Value} {free : Addr → Prop} {rest st0 : List Value} {Qw : State → Prop} (hr : va_Run p l e R s m args below meth c H locs k z mc ms (F0 m pc ls st0) rest (lc_Q b1 b0 D ar Q' a) free) (hS : va_S (fun q => b0 < q) s.heap H locs) (hf : ∀ q, free q → b0 < q)
    (kk : ∀ (v : Option Value) (n' : Nat) (σ' : lc_S) (H1 : Heap) (locs1 : List Loc), Q' v n' σ' → lc_H b1 b0 n' D ar σ' H1 → va_S (fun q => b0 < q) s.heap H1 locs1 → W p l e R s m args below meth c H1 locs1 (k + mc) (z + ms) Qw (F0 m (pc + 3) ls ((v.map (lc_v b1 b0)).toList ++ rest))) : W p l e R s m args below meth c H locs k z Qw (F0 m pc ls st0) := by
  intro T hT X
  obtain ⟨v, st₀, t, T', L, h0, X', hL, e1, e2, ⟨⟨v', n', σ', hv, hq, hH'⟩, hz, hk⟩, st⟩ := hr T hT X
  cases hv
  rw [h0] at hz hk
  obtain ⟨t2, a1, b1'⟩ := kk v' n' σ' T'.heap (locs ++ L) hq (by rw [e1]; exact hH')
    ⟨Nat.le_trans hS.1 (by rw [e1]; exact hz), fun q h1 h2 => by rw [e1, hk q (Nat.lt_of_lt_of_le h1 hS.1) h2]; exact hS.2.1 q h1 h2, fun q hq => by
      rcases List.mem_append.mp hq with h | h
      · exact hS.2.2 q h
      · exact hf _ (hL q h)⟩ T' rfl X'
  exact ⟨t2, st t2 a1, b1'⟩

theorem lc_callV {y : MethodName} {cc' : ByteArray} {nL' : Nat} {ret' : Option FieldType} {R' : Room} {idx na : Nat} {As : List Value} {Q' : lc_QT} {b ci : Nat} {vs : List Value} (hd : decode cc pc = .ok (.invokevirtual idx, 3)) (hm : Cond.methodLink own idx y ∈ lc_WS) (hY : lc_YV y cc' nL' ret' na) (hb : σ b = some (.inr (ci, vs))) (hci : (vwCl[ci]?).map (fun q => q.1) = some y.cls) (hcon : lc_Con l y cc' nL' ret' R' (.ref b :: As) n σ Q') (hn : As.length = na) (hR : R'.frames + 1 ≤ R.frames ∧ 8 + (nL' + 11) + R'.locals ≤ R.locals) (hal : k + R'.cells ≤ R.cells ∧ z + R'.slots ≤ R.slots) {stk0 : List Value} (hst : stk0 = As.reverse ++ .ref b :: stk) (hcat : (stk.map (fun v => v.category)).sum ≤ 8) (kk : ∀ (v : Option Value) (n' : Nat) (σ' : lc_S), Q' v n' σ' → lc_V l own cc nL ret ini R G E (k + R'.cells) (z + R'.slots) n' (pc + 3) lv (v.toList ++ stk) σ') : lc_V l own cc nL ret ini R G E k z n pc lv stk0 σ := by
  subst hst
  intro b1 b0 D ar p e s m args below meth c H locs ls hC hH hS hl
  have hts := hC.2.2.2.2.2.1
  have e1 := (hH.2 b _ hb).1
  have ea := lc_a_p (b := b1) (b0 := b0) e1
  obtain ⟨r, hr1, cell, g1, g2, g3, -⟩ := (hH.2 b _ hb).2
  have hcls : s.vm.findClass y.cls = some cell.cls := by
    rw [hr1] at hci
    have e2 : r.1 = y.cls := Option.some.inj hci
    rw [g2, ← e2]
    exact (hC.2.2.2.2.2.2.1.1 ci r hr1).2.1
  have hM := hcon b1 b0 D ar
  have eav : (Value.ref b :: As).map (lc_v b1 b0) = .ref (b0 + b) :: As.map (lc_v b1 b0) := by
    show Value.ref (lc_a b1 b0 b) :: _ = _
    rw [ea]
  rw [eav] at hM
  refine lc_after (va_runV (C := y.cls) (As := As.map (lc_v b1 b0)) (rest := stk.map (lc_v b1 b0)) (b := b0 + b) ⟨hC.1, hC.2.1, hC.2.2.2.1, hC.2.2.2.2.1, hts⟩ hM (cwV na hts (lc_goodV hm hY) rfl rfl rfl ⟨rfl, hY.2.2.2.2⟩ hR) ⟨fun a U g mk q => by obtain ⟨q0, q1, q2, q3, q4⟩ := q; exact ⟨q0, q1, q2, va_K.moved (u := U) (U := U.calling g mk a) (Vm.Alike.refl U.vm) q3, lc_X_same (u := U) (U := U.calling g mk a) rfl q4⟩, ⟨cell, g1, by rw [g3]; rfl, hcls⟩, fun U hU hW => ⟨rfl, by rw [hU]; exact Nat.lt_of_lt_of_le hC.2.2.2.2.2.2.2.2.1 hS.1, by rw [hU]; exact hH, va_K.moved hW.alike hC.2.2.2.2.2.2.1, lc_X_warm hW hC.2.2.2.2.2.2.2.2.2.2.1⟩⟩ rfl ((List.length_map _).trans hn) hl.1 (by
    show (As.reverse ++ .ref b :: stk).map (lc_v b1 b0) = _
    rw [List.map_append, List.map_reverse, List.map_cons]
    show _ ++ Value.ref (lc_a b1 b0 b) :: _ = _
    rw [ea]) (by rw [lc_cats]; show 2 * 0 + _ ≤ 8; omega) hd hal) hS (fun q h => h) (fun v n' σ' H1 locs1 hq hH1 hS1 => ?_)
  have h := kk v n' σ' hq b1 b0 D ar p e s m args below meth c H1 locs1 ls hC hH1 hS1 hl
  have e9 : (v.toList ++ stk).map (lc_v b1 b0) = (v.map (lc_v b1 b0)).toList ++ stk.map (lc_v b1 b0) := by cases v <;> rfl
  rw [e9] at h
  exact h

theorem lc_callS {y : MethodName} {cc' : ByteArray} {nL' : Nat} {ret' : Option FieldType} {R' : Room} {idx na : Nat} {As : List Value} {Q' : lc_QT} (hd : decode cc pc = .ok (.invokestatic idx, 3)) (hm : Cond.methodLink own idx y ∈ lc_WS) (hY : lc_YS y cc' nL' ret' na) (hcon : lc_Con l y cc' nL' ret' R' As n σ Q') (hn : As.length = na) (hR : R'.frames + 1 ≤ R.frames ∧ 8 + (nL' + 11) + R'.locals ≤ R.locals) (hal : k + R'.cells ≤ R.cells ∧ z + R'.slots ≤ R.slots) {stk0 : List Value} (hst : stk0 = As.reverse ++ stk) (hcat : (stk.map (fun v => v.category)).sum ≤ 8) (kk : ∀ (v : Option Value) (n' : Nat) (σ' : lc_S), Q' v n' σ' → lc_V l own cc nL ret ini R G E (k + R'.cells) (z + R'.slots) n' (pc + 3) lv (v.toList ++ stk) σ') : lc_V l own cc nL ret ini R G E k z n pc lv stk0 σ := by
  subst hst
  intro b1 b0 D ar p e s m args below meth c H locs ls hC hH hS hl
  have hts := hC.2.2.2.2.2.1
  have hM := hcon b1 b0 D ar
  refine lc_after (va_runS (As := As.map (lc_v b1 b0)) (rest := stk.map (lc_v b1 b0)) ⟨hC.1, hC.2.1, hC.2.2.2.1, hC.2.2.2.2.1, hts⟩ hM (va_cwS na hts (lc_goodS hm hY) rfl rfl rfl hY.2.2.2 hR) ⟨fun a U g mk q => by obtain ⟨q0, q1, q2, q3, q4⟩ := q; exact ⟨q0, q1, q2, va_K.moved (u := U) (U := U.calling g mk a) (Vm.Alike.refl U.vm) q3, lc_X_same (u := U) (U := U.calling g mk a) rfl q4⟩, fun U hU hW => ⟨rfl, by rw [hU]; exact Nat.lt_of_lt_of_le hC.2.2.2.2.2.2.2.2.1 hS.1, by rw [hU]; exact hH, va_K.moved hW.alike hC.2.2.2.2.2.2.1, lc_X_warm hW hC.2.2.2.2.2.2.2.2.2.2.1⟩⟩ rfl ((List.length_map _).trans hn) hl.1 (by
    show (As.reverse ++ stk).map (lc_v b1 b0) = _
    rw [List.map_append, List.map_reverse]) (by rw [lc_cats]; show 2 * 0 + _ ≤ 8; omega) hd hal) hS (fun q h => h) (fun v n' σ' H1 locs1 hq hH1 hS1 => ?_)
  have h := kk v n' σ' hq b1 b0 D ar p e s m args below meth c H1 locs1 ls hC hH1 hS1 hl
  have e9 : (v.toList ++ stk).map (lc_v b1 b0) = (v.map (lc_v b1 b0)).toList ++ stk.map (lc_v b1 b0) := by cases v <;> rfl
  rw [e9] at h
  exact h

theorem lc_callI {y : MethodName} {cc' : ByteArray} {nL' : Nat} {R' : Room} {idx na : Nat} {As : List Value} {Q' : lc_QT} {b : Nat} (hd : decode cc pc = .ok (.invokespecial idx, 3)) (hm : Cond.methodLink own idx y ∈ lc_WS) (hY : lc_YI y cc' nL' na) (hb : 0 < b) (hcon : lc_Con l y cc' nL' none R' (.ref b :: As) n σ Q') (hn : As.length = na) (hR : R'.frames + 1 ≤ R.frames ∧ 8 + (nL' + 11) + R'.locals ≤ R.locals) (hal : k + R'.cells ≤ R.cells ∧ z + R'.slots ≤ R.slots) {stk0 : List Value} (hst : stk0 = As.reverse ++ .ref b :: stk) (hcat : (stk.map (fun v => v.category)).sum ≤ 8) (kk : ∀ (v : Option Value) (n' : Nat) (σ' : lc_S), Q' v n' σ' → lc_V l own cc nL ret ini R G E (k + R'.cells) (z + R'.slots) n' (pc + 3) lv (v.toList ++ stk) σ') : lc_V l own cc nL ret ini R G E k z n pc lv stk0 σ := by
  subst hst
  intro b1 b0 D ar p e s m args below meth c H locs ls hC hH hS hl
  have hts := hC.2.2.2.2.2.1
  have ea := lc_a_p (b := b1) (b0 := b0) hb
  have hM := hcon b1 b0 D ar
  have eav : (Value.ref b :: As).map (lc_v b1 b0) = .ref (b0 + b) :: As.map (lc_v b1 b0) := by
    show Value.ref (lc_a b1 b0 b) :: _ = _
    rw [ea]
  rw [eav] at hM
  refine lc_after (va_runI (As := As.map (lc_v b1 b0)) (rest := stk.map (lc_v b1 b0)) (b := b0 + b) ⟨hC.1, hC.2.1, hC.2.2.2.1, hC.2.2.2.2.1, hts⟩ hM (cwI na hts (lc_goodI hY) rfl rfl rfl (hts _ hY.2.2.1) (hts _ hm) (hts _ hY.2.1) hY.1 hY.2.2.2.2 hR) ⟨fun a U g mk q => by obtain ⟨q0, q1, q2, q3, q4⟩ := q; exact ⟨q0, q1, q2, va_K.moved (u := U) (U := U.calling g mk a) (Vm.Alike.refl U.vm) q3, lc_X_same (u := U) (U := U.calling g mk a) rfl q4⟩, fun U hU hW => ⟨rfl, by rw [hU]; exact Nat.lt_of_lt_of_le hC.2.2.2.2.2.2.2.2.1 hS.1, by rw [hU]; exact hH, va_K.moved hW.alike hC.2.2.2.2.2.2.1, lc_X_warm hW hC.2.2.2.2.2.2.2.2.2.2.1⟩⟩ rfl ((List.length_map _).trans hn) hl.1 (by
    show (As.reverse ++ .ref b :: stk).map (lc_v b1 b0) = _
    rw [List.map_append, List.map_reverse, List.map_cons]
    show _ ++ Value.ref (lc_a b1 b0 b) :: _ = _
    rw [ea]) (by rw [lc_cats]; show 2 * 0 + _ ≤ 8; omega) hd hal) hS (fun q h => h) (fun v n' σ' H1 locs1 hq hH1 hS1 => ?_)
  have h := kk v n' σ' hq b1 b0 D ar p e s m args below meth c H1 locs1 ls hC hH1 hS1 hl
  have e9 : (v.toList ++ stk).map (lc_v b1 b0) = (v.map (lc_v b1 b0)).toList ++ stk.map (lc_v b1 b0) := by cases v <;> rfl
  rw [e9] at h
  exact h

theorem lc_callIN {y : MethodName} {cc' : ByteArray} {nL' : Nat} {R' : Room} {idx na : Nat} {As : List Value} {Q' : lc_QT} {b : Nat} (hd : decode cc pc = .ok (.invokespecial idx, 3)) {host : String} (hm : ∀ U : State, lc_X U → va_Nw (.methodLinkNest own idx y host) U) (hY : lc_YI y cc' nL' na) (hb : 0 < b) (hcon : lc_Con l y cc' nL' none R' (.ref b :: As) n σ Q') (hn : As.length = na) (hR : R'.frames + 1 ≤ R.frames ∧ 8 + (nL' + 11) + R'.locals ≤ R.locals) (hal : k + R'.cells ≤ R.cells ∧ z + R'.slots ≤ R.slots) {stk0 : List Value} (hst : stk0 = As.reverse ++ .ref b :: stk) (hcat : (stk.map (fun v => v.category)).sum ≤ 8) (kk : ∀ (v : Option Value) (n' : Nat) (σ' : lc_S), Q' v n' σ' → lc_V l own cc nL ret ini R G E (k + R'.cells) (z + R'.slots) n' (pc + 3) lv (v.toList ++ stk) σ') : lc_V l own cc nL ret ini R G E k z n pc lv stk0 σ := by
  subst hst
  intro b1 b0 D ar p e s m args below meth c H locs ls hC hH hS hl
  have hts := hC.2.2.2.2.2.1
  have ea := lc_a_p (b := b1) (b0 := b0) hb
  have hM := hcon b1 b0 D ar
  have eav : (Value.ref b :: As).map (lc_v b1 b0) = .ref (b0 + b) :: As.map (lc_v b1 b0) := by
    show Value.ref (lc_a b1 b0 b) :: _ = _
    rw [ea]
  rw [eav] at hM
  refine lc_after (va_runIN (As := As.map (lc_v b1 b0)) (rest := stk.map (lc_v b1 b0)) (b := b0 + b) ⟨hC.1, hC.2.1, hC.2.2.2.1, hC.2.2.2.2.1, hts⟩ hM ⟨va_cnB na hts (lc_goodI hY) rfl rfl rfl (hm s hC.2.2.2.2.2.2.2.2.2.2.1) (hts _ hY.2.2.1) hY.2.2.2.2 hR, hY.1, hts _ hY.2.1⟩ ⟨fun a U g mk q => by obtain ⟨q0, q1, q2, q3, q4⟩ := q; exact ⟨q0, q1, q2, va_K.moved (u := U) (U := U.calling g mk a) (Vm.Alike.refl U.vm) q3, lc_X_same (u := U) (U := U.calling g mk a) rfl q4⟩, fun U hU hW => ⟨rfl, by rw [hU]; exact Nat.lt_of_lt_of_le hC.2.2.2.2.2.2.2.2.1 hS.1, by rw [hU]; exact hH, va_K.moved hW.alike hC.2.2.2.2.2.2.1, lc_X_warm hW hC.2.2.2.2.2.2.2.2.2.2.1⟩⟩ rfl ((List.length_map _).trans hn) hl.1 (by
    show (As.reverse ++ .ref b :: stk).map (lc_v b1 b0) = _
    rw [List.map_append, List.map_reverse, List.map_cons]
    show _ ++ Value.ref (lc_a b1 b0 b) :: _ = _
    rw [ea]) (by rw [lc_cats]; show 2 * 0 + _ ≤ 8; omega) hd hal) hS (fun q h => h) (fun v n' σ' H1 locs1 hq hH1 hS1 => ?_)
  have h := kk v n' σ' hq b1 b0 D ar p e s m args below meth c H1 locs1 ls hC hH1 hS1 hl
  have e9 : (v.toList ++ stk).map (lc_v b1 b0) = (v.map (lc_v b1 b0)).toList ++ stk.map (lc_v b1 b0) := by cases v <;> rfl
  rw [e9] at h
  exact h

theorem lc_mmax {x y : Int} {idx : Nat} (hd : decode cc pc = .ok (.invokestatic idx, 3)) (hm : Cond.methodLink own idx Lib.Math.max.name ∈ lc_WS) (hr : -2147483648 ≤ x ∧ x < 2147483648 ∧ -2147483648 ≤ y ∧ y < 2147483648) (hR : 1 ≤ R.frames ∧ (stk.map (fun v => v.category)).sum + 13 ≤ R.locals ∧ k ≤ R.cells ∧ z ≤ R.slots) (kk : lc_V l own cc nL ret ini R G E k z n (pc + 3) lv (.int (lc_i (if x < y then y else x)) :: stk) σ) : lc_V l own cc nL ret ini R G E k z n pc lv (.int (lc_i y) :: .int (lc_i x) :: stk) σ := by
  intro b1 b0 D ar p e s m args below meth c H locs ls hC hH hS hl
  show W p l e R s m args below meth c H locs k z (G b1 b0 D ar below args s) (F0 m pc ls (.int (lc_i y) :: .int (lc_i x) :: stk.map (lc_v b1 b0)))
  have hts := hC.2.2.2.2.2.1
  refine va_mmax hC.1 hC.2.1 (hC.2.2.2.1.trans hl.1.symm) hC.2.2.2.2.1 (hts _ hm) (hts _ lc_math_max.1) (hts _ lc_math_max.2.1) (hts _ lc_math_max.2.2) hR.1 (by rw [lc_cats]; exact hR.2.1) hR.2.2.1 hR.2.2.2 hd ?_
  have e8 : (if lc_i x < lc_i y then lc_i y else lc_i x) = lc_i (if x < y then y else x) := by
    by_cases h : x < y
    · rw [if_pos ((lc_i_lt hr).mpr h), if_pos h]
    · rw [if_neg (fun q => h ((lc_i_lt hr).mp q)), if_neg h]
  rw [e8]
  exact kk b1 b0 D ar p e s m args below meth c H locs ls hC hH hS hl

theorem lc_mmin {x y : Int} {idx : Nat} (hd : decode cc pc = .ok (.invokestatic idx, 3)) (hm : Cond.methodLink own idx Lib.Math.min.name ∈ lc_WS) (hr : -2147483648 ≤ x ∧ x < 2147483648 ∧ -2147483648 ≤ y ∧ y < 2147483648) (hR : 1 ≤ R.frames ∧ (stk.map (fun v => v.category)).sum + 13 ≤ R.locals ∧ k ≤ R.cells ∧ z ≤ R.slots) (kk : lc_V l own cc nL ret ini R G E k z n (pc + 3) lv (.int (lc_i (if y < x then y else x)) :: stk) σ) : lc_V l own cc nL ret ini R G E k z n pc lv (.int (lc_i y) :: .int (lc_i x) :: stk) σ := by
  intro b1 b0 D ar p e s m args below meth c H locs ls hC hH hS hl
  show W p l e R s m args below meth c H locs k z (G b1 b0 D ar below args s) (F0 m pc ls (.int (lc_i y) :: .int (lc_i x) :: stk.map (lc_v b1 b0)))
  have hts := hC.2.2.2.2.2.1
  refine va_mmin hC.1 hC.2.1 (hC.2.2.2.1.trans hl.1.symm) hC.2.2.2.2.1 (hts _ hm) (hts _ lc_math_min.1) (hts _ lc_math_min.2.1) (hts _ lc_math_min.2.2) hR.1 (by rw [lc_cats]; exact hR.2.1) hR.2.2.1 hR.2.2.2 hd ?_
  have e8 : (if lc_i y < lc_i x then lc_i y else lc_i x) = lc_i (if y < x then y else x) := by
    by_cases h : y < x
    · rw [if_pos ((lc_i_lt (lc_sw hr)).mpr h), if_pos h]
    · rw [if_neg (fun q => h ((lc_i_lt (lc_sw hr)).mp q)), if_neg h]
  rw [e8]
  exact kk b1 b0 D ar p e s m args below meth c H locs ls hC hH hS hl

theorem lc_mabs {x : Int} {idx : Nat} (hd : decode cc pc = .ok (.invokestatic idx, 3)) (hm : Cond.methodLink own idx Lib.Math.abs.name ∈ lc_WS) (hr : -2147483648 ≤ x ∧ x < 2147483648) (hR : 1 ≤ R.frames ∧ (stk.map (fun v => v.category)).sum + 13 ≤ R.locals ∧ k ≤ R.cells ∧ z ≤ R.slots) (kk : lc_V l own cc nL ret ini R G E k z n (pc + 3) lv (.int (lc_i (if 0 ≤ x then x else 0 - x)) :: stk) σ) : lc_V l own cc nL ret ini R G E k z n pc lv (.int (lc_i x) :: stk) σ := by
  intro b1 b0 D ar p e s m args below meth c H locs ls hC hH hS hl
  show W p l e R s m args below meth c H locs k z (G b1 b0 D ar below args s) (F0 m pc ls (.int (lc_i x) :: stk.map (lc_v b1 b0)))
  have hts := hC.2.2.2.2.2.1
  refine va_mabs hC.1 hC.2.1 (hC.2.2.2.1.trans hl.1.symm) hC.2.2.2.2.1 (hts _ hm) (hts _ lc_math_abs.1) (hts _ lc_math_abs.2.1) (hts _ lc_math_abs.2.2) hR.1 (by rw [lc_cats]; exact hR.2.1) hR.2.2.1 hR.2.2.2 hd ?_
  have e8 : (if 0 ≤ lc_i x then lc_i x else 0 - lc_i x) = lc_i (if 0 ≤ x then x else 0 - x) := by
    rw [← lc_i_0]
    by_cases h : 0 ≤ x
    · rw [if_pos ((lc_i_le (lc_sw (lc_r0 hr))).mpr h), if_pos h]
    · rw [if_neg (fun q => h ((lc_i_le (lc_sw (lc_r0 hr))).mp q)), if_neg h, ← lc_i_sub]
  rw [e8]
  exact kk b1 b0 D ar p e s m args below meth c H locs ls hC hH hS hl

end LcRows
