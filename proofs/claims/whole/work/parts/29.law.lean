/-! THE CLAIM OUT OF ONE WALK OF THE LAW'S BODY. Your part is whole_start (and what it stands on); all else here is the same for every law, but numbers. -/
def R_law : String := "LoopCapturesLaw"
def lw_P (b : Addr) (xs : List Int32) (args : Array Value) (s : State) : Prop := args = #[.ref b] ∧ s.IntsAt b xs ∧ xs.length ≤ 2048 ∧ (Jvm.Cond.and given_1 narrow_1).before args s = true
def lw_Q (_ : Array Value) (s : State) (o : Outcome) (t : State) : Prop := o = .returned (some (.int 1)) ∧ Framed s o t [] 600000 7302250
def lw_Z (below : List Frame) (a : Array Value) (s : State) : State → Prop := fun t => ∃ o, t.status = .running ∧ Ended t below o ∧ lw_Q a s o t
/-- the law's own end, with 1 on the stack, nothing written that was there before, its room as the claim has it -/
theorem lw_ret {p : Program} {l : Launch} {e : Env} {s : State} {m : MethodId} {below : List Frame} {meth : Method} {c : Code} {b : Nat} (hx : p.tables.exec = Jvm.exec) (hb : c.code = code) (hr : meth.sig.returnType = ret) (hlocks : meth.locks = false) {pc : Nat} {H : Heap} {ls : Array Slot} (hdg : decode code pc = .ok (.ireturn, 1)) : W p l e room_1 s m #[Value.ref b] below meth c H [] 600000 7302250 (lw_Z below #[Value.ref b] s) (F0 m pc ls [.int 1]) := by
  intro T hT X
  obtain ⟨fs, hret, hrun, hended, hW, hframe⟩ := X.leave (v := some (.int 1)) (hlocks := hlocks) (fun h => by rw [hr] at h; cases h)
  have hmeth' : T.vm.method? m = some meth := X.method'
  refine ⟨T.setFrames fs, ?_, .returned (some (.int 1)), hrun, hended, rfl, ⟨_, rfl⟩, hW, hframe⟩
  jvm_step X.here [X.here.top, hx, hb, hdg, hmeth', hr, ret, narrow_b1]
  (try refine ⟨rfl, ?_⟩); (try refine ⟨rfl, ?_⟩)
  first | (intro acts; rw [hret _ acts rfl rfl rfl]) | rw [hret _ _ rfl rfl rfl]
  exact Steps.refl _
/-- what holds at the law's entry: the machine, the code, the tables' words (any of lw_tbl by 'hts w (by decide +kernel)'), the script of L ints xs at the cell b, what the Statement gives of the start (any of its parts by flat_of_before) -/
def lw_At (p : Program) (s : State) (m : MethodId) (meth : Method) (c : Code) (b L : Nat) (xs : Nat → Int32) : Prop :=
  p.tables.exec = Jvm.exec ∧ c.code = code ∧ meth.sig.returnType = ret ∧ c.maxLocals = 4 ∧ s.vm.findClass R_law = some m.cls ∧ (∀ w ∈ lw_tbl, w.before #[Value.ref b] s = true) ∧ va_X b L xs s s.heap ∧ b < s.heap.size ∧ meth.locks = false ∧ (Jvm.Cond.and given_1 narrow_1).before #[Value.ref b] s = true

/-! the law as a method over the store -/
def lc_sx (xs : Nat → Int32) (j : Int) : Int := (xs j.toNat).toInt
theorem lc_t_r (x : Int32) : -2147483648 ≤ x.toInt ∧ x.toInt < 2147483648 := by
  have h1 := Int32.minValue_le_toInt x
  have h2 := Int32.toInt_le x
  have e1 : Int32.minValue.toInt = -2147483648 := by decide
  have e2 : Int32.maxValue.toInt = 2147483647 := by decide
  omega
theorem lc_sx_r (xs : Nat → Int32) (j : Int) : -2147483648 ≤ lc_sx xs j ∧ lc_sx xs j < 2147483648 := lc_t_r _
/-- the char of an int -/
def lc_ch (x : Int32) : Int := ((x.toUInt32 % 65536).toInt32).toInt
theorem lc_ch_r (x : Int32) : 0 ≤ lc_ch x ∧ lc_ch x < 65536 := by
  have h1 : (x.toUInt32 % 65536).toNat < 65536 := by
    rw [UInt32.toNat_mod]
    exact Nat.mod_lt _ (by decide)
  have h2 : ((x.toUInt32 % 65536).toInt32).toInt = ((x.toUInt32 % 65536).toNat : Int) := by
    show (x.toUInt32 % 65536).toBitVec.toInt = _
    rw [BitVec.toInt_eq_toNat_of_lt (by
      show 2 * (x.toUInt32 % 65536).toNat < 2 ^ 32
      omega)]
    rfl
  unfold lc_ch
  rw [h2]
  omega
def lc_EL (L : Nat) (xs : Nat → Int32) : lc_ET := fun b b0 args s => args = #[.ref b] ∧ va_X b L xs s s.heap ∧ b < s.heap.size ∧ s.heap.size = b0 + 1
def lc_GL : lc_GT := fun b _ _ _ below _ s => lw_Z below #[Value.ref b] s
section LcLaw
variable {l : Launch} {own : String} {cc : ByteArray} {nL : Nat} {ret : Option FieldType} {ini : Bool} {R : Room} {G : lc_GT} {k z n pc : Nat} {lv : List (Nat × Value)} {stk : List Value} {σ : lc_S} {L : Nat} {xs : Nat → Int32}
theorem lc_sld {j : Int} (hd : decode cc pc = .ok (.iaload, 1)) (hj : 0 ≤ j ∧ j < L) (hL : L < 2147483648) (kk : lc_V l own cc nL ret ini R G (lc_EL L xs) k z n (pc + 1) lv (.int (lc_i (lc_sx xs j)) :: stk) σ) : lc_V l own cc nL ret ini R G (lc_EL L xs) k z n pc lv (.int (lc_i j) :: .ref 0 :: stk) σ := by
  intro b1 b0 D ar p e s m args below meth c H locs ls hC hH hS hl
  obtain ⟨hE1, hE2, hE3, hE4⟩ := hC.2.2.2.2.2.2.2.2.2.2.2
  show W p l e R s m args below meth c H locs k z (G b1 b0 D ar below args s) (F0 m pc ls (.int (lc_i j) :: .ref b1 :: stk.map (lc_v b1 b0)))
  refine va_sld hC.1 hC.2.1 hE2 hE3 (show ¬ b0 < b1 by omega) hS (lc_i_in hj hL) hd ?_
  have e9 : xs (lc_i j).toNatClampNeg = lc_i (lc_sx xs j) := by
    rw [lc_i_cl (by omega)]
    exact (lc_i_of _).symm
  rw [e9]
  exact kk b1 b0 D ar p e s m args below meth c H locs ls hC hH hS hl
theorem lc_slen (hd : decode cc pc = .ok (.arraylength, 1)) (kk : lc_V l own cc nL ret ini R G (lc_EL L xs) k z n (pc + 1) lv (.int (lc_i (L : Int)) :: stk) σ) : lc_V l own cc nL ret ini R G (lc_EL L xs) k z n pc lv (.ref 0 :: stk) σ := by
  intro b1 b0 D ar p e s m args below meth c H locs ls hC hH hS hl
  obtain ⟨hE1, hE2, hE3, hE4⟩ := hC.2.2.2.2.2.2.2.2.2.2.2
  show W p l e R s m args below meth c H locs k z (G b1 b0 D ar below args s) (F0 m pc ls (.ref b1 :: stk.map (lc_v b1 b0)))
  refine va_slen hC.1 hC.2.1 hE2 hE3 (show ¬ b0 < b1 by omega) hS hd ?_
  rw [← lc_i_nat]
  exact kk b1 b0 D ar p e s m args below meth c H locs ls hC hH hS hl
end LcLaw
theorem lc_lret9 {l : Launch} {k z n : Nat} {lv : List (Nat × Value)} {σ : lc_S} {L : Nat} {xs : Nat → Int32} (hk : k ≤ 600000) (hz : z ≤ 7302250) : lc_V l RL cL_law 4 (some .boolean) false room_1 lc_GL (lc_EL L xs) k z n 687 lv [.int (lc_i 1)] σ := by
  intro b1 b0 D ar p e s m args below meth c H locs ls hC hH hS hl
  obtain ⟨hE1, hE2, hE3, hE4⟩ := hC.2.2.2.2.2.2.2.2.2.2.2
  subst hE1
  refine va_forget (fun q hq => by have := hS.2.2 q hq; omega) ?_
  refine W.widen hk hz ?_
  exact lw_ret hC.1 hC.2.1 hC.2.2.1 hC.2.2.2.2.2.2.2.1 dL_law_687

set_option maxRecDepth 100000 in
set_option maxHeartbeats 8000000 in
theorem lc_lawloop (l : Launch) {L : Nat} {xs : Nat → Int32} (hL : L ≤ 2048) : ∀ (F : Nat) (i : Int) (A : lc_Ab) (σ : lc_S), (0 ≤ i) → (i ≤ 2052) → (lc_CI σ A) → (lc_MI σ A) → (lc_wf A) → 2100 - i < (F : Int) → lc_V l RL cL_law 4 (some .boolean) false room_1 lc_GL (lc_EL L xs) 57 4233 58 18 [(0, .ref (0)), (1, .ref (1)), (2, .ref (50)), (3, .int (lc_i (i)))] [] σ := by
  intro F
  induction F with
  | zero =>
    intro i A σ h0 h1 hCI hMI hw hm
    exact absurd hm (by omega)
  | succ F ih =>
    intro i A σ h0 h1 hCI hMI hw hm
    obtain ⟨⟨f, s, q, m, mo, ca, ct, po⟩, P, H, k, tx, z, bs, bt, sn, sr⟩ := A
    obtain ⟨vs1, hv1⟩ := lc_CI_1 hCI
    refine lc_iload_n dL_law_18 rfl 3 rfl ?_
    refine lc_aload_n dL_law_19 rfl 0 rfl ?_
    refine lc_slen dL_law_20 ?_
    refine lc_iconst dL_law_21 ?_
    refine lc_isub dL_law_22 ?_
    refine lc_icmp_gt (tgt := 686) dL_law_23 (by decide) (by omega) (fun h_23_0 => ?_) (fun h_23_0 => ?_)
    · skip
      refine lc_iconst dL_law_686 ?_
      exact lc_lret9 (Nat.le_of_ble_eq_true rfl) (Nat.le_of_ble_eq_true rfl)
    · skip
      refine lc_aload_n dL_law_26 rfl 0 rfl ?_
      refine lc_iload_n dL_law_27 rfl 3 rfl ?_
      refine lc_sld dL_law_28 (by omega) (by omega) ?_
      refine lc_bipush dL_law_29 (by decide) ?_
      refine lc_iand dL_law_31 ?_
      obtain ⟨v9, hv9⟩ : ∃ v9 : Int, v9 = (((lc_i (lc_sx xs (i))) &&& (lc_i (31))) : Int32).toInt := ⟨_, rfl⟩
      have hr9 := lc_t_r (((lc_i (lc_sx xs (i))) &&& (lc_i (31))) : Int32)
      rw [← hv9] at hr9
      refine lc_top (show Value.int ((lc_i (lc_sx xs (i))) &&& (lc_i (31))) = Value.int (lc_i v9) from by rw [hv9, lc_i_of]) ?_
      rcases (show v9 = 0 ∨ v9 = 1 ∨ v9 = 2 ∨ v9 = 3 ∨ v9 = 4 ∨ v9 = 5 ∨ v9 = 6 ∨ v9 = 7 ∨ v9 = 8 ∨ v9 = 9 ∨ v9 = 10 ∨ v9 = 11 ∨ v9 = 12 ∨ v9 = 13 ∨ v9 = 14 ∨ v9 = 15 ∨ v9 = 16 ∨ v9 = 17 ∨ v9 = 18 ∨ v9 = 19 ∨ v9 = 20 ∨ v9 = 21 ∨ (v9 < 0 ∨ 21 < v9) by omega) with h_32_1 | h_32_1 | h_32_1 | h_32_1 | h_32_1 | h_32_1 | h_32_1 | h_32_1 | h_32_1 | h_32_1 | h_32_1 | h_32_1 | h_32_1 | h_32_1 | h_32_1 | h_32_1 | h_32_1 | h_32_1 | h_32_1 | h_32_1 | h_32_1 | h_32_1 | h_32_1
      · refine lc_swC (v := 0) (tgt := 136) dL_law_32 h_32_1 (by decide) rfl (by decide) ?_
        refine lc_aload_n dL_law_136 rfl 1 rfl ?_
        refine lc_aload_n dL_law_137 rfl 0 rfl ?_
        refine lc_iload_n dL_law_138 rfl 3 rfl ?_
        refine lc_iconst dL_law_139 ?_
        refine lc_iadd dL_law_140 ?_
        refine lc_sld dL_law_141 (by omega) (by omega) ?_
        refine lc_aload_n dL_law_142 rfl 0 rfl ?_
        refine lc_iload_n dL_law_143 rfl 3 rfl ?_
        refine lc_iconst dL_law_144 ?_
        refine lc_iadd dL_law_145 ?_
        refine lc_sld dL_law_146 (by omega) (by omega) ?_
        refine lc_callV (As := [.int (lc_i (lc_sx xs ((i) + (1)))), .int (lc_i (lc_sx xs ((i) + (2))))]) (stk := []) (b := 1) dL_law_147 lc_mL_13 lc_yX10_move hv1 rfl (lc_cX10_move l 58 f s q m mo ca ct po P H k tx z bs bt sn sr (lc_sx xs ((i) + (1))) (lc_sx xs ((i) + (2))) σ hCI hw (lc_sx_r xs _) (lc_sx_r xs _)) rfl ⟨Nat.le_of_ble_eq_true rfl, Nat.le_of_ble_eq_true rfl⟩ ⟨Nat.le_of_ble_eq_true rfl, Nat.le_of_ble_eq_true rfl⟩ rfl (Nat.le_of_ble_eq_true rfl) (fun v7 n8 σ5 q9 => ?_)
        obtain ⟨rfl, rfl, hM4, fr3⟩ := q9
        have hM6 := lc_MI_fr hMI (fun i h9 => fr3 i (Or.inl h9))
        obtain ⟨vs_hM6, hv_hM6⟩ := lc_MI_50 hM6
        refine lc_aload_n dL_law_150 rfl 2 rfl ?_
        refine lc_aload_n dL_law_151 rfl 0 rfl ?_
        refine lc_iload_n dL_law_152 rfl 3 rfl ?_
        refine lc_iconst dL_law_153 ?_
        refine lc_iadd dL_law_154 ?_
        refine lc_sld dL_law_155 (by omega) (by omega) ?_
        refine lc_aload_n dL_law_156 rfl 0 rfl ?_
        refine lc_iload_n dL_law_157 rfl 3 rfl ?_
        refine lc_iconst dL_law_158 ?_
        refine lc_iadd dL_law_159 ?_
        refine lc_sld dL_law_160 (by omega) (by omega) ?_
        refine lc_callV (As := [.int (lc_i (lc_sx xs ((i) + (1)))), .int (lc_i (lc_sx xs ((i) + (2))))]) (stk := [.int (lc_i ((lc_move ((f, s, q, m, mo, ca, ct, po), P, H, k, tx, z, bs, bt, sn, sr) (lc_sx xs ((i) + (1))) (lc_sx xs ((i) + (2)))).2))]) (b := 50) dL_law_161 lc_mL_17 lc_yX11_move hv_hM6 rfl (lc_cX11_move l 58 f s q m mo ca ct po P H k tx z bs bt sn sr (lc_sx xs ((i) + (1))) (lc_sx xs ((i) + (2))) σ5 hM6 hw (lc_sx_r xs _) (lc_sx_r xs _)) rfl ⟨Nat.le_of_ble_eq_true rfl, Nat.le_of_ble_eq_true rfl⟩ ⟨Nat.le_of_ble_eq_true rfl, Nat.le_of_ble_eq_true rfl⟩ rfl (Nat.le_of_ble_eq_true rfl) (fun v14 n15 σ12 q16 => ?_)
        obtain ⟨rfl, rfl, hM11, fr10⟩ := q16
        have hC13 := lc_CI_fr hM4 fr10
        refine lc_icmp_eqR (tgt := 680) dL_law_164 (by decide) (fun h_164_16 => ?_) (fun h_164_16 => ?_)
        · skip
          refine lc_iinc (lv' := [(0, .ref (0)), (1, .ref (1)), (2, .ref (50)), (3, .int (lc_i (i + 4)))]) dL_law_680 3 rfl (by decide) rfl ?_
          refine lc_goto (tgt := 18) dL_law_683 (by decide) ?_
          exact ih (i + 4) ((lc_move ((f, s, q, m, mo, ca, ct, po), P, H, k, tx, z, bs, bt, sn, sr) (lc_sx xs ((i) + (1))) (lc_sx xs ((i) + (2)))).1) (σ12) (by omega) (by omega) (hC13) (hM11) (lc_wf_move hw (lc_sx xs ((i) + (1))) (lc_sx xs ((i) + (2)))) (by omega)
        · exact absurd rfl h_164_16
      · refine lc_swC (v := 1) (tgt := 169) dL_law_32 h_32_1 (by decide) rfl (by decide) ?_
        refine lc_aload_n dL_law_169 rfl 1 rfl ?_
        refine lc_aload_n dL_law_170 rfl 0 rfl ?_
        refine lc_iload_n dL_law_171 rfl 3 rfl ?_
        refine lc_iconst dL_law_172 ?_
        refine lc_iadd dL_law_173 ?_
        refine lc_sld dL_law_174 (by omega) (by omega) ?_
        refine lc_aload_n dL_law_175 rfl 0 rfl ?_
        refine lc_iload_n dL_law_176 rfl 3 rfl ?_
        refine lc_iconst dL_law_177 ?_
        refine lc_iadd dL_law_178 ?_
        refine lc_sld dL_law_179 (by omega) (by omega) ?_
        refine lc_callV (As := [.int (lc_i (lc_sx xs ((i) + (1)))), .int (lc_i (lc_sx xs ((i) + (2))))]) (stk := []) (b := 1) dL_law_180 lc_mL_18 lc_yX10_capture hv1 rfl (lc_cX10_capture l 58 f s q m mo ca ct po P H k tx z bs bt sn sr (lc_sx xs ((i) + (1))) (lc_sx xs ((i) + (2))) σ hCI hw (lc_sx_r xs _) (lc_sx_r xs _)) rfl ⟨Nat.le_of_ble_eq_true rfl, Nat.le_of_ble_eq_true rfl⟩ ⟨Nat.le_of_ble_eq_true rfl, Nat.le_of_ble_eq_true rfl⟩ rfl (Nat.le_of_ble_eq_true rfl) (fun v22 n23 σ20 q24 => ?_)
        obtain ⟨rfl, rfl, hM19, fr18⟩ := q24
        have hM21 := lc_MI_fr hMI (fun i h9 => fr18 i (Or.inl h9))
        obtain ⟨vs_hM21, hv_hM21⟩ := lc_MI_50 hM21
        refine lc_aload_n dL_law_183 rfl 2 rfl ?_
        refine lc_aload_n dL_law_184 rfl 0 rfl ?_
        refine lc_iload_n dL_law_185 rfl 3 rfl ?_
        refine lc_iconst dL_law_186 ?_
        refine lc_iadd dL_law_187 ?_
        refine lc_sld dL_law_188 (by omega) (by omega) ?_
        refine lc_aload_n dL_law_189 rfl 0 rfl ?_
        refine lc_iload_n dL_law_190 rfl 3 rfl ?_
        refine lc_iconst dL_law_191 ?_
        refine lc_iadd dL_law_192 ?_
        refine lc_sld dL_law_193 (by omega) (by omega) ?_
        refine lc_callV (As := [.int (lc_i (lc_sx xs ((i) + (1)))), .int (lc_i (lc_sx xs ((i) + (2))))]) (stk := [.int (lc_i ((lc_capt ((f, s, q, m, mo, ca, ct, po), P, H, k, tx, z, bs, bt, sn, sr) (lc_sx xs ((i) + (1))) (lc_sx xs ((i) + (2)))).2))]) (b := 50) dL_law_194 lc_mL_21 lc_yX11_capture hv_hM21 rfl (lc_cX11_capture l 58 f s q m mo ca ct po P H k tx z bs bt sn sr (lc_sx xs ((i) + (1))) (lc_sx xs ((i) + (2))) σ20 hM21 hw (lc_sx_r xs _) (lc_sx_r xs _)) rfl ⟨Nat.le_of_ble_eq_true rfl, Nat.le_of_ble_eq_true rfl⟩ ⟨Nat.le_of_ble_eq_true rfl, Nat.le_of_ble_eq_true rfl⟩ rfl (Nat.le_of_ble_eq_true rfl) (fun v29 n30 σ27 q31 => ?_)
        obtain ⟨rfl, rfl, hM26, fr25⟩ := q31
        have hC28 := lc_CI_fr hM19 fr25
        refine lc_icmp_eqR (tgt := 680) dL_law_197 (by decide) (fun h_197_31 => ?_) (fun h_197_31 => ?_)
        · skip
          refine lc_iinc (lv' := [(0, .ref (0)), (1, .ref (1)), (2, .ref (50)), (3, .int (lc_i (i + 4)))]) dL_law_680 3 rfl (by decide) rfl ?_
          refine lc_goto (tgt := 18) dL_law_683 (by decide) ?_
          exact ih (i + 4) ((lc_capt ((f, s, q, m, mo, ca, ct, po), P, H, k, tx, z, bs, bt, sn, sr) (lc_sx xs ((i) + (1))) (lc_sx xs ((i) + (2)))).1) (σ27) (by omega) (by omega) (hC28) (hM26) (lc_wf_capt hw (lc_sx xs ((i) + (1))) (lc_sx xs ((i) + (2)))) (by omega)
        · exact absurd rfl h_197_31
      · refine lc_swC (v := 2) (tgt := 202) dL_law_32 h_32_1 (by decide) rfl (by decide) ?_
        refine lc_aload_n dL_law_202 rfl 1 rfl ?_
        refine lc_aload_n dL_law_203 rfl 0 rfl ?_
        refine lc_iload_n dL_law_204 rfl 3 rfl ?_
        refine lc_iconst dL_law_205 ?_
        refine lc_iadd dL_law_206 ?_
        refine lc_sld dL_law_207 (by omega) (by omega) ?_
        refine lc_callV (As := [.int (lc_i (lc_sx xs ((i) + (1))))]) (stk := []) (b := 1) dL_law_208 lc_mL_22 lc_yX10_play hv1 rfl (lc_cX10_play l 58 f s q m mo ca ct po P H k tx z bs bt sn sr (lc_sx xs ((i) + (1))) σ hCI hw (lc_sx_r xs _)) rfl ⟨Nat.le_of_ble_eq_true rfl, Nat.le_of_ble_eq_true rfl⟩ ⟨Nat.le_of_ble_eq_true rfl, Nat.le_of_ble_eq_true rfl⟩ rfl (Nat.le_of_ble_eq_true rfl) (fun v37 n38 σ35 q39 => ?_)
        obtain ⟨rfl, rfl, hM34, fr33⟩ := q39
        have hM36 := lc_MI_fr hMI (fun i h9 => fr33 i (Or.inl h9))
        obtain ⟨vs_hM36, hv_hM36⟩ := lc_MI_50 hM36
        refine lc_aload_n dL_law_211 rfl 2 rfl ?_
        refine lc_aload_n dL_law_212 rfl 0 rfl ?_
        refine lc_iload_n dL_law_213 rfl 3 rfl ?_
        refine lc_iconst dL_law_214 ?_
        refine lc_iadd dL_law_215 ?_
        refine lc_sld dL_law_216 (by omega) (by omega) ?_
        refine lc_callV (As := [.int (lc_i (lc_sx xs ((i) + (1))))]) (stk := [.int (lc_i ((lc_play ((f, s, q, m, mo, ca, ct, po), P, H, k, tx, z, bs, bt, sn, sr) (lc_sx xs ((i) + (1)))).2))]) (b := 50) dL_law_217 lc_mL_26 lc_yX11_play hv_hM36 rfl (lc_cX11_play l 58 f s q m mo ca ct po P H k tx z bs bt sn sr (lc_sx xs ((i) + (1))) σ35 hM36 hw (lc_sx_r xs _)) rfl ⟨Nat.le_of_ble_eq_true rfl, Nat.le_of_ble_eq_true rfl⟩ ⟨Nat.le_of_ble_eq_true rfl, Nat.le_of_ble_eq_true rfl⟩ rfl (Nat.le_of_ble_eq_true rfl) (fun v44 n45 σ42 q46 => ?_)
        obtain ⟨rfl, rfl, hM41, fr40⟩ := q46
        have hC43 := lc_CI_fr hM34 fr40
        refine lc_icmp_eqR (tgt := 680) dL_law_220 (by decide) (fun h_220_46 => ?_) (fun h_220_46 => ?_)
        · skip
          refine lc_iinc (lv' := [(0, .ref (0)), (1, .ref (1)), (2, .ref (50)), (3, .int (lc_i (i + 4)))]) dL_law_680 3 rfl (by decide) rfl ?_
          refine lc_goto (tgt := 18) dL_law_683 (by decide) ?_
          exact ih (i + 4) ((lc_play ((f, s, q, m, mo, ca, ct, po), P, H, k, tx, z, bs, bt, sn, sr) (lc_sx xs ((i) + (1)))).1) (σ42) (by omega) (by omega) (hC43) (hM41) (lc_wf_play hw (lc_sx xs ((i) + (1)))) (by omega)
        · exact absurd rfl h_220_46
      · refine lc_swC (v := 3) (tgt := 225) dL_law_32 h_32_1 (by decide) rfl (by decide) ?_
        refine lc_aload_n dL_law_225 rfl 1 rfl ?_
        refine lc_aload_n dL_law_226 rfl 0 rfl ?_
        refine lc_iload_n dL_law_227 rfl 3 rfl ?_
        refine lc_iconst dL_law_228 ?_
        refine lc_iadd dL_law_229 ?_
        refine lc_sld dL_law_230 (by omega) (by omega) ?_
        refine lc_aload_n dL_law_231 rfl 0 rfl ?_
        refine lc_iload_n dL_law_232 rfl 3 rfl ?_
        refine lc_iconst dL_law_233 ?_
        refine lc_iadd dL_law_234 ?_
        refine lc_sld dL_law_235 (by omega) (by omega) ?_
        refine lc_callV (As := [.int (lc_i (lc_sx xs ((i) + (1)))), .int (lc_i (lc_sx xs ((i) + (2))))]) (stk := []) (b := 1) dL_law_236 lc_mL_27 lc_yX10_setUp hv1 rfl (lc_cX10_setUp l 58 f s q m mo ca ct po P H k tx z bs bt sn sr (lc_sx xs ((i) + (1))) (lc_sx xs ((i) + (2))) σ hCI hw (lc_sx_r xs _) (lc_sx_r xs _)) rfl ⟨Nat.le_of_ble_eq_true rfl, Nat.le_of_ble_eq_true rfl⟩ ⟨Nat.le_of_ble_eq_true rfl, Nat.le_of_ble_eq_true rfl⟩ rfl (Nat.le_of_ble_eq_true rfl) (fun v52 n53 σ50 q54 => ?_)
        obtain ⟨rfl, rfl, hM49, fr48⟩ := q54
        have hM51 := lc_MI_fr hMI (fun i h9 => fr48 i (Or.inl h9))
        obtain ⟨vs_hM51, hv_hM51⟩ := lc_MI_50 hM51
        refine lc_aload_n dL_law_239 rfl 2 rfl ?_
        refine lc_aload_n dL_law_240 rfl 0 rfl ?_
        refine lc_iload_n dL_law_241 rfl 3 rfl ?_
        refine lc_iconst dL_law_242 ?_
        refine lc_iadd dL_law_243 ?_
        refine lc_sld dL_law_244 (by omega) (by omega) ?_
        refine lc_aload_n dL_law_245 rfl 0 rfl ?_
        refine lc_iload_n dL_law_246 rfl 3 rfl ?_
        refine lc_iconst dL_law_247 ?_
        refine lc_iadd dL_law_248 ?_
        refine lc_sld dL_law_249 (by omega) (by omega) ?_
        refine lc_callV (As := [.int (lc_i (lc_sx xs ((i) + (1)))), .int (lc_i (lc_sx xs ((i) + (2))))]) (stk := [.int (lc_i ((lc_zSet ((f, s, q, m, mo, ca, ct, po), P, H, k, tx, z, bs, bt, sn, sr) (lc_sx xs ((i) + (1))) (lc_sx xs ((i) + (2)))).2))]) (b := 50) dL_law_250 lc_mL_30 lc_yX11_setUp hv_hM51 rfl (lc_cX11_setUp l 58 f s q m mo ca ct po P H k tx z bs bt sn sr (lc_sx xs ((i) + (1))) (lc_sx xs ((i) + (2))) σ50 hM51 hw (lc_sx_r xs _) (lc_sx_r xs _)) rfl ⟨Nat.le_of_ble_eq_true rfl, Nat.le_of_ble_eq_true rfl⟩ ⟨Nat.le_of_ble_eq_true rfl, Nat.le_of_ble_eq_true rfl⟩ rfl (Nat.le_of_ble_eq_true rfl) (fun v59 n60 σ57 q61 => ?_)
        obtain ⟨rfl, rfl, hM56, fr55⟩ := q61
        have hC58 := lc_CI_fr hM49 fr55
        refine lc_icmp_eqR (tgt := 680) dL_law_253 (by decide) (fun h_253_61 => ?_) (fun h_253_61 => ?_)
        · skip
          refine lc_iinc (lv' := [(0, .ref (0)), (1, .ref (1)), (2, .ref (50)), (3, .int (lc_i (i + 4)))]) dL_law_680 3 rfl (by decide) rfl ?_
          refine lc_goto (tgt := 18) dL_law_683 (by decide) ?_
          exact ih (i + 4) ((lc_zSet ((f, s, q, m, mo, ca, ct, po), P, H, k, tx, z, bs, bt, sn, sr) (lc_sx xs ((i) + (1))) (lc_sx xs ((i) + (2)))).1) (σ57) (by omega) (by omega) (hC58) (hM56) (lc_wf_zSet hw (lc_sx xs ((i) + (1))) (lc_sx xs ((i) + (2)))) (by omega)
        · exact absurd rfl h_253_61
      · refine lc_swC (v := 4) (tgt := 258) dL_law_32 h_32_1 (by decide) rfl (by decide) ?_
        refine lc_aload_n dL_law_258 rfl 1 rfl ?_
        refine lc_callV (As := []) (stk := []) (b := 1) dL_law_259 lc_mL_31 lc_yX10_turn hv1 rfl (lc_cX10_turn l 58 f s q m mo ca ct po P H k tx z bs bt sn sr  σ hCI hw ) rfl ⟨Nat.le_of_ble_eq_true rfl, Nat.le_of_ble_eq_true rfl⟩ ⟨Nat.le_of_ble_eq_true rfl, Nat.le_of_ble_eq_true rfl⟩ rfl (Nat.le_of_ble_eq_true rfl) (fun v67 n68 σ65 q69 => ?_)
        obtain ⟨rfl, rfl, hM64, fr63⟩ := q69
        have hM66 := lc_MI_fr hMI (fun i h9 => fr63 i (Or.inl h9))
        obtain ⟨vs_hM66, hv_hM66⟩ := lc_MI_50 hM66
        refine lc_aload_n dL_law_262 rfl 2 rfl ?_
        refine lc_callV (As := []) (stk := [.int (lc_i ((lc_turn ((f, s, q, m, mo, ca, ct, po), P, H, k, tx, z, bs, bt, sn, sr)).2))]) (b := 50) dL_law_263 lc_mL_35 lc_yX11_turn hv_hM66 rfl (lc_cX11_turn l 58 f s q m mo ca ct po P H k tx z bs bt sn sr  σ65 hM66 hw ) rfl ⟨Nat.le_of_ble_eq_true rfl, Nat.le_of_ble_eq_true rfl⟩ ⟨Nat.le_of_ble_eq_true rfl, Nat.le_of_ble_eq_true rfl⟩ rfl (Nat.le_of_ble_eq_true rfl) (fun v74 n75 σ72 q76 => ?_)
        obtain ⟨rfl, rfl, hM71, fr70⟩ := q76
        have hC73 := lc_CI_fr hM64 fr70
        refine lc_icmp_eqR (tgt := 680) dL_law_266 (by decide) (fun h_266_76 => ?_) (fun h_266_76 => ?_)
        · skip
          refine lc_iinc (lv' := [(0, .ref (0)), (1, .ref (1)), (2, .ref (50)), (3, .int (lc_i (i + 4)))]) dL_law_680 3 rfl (by decide) rfl ?_
          refine lc_goto (tgt := 18) dL_law_683 (by decide) ?_
          exact ih (i + 4) ((lc_turn ((f, s, q, m, mo, ca, ct, po), P, H, k, tx, z, bs, bt, sn, sr)).1) (σ72) (by omega) (by omega) (hC73) (hM71) (lc_wf_turn hw ) (by omega)
        · exact absurd rfl h_266_76
      · refine lc_swC (v := 5) (tgt := 271) dL_law_32 h_32_1 (by decide) rfl (by decide) ?_
        refine lc_aload_n dL_law_271 rfl 1 rfl ?_
        refine lc_callV (As := []) (stk := []) (b := 1) dL_law_272 lc_mL_36 lc_yX10_begin hv1 rfl (lc_cX10_begin l 58 f s q m mo ca ct po P H k tx z bs bt sn sr  σ hCI hw ) rfl ⟨Nat.le_of_ble_eq_true rfl, Nat.le_of_ble_eq_true rfl⟩ ⟨Nat.le_of_ble_eq_true rfl, Nat.le_of_ble_eq_true rfl⟩ rfl (Nat.le_of_ble_eq_true rfl) (fun v82 n83 σ80 q84 => ?_)
        obtain ⟨rfl, rfl, hM79, fr78⟩ := q84
        have hM81 := lc_MI_fr hMI (fun i h9 => fr78 i (Or.inl h9))
        obtain ⟨vs_hM81, hv_hM81⟩ := lc_MI_50 hM81
        refine lc_aload_n dL_law_275 rfl 2 rfl ?_
        refine lc_callV (As := []) (stk := [.int (lc_i ((lc_beg ((f, s, q, m, mo, ca, ct, po), P, H, k, tx, z, bs, bt, sn, sr)).2))]) (b := 50) dL_law_276 lc_mL_39 lc_yX11_begin hv_hM81 rfl (lc_cX11_begin l 58 f s q m mo ca ct po P H k tx z bs bt sn sr  σ80 hM81 hw ) rfl ⟨Nat.le_of_ble_eq_true rfl, Nat.le_of_ble_eq_true rfl⟩ ⟨Nat.le_of_ble_eq_true rfl, Nat.le_of_ble_eq_true rfl⟩ rfl (Nat.le_of_ble_eq_true rfl) (fun v89 n90 σ87 q91 => ?_)
        obtain ⟨rfl, rfl, hM86, fr85⟩ := q91
        have hC88 := lc_CI_fr hM79 fr85
        refine lc_icmp_eqR (tgt := 680) dL_law_279 (by decide) (fun h_279_91 => ?_) (fun h_279_91 => ?_)
        · skip
          refine lc_iinc (lv' := [(0, .ref (0)), (1, .ref (1)), (2, .ref (50)), (3, .int (lc_i (i + 4)))]) dL_law_680 3 rfl (by decide) rfl ?_
          refine lc_goto (tgt := 18) dL_law_683 (by decide) ?_
          exact ih (i + 4) ((lc_beg ((f, s, q, m, mo, ca, ct, po), P, H, k, tx, z, bs, bt, sn, sr)).1) (σ87) (by omega) (by omega) (hC88) (hM86) (lc_wf_beg hw ) (by omega)
        · exact absurd rfl h_279_91
      · refine lc_swC (v := 6) (tgt := 284) dL_law_32 h_32_1 (by decide) rfl (by decide) ?_
        refine lc_aload_n dL_law_284 rfl 1 rfl ?_
        refine lc_aload_n dL_law_285 rfl 0 rfl ?_
        refine lc_iload_n dL_law_286 rfl 3 rfl ?_
        refine lc_iconst dL_law_287 ?_
        refine lc_iadd dL_law_288 ?_
        refine lc_sld dL_law_289 (by omega) (by omega) ?_
        refine lc_callV (As := [.int (lc_i (lc_sx xs ((i) + (1))))]) (stk := []) (b := 1) dL_law_290 lc_mL_40 lc_yX10_setLimit hv1 rfl (lc_cX10_setLimit l 58 f s q m mo ca ct po P H k tx z bs bt sn sr (lc_sx xs ((i) + (1))) σ hCI hw (lc_sx_r xs _)) rfl ⟨Nat.le_of_ble_eq_true rfl, Nat.le_of_ble_eq_true rfl⟩ ⟨Nat.le_of_ble_eq_true rfl, Nat.le_of_ble_eq_true rfl⟩ rfl (Nat.le_of_ble_eq_true rfl) (fun v97 n98 σ95 q99 => ?_)
        obtain ⟨rfl, rfl, hM94, fr93⟩ := q99
        have hM96 := lc_MI_fr hMI (fun i h9 => fr93 i (Or.inl h9))
        obtain ⟨vs_hM96, hv_hM96⟩ := lc_MI_50 hM96
        refine lc_aload_n dL_law_293 rfl 2 rfl ?_
        refine lc_aload_n dL_law_294 rfl 0 rfl ?_
        refine lc_iload_n dL_law_295 rfl 3 rfl ?_
        refine lc_iconst dL_law_296 ?_
        refine lc_iadd dL_law_297 ?_
        refine lc_sld dL_law_298 (by omega) (by omega) ?_
        refine lc_callV (As := [.int (lc_i (lc_sx xs ((i) + (1))))]) (stk := [.int (lc_i ((lc_zLim ((f, s, q, m, mo, ca, ct, po), P, H, k, tx, z, bs, bt, sn, sr) (lc_sx xs ((i) + (1)))).2))]) (b := 50) dL_law_299 lc_mL_43 lc_yX11_setLimit hv_hM96 rfl (lc_cX11_setLimit l 58 f s q m mo ca ct po P H k tx z bs bt sn sr (lc_sx xs ((i) + (1))) σ95 hM96 hw (lc_sx_r xs _)) rfl ⟨Nat.le_of_ble_eq_true rfl, Nat.le_of_ble_eq_true rfl⟩ ⟨Nat.le_of_ble_eq_true rfl, Nat.le_of_ble_eq_true rfl⟩ rfl (Nat.le_of_ble_eq_true rfl) (fun v104 n105 σ102 q106 => ?_)
        obtain ⟨rfl, rfl, hM101, fr100⟩ := q106
        have hC103 := lc_CI_fr hM94 fr100
        refine lc_icmp_eqR (tgt := 680) dL_law_302 (by decide) (fun h_302_106 => ?_) (fun h_302_106 => ?_)
        · skip
          refine lc_iinc (lv' := [(0, .ref (0)), (1, .ref (1)), (2, .ref (50)), (3, .int (lc_i (i + 4)))]) dL_law_680 3 rfl (by decide) rfl ?_
          refine lc_goto (tgt := 18) dL_law_683 (by decide) ?_
          exact ih (i + 4) ((lc_zLim ((f, s, q, m, mo, ca, ct, po), P, H, k, tx, z, bs, bt, sn, sr) (lc_sx xs ((i) + (1)))).1) (σ102) (by omega) (by omega) (hC103) (hM101) (lc_wf_zLim hw (lc_sx xs ((i) + (1)))) (by omega)
        · exact absurd rfl h_302_106
      · refine lc_swC (v := 7) (tgt := 307) dL_law_32 h_32_1 (by decide) rfl (by decide) ?_
        refine lc_aload_n dL_law_307 rfl 1 rfl ?_
        refine lc_aload_n dL_law_308 rfl 0 rfl ?_
        refine lc_iload_n dL_law_309 rfl 3 rfl ?_
        refine lc_iconst dL_law_310 ?_
        refine lc_iadd dL_law_311 ?_
        refine lc_sld dL_law_312 (by omega) (by omega) ?_
        refine lc_i2c dL_law_313 (v := lc_i (lc_ch (lc_i (lc_sx xs ((i) + (1)))))) (lc_i_of _).symm ?_
        refine lc_callV (As := [.int (lc_i (lc_ch (lc_i (lc_sx xs ((i) + (1))))))]) (stk := []) (b := 1) dL_law_314 lc_mL_44 lc_yX10_type hv1 rfl (lc_cX10_type l 58 f s q m mo ca ct po P H k tx z bs bt sn sr (lc_ch (lc_i (lc_sx xs ((i) + (1))))) σ hCI hw (lc_ch_r _)) rfl ⟨Nat.le_of_ble_eq_true rfl, Nat.le_of_ble_eq_true rfl⟩ ⟨Nat.le_of_ble_eq_true rfl, Nat.le_of_ble_eq_true rfl⟩ rfl (Nat.le_of_ble_eq_true rfl) (fun v112 n113 σ110 q114 => ?_)
        obtain ⟨rfl, rfl, hM109, fr108⟩ := q114
        have hM111 := lc_MI_fr hMI (fun i h9 => fr108 i (Or.inl h9))
        obtain ⟨vs_hM111, hv_hM111⟩ := lc_MI_50 hM111
        refine lc_aload_n dL_law_317 rfl 2 rfl ?_
        refine lc_aload_n dL_law_318 rfl 0 rfl ?_
        refine lc_iload_n dL_law_319 rfl 3 rfl ?_
        refine lc_iconst dL_law_320 ?_
        refine lc_iadd dL_law_321 ?_
        refine lc_sld dL_law_322 (by omega) (by omega) ?_
        refine lc_i2c dL_law_323 (v := lc_i (lc_ch (lc_i (lc_sx xs ((i) + (1)))))) (lc_i_of _).symm ?_
        refine lc_callV (As := [.int (lc_i (lc_ch (lc_i (lc_sx xs ((i) + (1))))))]) (stk := [.int (lc_i ((lc_type ((f, s, q, m, mo, ca, ct, po), P, H, k, tx, z, bs, bt, sn, sr) (lc_ch (lc_i (lc_sx xs ((i) + (1)))))).2))]) (b := 50) dL_law_324 lc_mL_48 lc_yX11_type hv_hM111 rfl (lc_cX11_type l 58 f s q m mo ca ct po P H k tx z bs bt sn sr (lc_ch (lc_i (lc_sx xs ((i) + (1))))) σ110 hM111 hw (lc_ch_r _)) rfl ⟨Nat.le_of_ble_eq_true rfl, Nat.le_of_ble_eq_true rfl⟩ ⟨Nat.le_of_ble_eq_true rfl, Nat.le_of_ble_eq_true rfl⟩ rfl (Nat.le_of_ble_eq_true rfl) (fun v119 n120 σ117 q121 => ?_)
        obtain ⟨rfl, rfl, hM116, fr115⟩ := q121
        have hC118 := lc_CI_fr hM109 fr115
        refine lc_icmp_eqR (tgt := 680) dL_law_327 (by decide) (fun h_327_121 => ?_) (fun h_327_121 => ?_)
        · skip
          refine lc_iinc (lv' := [(0, .ref (0)), (1, .ref (1)), (2, .ref (50)), (3, .int (lc_i (i + 4)))]) dL_law_680 3 rfl (by decide) rfl ?_
          refine lc_goto (tgt := 18) dL_law_683 (by decide) ?_
          exact ih (i + 4) ((lc_type ((f, s, q, m, mo, ca, ct, po), P, H, k, tx, z, bs, bt, sn, sr) (lc_ch (lc_i (lc_sx xs ((i) + (1)))))).1) (σ117) (by omega) (by omega) (hC118) (hM116) (lc_wf_type hw (lc_ch_r _)) (by omega)
        · exact absurd rfl h_327_121
      · refine lc_swC (v := 8) (tgt := 332) dL_law_32 h_32_1 (by decide) rfl (by decide) ?_
        refine lc_aload_n dL_law_332 rfl 1 rfl ?_
        refine lc_callV (As := []) (stk := []) (b := 1) dL_law_333 lc_mL_49 lc_yX10_clearText hv1 rfl (lc_cX10_clearText l 58 f s q m mo ca ct po P H k tx z bs bt sn sr  σ hCI hw ) rfl ⟨Nat.le_of_ble_eq_true rfl, Nat.le_of_ble_eq_true rfl⟩ ⟨Nat.le_of_ble_eq_true rfl, Nat.le_of_ble_eq_true rfl⟩ rfl (Nat.le_of_ble_eq_true rfl) (fun v127 n128 σ125 q129 => ?_)
        obtain ⟨rfl, rfl, hM124, fr123⟩ := q129
        have hM126 := lc_MI_fr hMI (fun i h9 => fr123 i (Or.inl h9))
        obtain ⟨vs_hM126, hv_hM126⟩ := lc_MI_50 hM126
        refine lc_aload_n dL_law_336 rfl 2 rfl ?_
        refine lc_callV (As := []) (stk := [.int (lc_i ((lc_clr ((f, s, q, m, mo, ca, ct, po), P, H, k, tx, z, bs, bt, sn, sr)).2))]) (b := 50) dL_law_337 lc_mL_52 lc_yX11_clearText hv_hM126 rfl (lc_cX11_clearText l 58 f s q m mo ca ct po P H k tx z bs bt sn sr  σ125 hM126 hw ) rfl ⟨Nat.le_of_ble_eq_true rfl, Nat.le_of_ble_eq_true rfl⟩ ⟨Nat.le_of_ble_eq_true rfl, Nat.le_of_ble_eq_true rfl⟩ rfl (Nat.le_of_ble_eq_true rfl) (fun v134 n135 σ132 q136 => ?_)
        obtain ⟨rfl, rfl, hM131, fr130⟩ := q136
        have hC133 := lc_CI_fr hM124 fr130
        refine lc_icmp_eqR (tgt := 680) dL_law_340 (by decide) (fun h_340_136 => ?_) (fun h_340_136 => ?_)
        · skip
          refine lc_iinc (lv' := [(0, .ref (0)), (1, .ref (1)), (2, .ref (50)), (3, .int (lc_i (i + 4)))]) dL_law_680 3 rfl (by decide) rfl ?_
          refine lc_goto (tgt := 18) dL_law_683 (by decide) ?_
          exact ih (i + 4) ((lc_clr ((f, s, q, m, mo, ca, ct, po), P, H, k, tx, z, bs, bt, sn, sr)).1) (σ132) (by omega) (by omega) (hC133) (hM131) (lc_wf_clr hw ) (by omega)
        · exact absurd rfl h_340_136
      · refine lc_swC (v := 9) (tgt := 345) dL_law_32 h_32_1 (by decide) rfl (by decide) ?_
        refine lc_aload_n dL_law_345 rfl 1 rfl ?_
        refine lc_callV (As := []) (stk := []) (b := 1) dL_law_346 lc_mL_53 lc_yX10_perform hv1 rfl (lc_cX10_perform l 58 f s q m mo ca ct po P H k tx z bs bt sn sr  σ hCI hw ) rfl ⟨Nat.le_of_ble_eq_true rfl, Nat.le_of_ble_eq_true rfl⟩ ⟨Nat.le_of_ble_eq_true rfl, Nat.le_of_ble_eq_true rfl⟩ rfl (Nat.le_of_ble_eq_true rfl) (fun v142 n143 σ140 q144 => ?_)
        obtain ⟨rfl, rfl, hM139, fr138⟩ := q144
        have hM141 := lc_MI_fr hMI (fun i h9 => fr138 i (Or.inl h9))
        obtain ⟨vs_hM141, hv_hM141⟩ := lc_MI_50 hM141
        refine lc_aload_n dL_law_349 rfl 2 rfl ?_
        refine lc_callV (As := []) (stk := [.int (lc_i ((lc_perf ((f, s, q, m, mo, ca, ct, po), P, H, k, tx, z, bs, bt, sn, sr)).2))]) (b := 50) dL_law_350 lc_mL_56 lc_yX11_perform hv_hM141 rfl (lc_cX11_perform l 58 f s q m mo ca ct po P H k tx z bs bt sn sr  σ140 hM141 hw ) rfl ⟨Nat.le_of_ble_eq_true rfl, Nat.le_of_ble_eq_true rfl⟩ ⟨Nat.le_of_ble_eq_true rfl, Nat.le_of_ble_eq_true rfl⟩ rfl (Nat.le_of_ble_eq_true rfl) (fun v149 n150 σ147 q151 => ?_)
        obtain ⟨rfl, rfl, hM146, fr145⟩ := q151
        have hC148 := lc_CI_fr hM139 fr145
        refine lc_icmp_eqR (tgt := 680) dL_law_353 (by decide) (fun h_353_151 => ?_) (fun h_353_151 => ?_)
        · skip
          refine lc_iinc (lv' := [(0, .ref (0)), (1, .ref (1)), (2, .ref (50)), (3, .int (lc_i (i + 4)))]) dL_law_680 3 rfl (by decide) rfl ?_
          refine lc_goto (tgt := 18) dL_law_683 (by decide) ?_
          exact ih (i + 4) ((lc_perf ((f, s, q, m, mo, ca, ct, po), P, H, k, tx, z, bs, bt, sn, sr)).1) (σ147) (by omega) (by omega) (hC148) (hM146) (lc_wf_perf hw ) (by omega)
        · exact absurd rfl h_353_151
      · refine lc_swC (v := 10) (tgt := 358) dL_law_32 h_32_1 (by decide) rfl (by decide) ?_
        refine lc_aload_n dL_law_358 rfl 1 rfl ?_
        refine lc_aload_n dL_law_359 rfl 0 rfl ?_
        refine lc_iload_n dL_law_360 rfl 3 rfl ?_
        refine lc_iconst dL_law_361 ?_
        refine lc_iadd dL_law_362 ?_
        refine lc_sld dL_law_363 (by omega) (by omega) ?_
        refine lc_callV (As := [.int (lc_i (lc_sx xs ((i) + (1))))]) (stk := []) (b := 1) dL_law_364 lc_mL_57 lc_yX10_stopped hv1 rfl (lc_cX10_stopped l 58 f s q m mo ca ct po P H k tx z bs bt sn sr (lc_sx xs ((i) + (1))) σ hCI hw (lc_sx_r xs _)) rfl ⟨Nat.le_of_ble_eq_true rfl, Nat.le_of_ble_eq_true rfl⟩ ⟨Nat.le_of_ble_eq_true rfl, Nat.le_of_ble_eq_true rfl⟩ rfl (Nat.le_of_ble_eq_true rfl) (fun v157 n158 σ155 q159 => ?_)
        obtain ⟨rfl, rfl, hM154, fr153⟩ := q159
        have hM156 := lc_MI_fr hMI (fun i h9 => fr153 i (Or.inl h9))
        obtain ⟨vs_hM156, hv_hM156⟩ := lc_MI_50 hM156
        refine lc_aload_n dL_law_367 rfl 2 rfl ?_
        refine lc_aload_n dL_law_368 rfl 0 rfl ?_
        refine lc_iload_n dL_law_369 rfl 3 rfl ?_
        refine lc_iconst dL_law_370 ?_
        refine lc_iadd dL_law_371 ?_
        refine lc_sld dL_law_372 (by omega) (by omega) ?_
        refine lc_callV (As := [.int (lc_i (lc_sx xs ((i) + (1))))]) (stk := [.int (lc_i ((lc_stop ((f, s, q, m, mo, ca, ct, po), P, H, k, tx, z, bs, bt, sn, sr) (lc_sx xs ((i) + (1)))).2))]) (b := 50) dL_law_373 lc_mL_60 lc_yX11_stopped hv_hM156 rfl (lc_cX11_stopped l 58 f s q m mo ca ct po P H k tx z bs bt sn sr (lc_sx xs ((i) + (1))) σ155 hM156 hw (lc_sx_r xs _)) rfl ⟨Nat.le_of_ble_eq_true rfl, Nat.le_of_ble_eq_true rfl⟩ ⟨Nat.le_of_ble_eq_true rfl, Nat.le_of_ble_eq_true rfl⟩ rfl (Nat.le_of_ble_eq_true rfl) (fun v164 n165 σ162 q166 => ?_)
        obtain ⟨rfl, rfl, hM161, fr160⟩ := q166
        have hC163 := lc_CI_fr hM154 fr160
        refine lc_icmp_eqR (tgt := 680) dL_law_376 (by decide) (fun h_376_166 => ?_) (fun h_376_166 => ?_)
        · skip
          refine lc_iinc (lv' := [(0, .ref (0)), (1, .ref (1)), (2, .ref (50)), (3, .int (lc_i (i + 4)))]) dL_law_680 3 rfl (by decide) rfl ?_
          refine lc_goto (tgt := 18) dL_law_683 (by decide) ?_
          exact ih (i + 4) ((lc_stop ((f, s, q, m, mo, ca, ct, po), P, H, k, tx, z, bs, bt, sn, sr) (lc_sx xs ((i) + (1)))).1) (σ162) (by omega) (by omega) (hC163) (hM161) (lc_wf_same hw rfl) (by omega)
        · exact absurd rfl h_376_166
      · refine lc_swC (v := 11) (tgt := 381) dL_law_32 h_32_1 (by decide) rfl (by decide) ?_
        refine lc_aload_n dL_law_381 rfl 1 rfl ?_
        refine lc_callV (As := []) (stk := []) (b := 1) dL_law_382 lc_mL_61 lc_yX10_undo hv1 rfl (lc_cX10_undo l 58 f s q m mo ca ct po P H k tx z bs bt sn sr  σ hCI hw ) rfl ⟨Nat.le_of_ble_eq_true rfl, Nat.le_of_ble_eq_true rfl⟩ ⟨Nat.le_of_ble_eq_true rfl, Nat.le_of_ble_eq_true rfl⟩ rfl (Nat.le_of_ble_eq_true rfl) (fun v172 n173 σ170 q174 => ?_)
        obtain ⟨rfl, rfl, hM169, fr168⟩ := q174
        have hM171 := lc_MI_fr hMI (fun i h9 => fr168 i (Or.inl h9))
        obtain ⟨vs_hM171, hv_hM171⟩ := lc_MI_50 hM171
        refine lc_aload_n dL_law_385 rfl 2 rfl ?_
        refine lc_callV (As := []) (stk := [.int (lc_i ((lc_undo ((f, s, q, m, mo, ca, ct, po), P, H, k, tx, z, bs, bt, sn, sr)).2))]) (b := 50) dL_law_386 lc_mL_64 lc_yX11_undo hv_hM171 rfl (lc_cX11_undo l 58 f s q m mo ca ct po P H k tx z bs bt sn sr  σ170 hM171 hw ) rfl ⟨Nat.le_of_ble_eq_true rfl, Nat.le_of_ble_eq_true rfl⟩ ⟨Nat.le_of_ble_eq_true rfl, Nat.le_of_ble_eq_true rfl⟩ rfl (Nat.le_of_ble_eq_true rfl) (fun v179 n180 σ177 q181 => ?_)
        obtain ⟨rfl, rfl, hM176, fr175⟩ := q181
        have hC178 := lc_CI_fr hM169 fr175
        refine lc_icmp_eqR (tgt := 680) dL_law_389 (by decide) (fun h_389_181 => ?_) (fun h_389_181 => ?_)
        · skip
          refine lc_iinc (lv' := [(0, .ref (0)), (1, .ref (1)), (2, .ref (50)), (3, .int (lc_i (i + 4)))]) dL_law_680 3 rfl (by decide) rfl ?_
          refine lc_goto (tgt := 18) dL_law_683 (by decide) ?_
          exact ih (i + 4) ((lc_undo ((f, s, q, m, mo, ca, ct, po), P, H, k, tx, z, bs, bt, sn, sr)).1) (σ177) (by omega) (by omega) (hC178) (hM176) (lc_wf_undo hw ) (by omega)
        · exact absurd rfl h_389_181
      · refine lc_swC (v := 12) (tgt := 394) dL_law_32 h_32_1 (by decide) rfl (by decide) ?_
        refine lc_aload_n dL_law_394 rfl 1 rfl ?_
        refine lc_callV (As := []) (stk := []) (b := 1) dL_law_395 lc_mL_65 lc_yX10_keep hv1 rfl (lc_cX10_keep l 58 f s q m mo ca ct po P H k tx z bs bt sn sr  σ hCI hw ) rfl ⟨Nat.le_of_ble_eq_true rfl, Nat.le_of_ble_eq_true rfl⟩ ⟨Nat.le_of_ble_eq_true rfl, Nat.le_of_ble_eq_true rfl⟩ rfl (Nat.le_of_ble_eq_true rfl) (fun v187 n188 σ185 q189 => ?_)
        obtain ⟨rfl, rfl, hM184, fr183⟩ := q189
        have hM186 := lc_MI_fr hMI (fun i h9 => fr183 i (Or.inl h9))
        obtain ⟨vs_hM186, hv_hM186⟩ := lc_MI_50 hM186
        refine lc_aload_n dL_law_398 rfl 2 rfl ?_
        refine lc_callV (As := []) (stk := [.int (lc_i ((lc_keep ((f, s, q, m, mo, ca, ct, po), P, H, k, tx, z, bs, bt, sn, sr)).2))]) (b := 50) dL_law_399 lc_mL_68 lc_yX11_keep hv_hM186 rfl (lc_cX11_keep l 58 f s q m mo ca ct po P H k tx z bs bt sn sr  σ185 hM186 hw ) rfl ⟨Nat.le_of_ble_eq_true rfl, Nat.le_of_ble_eq_true rfl⟩ ⟨Nat.le_of_ble_eq_true rfl, Nat.le_of_ble_eq_true rfl⟩ rfl (Nat.le_of_ble_eq_true rfl) (fun v194 n195 σ192 q196 => ?_)
        obtain ⟨rfl, rfl, hM191, fr190⟩ := q196
        have hC193 := lc_CI_fr hM184 fr190
        refine lc_icmp_eqR (tgt := 680) dL_law_402 (by decide) (fun h_402_196 => ?_) (fun h_402_196 => ?_)
        · skip
          refine lc_iinc (lv' := [(0, .ref (0)), (1, .ref (1)), (2, .ref (50)), (3, .int (lc_i (i + 4)))]) dL_law_680 3 rfl (by decide) rfl ?_
          refine lc_goto (tgt := 18) dL_law_683 (by decide) ?_
          exact ih (i + 4) ((lc_keep ((f, s, q, m, mo, ca, ct, po), P, H, k, tx, z, bs, bt, sn, sr)).1) (σ192) (by omega) (by omega) (hC193) (hM191) (lc_wf_keep hw ) (by omega)
        · exact absurd rfl h_402_196
      · refine lc_swC (v := 13) (tgt := 407) dL_law_32 h_32_1 (by decide) rfl (by decide) ?_
        refine lc_aload_n dL_law_407 rfl 1 rfl ?_
        refine lc_callV (As := []) (stk := []) (b := 1) dL_law_408 lc_mL_69 lc_yX10_restore hv1 rfl (lc_cX10_restore l 58 f s q m mo ca ct po P H k tx z bs bt sn sr  σ hCI hw ) rfl ⟨Nat.le_of_ble_eq_true rfl, Nat.le_of_ble_eq_true rfl⟩ ⟨Nat.le_of_ble_eq_true rfl, Nat.le_of_ble_eq_true rfl⟩ rfl (Nat.le_of_ble_eq_true rfl) (fun v202 n203 σ200 q204 => ?_)
        obtain ⟨rfl, rfl, hM199, fr198⟩ := q204
        have hM201 := lc_MI_fr hMI (fun i h9 => fr198 i (Or.inl h9))
        obtain ⟨vs_hM201, hv_hM201⟩ := lc_MI_50 hM201
        refine lc_aload_n dL_law_411 rfl 2 rfl ?_
        refine lc_callV (As := []) (stk := [.int (lc_i ((lc_rest ((f, s, q, m, mo, ca, ct, po), P, H, k, tx, z, bs, bt, sn, sr)).2))]) (b := 50) dL_law_412 lc_mL_72 lc_yX11_restore hv_hM201 rfl (lc_cX11_restore l 58 f s q m mo ca ct po P H k tx z bs bt sn sr  σ200 hM201 hw ) rfl ⟨Nat.le_of_ble_eq_true rfl, Nat.le_of_ble_eq_true rfl⟩ ⟨Nat.le_of_ble_eq_true rfl, Nat.le_of_ble_eq_true rfl⟩ rfl (Nat.le_of_ble_eq_true rfl) (fun v209 n210 σ207 q211 => ?_)
        obtain ⟨rfl, rfl, hM206, fr205⟩ := q211
        have hC208 := lc_CI_fr hM199 fr205
        refine lc_icmp_eqR (tgt := 680) dL_law_415 (by decide) (fun h_415_211 => ?_) (fun h_415_211 => ?_)
        · skip
          refine lc_iinc (lv' := [(0, .ref (0)), (1, .ref (1)), (2, .ref (50)), (3, .int (lc_i (i + 4)))]) dL_law_680 3 rfl (by decide) rfl ?_
          refine lc_goto (tgt := 18) dL_law_683 (by decide) ?_
          exact ih (i + 4) ((lc_rest ((f, s, q, m, mo, ca, ct, po), P, H, k, tx, z, bs, bt, sn, sr)).1) (σ207) (by omega) (by omega) (hC208) (hM206) (lc_wf_rest hw ) (by omega)
        · exact absurd rfl h_415_211
      · refine lc_swC (v := 14) (tgt := 420) dL_law_32 h_32_1 (by decide) rfl (by decide) ?_
        refine lc_aload_n dL_law_420 rfl 1 rfl ?_
        refine lc_aload_n dL_law_421 rfl 0 rfl ?_
        refine lc_iload_n dL_law_422 rfl 3 rfl ?_
        refine lc_iconst dL_law_423 ?_
        refine lc_iadd dL_law_424 ?_
        refine lc_sld dL_law_425 (by omega) (by omega) ?_
        refine lc_aload_n dL_law_426 rfl 0 rfl ?_
        refine lc_iload_n dL_law_427 rfl 3 rfl ?_
        refine lc_iconst dL_law_428 ?_
        refine lc_iadd dL_law_429 ?_
        refine lc_sld dL_law_430 (by omega) (by omega) ?_
        refine lc_callV (As := [.int (lc_i (lc_sx xs ((i) + (1)))), .int (lc_i (lc_sx xs ((i) + (2))))]) (stk := []) (b := 1) dL_law_431 lc_mL_73 lc_yX10_point hv1 rfl (lc_cX10_point l 58 f s q m mo ca ct po P H k tx z bs bt sn sr (lc_sx xs ((i) + (1))) (lc_sx xs ((i) + (2))) σ hCI hw (lc_sx_r xs _) (lc_sx_r xs _)) rfl ⟨Nat.le_of_ble_eq_true rfl, Nat.le_of_ble_eq_true rfl⟩ ⟨Nat.le_of_ble_eq_true rfl, Nat.le_of_ble_eq_true rfl⟩ rfl (Nat.le_of_ble_eq_true rfl) (fun v217 n218 σ215 q219 => ?_)
        obtain ⟨rfl, rfl, hM214, fr213⟩ := q219
        have hM216 := lc_MI_fr hMI (fun i h9 => fr213 i (Or.inl h9))
        obtain ⟨vs_hM216, hv_hM216⟩ := lc_MI_50 hM216
        refine lc_aload_n dL_law_434 rfl 2 rfl ?_
        refine lc_aload_n dL_law_435 rfl 0 rfl ?_
        refine lc_iload_n dL_law_436 rfl 3 rfl ?_
        refine lc_iconst dL_law_437 ?_
        refine lc_iadd dL_law_438 ?_
        refine lc_sld dL_law_439 (by omega) (by omega) ?_
        refine lc_aload_n dL_law_440 rfl 0 rfl ?_
        refine lc_iload_n dL_law_441 rfl 3 rfl ?_
        refine lc_iconst dL_law_442 ?_
        refine lc_iadd dL_law_443 ?_
        refine lc_sld dL_law_444 (by omega) (by omega) ?_
        refine lc_callV (As := [.int (lc_i (lc_sx xs ((i) + (1)))), .int (lc_i (lc_sx xs ((i) + (2))))]) (stk := [.int (lc_i ((lc_pnt ((f, s, q, m, mo, ca, ct, po), P, H, k, tx, z, bs, bt, sn, sr) (lc_sx xs ((i) + (1))) (lc_sx xs ((i) + (2)))).2))]) (b := 50) dL_law_445 lc_mL_76 lc_yX11_point hv_hM216 rfl (lc_cX11_point l 58 f s q m mo ca ct po P H k tx z bs bt sn sr (lc_sx xs ((i) + (1))) (lc_sx xs ((i) + (2))) σ215 hM216 hw (lc_sx_r xs _) (lc_sx_r xs _)) rfl ⟨Nat.le_of_ble_eq_true rfl, Nat.le_of_ble_eq_true rfl⟩ ⟨Nat.le_of_ble_eq_true rfl, Nat.le_of_ble_eq_true rfl⟩ rfl (Nat.le_of_ble_eq_true rfl) (fun v224 n225 σ222 q226 => ?_)
        obtain ⟨rfl, rfl, hM221, fr220⟩ := q226
        have hC223 := lc_CI_fr hM214 fr220
        refine lc_icmp_eqR (tgt := 680) dL_law_448 (by decide) (fun h_448_226 => ?_) (fun h_448_226 => ?_)
        · skip
          refine lc_iinc (lv' := [(0, .ref (0)), (1, .ref (1)), (2, .ref (50)), (3, .int (lc_i (i + 4)))]) dL_law_680 3 rfl (by decide) rfl ?_
          refine lc_goto (tgt := 18) dL_law_683 (by decide) ?_
          exact ih (i + 4) ((lc_pnt ((f, s, q, m, mo, ca, ct, po), P, H, k, tx, z, bs, bt, sn, sr) (lc_sx xs ((i) + (1))) (lc_sx xs ((i) + (2)))).1) (σ222) (by omega) (by omega) (hC223) (hM221) (lc_wf_same hw rfl) (by omega)
        · exact absurd rfl h_448_226
      · refine lc_swC (v := 15) (tgt := 453) dL_law_32 h_32_1 (by decide) rfl (by decide) ?_
        refine lc_aload_n dL_law_453 rfl 1 rfl ?_
        refine lc_aload_n dL_law_454 rfl 0 rfl ?_
        refine lc_iload_n dL_law_455 rfl 3 rfl ?_
        refine lc_iconst dL_law_456 ?_
        refine lc_iadd dL_law_457 ?_
        refine lc_sld dL_law_458 (by omega) (by omega) ?_
        refine lc_aload_n dL_law_459 rfl 0 rfl ?_
        refine lc_iload_n dL_law_460 rfl 3 rfl ?_
        refine lc_iconst dL_law_461 ?_
        refine lc_iadd dL_law_462 ?_
        refine lc_sld dL_law_463 (by omega) (by omega) ?_
        refine lc_aload_n dL_law_464 rfl 0 rfl ?_
        refine lc_iload_n dL_law_465 rfl 3 rfl ?_
        refine lc_iconst dL_law_466 ?_
        refine lc_iadd dL_law_467 ?_
        refine lc_sld dL_law_468 (by omega) (by omega) ?_
        refine lc_callV (As := [.int (lc_i (lc_sx xs ((i) + (1)))), .int (lc_i (lc_sx xs ((i) + (2)))), .int (lc_i (lc_sx xs ((i) + (3))))]) (stk := []) (b := 1) dL_law_469 lc_mL_77 lc_yX10_way hv1 rfl (lc_cX10_way l 58 f s q m mo ca ct po P H k tx z bs bt sn sr (lc_sx xs ((i) + (1))) (lc_sx xs ((i) + (2))) (lc_sx xs ((i) + (3))) σ hCI hw (lc_sx_r xs _) (lc_sx_r xs _) (lc_sx_r xs _)) rfl ⟨Nat.le_of_ble_eq_true rfl, Nat.le_of_ble_eq_true rfl⟩ ⟨Nat.le_of_ble_eq_true rfl, Nat.le_of_ble_eq_true rfl⟩ rfl (Nat.le_of_ble_eq_true rfl) (fun v232 n233 σ230 q234 => ?_)
        obtain ⟨rfl, rfl, hM229, fr228⟩ := q234
        have hM231 := lc_MI_fr hMI (fun i h9 => fr228 i (Or.inl h9))
        obtain ⟨vs_hM231, hv_hM231⟩ := lc_MI_50 hM231
        refine lc_aload_n dL_law_472 rfl 2 rfl ?_
        refine lc_aload_n dL_law_473 rfl 0 rfl ?_
        refine lc_iload_n dL_law_474 rfl 3 rfl ?_
        refine lc_iconst dL_law_475 ?_
        refine lc_iadd dL_law_476 ?_
        refine lc_sld dL_law_477 (by omega) (by omega) ?_
        refine lc_aload_n dL_law_478 rfl 0 rfl ?_
        refine lc_iload_n dL_law_479 rfl 3 rfl ?_
        refine lc_iconst dL_law_480 ?_
        refine lc_iadd dL_law_481 ?_
        refine lc_sld dL_law_482 (by omega) (by omega) ?_
        refine lc_aload_n dL_law_483 rfl 0 rfl ?_
        refine lc_iload_n dL_law_484 rfl 3 rfl ?_
        refine lc_iconst dL_law_485 ?_
        refine lc_iadd dL_law_486 ?_
        refine lc_sld dL_law_487 (by omega) (by omega) ?_
        refine lc_callV (As := [.int (lc_i (lc_sx xs ((i) + (1)))), .int (lc_i (lc_sx xs ((i) + (2)))), .int (lc_i (lc_sx xs ((i) + (3))))]) (stk := [.int (lc_i ((lc_way ((f, s, q, m, mo, ca, ct, po), P, H, k, tx, z, bs, bt, sn, sr) (lc_sx xs ((i) + (1))) (lc_sx xs ((i) + (2))) (lc_sx xs ((i) + (3)))).2))]) (b := 50) dL_law_488 lc_mL_81 lc_yX11_way hv_hM231 rfl (lc_cX11_way l 58 f s q m mo ca ct po P H k tx z bs bt sn sr (lc_sx xs ((i) + (1))) (lc_sx xs ((i) + (2))) (lc_sx xs ((i) + (3))) σ230 hM231 hw (lc_sx_r xs _) (lc_sx_r xs _) (lc_sx_r xs _)) rfl ⟨Nat.le_of_ble_eq_true rfl, Nat.le_of_ble_eq_true rfl⟩ ⟨Nat.le_of_ble_eq_true rfl, Nat.le_of_ble_eq_true rfl⟩ rfl (Nat.le_of_ble_eq_true rfl) (fun v239 n240 σ237 q241 => ?_)
        obtain ⟨rfl, rfl, hM236, fr235⟩ := q241
        have hC238 := lc_CI_fr hM229 fr235
        refine lc_icmp_eqR (tgt := 680) dL_law_491 (by decide) (fun h_491_241 => ?_) (fun h_491_241 => ?_)
        · skip
          refine lc_iinc (lv' := [(0, .ref (0)), (1, .ref (1)), (2, .ref (50)), (3, .int (lc_i (i + 4)))]) dL_law_680 3 rfl (by decide) rfl ?_
          refine lc_goto (tgt := 18) dL_law_683 (by decide) ?_
          exact ih (i + 4) ((lc_way ((f, s, q, m, mo, ca, ct, po), P, H, k, tx, z, bs, bt, sn, sr) (lc_sx xs ((i) + (1))) (lc_sx xs ((i) + (2))) (lc_sx xs ((i) + (3)))).1) (σ237) (by omega) (by omega) (hC238) (hM236) (lc_wf_same hw rfl) (by omega)
        · exact absurd rfl h_491_241
      · refine lc_swC (v := 16) (tgt := 496) dL_law_32 h_32_1 (by decide) rfl (by decide) ?_
        refine lc_aload_n dL_law_496 rfl 1 rfl ?_
        refine lc_aload_n dL_law_497 rfl 0 rfl ?_
        refine lc_iload_n dL_law_498 rfl 3 rfl ?_
        refine lc_iconst dL_law_499 ?_
        refine lc_iadd dL_law_500 ?_
        refine lc_sld dL_law_501 (by omega) (by omega) ?_
        refine lc_aload_n dL_law_502 rfl 0 rfl ?_
        refine lc_iload_n dL_law_503 rfl 3 rfl ?_
        refine lc_iconst dL_law_504 ?_
        refine lc_iadd dL_law_505 ?_
        refine lc_sld dL_law_506 (by omega) (by omega) ?_
        refine lc_callV (As := [.int (lc_i (lc_sx xs ((i) + (1)))), .int (lc_i (lc_sx xs ((i) + (2))))]) (stk := []) (b := 1) dL_law_507 lc_mL_82 lc_yX10_circuit hv1 rfl (lc_cX10_circuit l 58 f s q m mo ca ct po P H k tx z bs bt sn sr (lc_sx xs ((i) + (1))) (lc_sx xs ((i) + (2))) σ hCI hw (lc_sx_r xs _) (lc_sx_r xs _)) rfl ⟨Nat.le_of_ble_eq_true rfl, Nat.le_of_ble_eq_true rfl⟩ ⟨Nat.le_of_ble_eq_true rfl, Nat.le_of_ble_eq_true rfl⟩ rfl (Nat.le_of_ble_eq_true rfl) (fun v247 n248 σ245 q249 => ?_)
        obtain ⟨rfl, rfl, hM244, fr243⟩ := q249
        have hM246 := lc_MI_fr hMI (fun i h9 => fr243 i (Or.inl h9))
        obtain ⟨vs_hM246, hv_hM246⟩ := lc_MI_50 hM246
        refine lc_aload_n dL_law_510 rfl 2 rfl ?_
        refine lc_aload_n dL_law_511 rfl 0 rfl ?_
        refine lc_iload_n dL_law_512 rfl 3 rfl ?_
        refine lc_iconst dL_law_513 ?_
        refine lc_iadd dL_law_514 ?_
        refine lc_sld dL_law_515 (by omega) (by omega) ?_
        refine lc_aload_n dL_law_516 rfl 0 rfl ?_
        refine lc_iload_n dL_law_517 rfl 3 rfl ?_
        refine lc_iconst dL_law_518 ?_
        refine lc_iadd dL_law_519 ?_
        refine lc_sld dL_law_520 (by omega) (by omega) ?_
        refine lc_callV (As := [.int (lc_i (lc_sx xs ((i) + (1)))), .int (lc_i (lc_sx xs ((i) + (2))))]) (stk := [.int (lc_i ((lc_circ ((f, s, q, m, mo, ca, ct, po), P, H, k, tx, z, bs, bt, sn, sr) (lc_sx xs ((i) + (1))) (lc_sx xs ((i) + (2)))).2))]) (b := 50) dL_law_521 lc_mL_85 lc_yX11_circuit hv_hM246 rfl (lc_cX11_circuit l 58 f s q m mo ca ct po P H k tx z bs bt sn sr (lc_sx xs ((i) + (1))) (lc_sx xs ((i) + (2))) σ245 hM246 hw (lc_sx_r xs _) (lc_sx_r xs _)) rfl ⟨Nat.le_of_ble_eq_true rfl, Nat.le_of_ble_eq_true rfl⟩ ⟨Nat.le_of_ble_eq_true rfl, Nat.le_of_ble_eq_true rfl⟩ rfl (Nat.le_of_ble_eq_true rfl) (fun v254 n255 σ252 q256 => ?_)
        obtain ⟨rfl, rfl, hM251, fr250⟩ := q256
        have hC253 := lc_CI_fr hM244 fr250
        refine lc_icmp_eqR (tgt := 680) dL_law_524 (by decide) (fun h_524_256 => ?_) (fun h_524_256 => ?_)
        · skip
          refine lc_iinc (lv' := [(0, .ref (0)), (1, .ref (1)), (2, .ref (50)), (3, .int (lc_i (i + 4)))]) dL_law_680 3 rfl (by decide) rfl ?_
          refine lc_goto (tgt := 18) dL_law_683 (by decide) ?_
          exact ih (i + 4) ((lc_circ ((f, s, q, m, mo, ca, ct, po), P, H, k, tx, z, bs, bt, sn, sr) (lc_sx xs ((i) + (1))) (lc_sx xs ((i) + (2)))).1) (σ252) (by omega) (by omega) (hC253) (hM251) (lc_wf_same hw rfl) (by omega)
        · exact absurd rfl h_524_256
      · refine lc_swC (v := 17) (tgt := 529) dL_law_32 h_32_1 (by decide) rfl (by decide) ?_
        refine lc_aload_n dL_law_529 rfl 1 rfl ?_
        refine lc_aload_n dL_law_530 rfl 0 rfl ?_
        refine lc_iload_n dL_law_531 rfl 3 rfl ?_
        refine lc_iconst dL_law_532 ?_
        refine lc_iadd dL_law_533 ?_
        refine lc_sld dL_law_534 (by omega) (by omega) ?_
        refine lc_aload_n dL_law_535 rfl 0 rfl ?_
        refine lc_iload_n dL_law_536 rfl 3 rfl ?_
        refine lc_iconst dL_law_537 ?_
        refine lc_iadd dL_law_538 ?_
        refine lc_sld dL_law_539 (by omega) (by omega) ?_
        refine lc_aload_n dL_law_540 rfl 0 rfl ?_
        refine lc_iload_n dL_law_541 rfl 3 rfl ?_
        refine lc_iconst dL_law_542 ?_
        refine lc_iadd dL_law_543 ?_
        refine lc_sld dL_law_544 (by omega) (by omega) ?_
        refine lc_if_eq (tgt := 552) dL_law_545 (by decide) (lc_sx_r xs _) (fun h_545_257 => ?_) (fun h_545_257 => ?_)
        · skip
          refine lc_iconst dL_law_552 ?_
          refine lc_callV (As := [.int (lc_i (lc_sx xs ((i) + (1)))), .int (lc_i (lc_sx xs ((i) + (2)))), .int (lc_i (0))]) (stk := []) (b := 1) dL_law_553 lc_mL_86 lc_yX10_reason hv1 rfl (lc_cX10_reason l 58 f s q m mo ca ct po P H k tx z bs bt sn sr (lc_sx xs ((i) + (1))) (lc_sx xs ((i) + (2))) false σ hCI hw (lc_sx_r xs _) (lc_sx_r xs _)) rfl ⟨Nat.le_of_ble_eq_true rfl, Nat.le_of_ble_eq_true rfl⟩ ⟨Nat.le_of_ble_eq_true rfl, Nat.le_of_ble_eq_true rfl⟩ rfl (Nat.le_of_ble_eq_true rfl) (fun v263 n264 σ261 q265 => ?_)
          obtain ⟨rfl, rfl, hM260, fr259⟩ := q265
          have hM262 := lc_MI_fr hMI (fun i h9 => fr259 i (Or.inl h9))
          obtain ⟨vs_hM262, hv_hM262⟩ := lc_MI_50 hM262
          refine lc_aload_n dL_law_556 rfl 2 rfl ?_
          refine lc_aload_n dL_law_557 rfl 0 rfl ?_
          refine lc_iload_n dL_law_558 rfl 3 rfl ?_
          refine lc_iconst dL_law_559 ?_
          refine lc_iadd dL_law_560 ?_
          refine lc_sld dL_law_561 (by omega) (by omega) ?_
          refine lc_aload_n dL_law_562 rfl 0 rfl ?_
          refine lc_iload_n dL_law_563 rfl 3 rfl ?_
          refine lc_iconst dL_law_564 ?_
          refine lc_iadd dL_law_565 ?_
          refine lc_sld dL_law_566 (by omega) (by omega) ?_
          refine lc_aload_n dL_law_567 rfl 0 rfl ?_
          refine lc_iload_n dL_law_568 rfl 3 rfl ?_
          refine lc_iconst dL_law_569 ?_
          refine lc_iadd dL_law_570 ?_
          refine lc_sld dL_law_571 (by omega) (by omega) ?_
          refine lc_if_eq (tgt := 579) dL_law_572 (by decide) (lc_sx_r xs _) (fun h_572_265 => ?_) (fun h_572_265 => ?_)
          · skip
            refine lc_iconst dL_law_579 ?_
            refine lc_callV (As := [.int (lc_i (lc_sx xs ((i) + (1)))), .int (lc_i (lc_sx xs ((i) + (2)))), .int (lc_i (0))]) (stk := [.int (lc_i ((lc_reas ((f, s, q, m, mo, ca, ct, po), P, H, k, tx, z, bs, bt, sn, sr) (lc_sx xs ((i) + (1))) (lc_sx xs ((i) + (2))) false).2))]) (b := 50) dL_law_580 lc_mL_90 lc_yX11_reason hv_hM262 rfl (lc_cX11_reason l 58 f s q m mo ca ct po P H k tx z bs bt sn sr (lc_sx xs ((i) + (1))) (lc_sx xs ((i) + (2))) false σ261 hM262 hw (lc_sx_r xs _) (lc_sx_r xs _)) rfl ⟨Nat.le_of_ble_eq_true rfl, Nat.le_of_ble_eq_true rfl⟩ ⟨Nat.le_of_ble_eq_true rfl, Nat.le_of_ble_eq_true rfl⟩ rfl (Nat.le_of_ble_eq_true rfl) (fun v271 n272 σ269 q273 => ?_)
            obtain ⟨rfl, rfl, hM268, fr267⟩ := q273
            have hC270 := lc_CI_fr hM260 fr267
            refine lc_icmp_eqR (tgt := 680) dL_law_583 (by decide) (fun h_583_273 => ?_) (fun h_583_273 => ?_)
            · skip
              refine lc_iinc (lv' := [(0, .ref (0)), (1, .ref (1)), (2, .ref (50)), (3, .int (lc_i (i + 4)))]) dL_law_680 3 rfl (by decide) rfl ?_
              refine lc_goto (tgt := 18) dL_law_683 (by decide) ?_
              exact ih (i + 4) ((lc_reas ((f, s, q, m, mo, ca, ct, po), P, H, k, tx, z, bs, bt, sn, sr) (lc_sx xs ((i) + (1))) (lc_sx xs ((i) + (2))) false).1) (σ269) (by omega) (by omega) (hC270) (hM268) (lc_wf_same hw rfl) (by omega)
            · exact absurd rfl h_583_273
          · exact absurd h_545_257 h_572_265
        · skip
          refine lc_iconst dL_law_548 ?_
          refine lc_goto (tgt := 553) dL_law_549 (by decide) ?_
          refine lc_callV (As := [.int (lc_i (lc_sx xs ((i) + (1)))), .int (lc_i (lc_sx xs ((i) + (2)))), .int (lc_i (1))]) (stk := []) (b := 1) dL_law_553 lc_mL_86 lc_yX10_reason hv1 rfl (lc_cX10_reason l 58 f s q m mo ca ct po P H k tx z bs bt sn sr (lc_sx xs ((i) + (1))) (lc_sx xs ((i) + (2))) true σ hCI hw (lc_sx_r xs _) (lc_sx_r xs _)) rfl ⟨Nat.le_of_ble_eq_true rfl, Nat.le_of_ble_eq_true rfl⟩ ⟨Nat.le_of_ble_eq_true rfl, Nat.le_of_ble_eq_true rfl⟩ rfl (Nat.le_of_ble_eq_true rfl) (fun v279 n280 σ277 q281 => ?_)
          obtain ⟨rfl, rfl, hM276, fr275⟩ := q281
          have hM278 := lc_MI_fr hMI (fun i h9 => fr275 i (Or.inl h9))
          obtain ⟨vs_hM278, hv_hM278⟩ := lc_MI_50 hM278
          refine lc_aload_n dL_law_556 rfl 2 rfl ?_
          refine lc_aload_n dL_law_557 rfl 0 rfl ?_
          refine lc_iload_n dL_law_558 rfl 3 rfl ?_
          refine lc_iconst dL_law_559 ?_
          refine lc_iadd dL_law_560 ?_
          refine lc_sld dL_law_561 (by omega) (by omega) ?_
          refine lc_aload_n dL_law_562 rfl 0 rfl ?_
          refine lc_iload_n dL_law_563 rfl 3 rfl ?_
          refine lc_iconst dL_law_564 ?_
          refine lc_iadd dL_law_565 ?_
          refine lc_sld dL_law_566 (by omega) (by omega) ?_
          refine lc_aload_n dL_law_567 rfl 0 rfl ?_
          refine lc_iload_n dL_law_568 rfl 3 rfl ?_
          refine lc_iconst dL_law_569 ?_
          refine lc_iadd dL_law_570 ?_
          refine lc_sld dL_law_571 (by omega) (by omega) ?_
          refine lc_if_eq (tgt := 579) dL_law_572 (by decide) (lc_sx_r xs _) (fun h_572_281 => ?_) (fun h_572_281 => ?_)
          · exact absurd h_572_281 h_545_257
          · skip
            refine lc_iconst dL_law_575 ?_
            refine lc_goto (tgt := 580) dL_law_576 (by decide) ?_
            refine lc_callV (As := [.int (lc_i (lc_sx xs ((i) + (1)))), .int (lc_i (lc_sx xs ((i) + (2)))), .int (lc_i (1))]) (stk := [.int (lc_i ((lc_reas ((f, s, q, m, mo, ca, ct, po), P, H, k, tx, z, bs, bt, sn, sr) (lc_sx xs ((i) + (1))) (lc_sx xs ((i) + (2))) true).2))]) (b := 50) dL_law_580 lc_mL_90 lc_yX11_reason hv_hM278 rfl (lc_cX11_reason l 58 f s q m mo ca ct po P H k tx z bs bt sn sr (lc_sx xs ((i) + (1))) (lc_sx xs ((i) + (2))) true σ277 hM278 hw (lc_sx_r xs _) (lc_sx_r xs _)) rfl ⟨Nat.le_of_ble_eq_true rfl, Nat.le_of_ble_eq_true rfl⟩ ⟨Nat.le_of_ble_eq_true rfl, Nat.le_of_ble_eq_true rfl⟩ rfl (Nat.le_of_ble_eq_true rfl) (fun v287 n288 σ285 q289 => ?_)
            obtain ⟨rfl, rfl, hM284, fr283⟩ := q289
            have hC286 := lc_CI_fr hM276 fr283
            refine lc_icmp_eqR (tgt := 680) dL_law_583 (by decide) (fun h_583_289 => ?_) (fun h_583_289 => ?_)
            · skip
              refine lc_iinc (lv' := [(0, .ref (0)), (1, .ref (1)), (2, .ref (50)), (3, .int (lc_i (i + 4)))]) dL_law_680 3 rfl (by decide) rfl ?_
              refine lc_goto (tgt := 18) dL_law_683 (by decide) ?_
              exact ih (i + 4) ((lc_reas ((f, s, q, m, mo, ca, ct, po), P, H, k, tx, z, bs, bt, sn, sr) (lc_sx xs ((i) + (1))) (lc_sx xs ((i) + (2))) true).1) (σ285) (by omega) (by omega) (hC286) (hM284) (lc_wf_same hw rfl) (by omega)
            · exact absurd rfl h_583_289
      · refine lc_swC (v := 18) (tgt := 588) dL_law_32 h_32_1 (by decide) rfl (by decide) ?_
        refine lc_aload_n dL_law_588 rfl 1 rfl ?_
        refine lc_aload_n dL_law_589 rfl 0 rfl ?_
        refine lc_iload_n dL_law_590 rfl 3 rfl ?_
        refine lc_iconst dL_law_591 ?_
        refine lc_iadd dL_law_592 ?_
        refine lc_sld dL_law_593 (by omega) (by omega) ?_
        refine lc_callV (As := [.int (lc_i (lc_sx xs ((i) + (1))))]) (stk := []) (b := 1) dL_law_594 lc_mL_91 lc_yX10_possible hv1 rfl (lc_cX10_possible l 58 f s q m mo ca ct po P H k tx z bs bt sn sr (lc_sx xs ((i) + (1))) σ hCI hw (lc_sx_r xs _)) rfl ⟨Nat.le_of_ble_eq_true rfl, Nat.le_of_ble_eq_true rfl⟩ ⟨Nat.le_of_ble_eq_true rfl, Nat.le_of_ble_eq_true rfl⟩ rfl (Nat.le_of_ble_eq_true rfl) (fun v295 n296 σ293 q297 => ?_)
        obtain ⟨rfl, rfl, hM292, fr291⟩ := q297
        have hM294 := lc_MI_fr hMI (fun i h9 => fr291 i (Or.inl h9))
        obtain ⟨vs_hM294, hv_hM294⟩ := lc_MI_50 hM294
        refine lc_aload_n dL_law_597 rfl 2 rfl ?_
        refine lc_aload_n dL_law_598 rfl 0 rfl ?_
        refine lc_iload_n dL_law_599 rfl 3 rfl ?_
        refine lc_iconst dL_law_600 ?_
        refine lc_iadd dL_law_601 ?_
        refine lc_sld dL_law_602 (by omega) (by omega) ?_
        refine lc_callV (As := [.int (lc_i (lc_sx xs ((i) + (1))))]) (stk := [.int (lc_i ((lc_poss ((f, s, q, m, mo, ca, ct, po), P, H, k, tx, z, bs, bt, sn, sr) (lc_sx xs ((i) + (1)))).2))]) (b := 50) dL_law_603 lc_mL_94 lc_yX11_possible hv_hM294 rfl (lc_cX11_possible_M l 58 f s q m mo ca ct po P H k tx z bs bt sn sr (lc_sx xs ((i) + (1))) σ293 hM294 hw (lc_sx_r xs _)) rfl ⟨Nat.le_of_ble_eq_true rfl, Nat.le_of_ble_eq_true rfl⟩ ⟨Nat.le_of_ble_eq_true rfl, Nat.le_of_ble_eq_true rfl⟩ rfl (Nat.le_of_ble_eq_true rfl) (fun v302 n303 σ300 q304 => ?_)
        obtain ⟨rfl, rfl, hM299, fr298⟩ := q304
        have hC301 := lc_CI_fr hM292 fr298
        refine lc_icmp_eqR (tgt := 680) dL_law_606 (by decide) (fun h_606_304 => ?_) (fun h_606_304 => ?_)
        · skip
          refine lc_iinc (lv' := [(0, .ref (0)), (1, .ref (1)), (2, .ref (50)), (3, .int (lc_i (i + 4)))]) dL_law_680 3 rfl (by decide) rfl ?_
          refine lc_goto (tgt := 18) dL_law_683 (by decide) ?_
          exact ih (i + 4) ((lc_poss ((f, s, q, m, mo, ca, ct, po), P, H, k, tx, z, bs, bt, sn, sr) (lc_sx xs ((i) + (1)))).1) (σ300) (by omega) (by omega) (hC301) (hM299) (lc_wf_same hw rfl) (by omega)
        · exact absurd rfl h_606_304
      · refine lc_swC (v := 19) (tgt := 611) dL_law_32 h_32_1 (by decide) rfl (by decide) ?_
        refine lc_aload_n dL_law_611 rfl 1 rfl ?_
        refine lc_aload_n dL_law_612 rfl 0 rfl ?_
        refine lc_iload_n dL_law_613 rfl 3 rfl ?_
        refine lc_iconst dL_law_614 ?_
        refine lc_iadd dL_law_615 ?_
        refine lc_sld dL_law_616 (by omega) (by omega) ?_
        refine lc_callV (As := [.int (lc_i (lc_sx xs ((i) + (1))))]) (stk := []) (b := 1) dL_law_617 lc_mL_95 lc_yX10_look hv1 rfl (lc_cX10_look l 58 f s q m mo ca ct po P H k tx z bs bt sn sr (lc_sx xs ((i) + (1))) σ hCI hw (lc_sx_r xs _)) rfl ⟨Nat.le_of_ble_eq_true rfl, Nat.le_of_ble_eq_true rfl⟩ ⟨Nat.le_of_ble_eq_true rfl, Nat.le_of_ble_eq_true rfl⟩ rfl (Nat.le_of_ble_eq_true rfl) (fun v310 n311 σ308 q312 => ?_)
        obtain ⟨rfl, rfl, hM307, fr306⟩ := q312
        have hM309 := lc_MI_fr hMI (fun i h9 => fr306 i (Or.inl h9))
        obtain ⟨vs_hM309, hv_hM309⟩ := lc_MI_50 hM309
        refine lc_aload_n dL_law_620 rfl 2 rfl ?_
        refine lc_aload_n dL_law_621 rfl 0 rfl ?_
        refine lc_iload_n dL_law_622 rfl 3 rfl ?_
        refine lc_iconst dL_law_623 ?_
        refine lc_iadd dL_law_624 ?_
        refine lc_sld dL_law_625 (by omega) (by omega) ?_
        refine lc_callV (As := [.int (lc_i (lc_sx xs ((i) + (1))))]) (stk := [.int (lc_i ((lc_look ((f, s, q, m, mo, ca, ct, po), P, H, k, tx, z, bs, bt, sn, sr) (lc_sx xs ((i) + (1)))).2))]) (b := 50) dL_law_626 lc_mL_98 lc_yX11_look hv_hM309 rfl (lc_cX11_look l 58 f s q m mo ca ct po P H k tx z bs bt sn sr (lc_sx xs ((i) + (1))) σ308 hM309 hw (lc_sx_r xs _)) rfl ⟨Nat.le_of_ble_eq_true rfl, Nat.le_of_ble_eq_true rfl⟩ ⟨Nat.le_of_ble_eq_true rfl, Nat.le_of_ble_eq_true rfl⟩ rfl (Nat.le_of_ble_eq_true rfl) (fun v317 n318 σ315 q319 => ?_)
        obtain ⟨rfl, rfl, hM314, fr313⟩ := q319
        have hC316 := lc_CI_fr hM307 fr313
        refine lc_icmp_eqR (tgt := 680) dL_law_629 (by decide) (fun h_629_319 => ?_) (fun h_629_319 => ?_)
        · skip
          refine lc_iinc (lv' := [(0, .ref (0)), (1, .ref (1)), (2, .ref (50)), (3, .int (lc_i (i + 4)))]) dL_law_680 3 rfl (by decide) rfl ?_
          refine lc_goto (tgt := 18) dL_law_683 (by decide) ?_
          exact ih (i + 4) ((lc_look ((f, s, q, m, mo, ca, ct, po), P, H, k, tx, z, bs, bt, sn, sr) (lc_sx xs ((i) + (1)))).1) (σ315) (by omega) (by omega) (hC316) (hM314) (lc_wf_same hw rfl) (by omega)
        · exact absurd rfl h_629_319
      · refine lc_swC (v := 20) (tgt := 634) dL_law_32 h_32_1 (by decide) rfl (by decide) ?_
        refine lc_aload_n dL_law_634 rfl 1 rfl ?_
        refine lc_aload_n dL_law_635 rfl 0 rfl ?_
        refine lc_iload_n dL_law_636 rfl 3 rfl ?_
        refine lc_iconst dL_law_637 ?_
        refine lc_iadd dL_law_638 ?_
        refine lc_sld dL_law_639 (by omega) (by omega) ?_
        refine lc_callV (As := [.int (lc_i (lc_sx xs ((i) + (1))))]) (stk := []) (b := 1) dL_law_640 lc_mL_99 lc_yX10_best hv1 rfl (lc_cX10_best l 58 f s q m mo ca ct po P H k tx z bs bt sn sr (lc_sx xs ((i) + (1))) σ hCI hw (lc_sx_r xs _)) rfl ⟨Nat.le_of_ble_eq_true rfl, Nat.le_of_ble_eq_true rfl⟩ ⟨Nat.le_of_ble_eq_true rfl, Nat.le_of_ble_eq_true rfl⟩ rfl (Nat.le_of_ble_eq_true rfl) (fun v325 n326 σ323 q327 => ?_)
        obtain ⟨rfl, rfl, hM322, fr321⟩ := q327
        have hM324 := lc_MI_fr hMI (fun i h9 => fr321 i (Or.inl h9))
        obtain ⟨vs_hM324, hv_hM324⟩ := lc_MI_50 hM324
        refine lc_aload_n dL_law_643 rfl 2 rfl ?_
        refine lc_aload_n dL_law_644 rfl 0 rfl ?_
        refine lc_iload_n dL_law_645 rfl 3 rfl ?_
        refine lc_iconst dL_law_646 ?_
        refine lc_iadd dL_law_647 ?_
        refine lc_sld dL_law_648 (by omega) (by omega) ?_
        refine lc_callV (As := [.int (lc_i (lc_sx xs ((i) + (1))))]) (stk := [.int (lc_i ((lc_best ((f, s, q, m, mo, ca, ct, po), P, H, k, tx, z, bs, bt, sn, sr) (lc_sx xs ((i) + (1)))).2))]) (b := 50) dL_law_649 lc_mL_102 lc_yX11_best hv_hM324 rfl (lc_cX11_best l 58 f s q m mo ca ct po P H k tx z bs bt sn sr (lc_sx xs ((i) + (1))) σ323 hM324 hw (lc_sx_r xs _)) rfl ⟨Nat.le_of_ble_eq_true rfl, Nat.le_of_ble_eq_true rfl⟩ ⟨Nat.le_of_ble_eq_true rfl, Nat.le_of_ble_eq_true rfl⟩ rfl (Nat.le_of_ble_eq_true rfl) (fun v332 n333 σ330 q334 => ?_)
        obtain ⟨rfl, rfl, hM329, fr328⟩ := q334
        have hC331 := lc_CI_fr hM322 fr328
        refine lc_icmp_eqR (tgt := 680) dL_law_652 (by decide) (fun h_652_334 => ?_) (fun h_652_334 => ?_)
        · skip
          refine lc_iinc (lv' := [(0, .ref (0)), (1, .ref (1)), (2, .ref (50)), (3, .int (lc_i (i + 4)))]) dL_law_680 3 rfl (by decide) rfl ?_
          refine lc_goto (tgt := 18) dL_law_683 (by decide) ?_
          exact ih (i + 4) ((lc_best ((f, s, q, m, mo, ca, ct, po), P, H, k, tx, z, bs, bt, sn, sr) (lc_sx xs ((i) + (1)))).1) (σ330) (by omega) (by omega) (hC331) (hM329) (lc_wf_same hw rfl) (by omega)
        · exact absurd rfl h_652_334
      · refine lc_swC (v := 21) (tgt := 657) dL_law_32 h_32_1 (by decide) rfl (by decide) ?_
        refine lc_aload_n dL_law_657 rfl 1 rfl ?_
        refine lc_aload_n dL_law_658 rfl 0 rfl ?_
        refine lc_iload_n dL_law_659 rfl 3 rfl ?_
        refine lc_iconst dL_law_660 ?_
        refine lc_iadd dL_law_661 ?_
        refine lc_sld dL_law_662 (by omega) (by omega) ?_
        refine lc_callV (As := [.int (lc_i (lc_sx xs ((i) + (1))))]) (stk := []) (b := 1) dL_law_663 lc_mL_103 lc_yX10_count hv1 rfl (lc_cX10_count l 58 f s q m mo ca ct po P H k tx z bs bt sn sr (lc_sx xs ((i) + (1))) σ hCI hw (lc_sx_r xs _)) rfl ⟨Nat.le_of_ble_eq_true rfl, Nat.le_of_ble_eq_true rfl⟩ ⟨Nat.le_of_ble_eq_true rfl, Nat.le_of_ble_eq_true rfl⟩ rfl (Nat.le_of_ble_eq_true rfl) (fun v340 n341 σ338 q342 => ?_)
        obtain ⟨rfl, rfl, hM337, fr336⟩ := q342
        have hM339 := lc_MI_fr hMI (fun i h9 => fr336 i (Or.inl h9))
        obtain ⟨vs_hM339, hv_hM339⟩ := lc_MI_50 hM339
        refine lc_aload_n dL_law_666 rfl 2 rfl ?_
        refine lc_aload_n dL_law_667 rfl 0 rfl ?_
        refine lc_iload_n dL_law_668 rfl 3 rfl ?_
        refine lc_iconst dL_law_669 ?_
        refine lc_iadd dL_law_670 ?_
        refine lc_sld dL_law_671 (by omega) (by omega) ?_
        refine lc_callV (As := [.int (lc_i (lc_sx xs ((i) + (1))))]) (stk := [.int (lc_i ((lc_cnts ((f, s, q, m, mo, ca, ct, po), P, H, k, tx, z, bs, bt, sn, sr) (lc_sx xs ((i) + (1)))).2))]) (b := 50) dL_law_672 lc_mL_106 lc_yX11_count hv_hM339 rfl (lc_cX11_count l 58 f s q m mo ca ct po P H k tx z bs bt sn sr (lc_sx xs ((i) + (1))) σ338 hM339 hw (lc_sx_r xs _)) rfl ⟨Nat.le_of_ble_eq_true rfl, Nat.le_of_ble_eq_true rfl⟩ ⟨Nat.le_of_ble_eq_true rfl, Nat.le_of_ble_eq_true rfl⟩ rfl (Nat.le_of_ble_eq_true rfl) (fun v347 n348 σ345 q349 => ?_)
        obtain ⟨rfl, rfl, hM344, fr343⟩ := q349
        have hC346 := lc_CI_fr hM337 fr343
        refine lc_icmp_eqR (tgt := 680) dL_law_675 (by decide) (fun h_675_349 => ?_) (fun h_675_349 => ?_)
        · skip
          refine lc_iinc (lv' := [(0, .ref (0)), (1, .ref (1)), (2, .ref (50)), (3, .int (lc_i (i + 4)))]) dL_law_680 3 rfl (by decide) rfl ?_
          refine lc_goto (tgt := 18) dL_law_683 (by decide) ?_
          exact ih (i + 4) ((lc_cnts ((f, s, q, m, mo, ca, ct, po), P, H, k, tx, z, bs, bt, sn, sr) (lc_sx xs ((i) + (1)))).1) (σ345) (by omega) (by omega) (hC346) (hM344) (lc_wf_same hw rfl) (by omega)
        · exact absurd rfl h_675_349
      · refine lc_swD (tgt := 680) dL_law_32 (by omega) h_32_1 (by decide) ?_
        refine lc_iinc (lv' := [(0, .ref (0)), (1, .ref (1)), (2, .ref (50)), (3, .int (lc_i (i + 4)))]) dL_law_680 3 rfl (by decide) rfl ?_
        refine lc_goto (tgt := 18) dL_law_683 (by decide) ?_
        exact ih (i + 4) (((f, s, q, m, mo, ca, ct, po), P, H, k, tx, z, bs, bt, sn, sr)) (σ) (by omega) (by omega) (hCI) (hMI) (hw) (by omega)

set_option maxRecDepth 100000 in
set_option maxHeartbeats 8000000 in
theorem lc_lawV (l : Launch) {L : Nat} {xs : Nat → Int32} (hL : L ≤ 2048) : lc_V l RL cL_law 4 (some .boolean) false room_1 lc_GL (lc_EL L xs) 0 0 1 0 [(0, .ref (0))] [] (fun _ => none) := by
  refine lc_N10 dL_law_0 lc_cL_7 (by omega) (Nat.le_of_ble_eq_true rfl) (Nat.le_of_ble_eq_true rfl) (fun σ1 h2 fr3 => ?_)
  refine lc_dup dL_law_3 rfl ?_
  refine lc_callI (As := []) (stk := [.ref (1)]) (b := 1) dL_law_4 lc_mL_9 lc_yX10_init (by omega) (lc_cX10_init l σ1 h2) rfl ⟨Nat.le_of_ble_eq_true rfl, Nat.le_of_ble_eq_true rfl⟩ ⟨Nat.le_of_ble_eq_true rfl, Nat.le_of_ble_eq_true rfl⟩ rfl (Nat.le_of_ble_eq_true rfl) (fun v7 n8 σ6 q9 => ?_)
  obtain ⟨rfl, rfl, hC5, fr4⟩ := q9
  refine lc_astore_n (lv' := [(0, .ref (0)), (1, .ref (1))]) dL_law_7 rfl (by decide) rfl ?_
  refine lc_N11 dL_law_8 lc_cL_10 (by omega) (Nat.le_of_ble_eq_true rfl) (Nat.le_of_ble_eq_true rfl) (fun σ10 h11 fr12 => ?_)
  have hC8 := lc_CI_fr hC5 (fun i h9 => fr12 i (by omega))
  refine lc_dup dL_law_11 rfl ?_
  refine lc_callI (As := []) (stk := [.ref (50)]) (b := 50) dL_law_12 lc_mL_12 lc_yX11_init (by omega) (lc_cX11_init l σ10 h11) rfl ⟨Nat.le_of_ble_eq_true rfl, Nat.le_of_ble_eq_true rfl⟩ ⟨Nat.le_of_ble_eq_true rfl, Nat.le_of_ble_eq_true rfl⟩ rfl (Nat.le_of_ble_eq_true rfl) (fun v16 n17 σ15 q18 => ?_)
  obtain ⟨rfl, rfl, hM14, fr13⟩ := q18
  have hC9 := lc_CI_fr hC8 fr13
  refine lc_astore_n (lv' := [(0, .ref (0)), (1, .ref (1)), (2, .ref (50))]) dL_law_15 rfl (by decide) rfl ?_
  refine lc_iconst dL_law_16 ?_
  refine lc_istore_n (lv' := [(0, .ref (0)), (1, .ref (1)), (2, .ref (50)), (3, .int (lc_i (0)))]) dL_law_17 rfl (by decide) rfl ?_
  exact lc_lawloop l hL 3000 0 lc_A0 _ (by omega) (by omega) hC9 hM14 lc_wf_0 (by omega)
