/-! constructors -/

section LcNew
variable {l : Launch} {own : String} {cc : ByteArray} {nL : Nat} {ret : Option FieldType} {ini : Bool} {R : Room} {G : lc_GT} {E : lc_ET} {k z n pc : Nat} {lv : List (Nat × Value)} {stk : List Value} {σ : lc_S}

theorem lc_upW {P : lc_S → Prop} {σ : lc_S} {n : Nat} {c : lc_Cel} (h : ∀ σ1 : lc_S, σ1 n = some c → (∀ i : Nat, i ≠ n → σ1 i = σ i) → P σ1) : P (lc_up σ n c) := h _ (lc_up_s _ _ _) (fun i hi => lc_up_n _ _ hi)

theorem lc_NI {v : Int} (N : Nat) (hd : decode cc pc = .ok (.newarray .int, 2)) (hac : Cond.arrayClass .int ∈ lc_WS) (hv : v = N) (hN : N < 65536) (hn0 : 0 < n) (hc : k + 1 ≤ R.cells) (hs : z + N ≤ R.slots) (kk : ∀ σ1 : lc_S, σ1 n = some (lc_aI N (fun _ : Int => (0 : Int))) → (∀ i : Nat, i ≠ n → σ1 i = σ i) → lc_V l own cc nL ret ini R G E (k + 1) (z + N) (n + 1) (pc + 2) lv (.ref n :: stk) σ1) : lc_V l own cc nL ret ini R G E k z n pc lv (.int (lc_i v) :: stk) σ := lc_newI N hd hac hv hN hn0 hc hs (lc_upW (P := fun σ1 => lc_V l own cc nL ret ini R G E (k + 1) (z + N) (n + 1) (pc + 2) lv (.ref n :: stk) σ1) kk)

theorem lc_NJ {v : Int} (N : Nat) (hd : decode cc pc = .ok (.newarray .long, 2)) (hac : Cond.arrayClass .long ∈ lc_WS) (hv : v = N) (hN : N < 65536) (hn0 : 0 < n) (hc : k + 1 ≤ R.cells) (hs : z + N ≤ R.slots) (kk : ∀ σ1 : lc_S, σ1 n = some (lc_aJ N (fun _ : Int => (0 : Int64))) → (∀ i : Nat, i ≠ n → σ1 i = σ i) → lc_V l own cc nL ret ini R G E (k + 1) (z + N) (n + 1) (pc + 2) lv (.ref n :: stk) σ1) : lc_V l own cc nL ret ini R G E k z n pc lv (.int (lc_i v) :: stk) σ := lc_newJ N hd hac hv hN hn0 hc hs (lc_upW (P := fun σ1 => lc_V l own cc nL ret ini R G E (k + 1) (z + N) (n + 1) (pc + 2) lv (.ref n :: stk) σ1) kk)

theorem lc_NC {v : Int} (N : Nat) (hd : decode cc pc = .ok (.newarray .char, 2)) (hac : Cond.arrayClass .char ∈ lc_WS) (hv : v = N) (hN : N < 65536) (hn0 : 0 < n) (hc : k + 1 ≤ R.cells) (hs : z + N ≤ R.slots) (kk : ∀ σ1 : lc_S, σ1 n = some (lc_aC N (fun _ : Int => (0 : Int))) → (∀ i : Nat, i ≠ n → σ1 i = σ i) → lc_V l own cc nL ret ini R G E (k + 1) (z + N) (n + 1) (pc + 2) lv (.ref n :: stk) σ1) : lc_V l own cc nL ret ini R G E k z n pc lv (.int (lc_i v) :: stk) σ := lc_newC N hd hac hv hN hn0 hc hs (lc_upW (P := fun σ1 => lc_V l own cc nL ret ini R G E (k + 1) (z + N) (n + 1) (pc + 2) lv (.ref n :: stk) σ1) kk)

theorem lc_NS {v : Int} {idx : Nat} (N : Nat) (hd : decode cc pc = .ok (.anewarray idx, 3)) (hcl : Cond.classLink own idx RX7 ∈ lc_WS) (hv : v = N) (hN : N < 65536) (hn0 : 0 < n) (hc : k + 1 ≤ R.cells) (hs : z + N ≤ R.slots) (kk : ∀ σ1 : lc_S, σ1 n = some (lc_aS N (fun _ : Int => (none : Option Nat))) → (∀ i : Nat, i ≠ n → σ1 i = σ i) → lc_V l own cc nL ret ini R G E (k + 1) (z + N) (n + 1) (pc + 3) lv (.ref n :: stk) σ1) : lc_V l own cc nL ret ini R G E k z n pc lv (.int (lc_i v) :: stk) σ := lc_newS N hd hcl hv hN hn0 hc hs (lc_upW (P := fun σ1 => lc_V l own cc nL ret ini R G E (k + 1) (z + N) (n + 1) (pc + 3) lv (.ref n :: stk) σ1) kk)

theorem lc_N0 {idx : Nat} (hd : decode cc pc = .ok (.new idx, 3)) (hcl : Cond.classLink own idx RX0 ∈ lc_WS) (hn0 : 0 < n) (hc : k + 1 ≤ R.cells) (hs : z + 6 ≤ R.slots) (kk : ∀ σ1 : lc_S, σ1 n = some (.inr (0, [.null, .int (lc_i (0)), .int (lc_i (0)), .int (lc_i (0)), .int (lc_i (0)), .int (lc_i (0))]) : lc_Cel) → (∀ i : Nat, i ≠ n → σ1 i = σ i) → lc_V l own cc nL ret ini R G E (k + 1) (z + 6) (n + 1) (pc + 3) lv (.ref n :: stk) σ1) : lc_V l own cc nL ret ini R G E k z n pc lv stk σ := lc_new (C := RX0) (T := TX0) (N := 6) (t0 := tyX0) (fs := [.null, .int (lc_i (0)), .int (lc_i (0)), .int (lc_i (0)), .int (lc_i (0)), .int (lc_i (0))]) hd hcl lc_nX0 rfl lc_kX0 tyX0_ok (fun j hj => by rcases (show j = 0 ∨ j = 1 ∨ j = 2 ∨ j = 3 ∨ j = 4 ∨ j = 5 by omega) with e | e | e | e | e | e <;> subst e <;> rfl) rfl hn0 hc hs (lc_upW (P := fun σ1 => lc_V l own cc nL ret ini R G E (k + 1) (z + 6) (n + 1) (pc + 3) lv (.ref n :: stk) σ1) kk)

theorem lc_N1 {idx : Nat} (hd : decode cc pc = .ok (.new idx, 3)) (hcl : Cond.classLink own idx RX1 ∈ lc_WS) (hn0 : 0 < n) (hc : k + 1 ≤ R.cells) (hs : z + 2 ≤ R.slots) (kk : ∀ σ1 : lc_S, σ1 n = some (.inr (1, [.null, .null]) : lc_Cel) → (∀ i : Nat, i ≠ n → σ1 i = σ i) → lc_V l own cc nL ret ini R G E (k + 1) (z + 2) (n + 1) (pc + 3) lv (.ref n :: stk) σ1) : lc_V l own cc nL ret ini R G E k z n pc lv stk σ := lc_new (C := RX1) (T := TX1) (N := 2) (t0 := tyX1) (fs := [.null, .null]) hd hcl lc_nX1 rfl lc_kX1 tyX1_ok (fun j hj => by rcases (show j = 0 ∨ j = 1 by omega) with e | e <;> subst e <;> rfl) rfl hn0 hc hs (lc_upW (P := fun σ1 => lc_V l own cc nL ret ini R G E (k + 1) (z + 2) (n + 1) (pc + 3) lv (.ref n :: stk) σ1) kk)

theorem lc_N2 {idx : Nat} (hd : decode cc pc = .ok (.new idx, 3)) (hcl : Cond.classLink own idx RX2 ∈ lc_WS) (hn0 : 0 < n) (hc : k + 1 ≤ R.cells) (hs : z + 2 ≤ R.slots) (kk : ∀ σ1 : lc_S, σ1 n = some (.inr (2, [.null, .int (lc_i (0))]) : lc_Cel) → (∀ i : Nat, i ≠ n → σ1 i = σ i) → lc_V l own cc nL ret ini R G E (k + 1) (z + 2) (n + 1) (pc + 3) lv (.ref n :: stk) σ1) : lc_V l own cc nL ret ini R G E k z n pc lv stk σ := lc_new (C := RX2) (T := TX2) (N := 2) (t0 := tyX2) (fs := [.null, .int (lc_i (0))]) hd hcl lc_nX2 rfl lc_kX2 tyX2_ok (fun j hj => by rcases (show j = 0 ∨ j = 1 by omega) with e | e <;> subst e <;> rfl) rfl hn0 hc hs (lc_upW (P := fun σ1 => lc_V l own cc nL ret ini R G E (k + 1) (z + 2) (n + 1) (pc + 3) lv (.ref n :: stk) σ1) kk)

theorem lc_N3 {idx : Nat} (hd : decode cc pc = .ok (.new idx, 3)) (hcl : Cond.classLink own idx RX3 ∈ lc_WS) (hn0 : 0 < n) (hc : k + 1 ≤ R.cells) (hs : z + 5 ≤ R.slots) (kk : ∀ σ1 : lc_S, σ1 n = some (.inr (3, [.null, .null, .null, .null, .int (lc_i (0))]) : lc_Cel) → (∀ i : Nat, i ≠ n → σ1 i = σ i) → lc_V l own cc nL ret ini R G E (k + 1) (z + 5) (n + 1) (pc + 3) lv (.ref n :: stk) σ1) : lc_V l own cc nL ret ini R G E k z n pc lv stk σ := lc_new (C := RX3) (T := TX3) (N := 5) (t0 := tyX3) (fs := [.null, .null, .null, .null, .int (lc_i (0))]) hd hcl lc_nX3 rfl lc_kX3 tyX3_ok (fun j hj => by rcases (show j = 0 ∨ j = 1 ∨ j = 2 ∨ j = 3 ∨ j = 4 by omega) with e | e | e | e | e <;> subst e <;> rfl) rfl hn0 hc hs (lc_upW (P := fun σ1 => lc_V l own cc nL ret ini R G E (k + 1) (z + 5) (n + 1) (pc + 3) lv (.ref n :: stk) σ1) kk)

theorem lc_N4 {idx : Nat} (hd : decode cc pc = .ok (.new idx, 3)) (hcl : Cond.classLink own idx RX4 ∈ lc_WS) (hn0 : 0 < n) (hc : k + 1 ≤ R.cells) (hs : z + 3 ≤ R.slots) (kk : ∀ σ1 : lc_S, σ1 n = some (.inr (4, [.null, .int (lc_i (0)), .int (lc_i (0))]) : lc_Cel) → (∀ i : Nat, i ≠ n → σ1 i = σ i) → lc_V l own cc nL ret ini R G E (k + 1) (z + 3) (n + 1) (pc + 3) lv (.ref n :: stk) σ1) : lc_V l own cc nL ret ini R G E k z n pc lv stk σ := lc_new (C := RX4) (T := TX4) (N := 3) (t0 := tyX4) (fs := [.null, .int (lc_i (0)), .int (lc_i (0))]) hd hcl lc_nX4 rfl lc_kX4 tyX4_ok (fun j hj => by rcases (show j = 0 ∨ j = 1 ∨ j = 2 by omega) with e | e | e <;> subst e <;> rfl) rfl hn0 hc hs (lc_upW (P := fun σ1 => lc_V l own cc nL ret ini R G E (k + 1) (z + 3) (n + 1) (pc + 3) lv (.ref n :: stk) σ1) kk)

theorem lc_N5 {idx : Nat} (hd : decode cc pc = .ok (.new idx, 3)) (hcl : Cond.classLink own idx RX5 ∈ lc_WS) (hn0 : 0 < n) (hc : k + 1 ≤ R.cells) (hs : z + 2 ≤ R.slots) (kk : ∀ σ1 : lc_S, σ1 n = some (.inr (5, [.null, .int (lc_i (0))]) : lc_Cel) → (∀ i : Nat, i ≠ n → σ1 i = σ i) → lc_V l own cc nL ret ini R G E (k + 1) (z + 2) (n + 1) (pc + 3) lv (.ref n :: stk) σ1) : lc_V l own cc nL ret ini R G E k z n pc lv stk σ := lc_new (C := RX5) (T := TX5) (N := 2) (t0 := tyX5) (fs := [.null, .int (lc_i (0))]) hd hcl lc_nX5 rfl lc_kX5 tyX5_ok (fun j hj => by rcases (show j = 0 ∨ j = 1 by omega) with e | e <;> subst e <;> rfl) rfl hn0 hc hs (lc_upW (P := fun σ1 => lc_V l own cc nL ret ini R G E (k + 1) (z + 2) (n + 1) (pc + 3) lv (.ref n :: stk) σ1) kk)

theorem lc_N6 {idx : Nat} (hd : decode cc pc = .ok (.new idx, 3)) (hcl : Cond.classLink own idx RX6 ∈ lc_WS) (hn0 : 0 < n) (hc : k + 1 ≤ R.cells) (hs : z + 3 ≤ R.slots) (kk : ∀ σ1 : lc_S, σ1 n = some (.inr (6, [.null, .null, .null]) : lc_Cel) → (∀ i : Nat, i ≠ n → σ1 i = σ i) → lc_V l own cc nL ret ini R G E (k + 1) (z + 3) (n + 1) (pc + 3) lv (.ref n :: stk) σ1) : lc_V l own cc nL ret ini R G E k z n pc lv stk σ := lc_new (C := RX6) (T := TX6) (N := 3) (t0 := tyX6) (fs := [.null, .null, .null]) hd hcl lc_nX6 rfl lc_kX6 tyX6_ok (fun j hj => by rcases (show j = 0 ∨ j = 1 ∨ j = 2 by omega) with e | e | e <;> subst e <;> rfl) rfl hn0 hc hs (lc_upW (P := fun σ1 => lc_V l own cc nL ret ini R G E (k + 1) (z + 3) (n + 1) (pc + 3) lv (.ref n :: stk) σ1) kk)

theorem lc_N7 {idx : Nat} (hd : decode cc pc = .ok (.new idx, 3)) (hcl : Cond.classLink own idx RX7 ∈ lc_WS) (hn0 : 0 < n) (hc : k + 1 ≤ R.cells) (hs : z + 5 ≤ R.slots) (kk : ∀ σ1 : lc_S, σ1 n = some (.inr (7, [.null, .int (lc_i (0)), .int (lc_i (0)), .null, .int (lc_i (0))]) : lc_Cel) → (∀ i : Nat, i ≠ n → σ1 i = σ i) → lc_V l own cc nL ret ini R G E (k + 1) (z + 5) (n + 1) (pc + 3) lv (.ref n :: stk) σ1) : lc_V l own cc nL ret ini R G E k z n pc lv stk σ := lc_new (C := RX7) (T := TX7) (N := 5) (t0 := tyX7) (fs := [.null, .int (lc_i (0)), .int (lc_i (0)), .null, .int (lc_i (0))]) hd hcl lc_nX7 rfl lc_kX7 tyX7_ok (fun j hj => by rcases (show j = 0 ∨ j = 1 ∨ j = 2 ∨ j = 3 ∨ j = 4 by omega) with e | e | e | e | e <;> subst e <;> rfl) rfl hn0 hc hs (lc_upW (P := fun σ1 => lc_V l own cc nL ret ini R G E (k + 1) (z + 5) (n + 1) (pc + 3) lv (.ref n :: stk) σ1) kk)

theorem lc_N8 {idx : Nat} (hd : decode cc pc = .ok (.new idx, 3)) (hcl : Cond.classLink own idx RX8 ∈ lc_WS) (hn0 : 0 < n) (hc : k + 1 ≤ R.cells) (hs : z + 4 ≤ R.slots) (kk : ∀ σ1 : lc_S, σ1 n = some (.inr (8, [.null, .int (lc_i (0)), .int (lc_i (0)), .int (lc_i (0))]) : lc_Cel) → (∀ i : Nat, i ≠ n → σ1 i = σ i) → lc_V l own cc nL ret ini R G E (k + 1) (z + 4) (n + 1) (pc + 3) lv (.ref n :: stk) σ1) : lc_V l own cc nL ret ini R G E k z n pc lv stk σ := lc_new (C := RX8) (T := TX8) (N := 4) (t0 := tyX8) (fs := [.null, .int (lc_i (0)), .int (lc_i (0)), .int (lc_i (0))]) hd hcl lc_nX8 rfl lc_kX8 tyX8_ok (fun j hj => by rcases (show j = 0 ∨ j = 1 ∨ j = 2 ∨ j = 3 by omega) with e | e | e | e <;> subst e <;> rfl) rfl hn0 hc hs (lc_upW (P := fun σ1 => lc_V l own cc nL ret ini R G E (k + 1) (z + 4) (n + 1) (pc + 3) lv (.ref n :: stk) σ1) kk)

theorem lc_N9 {idx : Nat} (hd : decode cc pc = .ok (.new idx, 3)) (hcl : Cond.classLink own idx RX9 ∈ lc_WS) (hn0 : 0 < n) (hc : k + 1 ≤ R.cells) (hs : z + 6 ≤ R.slots) (kk : ∀ σ1 : lc_S, σ1 n = some (.inr (9, [.null, .null, .int (lc_i (0)), .int (lc_i (0)), .int (lc_i (0)), .int (lc_i (0))]) : lc_Cel) → (∀ i : Nat, i ≠ n → σ1 i = σ i) → lc_V l own cc nL ret ini R G E (k + 1) (z + 6) (n + 1) (pc + 3) lv (.ref n :: stk) σ1) : lc_V l own cc nL ret ini R G E k z n pc lv stk σ := lc_new (C := RX9) (T := TX9) (N := 6) (t0 := tyX9) (fs := [.null, .null, .int (lc_i (0)), .int (lc_i (0)), .int (lc_i (0)), .int (lc_i (0))]) hd hcl lc_nX9 rfl lc_kX9 tyX9_ok (fun j hj => by rcases (show j = 0 ∨ j = 1 ∨ j = 2 ∨ j = 3 ∨ j = 4 ∨ j = 5 by omega) with e | e | e | e | e | e <;> subst e <;> rfl) rfl hn0 hc hs (lc_upW (P := fun σ1 => lc_V l own cc nL ret ini R G E (k + 1) (z + 6) (n + 1) (pc + 3) lv (.ref n :: stk) σ1) kk)

theorem lc_N10 {idx : Nat} (hd : decode cc pc = .ok (.new idx, 3)) (hcl : Cond.classLink own idx RX10 ∈ lc_WS) (hn0 : 0 < n) (hc : k + 1 ≤ R.cells) (hs : z + 14 ≤ R.slots) (kk : ∀ σ1 : lc_S, σ1 n = some (.inr (10, [.null, .null, .null, .null, .null, .null, .null, .null, .null, .null, .int (lc_i (0)), .int (lc_i (0)), .int (lc_i (0)), .int (lc_i (0))]) : lc_Cel) → (∀ i : Nat, i ≠ n → σ1 i = σ i) → lc_V l own cc nL ret ini R G E (k + 1) (z + 14) (n + 1) (pc + 3) lv (.ref n :: stk) σ1) : lc_V l own cc nL ret ini R G E k z n pc lv stk σ := lc_new (C := RX10) (T := TX10) (N := 14) (t0 := tyX10) (fs := [.null, .null, .null, .null, .null, .null, .null, .null, .null, .null, .int (lc_i (0)), .int (lc_i (0)), .int (lc_i (0)), .int (lc_i (0))]) hd hcl lc_nX10 rfl lc_kX10 tyX10_ok (fun j hj => by rcases (show j = 0 ∨ j = 1 ∨ j = 2 ∨ j = 3 ∨ j = 4 ∨ j = 5 ∨ j = 6 ∨ j = 7 ∨ j = 8 ∨ j = 9 ∨ j = 10 ∨ j = 11 ∨ j = 12 ∨ j = 13 by omega) with e | e | e | e | e | e | e | e | e | e | e | e | e | e <;> subst e <;> rfl) rfl hn0 hc hs (lc_upW (P := fun σ1 => lc_V l own cc nL ret ini R G E (k + 1) (z + 14) (n + 1) (pc + 3) lv (.ref n :: stk) σ1) kk)

theorem lc_N11 {idx : Nat} (hd : decode cc pc = .ok (.new idx, 3)) (hcl : Cond.classLink own idx RX11 ∈ lc_WS) (hn0 : 0 < n) (hc : k + 1 ≤ R.cells) (hs : z + 17 ≤ R.slots) (kk : ∀ σ1 : lc_S, σ1 n = some (.inr (11, [.null, .null, .null, .null, .null, .int (lc_i (0)), .null, .int (lc_i (0)), .null, .int (lc_i (0)), .int (lc_i (0)), .int (lc_i (0)), .int (lc_i (0)), .int (lc_i (0)), .int (lc_i (0)), .int (lc_i (0)), .int (lc_i (0))]) : lc_Cel) → (∀ i : Nat, i ≠ n → σ1 i = σ i) → lc_V l own cc nL ret ini R G E (k + 1) (z + 17) (n + 1) (pc + 3) lv (.ref n :: stk) σ1) : lc_V l own cc nL ret ini R G E k z n pc lv stk σ := lc_new (C := RX11) (T := TX11) (N := 17) (t0 := tyX11) (fs := [.null, .null, .null, .null, .null, .int (lc_i (0)), .null, .int (lc_i (0)), .null, .int (lc_i (0)), .int (lc_i (0)), .int (lc_i (0)), .int (lc_i (0)), .int (lc_i (0)), .int (lc_i (0)), .int (lc_i (0)), .int (lc_i (0))]) hd hcl lc_nX11 rfl lc_kX11 tyX11_ok (fun j hj => by rcases (show j = 0 ∨ j = 1 ∨ j = 2 ∨ j = 3 ∨ j = 4 ∨ j = 5 ∨ j = 6 ∨ j = 7 ∨ j = 8 ∨ j = 9 ∨ j = 10 ∨ j = 11 ∨ j = 12 ∨ j = 13 ∨ j = 14 ∨ j = 15 ∨ j = 16 by omega) with e | e | e | e | e | e | e | e | e | e | e | e | e | e | e | e | e <;> subst e <;> rfl) rfl hn0 hc hs (lc_upW (P := fun σ1 => lc_V l own cc nL ret ini R G E (k + 1) (z + 17) (n + 1) (pc + 3) lv (.ref n :: stk) σ1) kk)

end LcNew

set_option maxRecDepth 100000 in
set_option maxHeartbeats 600000 in
theorem lc_cX8_init (l : Launch) (b : Nat) (σ : lc_S) (h0_0 : σ (b) = some (.inr (8, [.null, .int (lc_i (0)), .int (lc_i (0)), .int (lc_i (0))]) : lc_Cel)) (hb : 1 ≤ b) : lc_Con l yX8_init cX8_init 2 none (lc_Rd 1) [.ref (b), .ref (2)] (b + 1) σ (fun v n2 σ2 => v = none ∧ b + 1 = n2 ∧ σ2 (b) = some (.inr (8, [.ref (2), .int (lc_i (0)), .int (lc_i (0)), .int (lc_i (0))]) : lc_Cel) ∧ (∀ i : Nat, i < b → σ2 i = σ i)) := by
  refine lc_con RX8 true (by decide) rfl (fun _ => rfl) (Nat.le_of_ble_eq_true rfl) ?_
  suffices H : ∀ Q : lc_QT, (∀ v n2 σ2, (fun v n2 σ2 => v = none ∧ b + 1 = n2 ∧ σ2 (b) = some (.inr (8, [.ref (2), .int (lc_i (0)), .int (lc_i (0)), .int (lc_i (0))]) : lc_Cel) ∧ (∀ i : Nat, i < b → σ2 i = σ i) : lc_QT) v n2 σ2 → Q v n2 σ2) → lc_V l RX8 cX8_init 2 none true (lc_Rd 1) (lc_G Q 0 0) lc_E0 0 0 (b + 1) 0 [(0, .ref (b)), (1, .ref (2))] [] σ from H _ (fun _ _ _ h => h)
  intro Q hQ
  refine lc_aload_n dX8_init_0 rfl 0 rfl ?_
  refine lc_objInit dX8_init_1 lc_mX8_3 (by omega) ⟨Nat.le_of_ble_eq_true rfl, Nat.le_of_ble_eq_true rfl⟩ ?_
  refine lc_aload_n dX8_init_4 rfl 0 rfl ?_
  refine lc_aload_n dX8_init_5 rfl 1 rfl ?_
  refine lc_wF (vs' := [.ref (2), .int (lc_i (0)), .int (lc_i (0)), .int (lc_i (0))]) dX8_init_6 lc_fX8_9 h0_0 (Nat.le_of_ble_eq_true rfl) rfl rfl lc_refObj rfl (fun σ1 h2 fr3 => ?_)
  exact lc_vret dX8_init_9 rfl (Nat.le_of_ble_eq_true rfl) (Nat.le_of_ble_eq_true rfl) (hQ _ _ _ ⟨rfl, rfl, h2, (fun i _ => (fr3 i (by omega)))⟩)

set_option maxRecDepth 100000 in
set_option maxHeartbeats 600000 in
theorem lc_cX4_init (l : Launch) (b : Nat) (σ : lc_S) (h0_0 : σ (b) = some (.inr (4, [.null, .int (lc_i (0)), .int (lc_i (0))]) : lc_Cel)) (hb : 1 ≤ b) : lc_Con l yX4_init cX4_init 1 none (lc_Ra 1 1 364) [.ref (b)] (b + 1) σ (fun v n2 σ2 => v = none ∧ b + 2 = n2 ∧ σ2 (b) = some (.inr (4, [.ref (b + 1), .int (lc_i (0)), .int (lc_i (0))]) : lc_Cel) ∧ σ2 (b + 1) = some (lc_aI 364 (fun _ : Int => (0 : Int))) ∧ (∀ i : Nat, i < b → σ2 i = σ i)) := by
  refine lc_con RX4 true (by decide) rfl (fun _ => rfl) (Nat.le_of_ble_eq_true rfl) ?_
  suffices H : ∀ Q : lc_QT, (∀ v n2 σ2, (fun v n2 σ2 => v = none ∧ b + 2 = n2 ∧ σ2 (b) = some (.inr (4, [.ref (b + 1), .int (lc_i (0)), .int (lc_i (0))]) : lc_Cel) ∧ σ2 (b + 1) = some (lc_aI 364 (fun _ : Int => (0 : Int))) ∧ (∀ i : Nat, i < b → σ2 i = σ i) : lc_QT) v n2 σ2 → Q v n2 σ2) → lc_V l RX4 cX4_init 1 none true (lc_Ra 1 1 364) (lc_G Q 1 364) lc_E0 0 0 (b + 1) 0 [(0, .ref (b))] [] σ from H _ (fun _ _ _ h => h)
  intro Q hQ
  refine lc_aload_n dX4_init_0 rfl 0 rfl ?_
  refine lc_objInit dX4_init_1 lc_mX4_3 (by omega) ⟨Nat.le_of_ble_eq_true rfl, Nat.le_of_ble_eq_true rfl⟩ ?_
  refine lc_aload_n dX4_init_4 rfl 0 rfl ?_
  refine lc_sipush dX4_init_5 (by decide) ?_
  refine lc_NI 364 dX4_init_8 lc_ac_int rfl (by decide) (by omega) (Nat.le_of_ble_eq_true rfl) (Nat.le_of_ble_eq_true rfl) (fun σ1 h2 fr3 => ?_)
  have h4 : σ1 (b) = some (.inr (4, [.null, .int (lc_i (0)), .int (lc_i (0))]) : lc_Cel) := (fr3 _ (by omega)).trans h0_0
  refine lc_wF (vs' := [.ref (b + 1), .int (lc_i (0)), .int (lc_i (0))]) dX4_init_10 lc_fX4_11 h4 (Nat.le_of_ble_eq_true rfl) rfl rfl lc_refArr rfl (fun σ5 h6 fr7 => ?_)
  have h8 : σ5 (b + 1) = some (lc_aI 364 (fun _ : Int => (0 : Int))) := (fr7 _ (by omega)).trans h2
  exact lc_vret dX4_init_13 rfl (Nat.le_of_ble_eq_true rfl) (Nat.le_of_ble_eq_true rfl) (hQ _ _ _ ⟨rfl, rfl, h6, h8, (fun i _ => ((fr7 i (by omega)).trans (fr3 i (by omega))))⟩)

set_option maxRecDepth 100000 in
set_option maxHeartbeats 600000 in
theorem lc_cX0_init (l : Launch) (b : Nat) (σ : lc_S) (h0_0 : σ (b) = some (.inr (0, [.null, .int (lc_i (0)), .int (lc_i (0)), .int (lc_i (0)), .int (lc_i (0)), .int (lc_i (0))]) : lc_Cel)) (hb : 1 ≤ b) : lc_Con l yX0_init cX0_init 1 none (lc_Ra 3 1 36) [.ref (b)] (b + 1) σ (fun v n2 σ2 => v = none ∧ b + 2 = n2 ∧ σ2 (b) = some (.inr (0, [.ref (b + 1), .int (lc_i (lc_cnt (lc_f0) 1 36)), .int (lc_i (lc_cnt (lc_f0) 2 36)), .int (lc_i (1)), .int (lc_i (0)), .int (lc_i (20))]) : lc_Cel) ∧ σ2 (b + 1) = some (lc_aI 36 (lc_f0)) ∧ (∀ i : Nat, i < b → σ2 i = σ i)) := by
  refine lc_con RX0 true (by decide) rfl (fun _ => rfl) (Nat.le_of_ble_eq_true rfl) ?_
  suffices H : ∀ Q : lc_QT, (∀ v n2 σ2, (fun v n2 σ2 => v = none ∧ b + 2 = n2 ∧ σ2 (b) = some (.inr (0, [.ref (b + 1), .int (lc_i (lc_cnt (lc_f0) 1 36)), .int (lc_i (lc_cnt (lc_f0) 2 36)), .int (lc_i (1)), .int (lc_i (0)), .int (lc_i (20))]) : lc_Cel) ∧ σ2 (b + 1) = some (lc_aI 36 (lc_f0)) ∧ (∀ i : Nat, i < b → σ2 i = σ i) : lc_QT) v n2 σ2 → Q v n2 σ2) → lc_V l RX0 cX0_init 1 none true (lc_Ra 3 1 36) (lc_G Q 1 36) lc_E0 0 0 (b + 1) 0 [(0, .ref (b))] [] σ from H _ (fun _ _ _ h => h)
  intro Q hQ
  refine lc_aload_n dX0_init_0 rfl 0 rfl ?_
  refine lc_objInit dX0_init_1 lc_mX0_3 (by omega) ⟨Nat.le_of_ble_eq_true rfl, Nat.le_of_ble_eq_true rfl⟩ ?_
  refine lc_aload_n dX0_init_4 rfl 0 rfl ?_
  refine lc_bipush dX0_init_5 (by decide) ?_
  refine lc_NI 36 dX0_init_7 lc_ac_int rfl (by decide) (by omega) (Nat.le_of_ble_eq_true rfl) (Nat.le_of_ble_eq_true rfl) (fun σ1 h2 fr3 => ?_)
  have h4 : σ1 (b) = some (.inr (0, [.null, .int (lc_i (0)), .int (lc_i (0)), .int (lc_i (0)), .int (lc_i (0)), .int (lc_i (0))]) : lc_Cel) := (fr3 _ (by omega)).trans h0_0
  refine lc_wF (vs' := [.ref (b + 1), .int (lc_i (0)), .int (lc_i (0)), .int (lc_i (0)), .int (lc_i (0)), .int (lc_i (0))]) dX0_init_9 lc_fX0_9 h4 (Nat.le_of_ble_eq_true rfl) rfl rfl lc_refArr rfl (fun σ5 h6 fr7 => ?_)
  have h8 : σ5 (b + 1) = some (lc_aI 36 (fun _ : Int => (0 : Int))) := (fr7 _ (by omega)).trans h2
  refine lc_aload_n dX0_init_12 rfl 0 rfl ?_
  refine lc_bipush dX0_init_13 (by decide) ?_
  refine lc_wI (vs' := [.ref (b + 1), .int (lc_i (0)), .int (lc_i (0)), .int (lc_i (0)), .int (lc_i (0)), .int (lc_i (20))]) dX0_init_15 lc_fX0_15 h6 (Nat.le_of_ble_eq_true rfl) rfl rfl rfl (fun σ9 h10 fr11 => ?_)
  have h12 : σ9 (b + 1) = some (lc_aI 36 (fun _ : Int => (0 : Int))) := (fr11 _ (by omega)).trans h8
  have h13 : σ9 (b) = some (.inr (0, [.ref (b + 1), .int (lc_i (lc_cnt (fun _ : Int => (0 : Int)) 1 36)), .int (lc_i (lc_cnt (fun _ : Int => (0 : Int)) 2 36)), .int (lc_i (0)), .int (lc_i (0)), .int (lc_i (20))]) : lc_Cel) := (by rw [show lc_cnt (fun _ : Int => (0 : Int)) 1 36 = 0 from by decide, show lc_cnt (fun _ : Int => (0 : Int)) 2 36 = 0 from by decide]; exact h10)
  refine lc_aload_n dX0_init_18 rfl 0 rfl ?_
  refine lc_callV (As := []) (stk := []) (b := b) dX0_init_19 lc_mX0_19 lc_yX0_startAnew h13 rfl (lc_cX0_startAnew l (b + 2) (b) (fun _ : Int => (0 : Int)) (0) (0) (20) σ9 h13 h12 (fun j _ _ => by decide)) rfl ⟨Nat.le_of_ble_eq_true rfl, Nat.le_of_ble_eq_true rfl⟩ ⟨Nat.le_of_ble_eq_true rfl, Nat.le_of_ble_eq_true rfl⟩ rfl (Nat.le_of_ble_eq_true rfl) (fun v17 n18 σ19 q20 => ?_)
  obtain ⟨rfl, rfl, h15, h16, fr14⟩ := q20
  exact lc_vret dX0_init_22 rfl (Nat.le_of_ble_eq_true rfl) (Nat.le_of_ble_eq_true rfl) (hQ _ _ _ ⟨rfl, rfl, h15, h16, (fun i _ => ((fr14 i (by omega) (by omega)).trans ((fr11 i (by omega)).trans ((fr7 i (by omega)).trans (fr3 i (by omega))))))⟩)

set_option maxRecDepth 100000 in
set_option maxHeartbeats 600000 in
theorem lc_cX7_init (l : Launch) (b : Nat) (σ : lc_S) (h0_0 : σ (b) = some (.inr (7, [.null, .int (lc_i (0)), .int (lc_i (0)), .null, .int (lc_i (0))]) : lc_Cel)) (hb : 1 ≤ b) : lc_Con l yX7_init cX7_init 1 none (lc_Ra 4 3 102) [.ref (b)] (b + 1) σ (fun v n2 σ2 => v = none ∧ b + 4 = n2 ∧ σ2 (b) = some (.inr (7, [.ref (b + 1), .int (lc_i (0)), .int (lc_i (0)), .ref (b + 3), .int (lc_i (lc_rc 0))]) : lc_Cel) ∧ σ2 (b + 1) = some (.inr (0, [.ref (b + 2), .int (lc_i (lc_cnt (lc_f0) 1 36)), .int (lc_i (lc_cnt (lc_f0) 2 36)), .int (lc_i (1)), .int (lc_i (0)), .int (lc_i (20))]) : lc_Cel) ∧ σ2 (b + 2) = some (lc_aI 36 (lc_f0)) ∧ σ2 (b + 3) = some (lc_aJ 60 (fun i : Int => lc_j ((lc_rp (fun _ : Int => (0 : Int)) (0) (lc_key (lc_f0) (1) 36)) i))) ∧ (∀ i : Nat, i < b → σ2 i = σ i)) := by
  refine lc_con RX7 true (by decide) rfl (fun _ => rfl) (Nat.le_of_ble_eq_true rfl) ?_
  suffices H : ∀ Q : lc_QT, (∀ v n2 σ2, (fun v n2 σ2 => v = none ∧ b + 4 = n2 ∧ σ2 (b) = some (.inr (7, [.ref (b + 1), .int (lc_i (0)), .int (lc_i (0)), .ref (b + 3), .int (lc_i (lc_rc 0))]) : lc_Cel) ∧ σ2 (b + 1) = some (.inr (0, [.ref (b + 2), .int (lc_i (lc_cnt (lc_f0) 1 36)), .int (lc_i (lc_cnt (lc_f0) 2 36)), .int (lc_i (1)), .int (lc_i (0)), .int (lc_i (20))]) : lc_Cel) ∧ σ2 (b + 2) = some (lc_aI 36 (lc_f0)) ∧ σ2 (b + 3) = some (lc_aJ 60 (fun i : Int => lc_j ((lc_rp (fun _ : Int => (0 : Int)) (0) (lc_key (lc_f0) (1) 36)) i))) ∧ (∀ i : Nat, i < b → σ2 i = σ i) : lc_QT) v n2 σ2 → Q v n2 σ2) → lc_V l RX7 cX7_init 1 none true (lc_Ra 4 3 102) (lc_G Q 3 102) lc_E0 0 0 (b + 1) 0 [(0, .ref (b))] [] σ from H _ (fun _ _ _ h => h)
  intro Q hQ
  refine lc_aload_n dX7_init_0 rfl 0 rfl ?_
  refine lc_objInit dX7_init_1 lc_mX7_3 (by omega) ⟨Nat.le_of_ble_eq_true rfl, Nat.le_of_ble_eq_true rfl⟩ ?_
  refine lc_aload_n dX7_init_4 rfl 0 rfl ?_
  refine lc_N0 dX7_init_5 lc_cX7_9 (by omega) (Nat.le_of_ble_eq_true rfl) (Nat.le_of_ble_eq_true rfl) (fun σ1 h2 fr3 => ?_)
  have h4 : σ1 (b) = some (.inr (7, [.null, .int (lc_i (0)), .int (lc_i (0)), .null, .int (lc_i (0))]) : lc_Cel) := (fr3 _ (by omega)).trans h0_0
  refine lc_dup dX7_init_8 rfl ?_
  refine lc_callI (As := []) (stk := [.ref (b + 1), .ref (b)]) (b := b + 1) dX7_init_9 lc_mX7_11 lc_yX0_init (by omega) (lc_cX0_init l (b + 1) σ1 h2 (by omega)) rfl ⟨Nat.le_of_ble_eq_true rfl, Nat.le_of_ble_eq_true rfl⟩ ⟨Nat.le_of_ble_eq_true rfl, Nat.le_of_ble_eq_true rfl⟩ rfl (Nat.le_of_ble_eq_true rfl) (fun v8 n9 σ10 q11 => ?_)
  obtain ⟨rfl, rfl, h6, h7, fr5⟩ := q11
  have h12 : σ10 (b) = some (.inr (7, [.null, .int (lc_i (0)), .int (lc_i (0)), .null, .int (lc_i (0))]) : lc_Cel) := (fr5 _ (by omega)).trans h4
  refine lc_wF (vs' := [.ref (b + 1), .int (lc_i (0)), .int (lc_i (0)), .null, .int (lc_i (0))]) dX7_init_12 lc_fX7_12 h12 (Nat.le_of_ble_eq_true rfl) rfl rfl lc_refObj rfl (fun σ13 h14 fr15 => ?_)
  have h16 : σ13 (b + 1) = some (.inr (0, [.ref (b + 2), .int (lc_i (lc_cnt (lc_f0) 1 36)), .int (lc_i (lc_cnt (lc_f0) 2 36)), .int (lc_i (1)), .int (lc_i (0)), .int (lc_i (20))]) : lc_Cel) := (fr15 _ (by omega)).trans h6
  have h17 : σ13 (b + 2) = some (lc_aI 36 (lc_f0)) := (fr15 _ (by omega)).trans h7
  refine lc_aload_n dX7_init_15 rfl 0 rfl ?_
  refine lc_bipush dX7_init_16 (by decide) ?_
  refine lc_NJ 60 dX7_init_18 lc_ac_long rfl (by decide) (by omega) (Nat.le_of_ble_eq_true rfl) (Nat.le_of_ble_eq_true rfl) (fun σ18 h19 fr20 => ?_)
  have h21 : σ18 (b + 1) = some (.inr (0, [.ref (b + 2), .int (lc_i (lc_cnt (lc_f0) 1 36)), .int (lc_i (lc_cnt (lc_f0) 2 36)), .int (lc_i (1)), .int (lc_i (0)), .int (lc_i (20))]) : lc_Cel) := (fr20 _ (by omega)).trans h16
  have h22 : σ18 (b + 2) = some (lc_aI 36 (lc_f0)) := (fr20 _ (by omega)).trans h17
  have h23 : σ18 (b) = some (.inr (7, [.ref (b + 1), .int (lc_i (0)), .int (lc_i (0)), .null, .int (lc_i (0))]) : lc_Cel) := (fr20 _ (by omega)).trans h14
  refine lc_wF (vs' := [.ref (b + 1), .int (lc_i (0)), .int (lc_i (0)), .ref (b + 3), .int (lc_i (0))]) dX7_init_20 lc_fX7_18 h23 (Nat.le_of_ble_eq_true rfl) rfl rfl lc_refArr rfl (fun σ24 h25 fr26 => ?_)
  have h27 : σ24 (b + 1) = some (.inr (0, [.ref (b + 2), .int (lc_i (lc_cnt (lc_f0) 1 36)), .int (lc_i (lc_cnt (lc_f0) 2 36)), .int (lc_i (1)), .int (lc_i (0)), .int (lc_i (20))]) : lc_Cel) := (fr26 _ (by omega)).trans h21
  have h28 : σ24 (b + 2) = some (lc_aI 36 (lc_f0)) := (fr26 _ (by omega)).trans h22
  have h29 : σ24 (b + 3) = some (lc_aJ 60 (fun _ : Int => (0 : Int64))) := (fr26 _ (by omega)).trans h19
  have h30 : σ24 (b + 3) = some (lc_aJ 60 (fun i : Int => lc_j ((fun _ : Int => (0 : Int)) i))) := h29
  refine lc_aload_n dX7_init_23 rfl 0 rfl ?_
  refine lc_callV (As := []) (stk := []) (b := b) dX7_init_24 lc_mX7_22 lc_yX7_remember h25 rfl (lc_cX7_remember l (b + 4) (b) (lc_f0) (1) (0) (20) (0) (0) (0) (fun _ : Int => (0 : Int)) σ24 h25 h27 h28 h30 (lc_f0_ok) (by decide) (by decide)) rfl ⟨Nat.le_of_ble_eq_true rfl, Nat.le_of_ble_eq_true rfl⟩ ⟨Nat.le_of_ble_eq_true rfl, Nat.le_of_ble_eq_true rfl⟩ rfl (Nat.le_of_ble_eq_true rfl) (fun v34 n35 σ36 q37 => ?_)
  obtain ⟨rfl, rfl, h32, h33, fr31⟩ := q37
  have h38 : σ36 (b + 1) = some (.inr (0, [.ref (b + 2), .int (lc_i (lc_cnt (lc_f0) 1 36)), .int (lc_i (lc_cnt (lc_f0) 2 36)), .int (lc_i (1)), .int (lc_i (0)), .int (lc_i (20))]) : lc_Cel) := (fr31 _ (by omega) (by omega)).trans h27
  have h39 : σ36 (b + 2) = some (lc_aI 36 (lc_f0)) := (fr31 _ (by omega) (by omega)).trans h28
  exact lc_vret dX7_init_27 rfl (Nat.le_of_ble_eq_true rfl) (Nat.le_of_ble_eq_true rfl) (hQ _ _ _ ⟨rfl, rfl, h32, h38, h39, h33, (fun i _ => ((fr31 i (by omega) (by omega)).trans ((fr26 i (by omega)).trans ((fr20 i (by omega)).trans ((fr15 i (by omega)).trans ((fr5 i (by omega)).trans (fr3 i (by omega))))))))⟩)

/-- the points while they are laid out: circuit c, i points a side -/
def lc_lay (c i : Int) (j : Int) : Int := if j / 24 < c ∨ (j / 24 = c ∧ j % 6 < i) then lc_pt j else 0
def lc_pu4 (f : Int → Int) (c i : Int) : Int → Int := lc_u (lc_u (lc_u (lc_u f (24 * c + i) ((1 + c) * 6 + i)) (24 * c + 6 + i) (i * 6 + (4 - c))) (24 * c + 12 + i) ((4 - c) * 6 + (5 - i))) (24 * c + 18 + i) ((5 - i) * 6 + (1 + c))
theorem lc_lay_s : ∀ c : Fin 2, ∀ i : Fin 6, ∀ j : Fin 48, lc_pu4 (lc_lay (c.val : Int) (i.val : Int)) (c.val : Int) (i.val : Int) (j.val : Int) = lc_lay (c.val : Int) ((i.val : Int) + 1) (j.val : Int) := by decide +kernel
theorem lc_lay_6 {c j : Int} : lc_lay c 6 j = lc_lay (c + 1) 0 j := by
  unfold lc_lay
  by_cases h : j / 24 < c ∨ (j / 24 = c ∧ j % 6 < 6)
  · rw [if_pos h, if_pos (by omega)]
  · rw [if_neg h, if_neg (by omega)]
/-- the spots when the first n are added -/
def lc_spi (n : Int) (j : Int) : Int := if lc_sp j < n then lc_sp j else -1
def lc_add (g : Int → Int) (p x : Int) : Int → Int := if g (p * 2) = -1 then lc_u g (p * 2) x else if g (p * 2 + 1) = -1 then lc_u g (p * 2 + 1) x else g
theorem lc_spi_s : ∀ n : Fin 48, ∀ j : Fin 72, lc_add (lc_spi (n.val : Int)) (lc_pt (n.val : Int)) (n.val : Int) (j.val : Int) = lc_spi ((n.val : Int) + 1) (j.val : Int) := by decide +kernel
theorem lc_lay_st {c i : Int} (hc : c = 0 ∨ c = 1) (hi : 0 ≤ i ∧ i < 6) {j : Int} (h1 : 0 ≤ j) (h2 : j < 48) : lc_pu4 (lc_lay c i) c i j = lc_lay c (i + 1) j := by
  have h := lc_lay_s ⟨c.toNat, by omega⟩ ⟨i.toNat, by omega⟩ ⟨j.toNat, by omega⟩
  rw [show ((c.toNat : Nat) : Int) = c by omega, show ((i.toNat : Nat) : Int) = i by omega, show ((j.toNat : Nat) : Int) = j by omega] at h
  exact h
theorem lc_spi_st {n : Int} (hn : 0 ≤ n ∧ n < 48) {j : Int} (h1 : 0 ≤ j) (h2 : j < 72) : lc_add (lc_spi n) (lc_pt n) n j = lc_spi (n + 1) j := by
  have h := lc_spi_s ⟨n.toNat, by omega⟩ ⟨j.toNat, by omega⟩
  rw [show ((n.toNat : Nat) : Int) = n by omega, show ((j.toNat : Nat) : Int) = j by omega] at h
  exact h
theorem lc_spi_48 {j : Int} (h1 : 0 ≤ j) (h2 : j < 72) : lc_spi 48 j = lc_sp j := if_pos (lc_sp_r ⟨h1, h2⟩).2
theorem lc_lay_48 {j : Int} (h1 : 0 ≤ j) (h2 : j < 48) : lc_lay 2 0 j = lc_pt j := if_pos (by omega)

set_option maxRecDepth 100000 in
set_option maxHeartbeats 600000 in
theorem lc_cX1_put (l : Launch) (n : Nat) (f : Int → Int) (x y w : Int) (σ : lc_S) (h0_0 : σ (2) = some (.inr (1, [.ref (3), .ref (4)]) : lc_Cel)) (h0_1 : σ (3) = some (lc_aI 48 (f))) (hx : 0 ≤ x ∧ x < 48) : lc_Con l yX1_put cX1_put 4 none (lc_Rd 0) [.ref (2), .int (lc_i (x)), .int (lc_i (y)), .int (lc_i (w))] n σ (fun v n2 σ2 => v = none ∧ n = n2 ∧ σ2 (3) = some (lc_aI 48 (lc_u f x (y * 6 + w))) ∧ ∀ i : Nat, i ≠ 3 → σ2 i = σ i) := by
  refine lc_con RX1 false (by decide) rfl (fun h => absurd h (by decide)) (Nat.le_of_ble_eq_true rfl) ?_
  suffices H : ∀ Q : lc_QT, (∀ v n2 σ2, (fun v n2 σ2 => v = none ∧ n = n2 ∧ σ2 (3) = some (lc_aI 48 (lc_u f x (y * 6 + w))) ∧ ∀ i : Nat, i ≠ 3 → σ2 i = σ i : lc_QT) v n2 σ2 → Q v n2 σ2) → lc_V l RX1 cX1_put 4 none false (lc_Rd 0) (lc_G Q 0 0) lc_E0 0 0 n 0 [(0, .ref (2)), (1, .int (lc_i (x))), (2, .int (lc_i (y))), (3, .int (lc_i (w)))] [] σ from H _ (fun _ _ _ h => h)
  intro Q hQ
  refine lc_iload_n dX1_put_0 rfl 1 rfl ?_
  refine lc_if_lt (tgt := 25) dX1_put_1 (by decide) (by omega) (fun h_1_0 => ?_) (fun h_1_0 => ?_)
  · omega
  · skip
    refine lc_iload_n dX1_put_4 rfl 1 rfl ?_
    refine lc_aload_n dX1_put_5 rfl 0 rfl ?_
    refine lc_get dX1_put_6 lc_fX1_11 h0_0 rfl ?_
    refine lc_alenV (v := 48) dX1_put_9 h0_1 (by decide) rfl ?_
    refine lc_icmp_ge (tgt := 25) dX1_put_10 (by decide) (by omega) (fun h_10_1 => ?_) (fun h_10_1 => ?_)
    · omega
    · skip
      refine lc_aload_n dX1_put_13 rfl 0 rfl ?_
      refine lc_get dX1_put_14 lc_fX1_11 h0_0 rfl ?_
      refine lc_iload_n dX1_put_17 rfl 1 rfl ?_
      refine lc_iload_n dX1_put_18 rfl 2 rfl ?_
      refine lc_bipush dX1_put_19 (by decide) ?_
      refine lc_imul dX1_put_21 ?_
      refine lc_iload_n dX1_put_22 rfl 3 rfl ?_
      refine lc_iadd dX1_put_23 ?_
      refine lc_sI dX1_put_24 h0_1 (by omega) (by decide) (fun σ3 h4 fr5 => ?_)
      have h6 : σ3 (2) = some (.inr (1, [.ref (3), .ref (4)]) : lc_Cel) := (fr5 _ (by omega)).trans h0_0
      exact lc_vret dX1_put_25 rfl (Nat.le_of_ble_eq_true rfl) (Nat.le_of_ble_eq_true rfl) (hQ _ _ _ ⟨rfl, rfl, h4, (fun i _ => (fr5 i (by omega)))⟩)

set_option maxRecDepth 100000 in
set_option maxHeartbeats 600000 in
theorem lc_cX1_layOut (l : Launch) (n : Nat) (c : Int) (σ : lc_S) (h0_0 : σ (2) = some (.inr (1, [.ref (3), .ref (4)]) : lc_Cel)) (h0_1 : σ (3) = some (lc_aI 48 (lc_lay c 0))) (hc : c = 0 ∨ c = 1) : lc_Con l yX1_layOut cX1_layOut 7 none (lc_Rd 1) [.ref (2), .int (lc_i (c))] n σ (fun v n2 σ2 => v = none ∧ n = n2 ∧ σ2 (3) = some (lc_aI 48 (lc_lay (c + 1) 0)) ∧ ∀ i : Nat, i ≠ 3 → σ2 i = σ i) := by
  refine lc_con RX1 false (by decide) rfl (fun h => absurd h (by decide)) (Nat.le_of_ble_eq_true rfl) ?_
  suffices H : ∀ Q : lc_QT, (∀ v n2 σ2, (fun v n2 σ2 => v = none ∧ n = n2 ∧ σ2 (3) = some (lc_aI 48 (lc_lay (c + 1) 0)) ∧ ∀ i : Nat, i ≠ 3 → σ2 i = σ i : lc_QT) v n2 σ2 → Q v n2 σ2) → lc_V l RX1 cX1_layOut 7 none false (lc_Rd 1) (lc_G Q 0 0) lc_E0 0 0 n 0 [(0, .ref (2)), (1, .int (lc_i (c)))] [] σ from H _ (fun _ _ _ h => h)
  intro Q hQ
  refine lc_iconst dX1_layOut_0 ?_
  refine lc_iload_n dX1_layOut_1 rfl 1 rfl ?_
  refine lc_iadd dX1_layOut_2 ?_
  refine lc_istore_n (lv' := [(0, .ref (2)), (1, .int (lc_i (c))), (2, .int (lc_i ((1) + (c))))]) dX1_layOut_3 rfl (by decide) rfl ?_
  refine lc_iconst dX1_layOut_4 ?_
  refine lc_iload_n dX1_layOut_5 rfl 2 rfl ?_
  refine lc_isub dX1_layOut_6 ?_
  refine lc_top (congrArg (fun z => Value.int (lc_i z)) (show ((5) - ((1) + (c)) : Int) = 4 - c from by omega)) ?_
  refine lc_istore_n (lv' := [(0, .ref (2)), (1, .int (lc_i (c))), (2, .int (lc_i ((1) + (c)))), (3, .int (lc_i (4 - c)))]) dX1_layOut_7 rfl (by decide) rfl ?_
  refine lc_iload_n dX1_layOut_8 rfl 1 rfl ?_
  refine lc_bipush dX1_layOut_9 (by decide) ?_
  refine lc_imul dX1_layOut_11 ?_
  refine lc_top (congrArg (fun z => Value.int (lc_i z)) (show ((c) * (24) : Int) = 24 * c from by omega)) ?_
  refine lc_istore (lv' := [(0, .ref (2)), (1, .int (lc_i (c))), (2, .int (lc_i ((1) + (c)))), (3, .int (lc_i (4 - c))), (4, .int (lc_i (24 * c)))]) dX1_layOut_12 (by decide) rfl ?_
  refine lc_iconst dX1_layOut_14 ?_
  refine lc_istore (lv' := [(0, .ref (2)), (1, .int (lc_i (c))), (2, .int (lc_i ((1) + (c)))), (3, .int (lc_i (4 - c))), (4, .int (lc_i (24 * c))), (5, .int (lc_i (0)))]) dX1_layOut_15 (by decide) rfl ?_
  have loop2 : ∀ (N1 : Nat) (i : Int) (σ4 : lc_S), (σ4 (3) = some (lc_aI 48 (lc_lay c i))) → (∀ i : Nat, i ≠ 3 → σ4 i = σ i) → (0 ≤ i ∧ i ≤ 6) → 6 - i < (N1 : Int) → lc_V l RX1 cX1_layOut 7 none false (lc_Rd 1) (lc_G Q 0 0) lc_E0 0 0 n 17 [(0, .ref (2)), (1, .int (lc_i (c))), (2, .int (lc_i (1 + c))), (3, .int (lc_i (4 - c))), (4, .int (lc_i (24 * c))), (5, .int (lc_i (i)))] [] σ4 := by
    intro N1
    induction N1 with
    | zero =>
      intro i σ4 h5 fr6 hi hm7
      exact absurd hm7 (by omega)
    | succ N1 ih3 =>
      intro i σ4 h5 fr6 hi hm7
      have h8 : σ4 (2) = some (.inr (1, [.ref (3), .ref (4)]) : lc_Cel) := (fr6 _ (by omega)).trans h0_0
      refine lc_iload dX1_layOut_17 5 rfl ?_
      refine lc_bipush dX1_layOut_19 (by decide) ?_
      refine lc_icmp_ge (tgt := 93) dX1_layOut_21 (by decide) (by omega) (fun h_21_8 => ?_) (fun h_21_8 => ?_)
      · skip
        refine lc_extI (g := lc_lay (c + 1) 0) h5 (fun j h1 h2 => (by rw [show i = 6 from by omega]; exact lc_lay_6)) (fun σ10 h11 fr12 => ?_)
        have h13 : σ10 (2) = some (.inr (1, [.ref (3), .ref (4)]) : lc_Cel) := (fr12 _ (by omega)).trans h8
        exact lc_vret dX1_layOut_93 rfl (Nat.le_of_ble_eq_true rfl) (Nat.le_of_ble_eq_true rfl) (hQ _ _ _ ⟨rfl, rfl, h11, (fun i _ => ((fr12 i (by omega)).trans (fr6 i (by omega))))⟩)
      · skip
        have hi6 : 0 ≤ i ∧ i < 6 := (by omega)
        refine lc_iconst dX1_layOut_24 ?_
        refine lc_iload dX1_layOut_25 5 rfl ?_
        refine lc_isub dX1_layOut_27 ?_
        refine lc_istore (lv' := [(0, .ref (2)), (1, .int (lc_i (c))), (2, .int (lc_i (1 + c))), (3, .int (lc_i (4 - c))), (4, .int (lc_i (24 * c))), (5, .int (lc_i (i))), (6, .int (lc_i ((5) - (i))))]) dX1_layOut_28 (by decide) rfl ?_
        refine lc_aload_n dX1_layOut_30 rfl 0 rfl ?_
        refine lc_iload dX1_layOut_31 4 rfl ?_
        refine lc_iload dX1_layOut_33 5 rfl ?_
        refine lc_iadd dX1_layOut_35 ?_
        refine lc_iload_n dX1_layOut_36 rfl 2 rfl ?_
        refine lc_iload dX1_layOut_37 5 rfl ?_
        refine lc_callV (As := [.int (lc_i ((24 * c) + (i))), .int (lc_i (1 + c)), .int (lc_i (i))]) (stk := []) (b := 2) dX1_layOut_39 lc_mX1_26 lc_yX1_put h8 rfl (lc_cX1_put l n (lc_lay c i) ((24 * c) + (i)) (1 + c) (i) σ4 h8 h5 (by omega)) rfl ⟨Nat.le_of_ble_eq_true rfl, Nat.le_of_ble_eq_true rfl⟩ ⟨Nat.le_of_ble_eq_true rfl, Nat.le_of_ble_eq_true rfl⟩ rfl (Nat.le_of_ble_eq_true rfl) (fun v16 n17 σ18 q19 => ?_)
        obtain ⟨rfl, rfl, h15, fr14⟩ := q19
        have h20 : σ18 (2) = some (.inr (1, [.ref (3), .ref (4)]) : lc_Cel) := (fr14 _ (by omega)).trans h8
        refine lc_aload_n dX1_layOut_42 rfl 0 rfl ?_
        refine lc_iload dX1_layOut_43 4 rfl ?_
        refine lc_bipush dX1_layOut_45 (by decide) ?_
        refine lc_iadd dX1_layOut_47 ?_
        refine lc_iload dX1_layOut_48 5 rfl ?_
        refine lc_iadd dX1_layOut_50 ?_
        refine lc_iload dX1_layOut_51 5 rfl ?_
        refine lc_iload_n dX1_layOut_53 rfl 3 rfl ?_
        refine lc_callV (As := [.int (lc_i (((24 * c) + (6)) + (i))), .int (lc_i (i)), .int (lc_i (4 - c))]) (stk := []) (b := 2) dX1_layOut_54 lc_mX1_26 lc_yX1_put h20 rfl (lc_cX1_put l n (lc_u (lc_lay c i) ((24 * c) + (i)) ((1 + c) * 6 + (i))) (((24 * c) + (6)) + (i)) (i) (4 - c) σ18 h20 h15 (by omega)) rfl ⟨Nat.le_of_ble_eq_true rfl, Nat.le_of_ble_eq_true rfl⟩ ⟨Nat.le_of_ble_eq_true rfl, Nat.le_of_ble_eq_true rfl⟩ rfl (Nat.le_of_ble_eq_true rfl) (fun v23 n24 σ25 q26 => ?_)
        obtain ⟨rfl, rfl, h22, fr21⟩ := q26
        have h27 : σ25 (2) = some (.inr (1, [.ref (3), .ref (4)]) : lc_Cel) := (fr21 _ (by omega)).trans h20
        refine lc_aload_n dX1_layOut_57 rfl 0 rfl ?_
        refine lc_iload dX1_layOut_58 4 rfl ?_
        refine lc_bipush dX1_layOut_60 (by decide) ?_
        refine lc_iadd dX1_layOut_62 ?_
        refine lc_iload dX1_layOut_63 5 rfl ?_
        refine lc_iadd dX1_layOut_65 ?_
        refine lc_iload_n dX1_layOut_66 rfl 3 rfl ?_
        refine lc_iload dX1_layOut_67 6 rfl ?_
        refine lc_callV (As := [.int (lc_i (((24 * c) + (12)) + (i))), .int (lc_i (4 - c)), .int (lc_i ((5) - (i)))]) (stk := []) (b := 2) dX1_layOut_69 lc_mX1_26 lc_yX1_put h27 rfl (lc_cX1_put l n (lc_u (lc_u (lc_lay c i) ((24 * c) + (i)) ((1 + c) * 6 + (i))) (((24 * c) + (6)) + (i)) ((i) * 6 + (4 - c))) (((24 * c) + (12)) + (i)) (4 - c) ((5) - (i)) σ25 h27 h22 (by omega)) rfl ⟨Nat.le_of_ble_eq_true rfl, Nat.le_of_ble_eq_true rfl⟩ ⟨Nat.le_of_ble_eq_true rfl, Nat.le_of_ble_eq_true rfl⟩ rfl (Nat.le_of_ble_eq_true rfl) (fun v30 n31 σ32 q33 => ?_)
        obtain ⟨rfl, rfl, h29, fr28⟩ := q33
        have h34 : σ32 (2) = some (.inr (1, [.ref (3), .ref (4)]) : lc_Cel) := (fr28 _ (by omega)).trans h27
        refine lc_aload_n dX1_layOut_72 rfl 0 rfl ?_
        refine lc_iload dX1_layOut_73 4 rfl ?_
        refine lc_bipush dX1_layOut_75 (by decide) ?_
        refine lc_iadd dX1_layOut_77 ?_
        refine lc_iload dX1_layOut_78 5 rfl ?_
        refine lc_iadd dX1_layOut_80 ?_
        refine lc_iload dX1_layOut_81 6 rfl ?_
        refine lc_iload_n dX1_layOut_83 rfl 2 rfl ?_
        refine lc_callV (As := [.int (lc_i (((24 * c) + (18)) + (i))), .int (lc_i ((5) - (i))), .int (lc_i (1 + c))]) (stk := []) (b := 2) dX1_layOut_84 lc_mX1_26 lc_yX1_put h34 rfl (lc_cX1_put l n (lc_u (lc_u (lc_u (lc_lay c i) ((24 * c) + (i)) ((1 + c) * 6 + (i))) (((24 * c) + (6)) + (i)) ((i) * 6 + (4 - c))) (((24 * c) + (12)) + (i)) ((4 - c) * 6 + ((5) - (i)))) (((24 * c) + (18)) + (i)) ((5) - (i)) (1 + c) σ32 h34 h29 (by omega)) rfl ⟨Nat.le_of_ble_eq_true rfl, Nat.le_of_ble_eq_true rfl⟩ ⟨Nat.le_of_ble_eq_true rfl, Nat.le_of_ble_eq_true rfl⟩ rfl (Nat.le_of_ble_eq_true rfl) (fun v37 n38 σ39 q40 => ?_)
        obtain ⟨rfl, rfl, h36, fr35⟩ := q40
        have h41 : σ39 (2) = some (.inr (1, [.ref (3), .ref (4)]) : lc_Cel) := (fr35 _ (by omega)).trans h34
        refine lc_extI (g := lc_lay c (i + 1)) h36 (fun j h1 h2 => (by have h9 := lc_lay_st hc hi6 h1 h2; unfold lc_pu4 at h9; exact h9)) (fun σ42 h43 fr44 => ?_)
        have h45 : σ42 (2) = some (.inr (1, [.ref (3), .ref (4)]) : lc_Cel) := (fr44 _ (by omega)).trans h41
        refine lc_iinc (lv' := [(0, .ref (2)), (1, .int (lc_i (c))), (2, .int (lc_i (1 + c))), (3, .int (lc_i (4 - c))), (4, .int (lc_i (24 * c))), (5, .int (lc_i (i + 1))), (6, .int (lc_i ((5) - (i))))]) dX1_layOut_87 5 rfl (by decide) rfl ?_
        refine lc_goto (tgt := 17) dX1_layOut_90 (by decide) ?_
        refine lc_pick (lv' := [(0, .ref (2)), (1, .int (lc_i (c))), (2, .int (lc_i (1 + c))), (3, .int (lc_i (4 - c))), (4, .int (lc_i (24 * c))), (5, .int (lc_i (i + 1)))]) [0, 1, 2, 3, 4, 5] rfl ?_
        exact ih3 (i + 1) σ42 h43 (fun i _ => ((fr44 i (by omega)).trans ((fr35 i (by omega)).trans ((fr28 i (by omega)).trans ((fr21 i (by omega)).trans ((fr14 i (by omega)).trans (fr6 i (by omega)))))))) (by omega) (by omega)
  exact loop2 1000 (0) σ h0_1 (fun _ _ => rfl) (by omega) (by omega)

set_option maxRecDepth 100000 in
set_option maxHeartbeats 600000 in
theorem lc_cX1_addSpot (l : Launch) (n : Nat) (f : Int → Int) (x y : Int) (σ : lc_S) (h0_0 : σ (2) = some (.inr (1, [.ref (3), .ref (4)]) : lc_Cel)) (h0_1 : σ (4) = some (lc_aI 72 (f))) (hx : 0 ≤ x ∧ x < 36) (hy : 0 ≤ y ∧ y < 48) (hf : ∀ j : Int, 0 ≤ j → j < 72 → -1 ≤ f j ∧ f j < 48) : lc_Con l yX1_addSpot cX1_addSpot 5 none (lc_Rd 0) [.ref (2), .int (lc_i (x)), .int (lc_i (y))] n σ (fun v n2 σ2 => v = none ∧ n = n2 ∧ σ2 (4) = some (lc_aI 72 (lc_add f x y)) ∧ ∀ i : Nat, i ≠ 4 → σ2 i = σ i) := by
  refine lc_con RX1 false (by decide) rfl (fun h => absurd h (by decide)) (Nat.le_of_ble_eq_true rfl) ?_
  suffices H : ∀ Q : lc_QT, (∀ v n2 σ2, (fun v n2 σ2 => v = none ∧ n = n2 ∧ σ2 (4) = some (lc_aI 72 (lc_add f x y)) ∧ ∀ i : Nat, i ≠ 4 → σ2 i = σ i : lc_QT) v n2 σ2 → Q v n2 σ2) → lc_V l RX1 cX1_addSpot 5 none false (lc_Rd 0) (lc_G Q 0 0) lc_E0 0 0 n 0 [(0, .ref (2)), (1, .int (lc_i (x))), (2, .int (lc_i (y)))] [] σ from H _ (fun _ _ _ h => h)
  intro Q hQ
  refine lc_iconst dX1_addSpot_0 ?_
  refine lc_istore_n (lv' := [(0, .ref (2)), (1, .int (lc_i (x))), (2, .int (lc_i (y))), (3, .int (lc_i (0)))]) dX1_addSpot_1 rfl (by decide) rfl ?_
  refine lc_iload_n dX1_addSpot_2 rfl 3 rfl ?_
  refine lc_iconst dX1_addSpot_3 ?_
  refine lc_icmp_ge (tgt := 55) dX1_addSpot_4 (by decide) (by omega) (fun h_4_0 => ?_) (fun h_4_0 => ?_)
  · exact absurd h_4_0 (by decide)
  · skip
    refine lc_iload_n dX1_addSpot_7 rfl 1 rfl ?_
    refine lc_iconst dX1_addSpot_8 ?_
    refine lc_imul dX1_addSpot_9 ?_
    refine lc_iload_n dX1_addSpot_10 rfl 3 rfl ?_
    refine lc_iadd dX1_addSpot_11 ?_
    refine lc_top (congrArg (fun z => Value.int (lc_i z)) (show (((x) * (2)) + (0) : Int) = x * 2 from by omega)) ?_
    refine lc_istore (lv' := [(0, .ref (2)), (1, .int (lc_i (x))), (2, .int (lc_i (y))), (3, .int (lc_i (0))), (4, .int (lc_i (x * 2)))]) dX1_addSpot_12 (by decide) rfl ?_
    refine lc_iload dX1_addSpot_14 4 rfl ?_
    refine lc_if_lt (tgt := 49) dX1_addSpot_16 (by decide) (by omega) (fun h_16_1 => ?_) (fun h_16_1 => ?_)
    · omega
    · skip
      refine lc_iload dX1_addSpot_19 4 rfl ?_
      refine lc_aload_n dX1_addSpot_21 rfl 0 rfl ?_
      refine lc_get dX1_addSpot_22 lc_fX1_15 h0_0 rfl ?_
      refine lc_alenV (v := 72) dX1_addSpot_25 h0_1 (by decide) rfl ?_
      refine lc_icmp_ge (tgt := 49) dX1_addSpot_26 (by decide) (by omega) (fun h_26_2 => ?_) (fun h_26_2 => ?_)
      · omega
      · skip
        refine lc_aload_n dX1_addSpot_29 rfl 0 rfl ?_
        refine lc_get dX1_addSpot_30 lc_fX1_15 h0_0 rfl ?_
        refine lc_iload dX1_addSpot_33 4 rfl ?_
        refine lc_iald dX1_addSpot_35 h0_1 (by omega) (by decide) ?_
        refine lc_iconst dX1_addSpot_36 ?_
        refine lc_icmp_ne (tgt := 49) dX1_addSpot_37 (by decide) (by have h9 := hf (x * 2) (by omega) (by omega); have h8 := hf (x * 2 + 1) (by omega) (by omega); omega) (fun h_37_3 => ?_) (fun h_37_3 => ?_)
        · skip
          refine lc_iinc (lv' := [(0, .ref (2)), (1, .int (lc_i (x))), (2, .int (lc_i (y))), (3, .int (lc_i (0 + 1))), (4, .int (lc_i (x * 2)))]) dX1_addSpot_49 3 rfl (by decide) rfl ?_
          refine lc_goto (tgt := 2) dX1_addSpot_52 (by decide) ?_
          refine lc_iload_n dX1_addSpot_2 rfl 3 rfl ?_
          refine lc_iconst dX1_addSpot_3 ?_
          refine lc_icmp_ge (tgt := 55) dX1_addSpot_4 (by decide) (by omega) (fun h_4_4 => ?_) (fun h_4_4 => ?_)
          · exact absurd h_4_4 (by decide)
          · skip
            refine lc_iload_n dX1_addSpot_7 rfl 1 rfl ?_
            refine lc_iconst dX1_addSpot_8 ?_
            refine lc_imul dX1_addSpot_9 ?_
            refine lc_iload_n dX1_addSpot_10 rfl 3 rfl ?_
            refine lc_iadd dX1_addSpot_11 ?_
            refine lc_top (congrArg (fun z => Value.int (lc_i z)) (show (((x) * (2)) + (0 + 1) : Int) = x * 2 + 1 from by omega)) ?_
            refine lc_istore (lv' := [(0, .ref (2)), (1, .int (lc_i (x))), (2, .int (lc_i (y))), (3, .int (lc_i (0 + 1))), (4, .int (lc_i (x * 2 + 1)))]) dX1_addSpot_12 (by decide) rfl ?_
            refine lc_iload dX1_addSpot_14 4 rfl ?_
            refine lc_if_lt (tgt := 49) dX1_addSpot_16 (by decide) (by omega) (fun h_16_5 => ?_) (fun h_16_5 => ?_)
            · omega
            · skip
              refine lc_iload dX1_addSpot_19 4 rfl ?_
              refine lc_aload_n dX1_addSpot_21 rfl 0 rfl ?_
              refine lc_get dX1_addSpot_22 lc_fX1_15 h0_0 rfl ?_
              refine lc_alenV (v := 72) dX1_addSpot_25 h0_1 (by decide) rfl ?_
              refine lc_icmp_ge (tgt := 49) dX1_addSpot_26 (by decide) (by omega) (fun h_26_6 => ?_) (fun h_26_6 => ?_)
              · omega
              · skip
                refine lc_aload_n dX1_addSpot_29 rfl 0 rfl ?_
                refine lc_get dX1_addSpot_30 lc_fX1_15 h0_0 rfl ?_
                refine lc_iload dX1_addSpot_33 4 rfl ?_
                refine lc_iald dX1_addSpot_35 h0_1 (by omega) (by decide) ?_
                refine lc_iconst dX1_addSpot_36 ?_
                refine lc_icmp_ne (tgt := 49) dX1_addSpot_37 (by decide) (by have h9 := hf (x * 2) (by omega) (by omega); have h8 := hf (x * 2 + 1) (by omega) (by omega); omega) (fun h_37_7 => ?_) (fun h_37_7 => ?_)
                · skip
                  refine lc_iinc (lv' := [(0, .ref (2)), (1, .int (lc_i (x))), (2, .int (lc_i (y))), (3, .int (lc_i (0 + 1 + 1))), (4, .int (lc_i (x * 2 + 1)))]) dX1_addSpot_49 3 rfl (by decide) rfl ?_
                  refine lc_goto (tgt := 2) dX1_addSpot_52 (by decide) ?_
                  refine lc_iload_n dX1_addSpot_2 rfl 3 rfl ?_
                  refine lc_iconst dX1_addSpot_3 ?_
                  refine lc_icmp_ge (tgt := 55) dX1_addSpot_4 (by decide) (by omega) (fun h_4_8 => ?_) (fun h_4_8 => ?_)
                  · skip
                    exact lc_vret dX1_addSpot_55 rfl (Nat.le_of_ble_eq_true rfl) (Nat.le_of_ble_eq_true rfl) (hQ _ _ _ ⟨rfl, rfl, (by rw [lc_add, if_neg h_37_3, if_neg h_37_7]; exact h0_1), (fun i _ => rfl)⟩)
                  · exact absurd h_4_8 (by decide)
                · skip
                  refine lc_aload_n dX1_addSpot_40 rfl 0 rfl ?_
                  refine lc_get dX1_addSpot_41 lc_fX1_15 h0_0 rfl ?_
                  refine lc_iload dX1_addSpot_44 4 rfl ?_
                  refine lc_iload_n dX1_addSpot_46 rfl 2 rfl ?_
                  refine lc_sI dX1_addSpot_47 h0_1 (by omega) (by decide) (fun σ10 h11 fr12 => ?_)
                  have h13 : σ10 (2) = some (.inr (1, [.ref (3), .ref (4)]) : lc_Cel) := (fr12 _ (by omega)).trans h0_0
                  exact lc_vret dX1_addSpot_48 rfl (Nat.le_of_ble_eq_true rfl) (Nat.le_of_ble_eq_true rfl) (hQ _ _ _ ⟨rfl, rfl, (by rw [lc_add, if_neg h_37_3, if_pos h_37_7]; exact h11), (fun i _ => (fr12 i (by omega)))⟩)
        · skip
          refine lc_aload_n dX1_addSpot_40 rfl 0 rfl ?_
          refine lc_get dX1_addSpot_41 lc_fX1_15 h0_0 rfl ?_
          refine lc_iload dX1_addSpot_44 4 rfl ?_
          refine lc_iload_n dX1_addSpot_46 rfl 2 rfl ?_
          refine lc_sI dX1_addSpot_47 h0_1 (by omega) (by decide) (fun σ14 h15 fr16 => ?_)
          have h17 : σ14 (2) = some (.inr (1, [.ref (3), .ref (4)]) : lc_Cel) := (fr16 _ (by omega)).trans h0_0
          exact lc_vret dX1_addSpot_48 rfl (Nat.le_of_ble_eq_true rfl) (Nat.le_of_ble_eq_true rfl) (hQ _ _ _ ⟨rfl, rfl, (by rw [lc_add, if_pos h_37_3]; exact h15), (fun i _ => (fr16 i (by omega)))⟩)

set_option maxRecDepth 100000 in
set_option maxHeartbeats 600000 in
theorem lc_cX1_init (l : Launch)  (σ : lc_S) (h0_0 : σ (2) = some (.inr (1, [.null, .null]) : lc_Cel))  : lc_Con l yX1_init cX1_init 2 none (lc_Ra 2 2 120) [.ref (2)] 3 σ (fun v n2 σ2 => v = none ∧ 5 = n2 ∧ σ2 (2) = some (.inr (1, [.ref (3), .ref (4)]) : lc_Cel) ∧ σ2 (3) = some (lc_aI 48 (lc_pt)) ∧ σ2 (4) = some (lc_aI 72 (lc_sp)) ∧ (∀ i : Nat, i < 2 → σ2 i = σ i)) := by
  refine lc_con RX1 true (by decide) rfl (fun _ => rfl) (Nat.le_of_ble_eq_true rfl) ?_
  suffices H : ∀ Q : lc_QT, (∀ v n2 σ2, (fun v n2 σ2 => v = none ∧ 5 = n2 ∧ σ2 (2) = some (.inr (1, [.ref (3), .ref (4)]) : lc_Cel) ∧ σ2 (3) = some (lc_aI 48 (lc_pt)) ∧ σ2 (4) = some (lc_aI 72 (lc_sp)) ∧ (∀ i : Nat, i < 2 → σ2 i = σ i) : lc_QT) v n2 σ2 → Q v n2 σ2) → lc_V l RX1 cX1_init 2 none true (lc_Ra 2 2 120) (lc_G Q 2 120) lc_E0 0 0 3 0 [(0, .ref (2))] [] σ from H _ (fun _ _ _ h => h)
  intro Q hQ
  refine lc_aload_n dX1_init_0 rfl 0 rfl ?_
  refine lc_objInit dX1_init_1 lc_mX1_3 (by omega) ⟨Nat.le_of_ble_eq_true rfl, Nat.le_of_ble_eq_true rfl⟩ ?_
  refine lc_aload_n dX1_init_4 rfl 0 rfl ?_
  refine lc_bipush dX1_init_5 (by decide) ?_
  refine lc_NI 48 dX1_init_7 lc_ac_int rfl (by decide) (by omega) (Nat.le_of_ble_eq_true rfl) (Nat.le_of_ble_eq_true rfl) (fun σ1 h2 fr3 => ?_)
  have h4 : σ1 (2) = some (.inr (1, [.null, .null]) : lc_Cel) := (fr3 _ (by omega)).trans h0_0
  refine lc_wF (vs' := [.ref (3), .null]) dX1_init_9 lc_fX1_11 h4 (Nat.le_of_ble_eq_true rfl) rfl rfl lc_refArr rfl (fun σ5 h6 fr7 => ?_)
  have h8 : σ5 (3) = some (lc_aI 48 (fun _ : Int => (0 : Int))) := (fr7 _ (by omega)).trans h2
  refine lc_aload_n dX1_init_12 rfl 0 rfl ?_
  refine lc_bipush dX1_init_13 (by decide) ?_
  refine lc_NI 72 dX1_init_15 lc_ac_int rfl (by decide) (by omega) (Nat.le_of_ble_eq_true rfl) (Nat.le_of_ble_eq_true rfl) (fun σ9 h10 fr11 => ?_)
  have h12 : σ9 (3) = some (lc_aI 48 (fun _ : Int => (0 : Int))) := (fr11 _ (by omega)).trans h8
  have h13 : σ9 (2) = some (.inr (1, [.ref (3), .null]) : lc_Cel) := (fr11 _ (by omega)).trans h6
  refine lc_wF (vs' := [.ref (3), .ref (4)]) dX1_init_17 lc_fX1_15 h13 (Nat.le_of_ble_eq_true rfl) rfl rfl lc_refArr rfl (fun σ14 h15 fr16 => ?_)
  have h17 : σ14 (3) = some (lc_aI 48 (fun _ : Int => (0 : Int))) := (fr16 _ (by omega)).trans h12
  have h18 : σ14 (4) = some (lc_aI 72 (fun _ : Int => (0 : Int))) := (fr16 _ (by omega)).trans h10
  refine lc_extI (g := lc_lay 0 0) h17 (fun j h1 h2 => (if_neg (by omega)).symm) (fun σ19 h20 fr21 => ?_)
  have h22 : σ19 (4) = some (lc_aI 72 (fun _ : Int => (0 : Int))) := (fr21 _ (by omega)).trans h18
  have h23 : σ19 (2) = some (.inr (1, [.ref (3), .ref (4)]) : lc_Cel) := (fr21 _ (by omega)).trans h15
  refine lc_iconst dX1_init_20 ?_
  refine lc_istore_n (lv' := [(0, .ref (2)), (1, .int (lc_i (0)))]) dX1_init_21 rfl (by decide) rfl ?_
  have loop25 : ∀ (N24 : Nat) (c : Int) (σ27 : lc_S), (σ27 (3) = some (lc_aI 48 (lc_lay c 0))) → (∀ i : Nat, i ≠ 3 → σ27 i = σ19 i) → (0 ≤ c ∧ c ≤ 2) → 2 - c < (N24 : Int) → lc_V l RX1 cX1_init 2 none true (lc_Ra 2 2 120) (lc_G Q 2 120) lc_E0 ((0 + 1) + 1) ((0 + 48) + 72) 5 22 [(0, .ref (2)), (1, .int (lc_i (c)))] [] σ27 := by
    intro N24
    induction N24 with
    | zero =>
      intro c σ27 h28 fr29 hc hm30
      exact absurd hm30 (by omega)
    | succ N24 ih26 =>
      intro c σ27 h28 fr29 hc hm30
      have h31 : σ27 (4) = some (lc_aI 72 (fun _ : Int => (0 : Int))) := (fr29 _ (by omega)).trans h22
      have h32 : σ27 (2) = some (.inr (1, [.ref (3), .ref (4)]) : lc_Cel) := (fr29 _ (by omega)).trans h23
      refine lc_iload_n dX1_init_22 rfl 1 rfl ?_
      refine lc_iconst dX1_init_23 ?_
      refine lc_icmp_ge (tgt := 38) dX1_init_24 (by decide) (by omega) (fun h_24_32 => ?_) (fun h_24_32 => ?_)
      · skip
        refine lc_extI (g := lc_pt) h28 (fun j h1 h2 => by rw [show c = 2 from by omega]; exact lc_lay_48 h1 h2) (fun σ34 h35 fr36 => ?_)
        have h37 : σ34 (4) = some (lc_aI 72 (fun _ : Int => (0 : Int))) := (fr36 _ (by omega)).trans h31
        have h38 : σ34 (2) = some (.inr (1, [.ref (3), .ref (4)]) : lc_Cel) := (fr36 _ (by omega)).trans h32
        refine lc_iconst dX1_init_38 ?_
        refine lc_istore_n (lv' := [(0, .ref (2)), (1, .int (lc_i (0)))]) dX1_init_39 rfl (by decide) rfl ?_
        have loop40 : ∀ (N39 : Nat) (i : Int) (hh : Int → Int) (σ42 : lc_S), (σ42 (4) = some (lc_aI 72 (hh))) → (∀ i : Nat, i ≠ 4 → σ42 i = σ34 i) → (0 ≤ i ∧ i ≤ 72) → (∀ j : Int, 0 ≤ j → j < i → hh j = (fun _ : Int => (-1 : Int)) j) → 72 - i < (N39 : Int) → lc_V l RX1 cX1_init 2 none true (lc_Ra 2 2 120) (lc_G Q 2 120) lc_E0 ((0 + 1) + 1) ((0 + 48) + 72) 5 40 [(0, .ref (2)), (1, .int (lc_i (i)))] [] σ42 := by
          intro N39
          induction N39 with
          | zero =>
            intro i hh σ42 h43 fr44 hi hlo hm45
            exact absurd hm45 (by omega)
          | succ N39 ih41 =>
            intro i hh σ42 h43 fr44 hi hlo hm45
            have h46 : σ42 (2) = some (.inr (1, [.ref (3), .ref (4)]) : lc_Cel) := (fr44 _ (by omega)).trans h38
            have h47 : σ42 (3) = some (lc_aI 48 (lc_pt)) := (fr44 _ (by omega)).trans h35
            refine lc_iload_n dX1_init_40 rfl 1 rfl ?_
            refine lc_aload_n dX1_init_41 rfl 0 rfl ?_
            refine lc_get dX1_init_42 lc_fX1_15 h46 rfl ?_
            refine lc_alenV (v := 72) dX1_init_45 h43 (by decide) rfl ?_
            refine lc_icmp_ge (tgt := 62) dX1_init_46 (by decide) (by omega) (fun h_46_47 => ?_) (fun h_46_47 => ?_)
            · skip
              refine lc_extI (g := lc_spi 0) h43 (fun j h1 h2 => (hlo j h1 (by omega)).trans (by have h9 := lc_sp_r (x := j) ⟨h1, h2⟩; show (-1 : Int) = lc_spi 0 j; unfold lc_spi; split <;> omega)) (fun σ49 h50 fr51 => ?_)
              have h52 : σ49 (2) = some (.inr (1, [.ref (3), .ref (4)]) : lc_Cel) := (fr51 _ (by omega)).trans h46
              have h53 : σ49 (3) = some (lc_aI 48 (lc_pt)) := (fr51 _ (by omega)).trans h47
              refine lc_iconst dX1_init_62 ?_
              refine lc_istore_n (lv' := [(0, .ref (2)), (1, .int (lc_i (0)))]) dX1_init_63 rfl (by decide) rfl ?_
              have loop55 : ∀ (N54 : Nat) (k : Int) (σ57 : lc_S), (σ57 (4) = some (lc_aI 72 (lc_spi k))) → (∀ i : Nat, i ≠ 4 → σ57 i = σ49 i) → (0 ≤ k ∧ k ≤ 48) → 48 - k < (N54 : Int) → lc_V l RX1 cX1_init 2 none true (lc_Ra 2 2 120) (lc_G Q 2 120) lc_E0 ((0 + 1) + 1) ((0 + 48) + 72) 5 64 [(0, .ref (2)), (1, .int (lc_i (k)))] [] σ57 := by
                intro N54
                induction N54 with
                | zero =>
                  intro k σ57 h58 fr59 hk hm60
                  exact absurd hm60 (by omega)
                | succ N54 ih56 =>
                  intro k σ57 h58 fr59 hk hm60
                  have h61 : σ57 (2) = some (.inr (1, [.ref (3), .ref (4)]) : lc_Cel) := (fr59 _ (by omega)).trans h52
                  have h62 : σ57 (3) = some (lc_aI 48 (lc_pt)) := (fr59 _ (by omega)).trans h53
                  refine lc_iload_n dX1_init_64 rfl 1 rfl ?_
                  refine lc_aload_n dX1_init_65 rfl 0 rfl ?_
                  refine lc_get dX1_init_66 lc_fX1_11 h61 rfl ?_
                  refine lc_alenV (v := 48) dX1_init_69 h62 (by decide) rfl ?_
                  refine lc_icmp_ge (tgt := 90) dX1_init_70 (by decide) (by omega) (fun h_70_62 => ?_) (fun h_70_62 => ?_)
                  · skip
                    refine lc_extI (g := lc_sp) h58 (fun j h1 h2 => by rw [show k = 48 from by omega]; exact lc_spi_48 h1 h2) (fun σ64 h65 fr66 => ?_)
                    have h67 : σ64 (2) = some (.inr (1, [.ref (3), .ref (4)]) : lc_Cel) := (fr66 _ (by omega)).trans h61
                    have h68 : σ64 (3) = some (lc_aI 48 (lc_pt)) := (fr66 _ (by omega)).trans h62
                    exact lc_vret dX1_init_90 rfl (Nat.le_of_ble_eq_true rfl) (Nat.le_of_ble_eq_true rfl) (hQ _ _ _ ⟨rfl, rfl, h67, h68, h65, (fun i _ => ((fr66 i (by omega)).trans ((fr59 i (by omega)).trans ((fr51 i (by omega)).trans ((fr44 i (by omega)).trans ((fr36 i (by omega)).trans ((fr29 i (by omega)).trans ((fr21 i (by omega)).trans ((fr16 i (by omega)).trans ((fr11 i (by omega)).trans ((fr7 i (by omega)).trans (fr3 i (by omega)))))))))))))⟩)
                  · skip
                    have hpr := lc_pt_r (x := k) (by omega)
                    refine lc_aload_n dX1_init_73 rfl 0 rfl ?_
                    refine lc_aload_n dX1_init_74 rfl 0 rfl ?_
                    refine lc_get dX1_init_75 lc_fX1_11 h61 rfl ?_
                    refine lc_iload_n dX1_init_78 rfl 1 rfl ?_
                    refine lc_iald dX1_init_79 h62 (by omega) (by decide) ?_
                    refine lc_iload_n dX1_init_80 rfl 1 rfl ?_
                    refine lc_callV (As := [.int (lc_i ((lc_pt) (k))), .int (lc_i (k))]) (stk := []) (b := 2) dX1_init_81 lc_mX1_22 lc_yX1_addSpot h61 rfl (lc_cX1_addSpot l 5 (lc_spi k) ((lc_pt) (k)) (k) σ57 h61 h58 (by omega) (by omega) (fun j h1 h2 => by have h9 := lc_sp_r (x := j) ⟨h1, h2⟩; unfold lc_spi; split <;> omega)) rfl ⟨Nat.le_of_ble_eq_true rfl, Nat.le_of_ble_eq_true rfl⟩ ⟨Nat.le_of_ble_eq_true rfl, Nat.le_of_ble_eq_true rfl⟩ rfl (Nat.le_of_ble_eq_true rfl) (fun v71 n72 σ73 q74 => ?_)
                    obtain ⟨rfl, rfl, h70, fr69⟩ := q74
                    have h75 : σ73 (2) = some (.inr (1, [.ref (3), .ref (4)]) : lc_Cel) := (fr69 _ (by omega)).trans h61
                    have h76 : σ73 (3) = some (lc_aI 48 (lc_pt)) := (fr69 _ (by omega)).trans h62
                    refine lc_extI (g := lc_spi (k + 1)) h70 (fun j h1 h2 => lc_spi_st (by omega) h1 h2) (fun σ77 h78 fr79 => ?_)
                    have h80 : σ77 (2) = some (.inr (1, [.ref (3), .ref (4)]) : lc_Cel) := (fr79 _ (by omega)).trans h75
                    have h81 : σ77 (3) = some (lc_aI 48 (lc_pt)) := (fr79 _ (by omega)).trans h76
                    refine lc_iinc (lv' := [(0, .ref (2)), (1, .int (lc_i (k + 1)))]) dX1_init_84 1 rfl (by decide) rfl ?_
                    refine lc_goto (tgt := 64) dX1_init_87 (by decide) ?_
                    exact ih56 (k + 1) σ77 h78 (fun i _ => ((fr79 i (by omega)).trans ((fr69 i (by omega)).trans (fr59 i (by omega))))) (by omega) (by omega)
              exact loop55 1000 (0) σ49 h50 (fun _ _ => rfl) (by omega) (by omega)
            · skip
              refine lc_aload_n dX1_init_49 rfl 0 rfl ?_
              refine lc_get dX1_init_50 lc_fX1_15 h46 rfl ?_
              refine lc_iload_n dX1_init_53 rfl 1 rfl ?_
              refine lc_iconst dX1_init_54 ?_
              refine lc_sI dX1_init_55 h43 (by omega) (by decide) (fun σ82 h83 fr84 => ?_)
              have h85 : σ82 (2) = some (.inr (1, [.ref (3), .ref (4)]) : lc_Cel) := (fr84 _ (by omega)).trans h46
              have h86 : σ82 (3) = some (lc_aI 48 (lc_pt)) := (fr84 _ (by omega)).trans h47
              refine lc_iinc (lv' := [(0, .ref (2)), (1, .int (lc_i (i + 1)))]) dX1_init_56 1 rfl (by decide) rfl ?_
              refine lc_goto (tgt := 40) dX1_init_59 (by decide) ?_
              exact ih41 (i + 1) (lc_u (hh) (i) ((-1))) σ82 h83 (fun i _ => ((fr84 i (by omega)).trans (fr44 i (by omega)))) (by omega) (lc_ub hlo) (by omega)
        exact loop40 1000 (0) (fun _ : Int => (0 : Int)) σ34 h37 (fun _ _ => rfl) (by omega) (fun j h1 h2 => absurd h2 (by omega)) (by omega)
      · skip
        refine lc_aload_n dX1_init_27 rfl 0 rfl ?_
        refine lc_iload_n dX1_init_28 rfl 1 rfl ?_
        refine lc_callV (As := [.int (lc_i (c))]) (stk := []) (b := 2) dX1_init_29 lc_mX1_18 lc_yX1_layOut h32 rfl (lc_cX1_layOut l 5 (c) σ27 h32 h28 (by omega)) rfl ⟨Nat.le_of_ble_eq_true rfl, Nat.le_of_ble_eq_true rfl⟩ ⟨Nat.le_of_ble_eq_true rfl, Nat.le_of_ble_eq_true rfl⟩ rfl (Nat.le_of_ble_eq_true rfl) (fun v89 n90 σ91 q92 => ?_)
        obtain ⟨rfl, rfl, h88, fr87⟩ := q92
        have h93 : σ91 (4) = some (lc_aI 72 (fun _ : Int => (0 : Int))) := (fr87 _ (by omega)).trans h31
        have h94 : σ91 (2) = some (.inr (1, [.ref (3), .ref (4)]) : lc_Cel) := (fr87 _ (by omega)).trans h32
        refine lc_iinc (lv' := [(0, .ref (2)), (1, .int (lc_i (c + 1)))]) dX1_init_32 1 rfl (by decide) rfl ?_
        refine lc_goto (tgt := 22) dX1_init_35 (by decide) ?_
        exact ih26 (c + 1) σ91 h88 (fun i _ => ((fr87 i (by omega)).trans (fr29 i (by omega)))) (by omega) (by omega)
  exact loop25 1000 (0) σ19 h20 (fun _ _ => rfl) (by omega) (by omega)

set_option maxRecDepth 100000 in
set_option maxHeartbeats 600000 in
theorem lc_cX9_init (l : Launch)  (σ : lc_S) (h0_0 : σ (5) = some (.inr (9, [.null, .null, .int (lc_i (0)), .int (lc_i (0)), .int (lc_i (0)), .int (lc_i (0))]) : lc_Cel))  : lc_Con l yX9_init cX9_init 2 none (lc_Ra 2 1 4) [.ref (5), .ref (2)] 6 σ (fun v n2 σ2 => v = none ∧ 7 = n2 ∧ σ2 (5) = some (.inr (9, [.ref (2), .ref (6), .int (lc_i (0)), .int (lc_i (0)), .int (lc_i (0)), .int (lc_i (0))]) : lc_Cel) ∧ σ2 (6) = some (.inr (8, [.ref (2), .int (lc_i (0)), .int (lc_i (0)), .int (lc_i (0))]) : lc_Cel) ∧ (∀ i : Nat, i < 5 → σ2 i = σ i)) := by
  refine lc_con RX9 true (by decide) rfl (fun _ => rfl) (Nat.le_of_ble_eq_true rfl) ?_
  suffices H : ∀ Q : lc_QT, (∀ v n2 σ2, (fun v n2 σ2 => v = none ∧ 7 = n2 ∧ σ2 (5) = some (.inr (9, [.ref (2), .ref (6), .int (lc_i (0)), .int (lc_i (0)), .int (lc_i (0)), .int (lc_i (0))]) : lc_Cel) ∧ σ2 (6) = some (.inr (8, [.ref (2), .int (lc_i (0)), .int (lc_i (0)), .int (lc_i (0))]) : lc_Cel) ∧ (∀ i : Nat, i < 5 → σ2 i = σ i) : lc_QT) v n2 σ2 → Q v n2 σ2) → lc_V l RX9 cX9_init 2 none true (lc_Ra 2 1 4) (lc_G Q 1 4) lc_E0 0 0 6 0 [(0, .ref (5)), (1, .ref (2))] [] σ from H _ (fun _ _ _ h => h)
  intro Q hQ
  refine lc_aload_n dX9_init_0 rfl 0 rfl ?_
  refine lc_objInit dX9_init_1 lc_mX9_3 (by omega) ⟨Nat.le_of_ble_eq_true rfl, Nat.le_of_ble_eq_true rfl⟩ ?_
  refine lc_aload_n dX9_init_4 rfl 0 rfl ?_
  refine lc_aload_n dX9_init_5 rfl 1 rfl ?_
  refine lc_wF (vs' := [.ref (2), .null, .int (lc_i (0)), .int (lc_i (0)), .int (lc_i (0)), .int (lc_i (0))]) dX9_init_6 lc_fX9_9 h0_0 (Nat.le_of_ble_eq_true rfl) rfl rfl lc_refObj rfl (fun σ1 h2 fr3 => ?_)
  refine lc_aload_n dX9_init_9 rfl 0 rfl ?_
  refine lc_N8 dX9_init_10 lc_cX9_15 (by omega) (Nat.le_of_ble_eq_true rfl) (Nat.le_of_ble_eq_true rfl) (fun σ4 h5 fr6 => ?_)
  have h7 : σ4 (5) = some (.inr (9, [.ref (2), .null, .int (lc_i (0)), .int (lc_i (0)), .int (lc_i (0)), .int (lc_i (0))]) : lc_Cel) := (fr6 _ (by omega)).trans h2
  refine lc_dup dX9_init_13 rfl ?_
  refine lc_aload_n dX9_init_14 rfl 1 rfl ?_
  refine lc_callI (As := [.ref (2)]) (stk := [.ref (6), .ref (5)]) (b := 6) dX9_init_15 lc_mX9_17 lc_yX8_init (by omega) (lc_cX8_init l (6) σ4 h5 (by omega)) rfl ⟨Nat.le_of_ble_eq_true rfl, Nat.le_of_ble_eq_true rfl⟩ ⟨Nat.le_of_ble_eq_true rfl, Nat.le_of_ble_eq_true rfl⟩ rfl (Nat.le_of_ble_eq_true rfl) (fun v10 n11 σ12 q13 => ?_)
  obtain ⟨rfl, rfl, h9, fr8⟩ := q13
  have h14 : σ12 (5) = some (.inr (9, [.ref (2), .null, .int (lc_i (0)), .int (lc_i (0)), .int (lc_i (0)), .int (lc_i (0))]) : lc_Cel) := (fr8 _ (by omega)).trans h7
  refine lc_wF (vs' := [.ref (2), .ref (6), .int (lc_i (0)), .int (lc_i (0)), .int (lc_i (0)), .int (lc_i (0))]) dX9_init_18 lc_fX9_20 h14 (Nat.le_of_ble_eq_true rfl) rfl rfl lc_refObj rfl (fun σ15 h16 fr17 => ?_)
  have h18 : σ15 (6) = some (.inr (8, [.ref (2), .int (lc_i (0)), .int (lc_i (0)), .int (lc_i (0))]) : lc_Cel) := (fr17 _ (by omega)).trans h9
  exact lc_vret dX9_init_21 rfl (Nat.le_of_ble_eq_true rfl) (Nat.le_of_ble_eq_true rfl) (hQ _ _ _ ⟨rfl, rfl, h16, h18, (fun i _ => ((fr17 i (by omega)).trans ((fr8 i (by omega)).trans ((fr6 i (by omega)).trans (fr3 i (by omega))))))⟩)

set_option maxRecDepth 100000 in
set_option maxHeartbeats 600000 in
theorem lc_cX6_init (l : Launch)  (σ : lc_S) (h0_0 : σ (7) = some (.inr (6, [.null, .null, .null]) : lc_Cel))  : lc_Con l yX6_init cX6_init 3 none (lc_Ra 2 1 4) [.ref (7), .ref (2), .ref (5)] 8 σ (fun v n2 σ2 => v = none ∧ 9 = n2 ∧ σ2 (7) = some (.inr (6, [.ref (2), .ref (8), .ref (5)]) : lc_Cel) ∧ σ2 (8) = some (.inr (8, [.ref (2), .int (lc_i (0)), .int (lc_i (0)), .int (lc_i (0))]) : lc_Cel) ∧ (∀ i : Nat, i < 7 → σ2 i = σ i)) := by
  refine lc_con RX6 true (by decide) rfl (fun _ => rfl) (Nat.le_of_ble_eq_true rfl) ?_
  suffices H : ∀ Q : lc_QT, (∀ v n2 σ2, (fun v n2 σ2 => v = none ∧ 9 = n2 ∧ σ2 (7) = some (.inr (6, [.ref (2), .ref (8), .ref (5)]) : lc_Cel) ∧ σ2 (8) = some (.inr (8, [.ref (2), .int (lc_i (0)), .int (lc_i (0)), .int (lc_i (0))]) : lc_Cel) ∧ (∀ i : Nat, i < 7 → σ2 i = σ i) : lc_QT) v n2 σ2 → Q v n2 σ2) → lc_V l RX6 cX6_init 3 none true (lc_Ra 2 1 4) (lc_G Q 1 4) lc_E0 0 0 8 0 [(0, .ref (7)), (1, .ref (2)), (2, .ref (5))] [] σ from H _ (fun _ _ _ h => h)
  intro Q hQ
  refine lc_aload_n dX6_init_0 rfl 0 rfl ?_
  refine lc_objInit dX6_init_1 lc_mX6_3 (by omega) ⟨Nat.le_of_ble_eq_true rfl, Nat.le_of_ble_eq_true rfl⟩ ?_
  refine lc_aload_n dX6_init_4 rfl 0 rfl ?_
  refine lc_aload_n dX6_init_5 rfl 1 rfl ?_
  refine lc_wF (vs' := [.ref (2), .null, .null]) dX6_init_6 lc_fX6_9 h0_0 (Nat.le_of_ble_eq_true rfl) rfl rfl lc_refObj rfl (fun σ1 h2 fr3 => ?_)
  refine lc_aload_n dX6_init_9 rfl 0 rfl ?_
  refine lc_N8 dX6_init_10 lc_cX6_15 (by omega) (Nat.le_of_ble_eq_true rfl) (Nat.le_of_ble_eq_true rfl) (fun σ4 h5 fr6 => ?_)
  have h7 : σ4 (7) = some (.inr (6, [.ref (2), .null, .null]) : lc_Cel) := (fr6 _ (by omega)).trans h2
  refine lc_dup dX6_init_13 rfl ?_
  refine lc_aload_n dX6_init_14 rfl 1 rfl ?_
  refine lc_callI (As := [.ref (2)]) (stk := [.ref (8), .ref (7)]) (b := 8) dX6_init_15 lc_mX6_17 lc_yX8_init (by omega) (lc_cX8_init l (8) σ4 h5 (by omega)) rfl ⟨Nat.le_of_ble_eq_true rfl, Nat.le_of_ble_eq_true rfl⟩ ⟨Nat.le_of_ble_eq_true rfl, Nat.le_of_ble_eq_true rfl⟩ rfl (Nat.le_of_ble_eq_true rfl) (fun v10 n11 σ12 q13 => ?_)
  obtain ⟨rfl, rfl, h9, fr8⟩ := q13
  have h14 : σ12 (7) = some (.inr (6, [.ref (2), .null, .null]) : lc_Cel) := (fr8 _ (by omega)).trans h7
  refine lc_wF (vs' := [.ref (2), .ref (8), .null]) dX6_init_18 lc_fX6_20 h14 (Nat.le_of_ble_eq_true rfl) rfl rfl lc_refObj rfl (fun σ15 h16 fr17 => ?_)
  have h18 : σ15 (8) = some (.inr (8, [.ref (2), .int (lc_i (0)), .int (lc_i (0)), .int (lc_i (0))]) : lc_Cel) := (fr17 _ (by omega)).trans h9
  refine lc_aload_n dX6_init_21 rfl 0 rfl ?_
  refine lc_aload_n dX6_init_22 rfl 2 rfl ?_
  refine lc_wF (vs' := [.ref (2), .ref (8), .ref (5)]) dX6_init_23 lc_fX6_24 h16 (Nat.le_of_ble_eq_true rfl) rfl rfl lc_refObj rfl (fun σ19 h20 fr21 => ?_)
  have h22 : σ19 (8) = some (.inr (8, [.ref (2), .int (lc_i (0)), .int (lc_i (0)), .int (lc_i (0))]) : lc_Cel) := (fr21 _ (by omega)).trans h18
  exact lc_vret dX6_init_26 rfl (Nat.le_of_ble_eq_true rfl) (Nat.le_of_ble_eq_true rfl) (hQ _ _ _ ⟨rfl, rfl, h20, h22, (fun i _ => ((fr21 i (by omega)).trans ((fr17 i (by omega)).trans ((fr8 i (by omega)).trans ((fr6 i (by omega)).trans (fr3 i (by omega)))))))⟩)

set_option maxRecDepth 100000 in
set_option maxHeartbeats 600000 in
theorem lc_cX3_init (l : Launch)  (σ : lc_S) (h0_0 : σ (11) = some (.inr (3, [.null, .null, .null, .null, .int (lc_i (0))]) : lc_Cel))  : lc_Con l yX3_init cX3_init 2 none (lc_Ra 4 6 776) [.ref (11), .ref (7)] 12 σ (fun v n2 σ2 => v = none ∧ 18 = n2 ∧ σ2 (11) = some (.inr (3, [.ref (7), .ref (12), .ref (14), .ref (16), .int (lc_i (0))]) : lc_Cel) ∧ σ2 (12) = some (.inr (0, [.ref (13), .int (lc_i (lc_cnt (lc_f0) 1 36)), .int (lc_i (lc_cnt (lc_f0) 2 36)), .int (lc_i (1)), .int (lc_i (0)), .int (lc_i (20))]) : lc_Cel) ∧ σ2 (13) = some (lc_aI 36 (lc_f0)) ∧ σ2 (14) = some (.inr (4, [.ref (15), .int (lc_i (0)), .int (lc_i (0))]) : lc_Cel) ∧ σ2 (15) = some (lc_aI 364 (fun _ : Int => (0 : Int))) ∧ σ2 (16) = some (.inr (4, [.ref (17), .int (lc_i (0)), .int (lc_i (0))]) : lc_Cel) ∧ σ2 (17) = some (lc_aI 364 (fun _ : Int => (0 : Int))) ∧ (∀ i : Nat, i < 11 → σ2 i = σ i)) := by
  refine lc_con RX3 true (by decide) rfl (fun _ => rfl) (Nat.le_of_ble_eq_true rfl) ?_
  suffices H : ∀ Q : lc_QT, (∀ v n2 σ2, (fun v n2 σ2 => v = none ∧ 18 = n2 ∧ σ2 (11) = some (.inr (3, [.ref (7), .ref (12), .ref (14), .ref (16), .int (lc_i (0))]) : lc_Cel) ∧ σ2 (12) = some (.inr (0, [.ref (13), .int (lc_i (lc_cnt (lc_f0) 1 36)), .int (lc_i (lc_cnt (lc_f0) 2 36)), .int (lc_i (1)), .int (lc_i (0)), .int (lc_i (20))]) : lc_Cel) ∧ σ2 (13) = some (lc_aI 36 (lc_f0)) ∧ σ2 (14) = some (.inr (4, [.ref (15), .int (lc_i (0)), .int (lc_i (0))]) : lc_Cel) ∧ σ2 (15) = some (lc_aI 364 (fun _ : Int => (0 : Int))) ∧ σ2 (16) = some (.inr (4, [.ref (17), .int (lc_i (0)), .int (lc_i (0))]) : lc_Cel) ∧ σ2 (17) = some (lc_aI 364 (fun _ : Int => (0 : Int))) ∧ (∀ i : Nat, i < 11 → σ2 i = σ i) : lc_QT) v n2 σ2 → Q v n2 σ2) → lc_V l RX3 cX3_init 2 none true (lc_Ra 4 6 776) (lc_G Q 6 776) lc_E0 0 0 12 0 [(0, .ref (11)), (1, .ref (7))] [] σ from H _ (fun _ _ _ h => h)
  intro Q hQ
  refine lc_aload_n dX3_init_0 rfl 0 rfl ?_
  refine lc_objInit dX3_init_1 lc_mX3_3 (by omega) ⟨Nat.le_of_ble_eq_true rfl, Nat.le_of_ble_eq_true rfl⟩ ?_
  refine lc_aload_n dX3_init_4 rfl 0 rfl ?_
  refine lc_N0 dX3_init_5 lc_cX3_9 (by omega) (Nat.le_of_ble_eq_true rfl) (Nat.le_of_ble_eq_true rfl) (fun σ1 h2 fr3 => ?_)
  have h4 : σ1 (11) = some (.inr (3, [.null, .null, .null, .null, .int (lc_i (0))]) : lc_Cel) := (fr3 _ (by omega)).trans h0_0
  refine lc_dup dX3_init_8 rfl ?_
  refine lc_callI (As := []) (stk := [.ref (12), .ref (11)]) (b := 12) dX3_init_9 lc_mX3_11 lc_yX0_init (by omega) (lc_cX0_init l (12) σ1 h2 (by omega)) rfl ⟨Nat.le_of_ble_eq_true rfl, Nat.le_of_ble_eq_true rfl⟩ ⟨Nat.le_of_ble_eq_true rfl, Nat.le_of_ble_eq_true rfl⟩ rfl (Nat.le_of_ble_eq_true rfl) (fun v8 n9 σ10 q11 => ?_)
  obtain ⟨rfl, rfl, h6, h7, fr5⟩ := q11
  have h12 : σ10 (11) = some (.inr (3, [.null, .null, .null, .null, .int (lc_i (0))]) : lc_Cel) := (fr5 _ (by omega)).trans h4
  refine lc_wF (vs' := [.null, .ref (12), .null, .null, .int (lc_i (0))]) dX3_init_12 lc_fX3_12 h12 (Nat.le_of_ble_eq_true rfl) rfl rfl lc_refObj rfl (fun σ13 h14 fr15 => ?_)
  have h16 : σ13 (12) = some (.inr (0, [.ref (13), .int (lc_i (lc_cnt (lc_f0) 1 36)), .int (lc_i (lc_cnt (lc_f0) 2 36)), .int (lc_i (1)), .int (lc_i (0)), .int (lc_i (20))]) : lc_Cel) := (fr15 _ (by omega)).trans h6
  have h17 : σ13 (13) = some (lc_aI 36 (lc_f0)) := (fr15 _ (by omega)).trans h7
  refine lc_aload_n dX3_init_15 rfl 0 rfl ?_
  refine lc_N4 dX3_init_16 lc_cX3_18 (by omega) (Nat.le_of_ble_eq_true rfl) (Nat.le_of_ble_eq_true rfl) (fun σ18 h19 fr20 => ?_)
  have h21 : σ18 (12) = some (.inr (0, [.ref (13), .int (lc_i (lc_cnt (lc_f0) 1 36)), .int (lc_i (lc_cnt (lc_f0) 2 36)), .int (lc_i (1)), .int (lc_i (0)), .int (lc_i (20))]) : lc_Cel) := (fr20 _ (by omega)).trans h16
  have h22 : σ18 (13) = some (lc_aI 36 (lc_f0)) := (fr20 _ (by omega)).trans h17
  have h23 : σ18 (11) = some (.inr (3, [.null, .ref (12), .null, .null, .int (lc_i (0))]) : lc_Cel) := (fr20 _ (by omega)).trans h14
  refine lc_dup dX3_init_19 rfl ?_
  refine lc_callIN (As := []) (stk := [.ref (14), .ref (11)]) (b := 14) dX3_init_20 (fun U hU => hU.2.1) lc_yX4_init (by omega) (lc_cX4_init l (14) σ18 h19 (by omega)) rfl ⟨Nat.le_of_ble_eq_true rfl, Nat.le_of_ble_eq_true rfl⟩ ⟨Nat.le_of_ble_eq_true rfl, Nat.le_of_ble_eq_true rfl⟩ rfl (Nat.le_of_ble_eq_true rfl) (fun v27 n28 σ29 q30 => ?_)
  obtain ⟨rfl, rfl, h25, h26, fr24⟩ := q30
  have h31 : σ29 (12) = some (.inr (0, [.ref (13), .int (lc_i (lc_cnt (lc_f0) 1 36)), .int (lc_i (lc_cnt (lc_f0) 2 36)), .int (lc_i (1)), .int (lc_i (0)), .int (lc_i (20))]) : lc_Cel) := (fr24 _ (by omega)).trans h21
  have h32 : σ29 (13) = some (lc_aI 36 (lc_f0)) := (fr24 _ (by omega)).trans h22
  have h33 : σ29 (11) = some (.inr (3, [.null, .ref (12), .null, .null, .int (lc_i (0))]) : lc_Cel) := (fr24 _ (by omega)).trans h23
  refine lc_wF (vs' := [.null, .ref (12), .ref (14), .null, .int (lc_i (0))]) dX3_init_23 lc_fX3_21 h33 (Nat.le_of_ble_eq_true rfl) rfl rfl lc_refObj rfl (fun σ34 h35 fr36 => ?_)
  have h37 : σ34 (12) = some (.inr (0, [.ref (13), .int (lc_i (lc_cnt (lc_f0) 1 36)), .int (lc_i (lc_cnt (lc_f0) 2 36)), .int (lc_i (1)), .int (lc_i (0)), .int (lc_i (20))]) : lc_Cel) := (fr36 _ (by omega)).trans h31
  have h38 : σ34 (13) = some (lc_aI 36 (lc_f0)) := (fr36 _ (by omega)).trans h32
  have h39 : σ34 (14) = some (.inr (4, [.ref (15), .int (lc_i (0)), .int (lc_i (0))]) : lc_Cel) := (fr36 _ (by omega)).trans h25
  have h40 : σ34 (15) = some (lc_aI 364 (fun _ : Int => (0 : Int))) := (fr36 _ (by omega)).trans h26
  refine lc_aload_n dX3_init_26 rfl 0 rfl ?_
  refine lc_N4 dX3_init_27 lc_cX3_18 (by omega) (Nat.le_of_ble_eq_true rfl) (Nat.le_of_ble_eq_true rfl) (fun σ41 h42 fr43 => ?_)
  have h44 : σ41 (12) = some (.inr (0, [.ref (13), .int (lc_i (lc_cnt (lc_f0) 1 36)), .int (lc_i (lc_cnt (lc_f0) 2 36)), .int (lc_i (1)), .int (lc_i (0)), .int (lc_i (20))]) : lc_Cel) := (fr43 _ (by omega)).trans h37
  have h45 : σ41 (13) = some (lc_aI 36 (lc_f0)) := (fr43 _ (by omega)).trans h38
  have h46 : σ41 (14) = some (.inr (4, [.ref (15), .int (lc_i (0)), .int (lc_i (0))]) : lc_Cel) := (fr43 _ (by omega)).trans h39
  have h47 : σ41 (15) = some (lc_aI 364 (fun _ : Int => (0 : Int))) := (fr43 _ (by omega)).trans h40
  have h48 : σ41 (11) = some (.inr (3, [.null, .ref (12), .ref (14), .null, .int (lc_i (0))]) : lc_Cel) := (fr43 _ (by omega)).trans h35
  refine lc_dup dX3_init_30 rfl ?_
  refine lc_callIN (As := []) (stk := [.ref (16), .ref (11)]) (b := 16) dX3_init_31 (fun U hU => hU.2.1) lc_yX4_init (by omega) (lc_cX4_init l (16) σ41 h42 (by omega)) rfl ⟨Nat.le_of_ble_eq_true rfl, Nat.le_of_ble_eq_true rfl⟩ ⟨Nat.le_of_ble_eq_true rfl, Nat.le_of_ble_eq_true rfl⟩ rfl (Nat.le_of_ble_eq_true rfl) (fun v52 n53 σ54 q55 => ?_)
  obtain ⟨rfl, rfl, h50, h51, fr49⟩ := q55
  have h56 : σ54 (12) = some (.inr (0, [.ref (13), .int (lc_i (lc_cnt (lc_f0) 1 36)), .int (lc_i (lc_cnt (lc_f0) 2 36)), .int (lc_i (1)), .int (lc_i (0)), .int (lc_i (20))]) : lc_Cel) := (fr49 _ (by omega)).trans h44
  have h57 : σ54 (13) = some (lc_aI 36 (lc_f0)) := (fr49 _ (by omega)).trans h45
  have h58 : σ54 (14) = some (.inr (4, [.ref (15), .int (lc_i (0)), .int (lc_i (0))]) : lc_Cel) := (fr49 _ (by omega)).trans h46
  have h59 : σ54 (15) = some (lc_aI 364 (fun _ : Int => (0 : Int))) := (fr49 _ (by omega)).trans h47
  have h60 : σ54 (11) = some (.inr (3, [.null, .ref (12), .ref (14), .null, .int (lc_i (0))]) : lc_Cel) := (fr49 _ (by omega)).trans h48
  refine lc_wF (vs' := [.null, .ref (12), .ref (14), .ref (16), .int (lc_i (0))]) dX3_init_34 lc_fX3_25 h60 (Nat.le_of_ble_eq_true rfl) rfl rfl lc_refObj rfl (fun σ61 h62 fr63 => ?_)
  have h64 : σ61 (12) = some (.inr (0, [.ref (13), .int (lc_i (lc_cnt (lc_f0) 1 36)), .int (lc_i (lc_cnt (lc_f0) 2 36)), .int (lc_i (1)), .int (lc_i (0)), .int (lc_i (20))]) : lc_Cel) := (fr63 _ (by omega)).trans h56
  have h65 : σ61 (13) = some (lc_aI 36 (lc_f0)) := (fr63 _ (by omega)).trans h57
  have h66 : σ61 (14) = some (.inr (4, [.ref (15), .int (lc_i (0)), .int (lc_i (0))]) : lc_Cel) := (fr63 _ (by omega)).trans h58
  have h67 : σ61 (15) = some (lc_aI 364 (fun _ : Int => (0 : Int))) := (fr63 _ (by omega)).trans h59
  have h68 : σ61 (16) = some (.inr (4, [.ref (17), .int (lc_i (0)), .int (lc_i (0))]) : lc_Cel) := (fr63 _ (by omega)).trans h50
  have h69 : σ61 (17) = some (lc_aI 364 (fun _ : Int => (0 : Int))) := (fr63 _ (by omega)).trans h51
  refine lc_aload_n dX3_init_37 rfl 0 rfl ?_
  refine lc_aload_n dX3_init_38 rfl 1 rfl ?_
  refine lc_wF (vs' := [.ref (7), .ref (12), .ref (14), .ref (16), .int (lc_i (0))]) dX3_init_39 lc_fX3_28 h62 (Nat.le_of_ble_eq_true rfl) rfl rfl lc_refObj rfl (fun σ70 h71 fr72 => ?_)
  have h73 : σ70 (12) = some (.inr (0, [.ref (13), .int (lc_i (lc_cnt (lc_f0) 1 36)), .int (lc_i (lc_cnt (lc_f0) 2 36)), .int (lc_i (1)), .int (lc_i (0)), .int (lc_i (20))]) : lc_Cel) := (fr72 _ (by omega)).trans h64
  have h74 : σ70 (13) = some (lc_aI 36 (lc_f0)) := (fr72 _ (by omega)).trans h65
  have h75 : σ70 (14) = some (.inr (4, [.ref (15), .int (lc_i (0)), .int (lc_i (0))]) : lc_Cel) := (fr72 _ (by omega)).trans h66
  have h76 : σ70 (15) = some (lc_aI 364 (fun _ : Int => (0 : Int))) := (fr72 _ (by omega)).trans h67
  have h77 : σ70 (16) = some (.inr (4, [.ref (17), .int (lc_i (0)), .int (lc_i (0))]) : lc_Cel) := (fr72 _ (by omega)).trans h68
  have h78 : σ70 (17) = some (lc_aI 364 (fun _ : Int => (0 : Int))) := (fr72 _ (by omega)).trans h69
  exact lc_vret dX3_init_42 rfl (Nat.le_of_ble_eq_true rfl) (Nat.le_of_ble_eq_true rfl) (hQ _ _ _ ⟨rfl, rfl, h71, h73, h74, h75, h76, h77, h78, (fun i _ => ((fr72 i (by omega)).trans ((fr63 i (by omega)).trans ((fr49 i (by omega)).trans ((fr43 i (by omega)).trans ((fr36 i (by omega)).trans ((fr24 i (by omega)).trans ((fr20 i (by omega)).trans ((fr15 i (by omega)).trans ((fr5 i (by omega)).trans (fr3 i (by omega))))))))))))⟩)

set_option maxRecDepth 100000 in
set_option maxHeartbeats 600000 in
theorem lc_cX5_init (l : Launch)  (σ : lc_S) (h0_0 : σ (48) = some (.inr (5, [.null, .int (lc_i (0))]) : lc_Cel))  : lc_Con l yX5_init cX5_init 1 none (lc_Ra 1 1 80) [.ref (48)] 49 σ (fun v n2 σ2 => v = none ∧ 50 = n2 ∧ σ2 (48) = some (.inr (5, [.ref (49), .int (lc_i (0))]) : lc_Cel) ∧ σ2 (49) = some (lc_aC 80 (fun _ : Int => (0 : Int))) ∧ (∀ i : Nat, i < 48 → σ2 i = σ i)) := by
  refine lc_con RX5 true (by decide) rfl (fun _ => rfl) (Nat.le_of_ble_eq_true rfl) ?_
  suffices H : ∀ Q : lc_QT, (∀ v n2 σ2, (fun v n2 σ2 => v = none ∧ 50 = n2 ∧ σ2 (48) = some (.inr (5, [.ref (49), .int (lc_i (0))]) : lc_Cel) ∧ σ2 (49) = some (lc_aC 80 (fun _ : Int => (0 : Int))) ∧ (∀ i : Nat, i < 48 → σ2 i = σ i) : lc_QT) v n2 σ2 → Q v n2 σ2) → lc_V l RX5 cX5_init 1 none true (lc_Ra 1 1 80) (lc_G Q 1 80) lc_E0 0 0 49 0 [(0, .ref (48))] [] σ from H _ (fun _ _ _ h => h)
  intro Q hQ
  refine lc_aload_n dX5_init_0 rfl 0 rfl ?_
  refine lc_objInit dX5_init_1 lc_mX5_3 (by omega) ⟨Nat.le_of_ble_eq_true rfl, Nat.le_of_ble_eq_true rfl⟩ ?_
  refine lc_aload_n dX5_init_4 rfl 0 rfl ?_
  refine lc_bipush dX5_init_5 (by decide) ?_
  refine lc_NC 80 dX5_init_7 lc_ac_char rfl (by decide) (by omega) (Nat.le_of_ble_eq_true rfl) (Nat.le_of_ble_eq_true rfl) (fun σ1 h2 fr3 => ?_)
  have h4 : σ1 (48) = some (.inr (5, [.null, .int (lc_i (0))]) : lc_Cel) := (fr3 _ (by omega)).trans h0_0
  refine lc_wF (vs' := [.ref (49), .int (lc_i (0))]) dX5_init_9 lc_fX5_11 h4 (Nat.le_of_ble_eq_true rfl) rfl rfl lc_refArr rfl (fun σ5 h6 fr7 => ?_)
  have h8 : σ5 (49) = some (lc_aC 80 (fun _ : Int => (0 : Int))) := (fr7 _ (by omega)).trans h2
  exact lc_vret dX5_init_12 rfl (Nat.le_of_ble_eq_true rfl) (Nat.le_of_ble_eq_true rfl) (hQ _ _ _ ⟨rfl, rfl, h6, h8, (fun i _ => ((fr7 i (by omega)).trans (fr3 i (by omega))))⟩)

set_option maxRecDepth 100000 in
set_option maxHeartbeats 600000 in
theorem lc_cX2_init (l : Launch)  (σ : lc_S) (h0_0 : σ (30) = some (.inr (2, [.null, .int (lc_i (0))]) : lc_Cel))  : lc_Con l yX2_init cX2_init 2 none (lc_Ra 5 17 432) [.ref (30)] 31 σ (fun v n2 σ2 => v = none ∧ 48 = n2 ∧ σ2 (30) = some (.inr (2, [.ref (31), .int (lc_i (0))]) : lc_Cel) ∧ σ2 (31) = some (lc_aS 4 (lc_h4 (0))) ∧ σ2 (32) = some (.inr (7, [.ref (33), .int (lc_i (0)), .int (lc_i (0)), .ref (35), .int (lc_i (lc_rc 0))]) : lc_Cel) ∧ σ2 (33) = some (.inr (0, [.ref (34), .int (lc_i (lc_cnt (lc_f0) 1 36)), .int (lc_i (lc_cnt (lc_f0) 2 36)), .int (lc_i (1)), .int (lc_i (0)), .int (lc_i (20))]) : lc_Cel) ∧ σ2 (34) = some (lc_aI 36 (lc_f0)) ∧ σ2 (35) = some (lc_aJ 60 (fun i : Int => lc_j ((lc_rp (fun _ : Int => (0 : Int)) (0) (lc_key (lc_f0) (1) 36)) i))) ∧ σ2 (36) = some (.inr (7, [.ref (37), .int (lc_i (0)), .int (lc_i (0)), .ref (39), .int (lc_i (lc_rc 0))]) : lc_Cel) ∧ σ2 (37) = some (.inr (0, [.ref (38), .int (lc_i (lc_cnt (lc_f0) 1 36)), .int (lc_i (lc_cnt (lc_f0) 2 36)), .int (lc_i (1)), .int (lc_i (0)), .int (lc_i (20))]) : lc_Cel) ∧ σ2 (38) = some (lc_aI 36 (lc_f0)) ∧ σ2 (39) = some (lc_aJ 60 (fun i : Int => lc_j ((lc_rp (fun _ : Int => (0 : Int)) (0) (lc_key (lc_f0) (1) 36)) i))) ∧ σ2 (40) = some (.inr (7, [.ref (41), .int (lc_i (0)), .int (lc_i (0)), .ref (43), .int (lc_i (lc_rc 0))]) : lc_Cel) ∧ σ2 (41) = some (.inr (0, [.ref (42), .int (lc_i (lc_cnt (lc_f0) 1 36)), .int (lc_i (lc_cnt (lc_f0) 2 36)), .int (lc_i (1)), .int (lc_i (0)), .int (lc_i (20))]) : lc_Cel) ∧ σ2 (42) = some (lc_aI 36 (lc_f0)) ∧ σ2 (43) = some (lc_aJ 60 (fun i : Int => lc_j ((lc_rp (fun _ : Int => (0 : Int)) (0) (lc_key (lc_f0) (1) 36)) i))) ∧ σ2 (44) = some (.inr (7, [.ref (45), .int (lc_i (0)), .int (lc_i (0)), .ref (47), .int (lc_i (lc_rc 0))]) : lc_Cel) ∧ σ2 (45) = some (.inr (0, [.ref (46), .int (lc_i (lc_cnt (lc_f0) 1 36)), .int (lc_i (lc_cnt (lc_f0) 2 36)), .int (lc_i (1)), .int (lc_i (0)), .int (lc_i (20))]) : lc_Cel) ∧ σ2 (46) = some (lc_aI 36 (lc_f0)) ∧ σ2 (47) = some (lc_aJ 60 (fun i : Int => lc_j ((lc_rp (fun _ : Int => (0 : Int)) (0) (lc_key (lc_f0) (1) 36)) i))) ∧ (∀ i : Nat, i < 30 → σ2 i = σ i)) := by
  refine lc_con RX2 true (by decide) rfl (fun _ => rfl) (Nat.le_of_ble_eq_true rfl) ?_
  suffices H : ∀ Q : lc_QT, (∀ v n2 σ2, (fun v n2 σ2 => v = none ∧ 48 = n2 ∧ σ2 (30) = some (.inr (2, [.ref (31), .int (lc_i (0))]) : lc_Cel) ∧ σ2 (31) = some (lc_aS 4 (lc_h4 (0))) ∧ σ2 (32) = some (.inr (7, [.ref (33), .int (lc_i (0)), .int (lc_i (0)), .ref (35), .int (lc_i (lc_rc 0))]) : lc_Cel) ∧ σ2 (33) = some (.inr (0, [.ref (34), .int (lc_i (lc_cnt (lc_f0) 1 36)), .int (lc_i (lc_cnt (lc_f0) 2 36)), .int (lc_i (1)), .int (lc_i (0)), .int (lc_i (20))]) : lc_Cel) ∧ σ2 (34) = some (lc_aI 36 (lc_f0)) ∧ σ2 (35) = some (lc_aJ 60 (fun i : Int => lc_j ((lc_rp (fun _ : Int => (0 : Int)) (0) (lc_key (lc_f0) (1) 36)) i))) ∧ σ2 (36) = some (.inr (7, [.ref (37), .int (lc_i (0)), .int (lc_i (0)), .ref (39), .int (lc_i (lc_rc 0))]) : lc_Cel) ∧ σ2 (37) = some (.inr (0, [.ref (38), .int (lc_i (lc_cnt (lc_f0) 1 36)), .int (lc_i (lc_cnt (lc_f0) 2 36)), .int (lc_i (1)), .int (lc_i (0)), .int (lc_i (20))]) : lc_Cel) ∧ σ2 (38) = some (lc_aI 36 (lc_f0)) ∧ σ2 (39) = some (lc_aJ 60 (fun i : Int => lc_j ((lc_rp (fun _ : Int => (0 : Int)) (0) (lc_key (lc_f0) (1) 36)) i))) ∧ σ2 (40) = some (.inr (7, [.ref (41), .int (lc_i (0)), .int (lc_i (0)), .ref (43), .int (lc_i (lc_rc 0))]) : lc_Cel) ∧ σ2 (41) = some (.inr (0, [.ref (42), .int (lc_i (lc_cnt (lc_f0) 1 36)), .int (lc_i (lc_cnt (lc_f0) 2 36)), .int (lc_i (1)), .int (lc_i (0)), .int (lc_i (20))]) : lc_Cel) ∧ σ2 (42) = some (lc_aI 36 (lc_f0)) ∧ σ2 (43) = some (lc_aJ 60 (fun i : Int => lc_j ((lc_rp (fun _ : Int => (0 : Int)) (0) (lc_key (lc_f0) (1) 36)) i))) ∧ σ2 (44) = some (.inr (7, [.ref (45), .int (lc_i (0)), .int (lc_i (0)), .ref (47), .int (lc_i (lc_rc 0))]) : lc_Cel) ∧ σ2 (45) = some (.inr (0, [.ref (46), .int (lc_i (lc_cnt (lc_f0) 1 36)), .int (lc_i (lc_cnt (lc_f0) 2 36)), .int (lc_i (1)), .int (lc_i (0)), .int (lc_i (20))]) : lc_Cel) ∧ σ2 (46) = some (lc_aI 36 (lc_f0)) ∧ σ2 (47) = some (lc_aJ 60 (fun i : Int => lc_j ((lc_rp (fun _ : Int => (0 : Int)) (0) (lc_key (lc_f0) (1) 36)) i))) ∧ (∀ i : Nat, i < 30 → σ2 i = σ i) : lc_QT) v n2 σ2 → Q v n2 σ2) → lc_V l RX2 cX2_init 2 none true (lc_Ra 5 17 432) (lc_G Q 17 432) lc_E0 0 0 31 0 [(0, .ref (30))] [] σ from H _ (fun _ _ _ h => h)
  intro Q hQ
  refine lc_aload_n dX2_init_0 rfl 0 rfl ?_
  refine lc_objInit dX2_init_1 lc_mX2_1 (by omega) ⟨Nat.le_of_ble_eq_true rfl, Nat.le_of_ble_eq_true rfl⟩ ?_
  refine lc_aload_n dX2_init_4 rfl 0 rfl ?_
  refine lc_iconst dX2_init_5 ?_
  refine lc_NS 4 dX2_init_6 lc_cX2_9 rfl (by decide) (by omega) (Nat.le_of_ble_eq_true rfl) (Nat.le_of_ble_eq_true rfl) (fun σ1 h2 fr3 => ?_)
  have h4 : σ1 (30) = some (.inr (2, [.null, .int (lc_i (0))]) : lc_Cel) := (fr3 _ (by omega)).trans h0_0
  refine lc_wF (vs' := [.ref (31), .int (lc_i (0))]) dX2_init_9 lc_fX2_11 h4 (Nat.le_of_ble_eq_true rfl) rfl rfl lc_refArr rfl (fun σ5 h6 fr7 => ?_)
  have h8 : σ5 (31) = some (lc_aS 4 (fun _ : Int => (none : Option Nat))) := (fr7 _ (by omega)).trans h2
  refine lc_iconst dX2_init_12 ?_
  refine lc_istore_n (lv' := [(0, .ref (30)), (1, .int (lc_i (0)))]) dX2_init_13 rfl (by decide) rfl ?_
  refine lc_iload_n dX2_init_14 rfl 1 rfl ?_
  refine lc_aload_n dX2_init_15 rfl 0 rfl ?_
  refine lc_get dX2_init_16 lc_fX2_11 h6 rfl ?_
  refine lc_alenV (v := 4) dX2_init_19 h8 (by decide) rfl ?_
  refine lc_icmp_ge (tgt := 42) dX2_init_20 (by decide) (by omega) (fun h_20_8 => ?_) (fun h_20_8 => ?_)
  · exact absurd h_20_8 (by decide)
  · skip
    refine lc_aload_n dX2_init_23 rfl 0 rfl ?_
    refine lc_get dX2_init_24 lc_fX2_11 h6 rfl ?_
    refine lc_iload_n dX2_init_27 rfl 1 rfl ?_
    refine lc_N7 dX2_init_28 lc_cX2_9 (by omega) (Nat.le_of_ble_eq_true rfl) (Nat.le_of_ble_eq_true rfl) (fun σ10 h11 fr12 => ?_)
    have h13 : σ10 (31) = some (lc_aS 4 (fun _ : Int => (none : Option Nat))) := (fr12 _ (by omega)).trans h8
    have h14 : σ10 (30) = some (.inr (2, [.ref (31), .int (lc_i (0))]) : lc_Cel) := (fr12 _ (by omega)).trans h6
    refine lc_dup dX2_init_31 rfl ?_
    refine lc_callI (As := []) (stk := [.ref (32), .int (lc_i (0)), .ref (31)]) (b := 32) dX2_init_32 lc_mX2_15 lc_yX7_init (by omega) (lc_cX7_init l (32) σ10 h11 (by omega)) rfl ⟨Nat.le_of_ble_eq_true rfl, Nat.le_of_ble_eq_true rfl⟩ ⟨Nat.le_of_ble_eq_true rfl, Nat.le_of_ble_eq_true rfl⟩ rfl (Nat.le_of_ble_eq_true rfl) (fun v20 n21 σ22 q23 => ?_)
    obtain ⟨rfl, rfl, h16, h17, h18, h19, fr15⟩ := q23
    have h24 : σ22 (31) = some (lc_aS 4 (fun _ : Int => (none : Option Nat))) := (fr15 _ (by omega)).trans h13
    have h25 : σ22 (30) = some (.inr (2, [.ref (31), .int (lc_i (0))]) : lc_Cel) := (fr15 _ (by omega)).trans h14
    refine lc_sS dX2_init_35 h24 (by omega) (by decide) h16 (fun σ26 h27 fr28 => ?_)
    have h29 : σ26 (30) = some (.inr (2, [.ref (31), .int (lc_i (0))]) : lc_Cel) := (fr28 _ (by omega)).trans h25
    have h30 : σ26 (32) = some (.inr (7, [.ref (33), .int (lc_i (0)), .int (lc_i (0)), .ref (35), .int (lc_i (lc_rc 0))]) : lc_Cel) := (fr28 _ (by omega)).trans h16
    have h31 : σ26 (33) = some (.inr (0, [.ref (34), .int (lc_i (lc_cnt (lc_f0) 1 36)), .int (lc_i (lc_cnt (lc_f0) 2 36)), .int (lc_i (1)), .int (lc_i (0)), .int (lc_i (20))]) : lc_Cel) := (fr28 _ (by omega)).trans h17
    have h32 : σ26 (34) = some (lc_aI 36 (lc_f0)) := (fr28 _ (by omega)).trans h18
    have h33 : σ26 (35) = some (lc_aJ 60 (fun i : Int => lc_j ((lc_rp (fun _ : Int => (0 : Int)) (0) (lc_key (lc_f0) (1) 36)) i))) := (fr28 _ (by omega)).trans h19
    refine lc_iinc (lv' := [(0, .ref (30)), (1, .int (lc_i (0 + 1)))]) dX2_init_36 1 rfl (by decide) rfl ?_
    refine lc_goto (tgt := 14) dX2_init_39 (by decide) ?_
    refine lc_iload_n dX2_init_14 rfl 1 rfl ?_
    refine lc_aload_n dX2_init_15 rfl 0 rfl ?_
    refine lc_get dX2_init_16 lc_fX2_11 h29 rfl ?_
    refine lc_alenV (v := 4) dX2_init_19 h27 (by decide) rfl ?_
    refine lc_icmp_ge (tgt := 42) dX2_init_20 (by decide) (by omega) (fun h_20_33 => ?_) (fun h_20_33 => ?_)
    · exact absurd h_20_33 (by decide)
    · skip
      refine lc_aload_n dX2_init_23 rfl 0 rfl ?_
      refine lc_get dX2_init_24 lc_fX2_11 h29 rfl ?_
      refine lc_iload_n dX2_init_27 rfl 1 rfl ?_
      refine lc_N7 dX2_init_28 lc_cX2_9 (by omega) (Nat.le_of_ble_eq_true rfl) (Nat.le_of_ble_eq_true rfl) (fun σ35 h36 fr37 => ?_)
      have h38 : σ35 (30) = some (.inr (2, [.ref (31), .int (lc_i (0))]) : lc_Cel) := (fr37 _ (by omega)).trans h29
      have h39 : σ35 (32) = some (.inr (7, [.ref (33), .int (lc_i (0)), .int (lc_i (0)), .ref (35), .int (lc_i (lc_rc 0))]) : lc_Cel) := (fr37 _ (by omega)).trans h30
      have h40 : σ35 (33) = some (.inr (0, [.ref (34), .int (lc_i (lc_cnt (lc_f0) 1 36)), .int (lc_i (lc_cnt (lc_f0) 2 36)), .int (lc_i (1)), .int (lc_i (0)), .int (lc_i (20))]) : lc_Cel) := (fr37 _ (by omega)).trans h31
      have h41 : σ35 (34) = some (lc_aI 36 (lc_f0)) := (fr37 _ (by omega)).trans h32
      have h42 : σ35 (35) = some (lc_aJ 60 (fun i : Int => lc_j ((lc_rp (fun _ : Int => (0 : Int)) (0) (lc_key (lc_f0) (1) 36)) i))) := (fr37 _ (by omega)).trans h33
      have h43 : σ35 (31) = some (lc_aS 4 (lc_u (fun _ : Int => (none : Option Nat)) (0) (some (32)))) := (fr37 _ (by omega)).trans h27
      refine lc_dup dX2_init_31 rfl ?_
      refine lc_callI (As := []) (stk := [.ref (36), .int (lc_i (0 + 1)), .ref (31)]) (b := 36) dX2_init_32 lc_mX2_15 lc_yX7_init (by omega) (lc_cX7_init l (36) σ35 h36 (by omega)) rfl ⟨Nat.le_of_ble_eq_true rfl, Nat.le_of_ble_eq_true rfl⟩ ⟨Nat.le_of_ble_eq_true rfl, Nat.le_of_ble_eq_true rfl⟩ rfl (Nat.le_of_ble_eq_true rfl) (fun v49 n50 σ51 q52 => ?_)
      obtain ⟨rfl, rfl, h45, h46, h47, h48, fr44⟩ := q52
      have h53 : σ51 (30) = some (.inr (2, [.ref (31), .int (lc_i (0))]) : lc_Cel) := (fr44 _ (by omega)).trans h38
      have h54 : σ51 (32) = some (.inr (7, [.ref (33), .int (lc_i (0)), .int (lc_i (0)), .ref (35), .int (lc_i (lc_rc 0))]) : lc_Cel) := (fr44 _ (by omega)).trans h39
      have h55 : σ51 (33) = some (.inr (0, [.ref (34), .int (lc_i (lc_cnt (lc_f0) 1 36)), .int (lc_i (lc_cnt (lc_f0) 2 36)), .int (lc_i (1)), .int (lc_i (0)), .int (lc_i (20))]) : lc_Cel) := (fr44 _ (by omega)).trans h40
      have h56 : σ51 (34) = some (lc_aI 36 (lc_f0)) := (fr44 _ (by omega)).trans h41
      have h57 : σ51 (35) = some (lc_aJ 60 (fun i : Int => lc_j ((lc_rp (fun _ : Int => (0 : Int)) (0) (lc_key (lc_f0) (1) 36)) i))) := (fr44 _ (by omega)).trans h42
      have h58 : σ51 (31) = some (lc_aS 4 (lc_u (fun _ : Int => (none : Option Nat)) (0) (some (32)))) := (fr44 _ (by omega)).trans h43
      refine lc_sS dX2_init_35 h58 (by omega) (by decide) h45 (fun σ59 h60 fr61 => ?_)
      have h62 : σ59 (30) = some (.inr (2, [.ref (31), .int (lc_i (0))]) : lc_Cel) := (fr61 _ (by omega)).trans h53
      have h63 : σ59 (32) = some (.inr (7, [.ref (33), .int (lc_i (0)), .int (lc_i (0)), .ref (35), .int (lc_i (lc_rc 0))]) : lc_Cel) := (fr61 _ (by omega)).trans h54
      have h64 : σ59 (33) = some (.inr (0, [.ref (34), .int (lc_i (lc_cnt (lc_f0) 1 36)), .int (lc_i (lc_cnt (lc_f0) 2 36)), .int (lc_i (1)), .int (lc_i (0)), .int (lc_i (20))]) : lc_Cel) := (fr61 _ (by omega)).trans h55
      have h65 : σ59 (34) = some (lc_aI 36 (lc_f0)) := (fr61 _ (by omega)).trans h56
      have h66 : σ59 (35) = some (lc_aJ 60 (fun i : Int => lc_j ((lc_rp (fun _ : Int => (0 : Int)) (0) (lc_key (lc_f0) (1) 36)) i))) := (fr61 _ (by omega)).trans h57
      have h67 : σ59 (36) = some (.inr (7, [.ref (37), .int (lc_i (0)), .int (lc_i (0)), .ref (39), .int (lc_i (lc_rc 0))]) : lc_Cel) := (fr61 _ (by omega)).trans h45
      have h68 : σ59 (37) = some (.inr (0, [.ref (38), .int (lc_i (lc_cnt (lc_f0) 1 36)), .int (lc_i (lc_cnt (lc_f0) 2 36)), .int (lc_i (1)), .int (lc_i (0)), .int (lc_i (20))]) : lc_Cel) := (fr61 _ (by omega)).trans h46
      have h69 : σ59 (38) = some (lc_aI 36 (lc_f0)) := (fr61 _ (by omega)).trans h47
      have h70 : σ59 (39) = some (lc_aJ 60 (fun i : Int => lc_j ((lc_rp (fun _ : Int => (0 : Int)) (0) (lc_key (lc_f0) (1) 36)) i))) := (fr61 _ (by omega)).trans h48
      refine lc_iinc (lv' := [(0, .ref (30)), (1, .int (lc_i (0 + 1 + 1)))]) dX2_init_36 1 rfl (by decide) rfl ?_
      refine lc_goto (tgt := 14) dX2_init_39 (by decide) ?_
      refine lc_iload_n dX2_init_14 rfl 1 rfl ?_
      refine lc_aload_n dX2_init_15 rfl 0 rfl ?_
      refine lc_get dX2_init_16 lc_fX2_11 h62 rfl ?_
      refine lc_alenV (v := 4) dX2_init_19 h60 (by decide) rfl ?_
      refine lc_icmp_ge (tgt := 42) dX2_init_20 (by decide) (by omega) (fun h_20_70 => ?_) (fun h_20_70 => ?_)
      · exact absurd h_20_70 (by decide)
      · skip
        refine lc_aload_n dX2_init_23 rfl 0 rfl ?_
        refine lc_get dX2_init_24 lc_fX2_11 h62 rfl ?_
        refine lc_iload_n dX2_init_27 rfl 1 rfl ?_
        refine lc_N7 dX2_init_28 lc_cX2_9 (by omega) (Nat.le_of_ble_eq_true rfl) (Nat.le_of_ble_eq_true rfl) (fun σ72 h73 fr74 => ?_)
        have h75 : σ72 (30) = some (.inr (2, [.ref (31), .int (lc_i (0))]) : lc_Cel) := (fr74 _ (by omega)).trans h62
        have h76 : σ72 (32) = some (.inr (7, [.ref (33), .int (lc_i (0)), .int (lc_i (0)), .ref (35), .int (lc_i (lc_rc 0))]) : lc_Cel) := (fr74 _ (by omega)).trans h63
        have h77 : σ72 (33) = some (.inr (0, [.ref (34), .int (lc_i (lc_cnt (lc_f0) 1 36)), .int (lc_i (lc_cnt (lc_f0) 2 36)), .int (lc_i (1)), .int (lc_i (0)), .int (lc_i (20))]) : lc_Cel) := (fr74 _ (by omega)).trans h64
        have h78 : σ72 (34) = some (lc_aI 36 (lc_f0)) := (fr74 _ (by omega)).trans h65
        have h79 : σ72 (35) = some (lc_aJ 60 (fun i : Int => lc_j ((lc_rp (fun _ : Int => (0 : Int)) (0) (lc_key (lc_f0) (1) 36)) i))) := (fr74 _ (by omega)).trans h66
        have h80 : σ72 (36) = some (.inr (7, [.ref (37), .int (lc_i (0)), .int (lc_i (0)), .ref (39), .int (lc_i (lc_rc 0))]) : lc_Cel) := (fr74 _ (by omega)).trans h67
        have h81 : σ72 (37) = some (.inr (0, [.ref (38), .int (lc_i (lc_cnt (lc_f0) 1 36)), .int (lc_i (lc_cnt (lc_f0) 2 36)), .int (lc_i (1)), .int (lc_i (0)), .int (lc_i (20))]) : lc_Cel) := (fr74 _ (by omega)).trans h68
        have h82 : σ72 (38) = some (lc_aI 36 (lc_f0)) := (fr74 _ (by omega)).trans h69
        have h83 : σ72 (39) = some (lc_aJ 60 (fun i : Int => lc_j ((lc_rp (fun _ : Int => (0 : Int)) (0) (lc_key (lc_f0) (1) 36)) i))) := (fr74 _ (by omega)).trans h70
        have h84 : σ72 (31) = some (lc_aS 4 (lc_u (lc_u (fun _ : Int => (none : Option Nat)) (0) (some (32))) (0 + 1) (some (36)))) := (fr74 _ (by omega)).trans h60
        refine lc_dup dX2_init_31 rfl ?_
        refine lc_callI (As := []) (stk := [.ref (40), .int (lc_i (0 + 1 + 1)), .ref (31)]) (b := 40) dX2_init_32 lc_mX2_15 lc_yX7_init (by omega) (lc_cX7_init l (40) σ72 h73 (by omega)) rfl ⟨Nat.le_of_ble_eq_true rfl, Nat.le_of_ble_eq_true rfl⟩ ⟨Nat.le_of_ble_eq_true rfl, Nat.le_of_ble_eq_true rfl⟩ rfl (Nat.le_of_ble_eq_true rfl) (fun v90 n91 σ92 q93 => ?_)
        obtain ⟨rfl, rfl, h86, h87, h88, h89, fr85⟩ := q93
        have h94 : σ92 (30) = some (.inr (2, [.ref (31), .int (lc_i (0))]) : lc_Cel) := (fr85 _ (by omega)).trans h75
        have h95 : σ92 (32) = some (.inr (7, [.ref (33), .int (lc_i (0)), .int (lc_i (0)), .ref (35), .int (lc_i (lc_rc 0))]) : lc_Cel) := (fr85 _ (by omega)).trans h76
        have h96 : σ92 (33) = some (.inr (0, [.ref (34), .int (lc_i (lc_cnt (lc_f0) 1 36)), .int (lc_i (lc_cnt (lc_f0) 2 36)), .int (lc_i (1)), .int (lc_i (0)), .int (lc_i (20))]) : lc_Cel) := (fr85 _ (by omega)).trans h77
        have h97 : σ92 (34) = some (lc_aI 36 (lc_f0)) := (fr85 _ (by omega)).trans h78
        have h98 : σ92 (35) = some (lc_aJ 60 (fun i : Int => lc_j ((lc_rp (fun _ : Int => (0 : Int)) (0) (lc_key (lc_f0) (1) 36)) i))) := (fr85 _ (by omega)).trans h79
        have h99 : σ92 (36) = some (.inr (7, [.ref (37), .int (lc_i (0)), .int (lc_i (0)), .ref (39), .int (lc_i (lc_rc 0))]) : lc_Cel) := (fr85 _ (by omega)).trans h80
        have h100 : σ92 (37) = some (.inr (0, [.ref (38), .int (lc_i (lc_cnt (lc_f0) 1 36)), .int (lc_i (lc_cnt (lc_f0) 2 36)), .int (lc_i (1)), .int (lc_i (0)), .int (lc_i (20))]) : lc_Cel) := (fr85 _ (by omega)).trans h81
        have h101 : σ92 (38) = some (lc_aI 36 (lc_f0)) := (fr85 _ (by omega)).trans h82
        have h102 : σ92 (39) = some (lc_aJ 60 (fun i : Int => lc_j ((lc_rp (fun _ : Int => (0 : Int)) (0) (lc_key (lc_f0) (1) 36)) i))) := (fr85 _ (by omega)).trans h83
        have h103 : σ92 (31) = some (lc_aS 4 (lc_u (lc_u (fun _ : Int => (none : Option Nat)) (0) (some (32))) (0 + 1) (some (36)))) := (fr85 _ (by omega)).trans h84
        refine lc_sS dX2_init_35 h103 (by omega) (by decide) h86 (fun σ104 h105 fr106 => ?_)
        have h107 : σ104 (30) = some (.inr (2, [.ref (31), .int (lc_i (0))]) : lc_Cel) := (fr106 _ (by omega)).trans h94
        have h108 : σ104 (32) = some (.inr (7, [.ref (33), .int (lc_i (0)), .int (lc_i (0)), .ref (35), .int (lc_i (lc_rc 0))]) : lc_Cel) := (fr106 _ (by omega)).trans h95
        have h109 : σ104 (33) = some (.inr (0, [.ref (34), .int (lc_i (lc_cnt (lc_f0) 1 36)), .int (lc_i (lc_cnt (lc_f0) 2 36)), .int (lc_i (1)), .int (lc_i (0)), .int (lc_i (20))]) : lc_Cel) := (fr106 _ (by omega)).trans h96
        have h110 : σ104 (34) = some (lc_aI 36 (lc_f0)) := (fr106 _ (by omega)).trans h97
        have h111 : σ104 (35) = some (lc_aJ 60 (fun i : Int => lc_j ((lc_rp (fun _ : Int => (0 : Int)) (0) (lc_key (lc_f0) (1) 36)) i))) := (fr106 _ (by omega)).trans h98
        have h112 : σ104 (36) = some (.inr (7, [.ref (37), .int (lc_i (0)), .int (lc_i (0)), .ref (39), .int (lc_i (lc_rc 0))]) : lc_Cel) := (fr106 _ (by omega)).trans h99
        have h113 : σ104 (37) = some (.inr (0, [.ref (38), .int (lc_i (lc_cnt (lc_f0) 1 36)), .int (lc_i (lc_cnt (lc_f0) 2 36)), .int (lc_i (1)), .int (lc_i (0)), .int (lc_i (20))]) : lc_Cel) := (fr106 _ (by omega)).trans h100
        have h114 : σ104 (38) = some (lc_aI 36 (lc_f0)) := (fr106 _ (by omega)).trans h101
        have h115 : σ104 (39) = some (lc_aJ 60 (fun i : Int => lc_j ((lc_rp (fun _ : Int => (0 : Int)) (0) (lc_key (lc_f0) (1) 36)) i))) := (fr106 _ (by omega)).trans h102
        have h116 : σ104 (40) = some (.inr (7, [.ref (41), .int (lc_i (0)), .int (lc_i (0)), .ref (43), .int (lc_i (lc_rc 0))]) : lc_Cel) := (fr106 _ (by omega)).trans h86
        have h117 : σ104 (41) = some (.inr (0, [.ref (42), .int (lc_i (lc_cnt (lc_f0) 1 36)), .int (lc_i (lc_cnt (lc_f0) 2 36)), .int (lc_i (1)), .int (lc_i (0)), .int (lc_i (20))]) : lc_Cel) := (fr106 _ (by omega)).trans h87
        have h118 : σ104 (42) = some (lc_aI 36 (lc_f0)) := (fr106 _ (by omega)).trans h88
        have h119 : σ104 (43) = some (lc_aJ 60 (fun i : Int => lc_j ((lc_rp (fun _ : Int => (0 : Int)) (0) (lc_key (lc_f0) (1) 36)) i))) := (fr106 _ (by omega)).trans h89
        refine lc_iinc (lv' := [(0, .ref (30)), (1, .int (lc_i (0 + 1 + 1 + 1)))]) dX2_init_36 1 rfl (by decide) rfl ?_
        refine lc_goto (tgt := 14) dX2_init_39 (by decide) ?_
        refine lc_iload_n dX2_init_14 rfl 1 rfl ?_
        refine lc_aload_n dX2_init_15 rfl 0 rfl ?_
        refine lc_get dX2_init_16 lc_fX2_11 h107 rfl ?_
        refine lc_alenV (v := 4) dX2_init_19 h105 (by decide) rfl ?_
        refine lc_icmp_ge (tgt := 42) dX2_init_20 (by decide) (by omega) (fun h_20_119 => ?_) (fun h_20_119 => ?_)
        · exact absurd h_20_119 (by decide)
        · skip
          refine lc_aload_n dX2_init_23 rfl 0 rfl ?_
          refine lc_get dX2_init_24 lc_fX2_11 h107 rfl ?_
          refine lc_iload_n dX2_init_27 rfl 1 rfl ?_
          refine lc_N7 dX2_init_28 lc_cX2_9 (by omega) (Nat.le_of_ble_eq_true rfl) (Nat.le_of_ble_eq_true rfl) (fun σ121 h122 fr123 => ?_)
          have h124 : σ121 (30) = some (.inr (2, [.ref (31), .int (lc_i (0))]) : lc_Cel) := (fr123 _ (by omega)).trans h107
          have h125 : σ121 (32) = some (.inr (7, [.ref (33), .int (lc_i (0)), .int (lc_i (0)), .ref (35), .int (lc_i (lc_rc 0))]) : lc_Cel) := (fr123 _ (by omega)).trans h108
          have h126 : σ121 (33) = some (.inr (0, [.ref (34), .int (lc_i (lc_cnt (lc_f0) 1 36)), .int (lc_i (lc_cnt (lc_f0) 2 36)), .int (lc_i (1)), .int (lc_i (0)), .int (lc_i (20))]) : lc_Cel) := (fr123 _ (by omega)).trans h109
          have h127 : σ121 (34) = some (lc_aI 36 (lc_f0)) := (fr123 _ (by omega)).trans h110
          have h128 : σ121 (35) = some (lc_aJ 60 (fun i : Int => lc_j ((lc_rp (fun _ : Int => (0 : Int)) (0) (lc_key (lc_f0) (1) 36)) i))) := (fr123 _ (by omega)).trans h111
          have h129 : σ121 (36) = some (.inr (7, [.ref (37), .int (lc_i (0)), .int (lc_i (0)), .ref (39), .int (lc_i (lc_rc 0))]) : lc_Cel) := (fr123 _ (by omega)).trans h112
          have h130 : σ121 (37) = some (.inr (0, [.ref (38), .int (lc_i (lc_cnt (lc_f0) 1 36)), .int (lc_i (lc_cnt (lc_f0) 2 36)), .int (lc_i (1)), .int (lc_i (0)), .int (lc_i (20))]) : lc_Cel) := (fr123 _ (by omega)).trans h113
          have h131 : σ121 (38) = some (lc_aI 36 (lc_f0)) := (fr123 _ (by omega)).trans h114
          have h132 : σ121 (39) = some (lc_aJ 60 (fun i : Int => lc_j ((lc_rp (fun _ : Int => (0 : Int)) (0) (lc_key (lc_f0) (1) 36)) i))) := (fr123 _ (by omega)).trans h115
          have h133 : σ121 (40) = some (.inr (7, [.ref (41), .int (lc_i (0)), .int (lc_i (0)), .ref (43), .int (lc_i (lc_rc 0))]) : lc_Cel) := (fr123 _ (by omega)).trans h116
          have h134 : σ121 (41) = some (.inr (0, [.ref (42), .int (lc_i (lc_cnt (lc_f0) 1 36)), .int (lc_i (lc_cnt (lc_f0) 2 36)), .int (lc_i (1)), .int (lc_i (0)), .int (lc_i (20))]) : lc_Cel) := (fr123 _ (by omega)).trans h117
          have h135 : σ121 (42) = some (lc_aI 36 (lc_f0)) := (fr123 _ (by omega)).trans h118
          have h136 : σ121 (43) = some (lc_aJ 60 (fun i : Int => lc_j ((lc_rp (fun _ : Int => (0 : Int)) (0) (lc_key (lc_f0) (1) 36)) i))) := (fr123 _ (by omega)).trans h119
          have h137 : σ121 (31) = some (lc_aS 4 (lc_u (lc_u (lc_u (fun _ : Int => (none : Option Nat)) (0) (some (32))) (0 + 1) (some (36))) (0 + 1 + 1) (some (40)))) := (fr123 _ (by omega)).trans h105
          refine lc_dup dX2_init_31 rfl ?_
          refine lc_callI (As := []) (stk := [.ref (44), .int (lc_i (0 + 1 + 1 + 1)), .ref (31)]) (b := 44) dX2_init_32 lc_mX2_15 lc_yX7_init (by omega) (lc_cX7_init l (44) σ121 h122 (by omega)) rfl ⟨Nat.le_of_ble_eq_true rfl, Nat.le_of_ble_eq_true rfl⟩ ⟨Nat.le_of_ble_eq_true rfl, Nat.le_of_ble_eq_true rfl⟩ rfl (Nat.le_of_ble_eq_true rfl) (fun v143 n144 σ145 q146 => ?_)
          obtain ⟨rfl, rfl, h139, h140, h141, h142, fr138⟩ := q146
          have h147 : σ145 (30) = some (.inr (2, [.ref (31), .int (lc_i (0))]) : lc_Cel) := (fr138 _ (by omega)).trans h124
          have h148 : σ145 (32) = some (.inr (7, [.ref (33), .int (lc_i (0)), .int (lc_i (0)), .ref (35), .int (lc_i (lc_rc 0))]) : lc_Cel) := (fr138 _ (by omega)).trans h125
          have h149 : σ145 (33) = some (.inr (0, [.ref (34), .int (lc_i (lc_cnt (lc_f0) 1 36)), .int (lc_i (lc_cnt (lc_f0) 2 36)), .int (lc_i (1)), .int (lc_i (0)), .int (lc_i (20))]) : lc_Cel) := (fr138 _ (by omega)).trans h126
          have h150 : σ145 (34) = some (lc_aI 36 (lc_f0)) := (fr138 _ (by omega)).trans h127
          have h151 : σ145 (35) = some (lc_aJ 60 (fun i : Int => lc_j ((lc_rp (fun _ : Int => (0 : Int)) (0) (lc_key (lc_f0) (1) 36)) i))) := (fr138 _ (by omega)).trans h128
          have h152 : σ145 (36) = some (.inr (7, [.ref (37), .int (lc_i (0)), .int (lc_i (0)), .ref (39), .int (lc_i (lc_rc 0))]) : lc_Cel) := (fr138 _ (by omega)).trans h129
          have h153 : σ145 (37) = some (.inr (0, [.ref (38), .int (lc_i (lc_cnt (lc_f0) 1 36)), .int (lc_i (lc_cnt (lc_f0) 2 36)), .int (lc_i (1)), .int (lc_i (0)), .int (lc_i (20))]) : lc_Cel) := (fr138 _ (by omega)).trans h130
          have h154 : σ145 (38) = some (lc_aI 36 (lc_f0)) := (fr138 _ (by omega)).trans h131
          have h155 : σ145 (39) = some (lc_aJ 60 (fun i : Int => lc_j ((lc_rp (fun _ : Int => (0 : Int)) (0) (lc_key (lc_f0) (1) 36)) i))) := (fr138 _ (by omega)).trans h132
          have h156 : σ145 (40) = some (.inr (7, [.ref (41), .int (lc_i (0)), .int (lc_i (0)), .ref (43), .int (lc_i (lc_rc 0))]) : lc_Cel) := (fr138 _ (by omega)).trans h133
          have h157 : σ145 (41) = some (.inr (0, [.ref (42), .int (lc_i (lc_cnt (lc_f0) 1 36)), .int (lc_i (lc_cnt (lc_f0) 2 36)), .int (lc_i (1)), .int (lc_i (0)), .int (lc_i (20))]) : lc_Cel) := (fr138 _ (by omega)).trans h134
          have h158 : σ145 (42) = some (lc_aI 36 (lc_f0)) := (fr138 _ (by omega)).trans h135
          have h159 : σ145 (43) = some (lc_aJ 60 (fun i : Int => lc_j ((lc_rp (fun _ : Int => (0 : Int)) (0) (lc_key (lc_f0) (1) 36)) i))) := (fr138 _ (by omega)).trans h136
          have h160 : σ145 (31) = some (lc_aS 4 (lc_u (lc_u (lc_u (fun _ : Int => (none : Option Nat)) (0) (some (32))) (0 + 1) (some (36))) (0 + 1 + 1) (some (40)))) := (fr138 _ (by omega)).trans h137
          refine lc_sS dX2_init_35 h160 (by omega) (by decide) h139 (fun σ161 h162 fr163 => ?_)
          have h164 : σ161 (30) = some (.inr (2, [.ref (31), .int (lc_i (0))]) : lc_Cel) := (fr163 _ (by omega)).trans h147
          have h165 : σ161 (32) = some (.inr (7, [.ref (33), .int (lc_i (0)), .int (lc_i (0)), .ref (35), .int (lc_i (lc_rc 0))]) : lc_Cel) := (fr163 _ (by omega)).trans h148
          have h166 : σ161 (33) = some (.inr (0, [.ref (34), .int (lc_i (lc_cnt (lc_f0) 1 36)), .int (lc_i (lc_cnt (lc_f0) 2 36)), .int (lc_i (1)), .int (lc_i (0)), .int (lc_i (20))]) : lc_Cel) := (fr163 _ (by omega)).trans h149
          have h167 : σ161 (34) = some (lc_aI 36 (lc_f0)) := (fr163 _ (by omega)).trans h150
          have h168 : σ161 (35) = some (lc_aJ 60 (fun i : Int => lc_j ((lc_rp (fun _ : Int => (0 : Int)) (0) (lc_key (lc_f0) (1) 36)) i))) := (fr163 _ (by omega)).trans h151
          have h169 : σ161 (36) = some (.inr (7, [.ref (37), .int (lc_i (0)), .int (lc_i (0)), .ref (39), .int (lc_i (lc_rc 0))]) : lc_Cel) := (fr163 _ (by omega)).trans h152
          have h170 : σ161 (37) = some (.inr (0, [.ref (38), .int (lc_i (lc_cnt (lc_f0) 1 36)), .int (lc_i (lc_cnt (lc_f0) 2 36)), .int (lc_i (1)), .int (lc_i (0)), .int (lc_i (20))]) : lc_Cel) := (fr163 _ (by omega)).trans h153
          have h171 : σ161 (38) = some (lc_aI 36 (lc_f0)) := (fr163 _ (by omega)).trans h154
          have h172 : σ161 (39) = some (lc_aJ 60 (fun i : Int => lc_j ((lc_rp (fun _ : Int => (0 : Int)) (0) (lc_key (lc_f0) (1) 36)) i))) := (fr163 _ (by omega)).trans h155
          have h173 : σ161 (40) = some (.inr (7, [.ref (41), .int (lc_i (0)), .int (lc_i (0)), .ref (43), .int (lc_i (lc_rc 0))]) : lc_Cel) := (fr163 _ (by omega)).trans h156
          have h174 : σ161 (41) = some (.inr (0, [.ref (42), .int (lc_i (lc_cnt (lc_f0) 1 36)), .int (lc_i (lc_cnt (lc_f0) 2 36)), .int (lc_i (1)), .int (lc_i (0)), .int (lc_i (20))]) : lc_Cel) := (fr163 _ (by omega)).trans h157
          have h175 : σ161 (42) = some (lc_aI 36 (lc_f0)) := (fr163 _ (by omega)).trans h158
          have h176 : σ161 (43) = some (lc_aJ 60 (fun i : Int => lc_j ((lc_rp (fun _ : Int => (0 : Int)) (0) (lc_key (lc_f0) (1) 36)) i))) := (fr163 _ (by omega)).trans h159
          have h177 : σ161 (44) = some (.inr (7, [.ref (45), .int (lc_i (0)), .int (lc_i (0)), .ref (47), .int (lc_i (lc_rc 0))]) : lc_Cel) := (fr163 _ (by omega)).trans h139
          have h178 : σ161 (45) = some (.inr (0, [.ref (46), .int (lc_i (lc_cnt (lc_f0) 1 36)), .int (lc_i (lc_cnt (lc_f0) 2 36)), .int (lc_i (1)), .int (lc_i (0)), .int (lc_i (20))]) : lc_Cel) := (fr163 _ (by omega)).trans h140
          have h179 : σ161 (46) = some (lc_aI 36 (lc_f0)) := (fr163 _ (by omega)).trans h141
          have h180 : σ161 (47) = some (lc_aJ 60 (fun i : Int => lc_j ((lc_rp (fun _ : Int => (0 : Int)) (0) (lc_key (lc_f0) (1) 36)) i))) := (fr163 _ (by omega)).trans h142
          refine lc_iinc (lv' := [(0, .ref (30)), (1, .int (lc_i (0 + 1 + 1 + 1 + 1)))]) dX2_init_36 1 rfl (by decide) rfl ?_
          refine lc_goto (tgt := 14) dX2_init_39 (by decide) ?_
          refine lc_iload_n dX2_init_14 rfl 1 rfl ?_
          refine lc_aload_n dX2_init_15 rfl 0 rfl ?_
          refine lc_get dX2_init_16 lc_fX2_11 h164 rfl ?_
          refine lc_alenV (v := 4) dX2_init_19 h162 (by decide) rfl ?_
          refine lc_icmp_ge (tgt := 42) dX2_init_20 (by decide) (by omega) (fun h_20_180 => ?_) (fun h_20_180 => ?_)
          · skip
            refine lc_extS (g := lc_h4 0) h162 (fun j h1 h2 => by rcases (show j = 0 ∨ j = 1 ∨ j = 2 ∨ j = 3 by omega) with e9 | e9 | e9 | e9 <;> subst e9 <;> simp [lc_u, lc_h4]) (fun σ182 h183 fr184 => ?_)
            have h185 : σ182 (30) = some (.inr (2, [.ref (31), .int (lc_i (0))]) : lc_Cel) := (fr184 _ (by omega)).trans h164
            have h186 : σ182 (32) = some (.inr (7, [.ref (33), .int (lc_i (0)), .int (lc_i (0)), .ref (35), .int (lc_i (lc_rc 0))]) : lc_Cel) := (fr184 _ (by omega)).trans h165
            have h187 : σ182 (33) = some (.inr (0, [.ref (34), .int (lc_i (lc_cnt (lc_f0) 1 36)), .int (lc_i (lc_cnt (lc_f0) 2 36)), .int (lc_i (1)), .int (lc_i (0)), .int (lc_i (20))]) : lc_Cel) := (fr184 _ (by omega)).trans h166
            have h188 : σ182 (34) = some (lc_aI 36 (lc_f0)) := (fr184 _ (by omega)).trans h167
            have h189 : σ182 (35) = some (lc_aJ 60 (fun i : Int => lc_j ((lc_rp (fun _ : Int => (0 : Int)) (0) (lc_key (lc_f0) (1) 36)) i))) := (fr184 _ (by omega)).trans h168
            have h190 : σ182 (36) = some (.inr (7, [.ref (37), .int (lc_i (0)), .int (lc_i (0)), .ref (39), .int (lc_i (lc_rc 0))]) : lc_Cel) := (fr184 _ (by omega)).trans h169
            have h191 : σ182 (37) = some (.inr (0, [.ref (38), .int (lc_i (lc_cnt (lc_f0) 1 36)), .int (lc_i (lc_cnt (lc_f0) 2 36)), .int (lc_i (1)), .int (lc_i (0)), .int (lc_i (20))]) : lc_Cel) := (fr184 _ (by omega)).trans h170
            have h192 : σ182 (38) = some (lc_aI 36 (lc_f0)) := (fr184 _ (by omega)).trans h171
            have h193 : σ182 (39) = some (lc_aJ 60 (fun i : Int => lc_j ((lc_rp (fun _ : Int => (0 : Int)) (0) (lc_key (lc_f0) (1) 36)) i))) := (fr184 _ (by omega)).trans h172
            have h194 : σ182 (40) = some (.inr (7, [.ref (41), .int (lc_i (0)), .int (lc_i (0)), .ref (43), .int (lc_i (lc_rc 0))]) : lc_Cel) := (fr184 _ (by omega)).trans h173
            have h195 : σ182 (41) = some (.inr (0, [.ref (42), .int (lc_i (lc_cnt (lc_f0) 1 36)), .int (lc_i (lc_cnt (lc_f0) 2 36)), .int (lc_i (1)), .int (lc_i (0)), .int (lc_i (20))]) : lc_Cel) := (fr184 _ (by omega)).trans h174
            have h196 : σ182 (42) = some (lc_aI 36 (lc_f0)) := (fr184 _ (by omega)).trans h175
            have h197 : σ182 (43) = some (lc_aJ 60 (fun i : Int => lc_j ((lc_rp (fun _ : Int => (0 : Int)) (0) (lc_key (lc_f0) (1) 36)) i))) := (fr184 _ (by omega)).trans h176
            have h198 : σ182 (44) = some (.inr (7, [.ref (45), .int (lc_i (0)), .int (lc_i (0)), .ref (47), .int (lc_i (lc_rc 0))]) : lc_Cel) := (fr184 _ (by omega)).trans h177
            have h199 : σ182 (45) = some (.inr (0, [.ref (46), .int (lc_i (lc_cnt (lc_f0) 1 36)), .int (lc_i (lc_cnt (lc_f0) 2 36)), .int (lc_i (1)), .int (lc_i (0)), .int (lc_i (20))]) : lc_Cel) := (fr184 _ (by omega)).trans h178
            have h200 : σ182 (46) = some (lc_aI 36 (lc_f0)) := (fr184 _ (by omega)).trans h179
            have h201 : σ182 (47) = some (lc_aJ 60 (fun i : Int => lc_j ((lc_rp (fun _ : Int => (0 : Int)) (0) (lc_key (lc_f0) (1) 36)) i))) := (fr184 _ (by omega)).trans h180
            exact lc_vret dX2_init_42 rfl (Nat.le_of_ble_eq_true rfl) (Nat.le_of_ble_eq_true rfl) (hQ _ _ _ ⟨rfl, rfl, h185, h183, h186, h187, h188, h189, h190, h191, h192, h193, h194, h195, h196, h197, h198, h199, h200, h201, (fun i _ => ((fr184 i (by omega)).trans ((fr163 i (by omega)).trans ((fr138 i (by omega)).trans ((fr123 i (by omega)).trans ((fr106 i (by omega)).trans ((fr85 i (by omega)).trans ((fr74 i (by omega)).trans ((fr61 i (by omega)).trans ((fr44 i (by omega)).trans ((fr37 i (by omega)).trans ((fr28 i (by omega)).trans ((fr15 i (by omega)).trans ((fr12 i (by omega)).trans ((fr7 i (by omega)).trans (fr3 i (by omega)))))))))))))))))⟩)
          · exact absurd h_20_180 (by decide)

theorem lc_Sl_0 {σ : lc_S} {N : lc_St} (h1 : lc_cs σ 32 N) (h2 : lc_cs σ 36 N) (h3 : lc_cs σ 40 N) (h4 : lc_cs σ 44 N) : lc_Sl σ 0 0 (fun _ => N) :=
  ⟨fun _ => N, fun j hj => by rcases (show j = 0 ∨ j = 1 ∨ j = 2 ∨ j = 3 by omega) with e | e | e | e <;> subst e <;> assumption, fun _ _ => rfl⟩
def lc_Nz : lc_St := (lc_f0, 1, 0, 20, 0, 0, lc_rc 0, lc_rp (fun _ : Int => (0 : Int)) (0) (lc_key (lc_f0) (1) 36))
def lc_A0 : lc_Ab := (lc_Nz, lc_Nz, fun _ => lc_Nz, 0, fun _ => 0, 0, false, false, 0, 0)

set_option maxRecDepth 100000 in
set_option maxHeartbeats 600000 in
theorem lc_cX10_init (l : Launch)  (σ : lc_S) (h0_0 : σ (1) = some (.inr (10, [.null, .null, .null, .null, .null, .null, .null, .null, .null, .null, .int (lc_i (0)), .int (lc_i (0)), .int (lc_i (0)), .int (lc_i (0))]) : lc_Cel))  : lc_Con l yX10_init cX10_init 1 none (lc_Ra 6 48 2124) [.ref (1)] 2 σ (fun v n2 σ2 => v = none ∧ 50 = n2 ∧ lc_CI σ2 lc_A0 ∧ (∀ i : Nat, i < 1 → σ2 i = σ i)) := by
  refine lc_con RX10 true (by decide) rfl (fun _ => rfl) (Nat.le_of_ble_eq_true rfl) ?_
  suffices H : ∀ Q : lc_QT, (∀ v n2 σ2, (fun v n2 σ2 => v = none ∧ 50 = n2 ∧ lc_CI σ2 lc_A0 ∧ (∀ i : Nat, i < 1 → σ2 i = σ i) : lc_QT) v n2 σ2 → Q v n2 σ2) → lc_V l RX10 cX10_init 1 none true (lc_Ra 6 48 2124) (lc_G Q 48 2124) lc_E0 0 0 2 0 [(0, .ref (1))] [] σ from H _ (fun _ _ _ h => h)
  intro Q hQ
  refine lc_aload_n dX10_init_0 rfl 0 rfl ?_
  refine lc_objInit dX10_init_1 lc_mX10_1 (by omega) ⟨Nat.le_of_ble_eq_true rfl, Nat.le_of_ble_eq_true rfl⟩ ?_
  refine lc_aload_n dX10_init_4 rfl 0 rfl ?_
  refine lc_N1 dX10_init_5 lc_cX10_7 (by omega) (Nat.le_of_ble_eq_true rfl) (Nat.le_of_ble_eq_true rfl) (fun σ1 h2 fr3 => ?_)
  have h4 : σ1 (1) = some (.inr (10, [.null, .null, .null, .null, .null, .null, .null, .null, .null, .null, .int (lc_i (0)), .int (lc_i (0)), .int (lc_i (0)), .int (lc_i (0))]) : lc_Cel) := (fr3 _ (by omega)).trans h0_0
  refine lc_dup dX10_init_8 rfl ?_
  refine lc_callI (As := []) (stk := [.ref (2), .ref (1)]) (b := 2) dX10_init_9 lc_mX10_9 lc_yX1_init (by omega) (lc_cX1_init l σ1 h2 ) rfl ⟨Nat.le_of_ble_eq_true rfl, Nat.le_of_ble_eq_true rfl⟩ ⟨Nat.le_of_ble_eq_true rfl, Nat.le_of_ble_eq_true rfl⟩ rfl (Nat.le_of_ble_eq_true rfl) (fun v9 n10 σ11 q12 => ?_)
  obtain ⟨rfl, rfl, h6, h7, h8, fr5⟩ := q12
  have h13 : σ11 (1) = some (.inr (10, [.null, .null, .null, .null, .null, .null, .null, .null, .null, .null, .int (lc_i (0)), .int (lc_i (0)), .int (lc_i (0)), .int (lc_i (0))]) : lc_Cel) := (fr5 _ (by omega)).trans h4
  refine lc_wF (vs' := [.ref (2), .null, .null, .null, .null, .null, .null, .null, .null, .null, .int (lc_i (0)), .int (lc_i (0)), .int (lc_i (0)), .int (lc_i (0))]) dX10_init_12 lc_fX10_10 h13 (Nat.le_of_ble_eq_true rfl) rfl rfl lc_refObj rfl (fun σ14 h15 fr16 => ?_)
  have h17 : σ14 (2) = some (.inr (1, [.ref (3), .ref (4)]) : lc_Cel) := (fr16 _ (by omega)).trans h6
  have h18 : σ14 (3) = some (lc_aI 48 (lc_pt)) := (fr16 _ (by omega)).trans h7
  have h19 : σ14 (4) = some (lc_aI 72 (lc_sp)) := (fr16 _ (by omega)).trans h8
  refine lc_aload_n dX10_init_15 rfl 0 rfl ?_
  refine lc_N9 dX10_init_16 lc_cX10_16 (by omega) (Nat.le_of_ble_eq_true rfl) (Nat.le_of_ble_eq_true rfl) (fun σ20 h21 fr22 => ?_)
  have h23 : σ20 (2) = some (.inr (1, [.ref (3), .ref (4)]) : lc_Cel) := (fr22 _ (by omega)).trans h17
  have h24 : σ20 (3) = some (lc_aI 48 (lc_pt)) := (fr22 _ (by omega)).trans h18
  have h25 : σ20 (4) = some (lc_aI 72 (lc_sp)) := (fr22 _ (by omega)).trans h19
  have h26 : σ20 (1) = some (.inr (10, [.ref (2), .null, .null, .null, .null, .null, .null, .null, .null, .null, .int (lc_i (0)), .int (lc_i (0)), .int (lc_i (0)), .int (lc_i (0))]) : lc_Cel) := (fr22 _ (by omega)).trans h15
  refine lc_dup dX10_init_19 rfl ?_
  refine lc_aload_n dX10_init_20 rfl 0 rfl ?_
  refine lc_get dX10_init_21 lc_fX10_10 h26 rfl ?_
  refine lc_callI (As := [.ref (2)]) (stk := [.ref (5), .ref (1)]) (b := 5) dX10_init_24 lc_mX10_18 lc_yX9_init (by omega) (lc_cX9_init l σ20 h21 ) rfl ⟨Nat.le_of_ble_eq_true rfl, Nat.le_of_ble_eq_true rfl⟩ ⟨Nat.le_of_ble_eq_true rfl, Nat.le_of_ble_eq_true rfl⟩ rfl (Nat.le_of_ble_eq_true rfl) (fun v30 n31 σ32 q33 => ?_)
  obtain ⟨rfl, rfl, h28, h29, fr27⟩ := q33
  have h34 : σ32 (2) = some (.inr (1, [.ref (3), .ref (4)]) : lc_Cel) := (fr27 _ (by omega)).trans h23
  have h35 : σ32 (3) = some (lc_aI 48 (lc_pt)) := (fr27 _ (by omega)).trans h24
  have h36 : σ32 (4) = some (lc_aI 72 (lc_sp)) := (fr27 _ (by omega)).trans h25
  have h37 : σ32 (1) = some (.inr (10, [.ref (2), .null, .null, .null, .null, .null, .null, .null, .null, .null, .int (lc_i (0)), .int (lc_i (0)), .int (lc_i (0)), .int (lc_i (0))]) : lc_Cel) := (fr27 _ (by omega)).trans h26
  refine lc_wF (vs' := [.ref (2), .ref (5), .null, .null, .null, .null, .null, .null, .null, .null, .int (lc_i (0)), .int (lc_i (0)), .int (lc_i (0)), .int (lc_i (0))]) dX10_init_27 lc_fX10_21 h37 (Nat.le_of_ble_eq_true rfl) rfl rfl lc_refObj rfl (fun σ38 h39 fr40 => ?_)
  have h41 : σ38 (2) = some (.inr (1, [.ref (3), .ref (4)]) : lc_Cel) := (fr40 _ (by omega)).trans h34
  have h42 : σ38 (3) = some (lc_aI 48 (lc_pt)) := (fr40 _ (by omega)).trans h35
  have h43 : σ38 (4) = some (lc_aI 72 (lc_sp)) := (fr40 _ (by omega)).trans h36
  have h44 : σ38 (5) = some (.inr (9, [.ref (2), .ref (6), .int (lc_i (0)), .int (lc_i (0)), .int (lc_i (0)), .int (lc_i (0))]) : lc_Cel) := (fr40 _ (by omega)).trans h28
  have h45 : σ38 (6) = some (.inr (8, [.ref (2), .int (lc_i (0)), .int (lc_i (0)), .int (lc_i (0))]) : lc_Cel) := (fr40 _ (by omega)).trans h29
  refine lc_aload_n dX10_init_30 rfl 0 rfl ?_
  refine lc_N6 dX10_init_31 lc_cX10_25 (by omega) (Nat.le_of_ble_eq_true rfl) (Nat.le_of_ble_eq_true rfl) (fun σ46 h47 fr48 => ?_)
  have h49 : σ46 (2) = some (.inr (1, [.ref (3), .ref (4)]) : lc_Cel) := (fr48 _ (by omega)).trans h41
  have h50 : σ46 (3) = some (lc_aI 48 (lc_pt)) := (fr48 _ (by omega)).trans h42
  have h51 : σ46 (4) = some (lc_aI 72 (lc_sp)) := (fr48 _ (by omega)).trans h43
  have h52 : σ46 (5) = some (.inr (9, [.ref (2), .ref (6), .int (lc_i (0)), .int (lc_i (0)), .int (lc_i (0)), .int (lc_i (0))]) : lc_Cel) := (fr48 _ (by omega)).trans h44
  have h53 : σ46 (6) = some (.inr (8, [.ref (2), .int (lc_i (0)), .int (lc_i (0)), .int (lc_i (0))]) : lc_Cel) := (fr48 _ (by omega)).trans h45
  have h54 : σ46 (1) = some (.inr (10, [.ref (2), .ref (5), .null, .null, .null, .null, .null, .null, .null, .null, .int (lc_i (0)), .int (lc_i (0)), .int (lc_i (0)), .int (lc_i (0))]) : lc_Cel) := (fr48 _ (by omega)).trans h39
  refine lc_dup dX10_init_34 rfl ?_
  refine lc_aload_n dX10_init_35 rfl 0 rfl ?_
  refine lc_get dX10_init_36 lc_fX10_10 h54 rfl ?_
  refine lc_aload_n dX10_init_39 rfl 0 rfl ?_
  refine lc_get dX10_init_40 lc_fX10_21 h54 rfl ?_
  refine lc_callI (As := [.ref (2), .ref (5)]) (stk := [.ref (7), .ref (1)]) (b := 7) dX10_init_43 lc_mX10_27 lc_yX6_init (by omega) (lc_cX6_init l σ46 h47 ) rfl ⟨Nat.le_of_ble_eq_true rfl, Nat.le_of_ble_eq_true rfl⟩ ⟨Nat.le_of_ble_eq_true rfl, Nat.le_of_ble_eq_true rfl⟩ rfl (Nat.le_of_ble_eq_true rfl) (fun v58 n59 σ60 q61 => ?_)
  obtain ⟨rfl, rfl, h56, h57, fr55⟩ := q61
  have h62 : σ60 (2) = some (.inr (1, [.ref (3), .ref (4)]) : lc_Cel) := (fr55 _ (by omega)).trans h49
  have h63 : σ60 (3) = some (lc_aI 48 (lc_pt)) := (fr55 _ (by omega)).trans h50
  have h64 : σ60 (4) = some (lc_aI 72 (lc_sp)) := (fr55 _ (by omega)).trans h51
  have h65 : σ60 (5) = some (.inr (9, [.ref (2), .ref (6), .int (lc_i (0)), .int (lc_i (0)), .int (lc_i (0)), .int (lc_i (0))]) : lc_Cel) := (fr55 _ (by omega)).trans h52
  have h66 : σ60 (6) = some (.inr (8, [.ref (2), .int (lc_i (0)), .int (lc_i (0)), .int (lc_i (0))]) : lc_Cel) := (fr55 _ (by omega)).trans h53
  have h67 : σ60 (1) = some (.inr (10, [.ref (2), .ref (5), .null, .null, .null, .null, .null, .null, .null, .null, .int (lc_i (0)), .int (lc_i (0)), .int (lc_i (0)), .int (lc_i (0))]) : lc_Cel) := (fr55 _ (by omega)).trans h54
  refine lc_wF (vs' := [.ref (2), .ref (5), .ref (7), .null, .null, .null, .null, .null, .null, .null, .int (lc_i (0)), .int (lc_i (0)), .int (lc_i (0)), .int (lc_i (0))]) dX10_init_46 lc_fX10_30 h67 (Nat.le_of_ble_eq_true rfl) rfl rfl lc_refObj rfl (fun σ68 h69 fr70 => ?_)
  have h71 : σ68 (2) = some (.inr (1, [.ref (3), .ref (4)]) : lc_Cel) := (fr70 _ (by omega)).trans h62
  have h72 : σ68 (3) = some (lc_aI 48 (lc_pt)) := (fr70 _ (by omega)).trans h63
  have h73 : σ68 (4) = some (lc_aI 72 (lc_sp)) := (fr70 _ (by omega)).trans h64
  have h74 : σ68 (5) = some (.inr (9, [.ref (2), .ref (6), .int (lc_i (0)), .int (lc_i (0)), .int (lc_i (0)), .int (lc_i (0))]) : lc_Cel) := (fr70 _ (by omega)).trans h65
  have h75 : σ68 (6) = some (.inr (8, [.ref (2), .int (lc_i (0)), .int (lc_i (0)), .int (lc_i (0))]) : lc_Cel) := (fr70 _ (by omega)).trans h66
  have h76 : σ68 (7) = some (.inr (6, [.ref (2), .ref (8), .ref (5)]) : lc_Cel) := (fr70 _ (by omega)).trans h56
  have h77 : σ68 (8) = some (.inr (8, [.ref (2), .int (lc_i (0)), .int (lc_i (0)), .int (lc_i (0))]) : lc_Cel) := (fr70 _ (by omega)).trans h57
  refine lc_aload_n dX10_init_49 rfl 0 rfl ?_
  refine lc_N4 dX10_init_50 lc_cX10_34 (by omega) (Nat.le_of_ble_eq_true rfl) (Nat.le_of_ble_eq_true rfl) (fun σ78 h79 fr80 => ?_)
  have h81 : σ78 (2) = some (.inr (1, [.ref (3), .ref (4)]) : lc_Cel) := (fr80 _ (by omega)).trans h71
  have h82 : σ78 (3) = some (lc_aI 48 (lc_pt)) := (fr80 _ (by omega)).trans h72
  have h83 : σ78 (4) = some (lc_aI 72 (lc_sp)) := (fr80 _ (by omega)).trans h73
  have h84 : σ78 (5) = some (.inr (9, [.ref (2), .ref (6), .int (lc_i (0)), .int (lc_i (0)), .int (lc_i (0)), .int (lc_i (0))]) : lc_Cel) := (fr80 _ (by omega)).trans h74
  have h85 : σ78 (6) = some (.inr (8, [.ref (2), .int (lc_i (0)), .int (lc_i (0)), .int (lc_i (0))]) : lc_Cel) := (fr80 _ (by omega)).trans h75
  have h86 : σ78 (7) = some (.inr (6, [.ref (2), .ref (8), .ref (5)]) : lc_Cel) := (fr80 _ (by omega)).trans h76
  have h87 : σ78 (8) = some (.inr (8, [.ref (2), .int (lc_i (0)), .int (lc_i (0)), .int (lc_i (0))]) : lc_Cel) := (fr80 _ (by omega)).trans h77
  have h88 : σ78 (1) = some (.inr (10, [.ref (2), .ref (5), .ref (7), .null, .null, .null, .null, .null, .null, .null, .int (lc_i (0)), .int (lc_i (0)), .int (lc_i (0)), .int (lc_i (0))]) : lc_Cel) := (fr80 _ (by omega)).trans h69
  refine lc_dup dX10_init_53 rfl ?_
  refine lc_callIN (As := []) (stk := [.ref (9), .ref (1)]) (b := 9) dX10_init_54 (fun U hU => hU.1) lc_yX4_init (by omega) (lc_cX4_init l (9) σ78 h79 (by omega)) rfl ⟨Nat.le_of_ble_eq_true rfl, Nat.le_of_ble_eq_true rfl⟩ ⟨Nat.le_of_ble_eq_true rfl, Nat.le_of_ble_eq_true rfl⟩ rfl (Nat.le_of_ble_eq_true rfl) (fun v92 n93 σ94 q95 => ?_)
  obtain ⟨rfl, rfl, h90, h91, fr89⟩ := q95
  have h96 : σ94 (2) = some (.inr (1, [.ref (3), .ref (4)]) : lc_Cel) := (fr89 _ (by omega)).trans h81
  have h97 : σ94 (3) = some (lc_aI 48 (lc_pt)) := (fr89 _ (by omega)).trans h82
  have h98 : σ94 (4) = some (lc_aI 72 (lc_sp)) := (fr89 _ (by omega)).trans h83
  have h99 : σ94 (5) = some (.inr (9, [.ref (2), .ref (6), .int (lc_i (0)), .int (lc_i (0)), .int (lc_i (0)), .int (lc_i (0))]) : lc_Cel) := (fr89 _ (by omega)).trans h84
  have h100 : σ94 (6) = some (.inr (8, [.ref (2), .int (lc_i (0)), .int (lc_i (0)), .int (lc_i (0))]) : lc_Cel) := (fr89 _ (by omega)).trans h85
  have h101 : σ94 (7) = some (.inr (6, [.ref (2), .ref (8), .ref (5)]) : lc_Cel) := (fr89 _ (by omega)).trans h86
  have h102 : σ94 (8) = some (.inr (8, [.ref (2), .int (lc_i (0)), .int (lc_i (0)), .int (lc_i (0))]) : lc_Cel) := (fr89 _ (by omega)).trans h87
  have h103 : σ94 (1) = some (.inr (10, [.ref (2), .ref (5), .ref (7), .null, .null, .null, .null, .null, .null, .null, .int (lc_i (0)), .int (lc_i (0)), .int (lc_i (0)), .int (lc_i (0))]) : lc_Cel) := (fr89 _ (by omega)).trans h88
  refine lc_wF (vs' := [.ref (2), .ref (5), .ref (7), .ref (9), .null, .null, .null, .null, .null, .null, .int (lc_i (0)), .int (lc_i (0)), .int (lc_i (0)), .int (lc_i (0))]) dX10_init_57 lc_fX10_37 h103 (Nat.le_of_ble_eq_true rfl) rfl rfl lc_refObj rfl (fun σ104 h105 fr106 => ?_)
  have h107 : σ104 (2) = some (.inr (1, [.ref (3), .ref (4)]) : lc_Cel) := (fr106 _ (by omega)).trans h96
  have h108 : σ104 (3) = some (lc_aI 48 (lc_pt)) := (fr106 _ (by omega)).trans h97
  have h109 : σ104 (4) = some (lc_aI 72 (lc_sp)) := (fr106 _ (by omega)).trans h98
  have h110 : σ104 (5) = some (.inr (9, [.ref (2), .ref (6), .int (lc_i (0)), .int (lc_i (0)), .int (lc_i (0)), .int (lc_i (0))]) : lc_Cel) := (fr106 _ (by omega)).trans h99
  have h111 : σ104 (6) = some (.inr (8, [.ref (2), .int (lc_i (0)), .int (lc_i (0)), .int (lc_i (0))]) : lc_Cel) := (fr106 _ (by omega)).trans h100
  have h112 : σ104 (7) = some (.inr (6, [.ref (2), .ref (8), .ref (5)]) : lc_Cel) := (fr106 _ (by omega)).trans h101
  have h113 : σ104 (8) = some (.inr (8, [.ref (2), .int (lc_i (0)), .int (lc_i (0)), .int (lc_i (0))]) : lc_Cel) := (fr106 _ (by omega)).trans h102
  have h114 : σ104 (9) = some (.inr (4, [.ref (10), .int (lc_i (0)), .int (lc_i (0))]) : lc_Cel) := (fr106 _ (by omega)).trans h90
  have h115 : σ104 (10) = some (lc_aI 364 (fun _ : Int => (0 : Int))) := (fr106 _ (by omega)).trans h91
  refine lc_aload_n dX10_init_60 rfl 0 rfl ?_
  refine lc_N3 dX10_init_61 lc_cX10_41 (by omega) (Nat.le_of_ble_eq_true rfl) (Nat.le_of_ble_eq_true rfl) (fun σ116 h117 fr118 => ?_)
  have h119 : σ116 (2) = some (.inr (1, [.ref (3), .ref (4)]) : lc_Cel) := (fr118 _ (by omega)).trans h107
  have h120 : σ116 (3) = some (lc_aI 48 (lc_pt)) := (fr118 _ (by omega)).trans h108
  have h121 : σ116 (4) = some (lc_aI 72 (lc_sp)) := (fr118 _ (by omega)).trans h109
  have h122 : σ116 (5) = some (.inr (9, [.ref (2), .ref (6), .int (lc_i (0)), .int (lc_i (0)), .int (lc_i (0)), .int (lc_i (0))]) : lc_Cel) := (fr118 _ (by omega)).trans h110
  have h123 : σ116 (6) = some (.inr (8, [.ref (2), .int (lc_i (0)), .int (lc_i (0)), .int (lc_i (0))]) : lc_Cel) := (fr118 _ (by omega)).trans h111
  have h124 : σ116 (7) = some (.inr (6, [.ref (2), .ref (8), .ref (5)]) : lc_Cel) := (fr118 _ (by omega)).trans h112
  have h125 : σ116 (8) = some (.inr (8, [.ref (2), .int (lc_i (0)), .int (lc_i (0)), .int (lc_i (0))]) : lc_Cel) := (fr118 _ (by omega)).trans h113
  have h126 : σ116 (9) = some (.inr (4, [.ref (10), .int (lc_i (0)), .int (lc_i (0))]) : lc_Cel) := (fr118 _ (by omega)).trans h114
  have h127 : σ116 (10) = some (lc_aI 364 (fun _ : Int => (0 : Int))) := (fr118 _ (by omega)).trans h115
  have h128 : σ116 (1) = some (.inr (10, [.ref (2), .ref (5), .ref (7), .ref (9), .null, .null, .null, .null, .null, .null, .int (lc_i (0)), .int (lc_i (0)), .int (lc_i (0)), .int (lc_i (0))]) : lc_Cel) := (fr118 _ (by omega)).trans h105
  refine lc_dup dX10_init_64 rfl ?_
  refine lc_aload_n dX10_init_65 rfl 0 rfl ?_
  refine lc_get dX10_init_66 lc_fX10_30 h128 rfl ?_
  refine lc_callI (As := [.ref (7)]) (stk := [.ref (11), .ref (1)]) (b := 11) dX10_init_69 lc_mX10_43 lc_yX3_init (by omega) (lc_cX3_init l σ116 h117 ) rfl ⟨Nat.le_of_ble_eq_true rfl, Nat.le_of_ble_eq_true rfl⟩ ⟨Nat.le_of_ble_eq_true rfl, Nat.le_of_ble_eq_true rfl⟩ rfl (Nat.le_of_ble_eq_true rfl) (fun v137 n138 σ139 q140 => ?_)
  obtain ⟨rfl, rfl, h130, h131, h132, h133, h134, h135, h136, fr129⟩ := q140
  have h141 : σ139 (2) = some (.inr (1, [.ref (3), .ref (4)]) : lc_Cel) := (fr129 _ (by omega)).trans h119
  have h142 : σ139 (3) = some (lc_aI 48 (lc_pt)) := (fr129 _ (by omega)).trans h120
  have h143 : σ139 (4) = some (lc_aI 72 (lc_sp)) := (fr129 _ (by omega)).trans h121
  have h144 : σ139 (5) = some (.inr (9, [.ref (2), .ref (6), .int (lc_i (0)), .int (lc_i (0)), .int (lc_i (0)), .int (lc_i (0))]) : lc_Cel) := (fr129 _ (by omega)).trans h122
  have h145 : σ139 (6) = some (.inr (8, [.ref (2), .int (lc_i (0)), .int (lc_i (0)), .int (lc_i (0))]) : lc_Cel) := (fr129 _ (by omega)).trans h123
  have h146 : σ139 (7) = some (.inr (6, [.ref (2), .ref (8), .ref (5)]) : lc_Cel) := (fr129 _ (by omega)).trans h124
  have h147 : σ139 (8) = some (.inr (8, [.ref (2), .int (lc_i (0)), .int (lc_i (0)), .int (lc_i (0))]) : lc_Cel) := (fr129 _ (by omega)).trans h125
  have h148 : σ139 (9) = some (.inr (4, [.ref (10), .int (lc_i (0)), .int (lc_i (0))]) : lc_Cel) := (fr129 _ (by omega)).trans h126
  have h149 : σ139 (10) = some (lc_aI 364 (fun _ : Int => (0 : Int))) := (fr129 _ (by omega)).trans h127
  have h150 : σ139 (1) = some (.inr (10, [.ref (2), .ref (5), .ref (7), .ref (9), .null, .null, .null, .null, .null, .null, .int (lc_i (0)), .int (lc_i (0)), .int (lc_i (0)), .int (lc_i (0))]) : lc_Cel) := (fr129 _ (by omega)).trans h128
  refine lc_wF (vs' := [.ref (2), .ref (5), .ref (7), .ref (9), .ref (11), .null, .null, .null, .null, .null, .int (lc_i (0)), .int (lc_i (0)), .int (lc_i (0)), .int (lc_i (0))]) dX10_init_72 lc_fX10_46 h150 (Nat.le_of_ble_eq_true rfl) rfl rfl lc_refObj rfl (fun σ151 h152 fr153 => ?_)
  have h154 : σ151 (2) = some (.inr (1, [.ref (3), .ref (4)]) : lc_Cel) := (fr153 _ (by omega)).trans h141
  have h155 : σ151 (3) = some (lc_aI 48 (lc_pt)) := (fr153 _ (by omega)).trans h142
  have h156 : σ151 (4) = some (lc_aI 72 (lc_sp)) := (fr153 _ (by omega)).trans h143
  have h157 : σ151 (5) = some (.inr (9, [.ref (2), .ref (6), .int (lc_i (0)), .int (lc_i (0)), .int (lc_i (0)), .int (lc_i (0))]) : lc_Cel) := (fr153 _ (by omega)).trans h144
  have h158 : σ151 (6) = some (.inr (8, [.ref (2), .int (lc_i (0)), .int (lc_i (0)), .int (lc_i (0))]) : lc_Cel) := (fr153 _ (by omega)).trans h145
  have h159 : σ151 (7) = some (.inr (6, [.ref (2), .ref (8), .ref (5)]) : lc_Cel) := (fr153 _ (by omega)).trans h146
  have h160 : σ151 (8) = some (.inr (8, [.ref (2), .int (lc_i (0)), .int (lc_i (0)), .int (lc_i (0))]) : lc_Cel) := (fr153 _ (by omega)).trans h147
  have h161 : σ151 (9) = some (.inr (4, [.ref (10), .int (lc_i (0)), .int (lc_i (0))]) : lc_Cel) := (fr153 _ (by omega)).trans h148
  have h162 : σ151 (10) = some (lc_aI 364 (fun _ : Int => (0 : Int))) := (fr153 _ (by omega)).trans h149
  have h163 : σ151 (11) = some (.inr (3, [.ref (7), .ref (12), .ref (14), .ref (16), .int (lc_i (0))]) : lc_Cel) := (fr153 _ (by omega)).trans h130
  have h164 : σ151 (12) = some (.inr (0, [.ref (13), .int (lc_i (lc_cnt (lc_f0) 1 36)), .int (lc_i (lc_cnt (lc_f0) 2 36)), .int (lc_i (1)), .int (lc_i (0)), .int (lc_i (20))]) : lc_Cel) := (fr153 _ (by omega)).trans h131
  have h165 : σ151 (13) = some (lc_aI 36 (lc_f0)) := (fr153 _ (by omega)).trans h132
  have h166 : σ151 (14) = some (.inr (4, [.ref (15), .int (lc_i (0)), .int (lc_i (0))]) : lc_Cel) := (fr153 _ (by omega)).trans h133
  have h167 : σ151 (15) = some (lc_aI 364 (fun _ : Int => (0 : Int))) := (fr153 _ (by omega)).trans h134
  have h168 : σ151 (16) = some (.inr (4, [.ref (17), .int (lc_i (0)), .int (lc_i (0))]) : lc_Cel) := (fr153 _ (by omega)).trans h135
  have h169 : σ151 (17) = some (lc_aI 364 (fun _ : Int => (0 : Int))) := (fr153 _ (by omega)).trans h136
  refine lc_aload_n dX10_init_75 rfl 0 rfl ?_
  refine lc_N7 dX10_init_76 lc_cX10_50 (by omega) (Nat.le_of_ble_eq_true rfl) (Nat.le_of_ble_eq_true rfl) (fun σ170 h171 fr172 => ?_)
  have h173 : σ170 (2) = some (.inr (1, [.ref (3), .ref (4)]) : lc_Cel) := (fr172 _ (by omega)).trans h154
  have h174 : σ170 (3) = some (lc_aI 48 (lc_pt)) := (fr172 _ (by omega)).trans h155
  have h175 : σ170 (4) = some (lc_aI 72 (lc_sp)) := (fr172 _ (by omega)).trans h156
  have h176 : σ170 (5) = some (.inr (9, [.ref (2), .ref (6), .int (lc_i (0)), .int (lc_i (0)), .int (lc_i (0)), .int (lc_i (0))]) : lc_Cel) := (fr172 _ (by omega)).trans h157
  have h177 : σ170 (6) = some (.inr (8, [.ref (2), .int (lc_i (0)), .int (lc_i (0)), .int (lc_i (0))]) : lc_Cel) := (fr172 _ (by omega)).trans h158
  have h178 : σ170 (7) = some (.inr (6, [.ref (2), .ref (8), .ref (5)]) : lc_Cel) := (fr172 _ (by omega)).trans h159
  have h179 : σ170 (8) = some (.inr (8, [.ref (2), .int (lc_i (0)), .int (lc_i (0)), .int (lc_i (0))]) : lc_Cel) := (fr172 _ (by omega)).trans h160
  have h180 : σ170 (9) = some (.inr (4, [.ref (10), .int (lc_i (0)), .int (lc_i (0))]) : lc_Cel) := (fr172 _ (by omega)).trans h161
  have h181 : σ170 (10) = some (lc_aI 364 (fun _ : Int => (0 : Int))) := (fr172 _ (by omega)).trans h162
  have h182 : σ170 (11) = some (.inr (3, [.ref (7), .ref (12), .ref (14), .ref (16), .int (lc_i (0))]) : lc_Cel) := (fr172 _ (by omega)).trans h163
  have h183 : σ170 (12) = some (.inr (0, [.ref (13), .int (lc_i (lc_cnt (lc_f0) 1 36)), .int (lc_i (lc_cnt (lc_f0) 2 36)), .int (lc_i (1)), .int (lc_i (0)), .int (lc_i (20))]) : lc_Cel) := (fr172 _ (by omega)).trans h164
  have h184 : σ170 (13) = some (lc_aI 36 (lc_f0)) := (fr172 _ (by omega)).trans h165
  have h185 : σ170 (14) = some (.inr (4, [.ref (15), .int (lc_i (0)), .int (lc_i (0))]) : lc_Cel) := (fr172 _ (by omega)).trans h166
  have h186 : σ170 (15) = some (lc_aI 364 (fun _ : Int => (0 : Int))) := (fr172 _ (by omega)).trans h167
  have h187 : σ170 (16) = some (.inr (4, [.ref (17), .int (lc_i (0)), .int (lc_i (0))]) : lc_Cel) := (fr172 _ (by omega)).trans h168
  have h188 : σ170 (17) = some (lc_aI 364 (fun _ : Int => (0 : Int))) := (fr172 _ (by omega)).trans h169
  have h189 : σ170 (1) = some (.inr (10, [.ref (2), .ref (5), .ref (7), .ref (9), .ref (11), .null, .null, .null, .null, .null, .int (lc_i (0)), .int (lc_i (0)), .int (lc_i (0)), .int (lc_i (0))]) : lc_Cel) := (fr172 _ (by omega)).trans h152
  refine lc_dup dX10_init_79 rfl ?_
  refine lc_callI (As := []) (stk := [.ref (18), .ref (1)]) (b := 18) dX10_init_80 lc_mX10_52 lc_yX7_init (by omega) (lc_cX7_init l (18) σ170 h171 (by omega)) rfl ⟨Nat.le_of_ble_eq_true rfl, Nat.le_of_ble_eq_true rfl⟩ ⟨Nat.le_of_ble_eq_true rfl, Nat.le_of_ble_eq_true rfl⟩ rfl (Nat.le_of_ble_eq_true rfl) (fun v195 n196 σ197 q198 => ?_)
  obtain ⟨rfl, rfl, h191, h192, h193, h194, fr190⟩ := q198
  have h199 : σ197 (2) = some (.inr (1, [.ref (3), .ref (4)]) : lc_Cel) := (fr190 _ (by omega)).trans h173
  have h200 : σ197 (3) = some (lc_aI 48 (lc_pt)) := (fr190 _ (by omega)).trans h174
  have h201 : σ197 (4) = some (lc_aI 72 (lc_sp)) := (fr190 _ (by omega)).trans h175
  have h202 : σ197 (5) = some (.inr (9, [.ref (2), .ref (6), .int (lc_i (0)), .int (lc_i (0)), .int (lc_i (0)), .int (lc_i (0))]) : lc_Cel) := (fr190 _ (by omega)).trans h176
  have h203 : σ197 (6) = some (.inr (8, [.ref (2), .int (lc_i (0)), .int (lc_i (0)), .int (lc_i (0))]) : lc_Cel) := (fr190 _ (by omega)).trans h177
  have h204 : σ197 (7) = some (.inr (6, [.ref (2), .ref (8), .ref (5)]) : lc_Cel) := (fr190 _ (by omega)).trans h178
  have h205 : σ197 (8) = some (.inr (8, [.ref (2), .int (lc_i (0)), .int (lc_i (0)), .int (lc_i (0))]) : lc_Cel) := (fr190 _ (by omega)).trans h179
  have h206 : σ197 (9) = some (.inr (4, [.ref (10), .int (lc_i (0)), .int (lc_i (0))]) : lc_Cel) := (fr190 _ (by omega)).trans h180
  have h207 : σ197 (10) = some (lc_aI 364 (fun _ : Int => (0 : Int))) := (fr190 _ (by omega)).trans h181
  have h208 : σ197 (11) = some (.inr (3, [.ref (7), .ref (12), .ref (14), .ref (16), .int (lc_i (0))]) : lc_Cel) := (fr190 _ (by omega)).trans h182
  have h209 : σ197 (12) = some (.inr (0, [.ref (13), .int (lc_i (lc_cnt (lc_f0) 1 36)), .int (lc_i (lc_cnt (lc_f0) 2 36)), .int (lc_i (1)), .int (lc_i (0)), .int (lc_i (20))]) : lc_Cel) := (fr190 _ (by omega)).trans h183
  have h210 : σ197 (13) = some (lc_aI 36 (lc_f0)) := (fr190 _ (by omega)).trans h184
  have h211 : σ197 (14) = some (.inr (4, [.ref (15), .int (lc_i (0)), .int (lc_i (0))]) : lc_Cel) := (fr190 _ (by omega)).trans h185
  have h212 : σ197 (15) = some (lc_aI 364 (fun _ : Int => (0 : Int))) := (fr190 _ (by omega)).trans h186
  have h213 : σ197 (16) = some (.inr (4, [.ref (17), .int (lc_i (0)), .int (lc_i (0))]) : lc_Cel) := (fr190 _ (by omega)).trans h187
  have h214 : σ197 (17) = some (lc_aI 364 (fun _ : Int => (0 : Int))) := (fr190 _ (by omega)).trans h188
  have h215 : σ197 (1) = some (.inr (10, [.ref (2), .ref (5), .ref (7), .ref (9), .ref (11), .null, .null, .null, .null, .null, .int (lc_i (0)), .int (lc_i (0)), .int (lc_i (0)), .int (lc_i (0))]) : lc_Cel) := (fr190 _ (by omega)).trans h189
  refine lc_wF (vs' := [.ref (2), .ref (5), .ref (7), .ref (9), .ref (11), .ref (18), .null, .null, .null, .null, .int (lc_i (0)), .int (lc_i (0)), .int (lc_i (0)), .int (lc_i (0))]) dX10_init_83 lc_fX10_53 h215 (Nat.le_of_ble_eq_true rfl) rfl rfl lc_refObj rfl (fun σ216 h217 fr218 => ?_)
  have h219 : σ216 (2) = some (.inr (1, [.ref (3), .ref (4)]) : lc_Cel) := (fr218 _ (by omega)).trans h199
  have h220 : σ216 (3) = some (lc_aI 48 (lc_pt)) := (fr218 _ (by omega)).trans h200
  have h221 : σ216 (4) = some (lc_aI 72 (lc_sp)) := (fr218 _ (by omega)).trans h201
  have h222 : σ216 (5) = some (.inr (9, [.ref (2), .ref (6), .int (lc_i (0)), .int (lc_i (0)), .int (lc_i (0)), .int (lc_i (0))]) : lc_Cel) := (fr218 _ (by omega)).trans h202
  have h223 : σ216 (6) = some (.inr (8, [.ref (2), .int (lc_i (0)), .int (lc_i (0)), .int (lc_i (0))]) : lc_Cel) := (fr218 _ (by omega)).trans h203
  have h224 : σ216 (7) = some (.inr (6, [.ref (2), .ref (8), .ref (5)]) : lc_Cel) := (fr218 _ (by omega)).trans h204
  have h225 : σ216 (8) = some (.inr (8, [.ref (2), .int (lc_i (0)), .int (lc_i (0)), .int (lc_i (0))]) : lc_Cel) := (fr218 _ (by omega)).trans h205
  have h226 : σ216 (9) = some (.inr (4, [.ref (10), .int (lc_i (0)), .int (lc_i (0))]) : lc_Cel) := (fr218 _ (by omega)).trans h206
  have h227 : σ216 (10) = some (lc_aI 364 (fun _ : Int => (0 : Int))) := (fr218 _ (by omega)).trans h207
  have h228 : σ216 (11) = some (.inr (3, [.ref (7), .ref (12), .ref (14), .ref (16), .int (lc_i (0))]) : lc_Cel) := (fr218 _ (by omega)).trans h208
  have h229 : σ216 (12) = some (.inr (0, [.ref (13), .int (lc_i (lc_cnt (lc_f0) 1 36)), .int (lc_i (lc_cnt (lc_f0) 2 36)), .int (lc_i (1)), .int (lc_i (0)), .int (lc_i (20))]) : lc_Cel) := (fr218 _ (by omega)).trans h209
  have h230 : σ216 (13) = some (lc_aI 36 (lc_f0)) := (fr218 _ (by omega)).trans h210
  have h231 : σ216 (14) = some (.inr (4, [.ref (15), .int (lc_i (0)), .int (lc_i (0))]) : lc_Cel) := (fr218 _ (by omega)).trans h211
  have h232 : σ216 (15) = some (lc_aI 364 (fun _ : Int => (0 : Int))) := (fr218 _ (by omega)).trans h212
  have h233 : σ216 (16) = some (.inr (4, [.ref (17), .int (lc_i (0)), .int (lc_i (0))]) : lc_Cel) := (fr218 _ (by omega)).trans h213
  have h234 : σ216 (17) = some (lc_aI 364 (fun _ : Int => (0 : Int))) := (fr218 _ (by omega)).trans h214
  have h235 : σ216 (18) = some (.inr (7, [.ref (19), .int (lc_i (0)), .int (lc_i (0)), .ref (21), .int (lc_i (lc_rc 0))]) : lc_Cel) := (fr218 _ (by omega)).trans h191
  have h236 : σ216 (19) = some (.inr (0, [.ref (20), .int (lc_i (lc_cnt (lc_f0) 1 36)), .int (lc_i (lc_cnt (lc_f0) 2 36)), .int (lc_i (1)), .int (lc_i (0)), .int (lc_i (20))]) : lc_Cel) := (fr218 _ (by omega)).trans h192
  have h237 : σ216 (20) = some (lc_aI 36 (lc_f0)) := (fr218 _ (by omega)).trans h193
  have h238 : σ216 (21) = some (lc_aJ 60 (fun i : Int => lc_j ((lc_rp (fun _ : Int => (0 : Int)) (0) (lc_key (lc_f0) (1) 36)) i))) := (fr218 _ (by omega)).trans h194
  refine lc_aload_n dX10_init_86 rfl 0 rfl ?_
  refine lc_N7 dX10_init_87 lc_cX10_50 (by omega) (Nat.le_of_ble_eq_true rfl) (Nat.le_of_ble_eq_true rfl) (fun σ239 h240 fr241 => ?_)
  have h242 : σ239 (2) = some (.inr (1, [.ref (3), .ref (4)]) : lc_Cel) := (fr241 _ (by omega)).trans h219
  have h243 : σ239 (3) = some (lc_aI 48 (lc_pt)) := (fr241 _ (by omega)).trans h220
  have h244 : σ239 (4) = some (lc_aI 72 (lc_sp)) := (fr241 _ (by omega)).trans h221
  have h245 : σ239 (5) = some (.inr (9, [.ref (2), .ref (6), .int (lc_i (0)), .int (lc_i (0)), .int (lc_i (0)), .int (lc_i (0))]) : lc_Cel) := (fr241 _ (by omega)).trans h222
  have h246 : σ239 (6) = some (.inr (8, [.ref (2), .int (lc_i (0)), .int (lc_i (0)), .int (lc_i (0))]) : lc_Cel) := (fr241 _ (by omega)).trans h223
  have h247 : σ239 (7) = some (.inr (6, [.ref (2), .ref (8), .ref (5)]) : lc_Cel) := (fr241 _ (by omega)).trans h224
  have h248 : σ239 (8) = some (.inr (8, [.ref (2), .int (lc_i (0)), .int (lc_i (0)), .int (lc_i (0))]) : lc_Cel) := (fr241 _ (by omega)).trans h225
  have h249 : σ239 (9) = some (.inr (4, [.ref (10), .int (lc_i (0)), .int (lc_i (0))]) : lc_Cel) := (fr241 _ (by omega)).trans h226
  have h250 : σ239 (10) = some (lc_aI 364 (fun _ : Int => (0 : Int))) := (fr241 _ (by omega)).trans h227
  have h251 : σ239 (11) = some (.inr (3, [.ref (7), .ref (12), .ref (14), .ref (16), .int (lc_i (0))]) : lc_Cel) := (fr241 _ (by omega)).trans h228
  have h252 : σ239 (12) = some (.inr (0, [.ref (13), .int (lc_i (lc_cnt (lc_f0) 1 36)), .int (lc_i (lc_cnt (lc_f0) 2 36)), .int (lc_i (1)), .int (lc_i (0)), .int (lc_i (20))]) : lc_Cel) := (fr241 _ (by omega)).trans h229
  have h253 : σ239 (13) = some (lc_aI 36 (lc_f0)) := (fr241 _ (by omega)).trans h230
  have h254 : σ239 (14) = some (.inr (4, [.ref (15), .int (lc_i (0)), .int (lc_i (0))]) : lc_Cel) := (fr241 _ (by omega)).trans h231
  have h255 : σ239 (15) = some (lc_aI 364 (fun _ : Int => (0 : Int))) := (fr241 _ (by omega)).trans h232
  have h256 : σ239 (16) = some (.inr (4, [.ref (17), .int (lc_i (0)), .int (lc_i (0))]) : lc_Cel) := (fr241 _ (by omega)).trans h233
  have h257 : σ239 (17) = some (lc_aI 364 (fun _ : Int => (0 : Int))) := (fr241 _ (by omega)).trans h234
  have h258 : σ239 (18) = some (.inr (7, [.ref (19), .int (lc_i (0)), .int (lc_i (0)), .ref (21), .int (lc_i (lc_rc 0))]) : lc_Cel) := (fr241 _ (by omega)).trans h235
  have h259 : σ239 (19) = some (.inr (0, [.ref (20), .int (lc_i (lc_cnt (lc_f0) 1 36)), .int (lc_i (lc_cnt (lc_f0) 2 36)), .int (lc_i (1)), .int (lc_i (0)), .int (lc_i (20))]) : lc_Cel) := (fr241 _ (by omega)).trans h236
  have h260 : σ239 (20) = some (lc_aI 36 (lc_f0)) := (fr241 _ (by omega)).trans h237
  have h261 : σ239 (21) = some (lc_aJ 60 (fun i : Int => lc_j ((lc_rp (fun _ : Int => (0 : Int)) (0) (lc_key (lc_f0) (1) 36)) i))) := (fr241 _ (by omega)).trans h238
  have h262 : σ239 (1) = some (.inr (10, [.ref (2), .ref (5), .ref (7), .ref (9), .ref (11), .ref (18), .null, .null, .null, .null, .int (lc_i (0)), .int (lc_i (0)), .int (lc_i (0)), .int (lc_i (0))]) : lc_Cel) := (fr241 _ (by omega)).trans h217
  refine lc_dup dX10_init_90 rfl ?_
  refine lc_callI (As := []) (stk := [.ref (22), .ref (1)]) (b := 22) dX10_init_91 lc_mX10_52 lc_yX7_init (by omega) (lc_cX7_init l (22) σ239 h240 (by omega)) rfl ⟨Nat.le_of_ble_eq_true rfl, Nat.le_of_ble_eq_true rfl⟩ ⟨Nat.le_of_ble_eq_true rfl, Nat.le_of_ble_eq_true rfl⟩ rfl (Nat.le_of_ble_eq_true rfl) (fun v268 n269 σ270 q271 => ?_)
  obtain ⟨rfl, rfl, h264, h265, h266, h267, fr263⟩ := q271
  have h272 : σ270 (2) = some (.inr (1, [.ref (3), .ref (4)]) : lc_Cel) := (fr263 _ (by omega)).trans h242
  have h273 : σ270 (3) = some (lc_aI 48 (lc_pt)) := (fr263 _ (by omega)).trans h243
  have h274 : σ270 (4) = some (lc_aI 72 (lc_sp)) := (fr263 _ (by omega)).trans h244
  have h275 : σ270 (5) = some (.inr (9, [.ref (2), .ref (6), .int (lc_i (0)), .int (lc_i (0)), .int (lc_i (0)), .int (lc_i (0))]) : lc_Cel) := (fr263 _ (by omega)).trans h245
  have h276 : σ270 (6) = some (.inr (8, [.ref (2), .int (lc_i (0)), .int (lc_i (0)), .int (lc_i (0))]) : lc_Cel) := (fr263 _ (by omega)).trans h246
  have h277 : σ270 (7) = some (.inr (6, [.ref (2), .ref (8), .ref (5)]) : lc_Cel) := (fr263 _ (by omega)).trans h247
  have h278 : σ270 (8) = some (.inr (8, [.ref (2), .int (lc_i (0)), .int (lc_i (0)), .int (lc_i (0))]) : lc_Cel) := (fr263 _ (by omega)).trans h248
  have h279 : σ270 (9) = some (.inr (4, [.ref (10), .int (lc_i (0)), .int (lc_i (0))]) : lc_Cel) := (fr263 _ (by omega)).trans h249
  have h280 : σ270 (10) = some (lc_aI 364 (fun _ : Int => (0 : Int))) := (fr263 _ (by omega)).trans h250
  have h281 : σ270 (11) = some (.inr (3, [.ref (7), .ref (12), .ref (14), .ref (16), .int (lc_i (0))]) : lc_Cel) := (fr263 _ (by omega)).trans h251
  have h282 : σ270 (12) = some (.inr (0, [.ref (13), .int (lc_i (lc_cnt (lc_f0) 1 36)), .int (lc_i (lc_cnt (lc_f0) 2 36)), .int (lc_i (1)), .int (lc_i (0)), .int (lc_i (20))]) : lc_Cel) := (fr263 _ (by omega)).trans h252
  have h283 : σ270 (13) = some (lc_aI 36 (lc_f0)) := (fr263 _ (by omega)).trans h253
  have h284 : σ270 (14) = some (.inr (4, [.ref (15), .int (lc_i (0)), .int (lc_i (0))]) : lc_Cel) := (fr263 _ (by omega)).trans h254
  have h285 : σ270 (15) = some (lc_aI 364 (fun _ : Int => (0 : Int))) := (fr263 _ (by omega)).trans h255
  have h286 : σ270 (16) = some (.inr (4, [.ref (17), .int (lc_i (0)), .int (lc_i (0))]) : lc_Cel) := (fr263 _ (by omega)).trans h256
  have h287 : σ270 (17) = some (lc_aI 364 (fun _ : Int => (0 : Int))) := (fr263 _ (by omega)).trans h257
  have h288 : σ270 (18) = some (.inr (7, [.ref (19), .int (lc_i (0)), .int (lc_i (0)), .ref (21), .int (lc_i (lc_rc 0))]) : lc_Cel) := (fr263 _ (by omega)).trans h258
  have h289 : σ270 (19) = some (.inr (0, [.ref (20), .int (lc_i (lc_cnt (lc_f0) 1 36)), .int (lc_i (lc_cnt (lc_f0) 2 36)), .int (lc_i (1)), .int (lc_i (0)), .int (lc_i (20))]) : lc_Cel) := (fr263 _ (by omega)).trans h259
  have h290 : σ270 (20) = some (lc_aI 36 (lc_f0)) := (fr263 _ (by omega)).trans h260
  have h291 : σ270 (21) = some (lc_aJ 60 (fun i : Int => lc_j ((lc_rp (fun _ : Int => (0 : Int)) (0) (lc_key (lc_f0) (1) 36)) i))) := (fr263 _ (by omega)).trans h261
  have h292 : σ270 (1) = some (.inr (10, [.ref (2), .ref (5), .ref (7), .ref (9), .ref (11), .ref (18), .null, .null, .null, .null, .int (lc_i (0)), .int (lc_i (0)), .int (lc_i (0)), .int (lc_i (0))]) : lc_Cel) := (fr263 _ (by omega)).trans h262
  refine lc_wF (vs' := [.ref (2), .ref (5), .ref (7), .ref (9), .ref (11), .ref (18), .ref (22), .null, .null, .null, .int (lc_i (0)), .int (lc_i (0)), .int (lc_i (0)), .int (lc_i (0))]) dX10_init_94 lc_fX10_57 h292 (Nat.le_of_ble_eq_true rfl) rfl rfl lc_refObj rfl (fun σ293 h294 fr295 => ?_)
  have h296 : σ293 (2) = some (.inr (1, [.ref (3), .ref (4)]) : lc_Cel) := (fr295 _ (by omega)).trans h272
  have h297 : σ293 (3) = some (lc_aI 48 (lc_pt)) := (fr295 _ (by omega)).trans h273
  have h298 : σ293 (4) = some (lc_aI 72 (lc_sp)) := (fr295 _ (by omega)).trans h274
  have h299 : σ293 (5) = some (.inr (9, [.ref (2), .ref (6), .int (lc_i (0)), .int (lc_i (0)), .int (lc_i (0)), .int (lc_i (0))]) : lc_Cel) := (fr295 _ (by omega)).trans h275
  have h300 : σ293 (6) = some (.inr (8, [.ref (2), .int (lc_i (0)), .int (lc_i (0)), .int (lc_i (0))]) : lc_Cel) := (fr295 _ (by omega)).trans h276
  have h301 : σ293 (7) = some (.inr (6, [.ref (2), .ref (8), .ref (5)]) : lc_Cel) := (fr295 _ (by omega)).trans h277
  have h302 : σ293 (8) = some (.inr (8, [.ref (2), .int (lc_i (0)), .int (lc_i (0)), .int (lc_i (0))]) : lc_Cel) := (fr295 _ (by omega)).trans h278
  have h303 : σ293 (9) = some (.inr (4, [.ref (10), .int (lc_i (0)), .int (lc_i (0))]) : lc_Cel) := (fr295 _ (by omega)).trans h279
  have h304 : σ293 (10) = some (lc_aI 364 (fun _ : Int => (0 : Int))) := (fr295 _ (by omega)).trans h280
  have h305 : σ293 (11) = some (.inr (3, [.ref (7), .ref (12), .ref (14), .ref (16), .int (lc_i (0))]) : lc_Cel) := (fr295 _ (by omega)).trans h281
  have h306 : σ293 (12) = some (.inr (0, [.ref (13), .int (lc_i (lc_cnt (lc_f0) 1 36)), .int (lc_i (lc_cnt (lc_f0) 2 36)), .int (lc_i (1)), .int (lc_i (0)), .int (lc_i (20))]) : lc_Cel) := (fr295 _ (by omega)).trans h282
  have h307 : σ293 (13) = some (lc_aI 36 (lc_f0)) := (fr295 _ (by omega)).trans h283
  have h308 : σ293 (14) = some (.inr (4, [.ref (15), .int (lc_i (0)), .int (lc_i (0))]) : lc_Cel) := (fr295 _ (by omega)).trans h284
  have h309 : σ293 (15) = some (lc_aI 364 (fun _ : Int => (0 : Int))) := (fr295 _ (by omega)).trans h285
  have h310 : σ293 (16) = some (.inr (4, [.ref (17), .int (lc_i (0)), .int (lc_i (0))]) : lc_Cel) := (fr295 _ (by omega)).trans h286
  have h311 : σ293 (17) = some (lc_aI 364 (fun _ : Int => (0 : Int))) := (fr295 _ (by omega)).trans h287
  have h312 : σ293 (18) = some (.inr (7, [.ref (19), .int (lc_i (0)), .int (lc_i (0)), .ref (21), .int (lc_i (lc_rc 0))]) : lc_Cel) := (fr295 _ (by omega)).trans h288
  have h313 : σ293 (19) = some (.inr (0, [.ref (20), .int (lc_i (lc_cnt (lc_f0) 1 36)), .int (lc_i (lc_cnt (lc_f0) 2 36)), .int (lc_i (1)), .int (lc_i (0)), .int (lc_i (20))]) : lc_Cel) := (fr295 _ (by omega)).trans h289
  have h314 : σ293 (20) = some (lc_aI 36 (lc_f0)) := (fr295 _ (by omega)).trans h290
  have h315 : σ293 (21) = some (lc_aJ 60 (fun i : Int => lc_j ((lc_rp (fun _ : Int => (0 : Int)) (0) (lc_key (lc_f0) (1) 36)) i))) := (fr295 _ (by omega)).trans h291
  have h316 : σ293 (22) = some (.inr (7, [.ref (23), .int (lc_i (0)), .int (lc_i (0)), .ref (25), .int (lc_i (lc_rc 0))]) : lc_Cel) := (fr295 _ (by omega)).trans h264
  have h317 : σ293 (23) = some (.inr (0, [.ref (24), .int (lc_i (lc_cnt (lc_f0) 1 36)), .int (lc_i (lc_cnt (lc_f0) 2 36)), .int (lc_i (1)), .int (lc_i (0)), .int (lc_i (20))]) : lc_Cel) := (fr295 _ (by omega)).trans h265
  have h318 : σ293 (24) = some (lc_aI 36 (lc_f0)) := (fr295 _ (by omega)).trans h266
  have h319 : σ293 (25) = some (lc_aJ 60 (fun i : Int => lc_j ((lc_rp (fun _ : Int => (0 : Int)) (0) (lc_key (lc_f0) (1) 36)) i))) := (fr295 _ (by omega)).trans h267
  refine lc_aload_n dX10_init_97 rfl 0 rfl ?_
  refine lc_N7 dX10_init_98 lc_cX10_50 (by omega) (Nat.le_of_ble_eq_true rfl) (Nat.le_of_ble_eq_true rfl) (fun σ320 h321 fr322 => ?_)
  have h323 : σ320 (2) = some (.inr (1, [.ref (3), .ref (4)]) : lc_Cel) := (fr322 _ (by omega)).trans h296
  have h324 : σ320 (3) = some (lc_aI 48 (lc_pt)) := (fr322 _ (by omega)).trans h297
  have h325 : σ320 (4) = some (lc_aI 72 (lc_sp)) := (fr322 _ (by omega)).trans h298
  have h326 : σ320 (5) = some (.inr (9, [.ref (2), .ref (6), .int (lc_i (0)), .int (lc_i (0)), .int (lc_i (0)), .int (lc_i (0))]) : lc_Cel) := (fr322 _ (by omega)).trans h299
  have h327 : σ320 (6) = some (.inr (8, [.ref (2), .int (lc_i (0)), .int (lc_i (0)), .int (lc_i (0))]) : lc_Cel) := (fr322 _ (by omega)).trans h300
  have h328 : σ320 (7) = some (.inr (6, [.ref (2), .ref (8), .ref (5)]) : lc_Cel) := (fr322 _ (by omega)).trans h301
  have h329 : σ320 (8) = some (.inr (8, [.ref (2), .int (lc_i (0)), .int (lc_i (0)), .int (lc_i (0))]) : lc_Cel) := (fr322 _ (by omega)).trans h302
  have h330 : σ320 (9) = some (.inr (4, [.ref (10), .int (lc_i (0)), .int (lc_i (0))]) : lc_Cel) := (fr322 _ (by omega)).trans h303
  have h331 : σ320 (10) = some (lc_aI 364 (fun _ : Int => (0 : Int))) := (fr322 _ (by omega)).trans h304
  have h332 : σ320 (11) = some (.inr (3, [.ref (7), .ref (12), .ref (14), .ref (16), .int (lc_i (0))]) : lc_Cel) := (fr322 _ (by omega)).trans h305
  have h333 : σ320 (12) = some (.inr (0, [.ref (13), .int (lc_i (lc_cnt (lc_f0) 1 36)), .int (lc_i (lc_cnt (lc_f0) 2 36)), .int (lc_i (1)), .int (lc_i (0)), .int (lc_i (20))]) : lc_Cel) := (fr322 _ (by omega)).trans h306
  have h334 : σ320 (13) = some (lc_aI 36 (lc_f0)) := (fr322 _ (by omega)).trans h307
  have h335 : σ320 (14) = some (.inr (4, [.ref (15), .int (lc_i (0)), .int (lc_i (0))]) : lc_Cel) := (fr322 _ (by omega)).trans h308
  have h336 : σ320 (15) = some (lc_aI 364 (fun _ : Int => (0 : Int))) := (fr322 _ (by omega)).trans h309
  have h337 : σ320 (16) = some (.inr (4, [.ref (17), .int (lc_i (0)), .int (lc_i (0))]) : lc_Cel) := (fr322 _ (by omega)).trans h310
  have h338 : σ320 (17) = some (lc_aI 364 (fun _ : Int => (0 : Int))) := (fr322 _ (by omega)).trans h311
  have h339 : σ320 (18) = some (.inr (7, [.ref (19), .int (lc_i (0)), .int (lc_i (0)), .ref (21), .int (lc_i (lc_rc 0))]) : lc_Cel) := (fr322 _ (by omega)).trans h312
  have h340 : σ320 (19) = some (.inr (0, [.ref (20), .int (lc_i (lc_cnt (lc_f0) 1 36)), .int (lc_i (lc_cnt (lc_f0) 2 36)), .int (lc_i (1)), .int (lc_i (0)), .int (lc_i (20))]) : lc_Cel) := (fr322 _ (by omega)).trans h313
  have h341 : σ320 (20) = some (lc_aI 36 (lc_f0)) := (fr322 _ (by omega)).trans h314
  have h342 : σ320 (21) = some (lc_aJ 60 (fun i : Int => lc_j ((lc_rp (fun _ : Int => (0 : Int)) (0) (lc_key (lc_f0) (1) 36)) i))) := (fr322 _ (by omega)).trans h315
  have h343 : σ320 (22) = some (.inr (7, [.ref (23), .int (lc_i (0)), .int (lc_i (0)), .ref (25), .int (lc_i (lc_rc 0))]) : lc_Cel) := (fr322 _ (by omega)).trans h316
  have h344 : σ320 (23) = some (.inr (0, [.ref (24), .int (lc_i (lc_cnt (lc_f0) 1 36)), .int (lc_i (lc_cnt (lc_f0) 2 36)), .int (lc_i (1)), .int (lc_i (0)), .int (lc_i (20))]) : lc_Cel) := (fr322 _ (by omega)).trans h317
  have h345 : σ320 (24) = some (lc_aI 36 (lc_f0)) := (fr322 _ (by omega)).trans h318
  have h346 : σ320 (25) = some (lc_aJ 60 (fun i : Int => lc_j ((lc_rp (fun _ : Int => (0 : Int)) (0) (lc_key (lc_f0) (1) 36)) i))) := (fr322 _ (by omega)).trans h319
  have h347 : σ320 (1) = some (.inr (10, [.ref (2), .ref (5), .ref (7), .ref (9), .ref (11), .ref (18), .ref (22), .null, .null, .null, .int (lc_i (0)), .int (lc_i (0)), .int (lc_i (0)), .int (lc_i (0))]) : lc_Cel) := (fr322 _ (by omega)).trans h294
  refine lc_dup dX10_init_101 rfl ?_
  refine lc_callI (As := []) (stk := [.ref (26), .ref (1)]) (b := 26) dX10_init_102 lc_mX10_52 lc_yX7_init (by omega) (lc_cX7_init l (26) σ320 h321 (by omega)) rfl ⟨Nat.le_of_ble_eq_true rfl, Nat.le_of_ble_eq_true rfl⟩ ⟨Nat.le_of_ble_eq_true rfl, Nat.le_of_ble_eq_true rfl⟩ rfl (Nat.le_of_ble_eq_true rfl) (fun v353 n354 σ355 q356 => ?_)
  obtain ⟨rfl, rfl, h349, h350, h351, h352, fr348⟩ := q356
  have h357 : σ355 (2) = some (.inr (1, [.ref (3), .ref (4)]) : lc_Cel) := (fr348 _ (by omega)).trans h323
  have h358 : σ355 (3) = some (lc_aI 48 (lc_pt)) := (fr348 _ (by omega)).trans h324
  have h359 : σ355 (4) = some (lc_aI 72 (lc_sp)) := (fr348 _ (by omega)).trans h325
  have h360 : σ355 (5) = some (.inr (9, [.ref (2), .ref (6), .int (lc_i (0)), .int (lc_i (0)), .int (lc_i (0)), .int (lc_i (0))]) : lc_Cel) := (fr348 _ (by omega)).trans h326
  have h361 : σ355 (6) = some (.inr (8, [.ref (2), .int (lc_i (0)), .int (lc_i (0)), .int (lc_i (0))]) : lc_Cel) := (fr348 _ (by omega)).trans h327
  have h362 : σ355 (7) = some (.inr (6, [.ref (2), .ref (8), .ref (5)]) : lc_Cel) := (fr348 _ (by omega)).trans h328
  have h363 : σ355 (8) = some (.inr (8, [.ref (2), .int (lc_i (0)), .int (lc_i (0)), .int (lc_i (0))]) : lc_Cel) := (fr348 _ (by omega)).trans h329
  have h364 : σ355 (9) = some (.inr (4, [.ref (10), .int (lc_i (0)), .int (lc_i (0))]) : lc_Cel) := (fr348 _ (by omega)).trans h330
  have h365 : σ355 (10) = some (lc_aI 364 (fun _ : Int => (0 : Int))) := (fr348 _ (by omega)).trans h331
  have h366 : σ355 (11) = some (.inr (3, [.ref (7), .ref (12), .ref (14), .ref (16), .int (lc_i (0))]) : lc_Cel) := (fr348 _ (by omega)).trans h332
  have h367 : σ355 (12) = some (.inr (0, [.ref (13), .int (lc_i (lc_cnt (lc_f0) 1 36)), .int (lc_i (lc_cnt (lc_f0) 2 36)), .int (lc_i (1)), .int (lc_i (0)), .int (lc_i (20))]) : lc_Cel) := (fr348 _ (by omega)).trans h333
  have h368 : σ355 (13) = some (lc_aI 36 (lc_f0)) := (fr348 _ (by omega)).trans h334
  have h369 : σ355 (14) = some (.inr (4, [.ref (15), .int (lc_i (0)), .int (lc_i (0))]) : lc_Cel) := (fr348 _ (by omega)).trans h335
  have h370 : σ355 (15) = some (lc_aI 364 (fun _ : Int => (0 : Int))) := (fr348 _ (by omega)).trans h336
  have h371 : σ355 (16) = some (.inr (4, [.ref (17), .int (lc_i (0)), .int (lc_i (0))]) : lc_Cel) := (fr348 _ (by omega)).trans h337
  have h372 : σ355 (17) = some (lc_aI 364 (fun _ : Int => (0 : Int))) := (fr348 _ (by omega)).trans h338
  have h373 : σ355 (18) = some (.inr (7, [.ref (19), .int (lc_i (0)), .int (lc_i (0)), .ref (21), .int (lc_i (lc_rc 0))]) : lc_Cel) := (fr348 _ (by omega)).trans h339
  have h374 : σ355 (19) = some (.inr (0, [.ref (20), .int (lc_i (lc_cnt (lc_f0) 1 36)), .int (lc_i (lc_cnt (lc_f0) 2 36)), .int (lc_i (1)), .int (lc_i (0)), .int (lc_i (20))]) : lc_Cel) := (fr348 _ (by omega)).trans h340
  have h375 : σ355 (20) = some (lc_aI 36 (lc_f0)) := (fr348 _ (by omega)).trans h341
  have h376 : σ355 (21) = some (lc_aJ 60 (fun i : Int => lc_j ((lc_rp (fun _ : Int => (0 : Int)) (0) (lc_key (lc_f0) (1) 36)) i))) := (fr348 _ (by omega)).trans h342
  have h377 : σ355 (22) = some (.inr (7, [.ref (23), .int (lc_i (0)), .int (lc_i (0)), .ref (25), .int (lc_i (lc_rc 0))]) : lc_Cel) := (fr348 _ (by omega)).trans h343
  have h378 : σ355 (23) = some (.inr (0, [.ref (24), .int (lc_i (lc_cnt (lc_f0) 1 36)), .int (lc_i (lc_cnt (lc_f0) 2 36)), .int (lc_i (1)), .int (lc_i (0)), .int (lc_i (20))]) : lc_Cel) := (fr348 _ (by omega)).trans h344
  have h379 : σ355 (24) = some (lc_aI 36 (lc_f0)) := (fr348 _ (by omega)).trans h345
  have h380 : σ355 (25) = some (lc_aJ 60 (fun i : Int => lc_j ((lc_rp (fun _ : Int => (0 : Int)) (0) (lc_key (lc_f0) (1) 36)) i))) := (fr348 _ (by omega)).trans h346
  have h381 : σ355 (1) = some (.inr (10, [.ref (2), .ref (5), .ref (7), .ref (9), .ref (11), .ref (18), .ref (22), .null, .null, .null, .int (lc_i (0)), .int (lc_i (0)), .int (lc_i (0)), .int (lc_i (0))]) : lc_Cel) := (fr348 _ (by omega)).trans h347
  refine lc_wF (vs' := [.ref (2), .ref (5), .ref (7), .ref (9), .ref (11), .ref (18), .ref (22), .ref (26), .null, .null, .int (lc_i (0)), .int (lc_i (0)), .int (lc_i (0)), .int (lc_i (0))]) dX10_init_105 lc_fX10_60 h381 (Nat.le_of_ble_eq_true rfl) rfl rfl lc_refObj rfl (fun σ382 h383 fr384 => ?_)
  have h385 : σ382 (2) = some (.inr (1, [.ref (3), .ref (4)]) : lc_Cel) := (fr384 _ (by omega)).trans h357
  have h386 : σ382 (3) = some (lc_aI 48 (lc_pt)) := (fr384 _ (by omega)).trans h358
  have h387 : σ382 (4) = some (lc_aI 72 (lc_sp)) := (fr384 _ (by omega)).trans h359
  have h388 : σ382 (5) = some (.inr (9, [.ref (2), .ref (6), .int (lc_i (0)), .int (lc_i (0)), .int (lc_i (0)), .int (lc_i (0))]) : lc_Cel) := (fr384 _ (by omega)).trans h360
  have h389 : σ382 (6) = some (.inr (8, [.ref (2), .int (lc_i (0)), .int (lc_i (0)), .int (lc_i (0))]) : lc_Cel) := (fr384 _ (by omega)).trans h361
  have h390 : σ382 (7) = some (.inr (6, [.ref (2), .ref (8), .ref (5)]) : lc_Cel) := (fr384 _ (by omega)).trans h362
  have h391 : σ382 (8) = some (.inr (8, [.ref (2), .int (lc_i (0)), .int (lc_i (0)), .int (lc_i (0))]) : lc_Cel) := (fr384 _ (by omega)).trans h363
  have h392 : σ382 (9) = some (.inr (4, [.ref (10), .int (lc_i (0)), .int (lc_i (0))]) : lc_Cel) := (fr384 _ (by omega)).trans h364
  have h393 : σ382 (10) = some (lc_aI 364 (fun _ : Int => (0 : Int))) := (fr384 _ (by omega)).trans h365
  have h394 : σ382 (11) = some (.inr (3, [.ref (7), .ref (12), .ref (14), .ref (16), .int (lc_i (0))]) : lc_Cel) := (fr384 _ (by omega)).trans h366
  have h395 : σ382 (12) = some (.inr (0, [.ref (13), .int (lc_i (lc_cnt (lc_f0) 1 36)), .int (lc_i (lc_cnt (lc_f0) 2 36)), .int (lc_i (1)), .int (lc_i (0)), .int (lc_i (20))]) : lc_Cel) := (fr384 _ (by omega)).trans h367
  have h396 : σ382 (13) = some (lc_aI 36 (lc_f0)) := (fr384 _ (by omega)).trans h368
  have h397 : σ382 (14) = some (.inr (4, [.ref (15), .int (lc_i (0)), .int (lc_i (0))]) : lc_Cel) := (fr384 _ (by omega)).trans h369
  have h398 : σ382 (15) = some (lc_aI 364 (fun _ : Int => (0 : Int))) := (fr384 _ (by omega)).trans h370
  have h399 : σ382 (16) = some (.inr (4, [.ref (17), .int (lc_i (0)), .int (lc_i (0))]) : lc_Cel) := (fr384 _ (by omega)).trans h371
  have h400 : σ382 (17) = some (lc_aI 364 (fun _ : Int => (0 : Int))) := (fr384 _ (by omega)).trans h372
  have h401 : σ382 (18) = some (.inr (7, [.ref (19), .int (lc_i (0)), .int (lc_i (0)), .ref (21), .int (lc_i (lc_rc 0))]) : lc_Cel) := (fr384 _ (by omega)).trans h373
  have h402 : σ382 (19) = some (.inr (0, [.ref (20), .int (lc_i (lc_cnt (lc_f0) 1 36)), .int (lc_i (lc_cnt (lc_f0) 2 36)), .int (lc_i (1)), .int (lc_i (0)), .int (lc_i (20))]) : lc_Cel) := (fr384 _ (by omega)).trans h374
  have h403 : σ382 (20) = some (lc_aI 36 (lc_f0)) := (fr384 _ (by omega)).trans h375
  have h404 : σ382 (21) = some (lc_aJ 60 (fun i : Int => lc_j ((lc_rp (fun _ : Int => (0 : Int)) (0) (lc_key (lc_f0) (1) 36)) i))) := (fr384 _ (by omega)).trans h376
  have h405 : σ382 (22) = some (.inr (7, [.ref (23), .int (lc_i (0)), .int (lc_i (0)), .ref (25), .int (lc_i (lc_rc 0))]) : lc_Cel) := (fr384 _ (by omega)).trans h377
  have h406 : σ382 (23) = some (.inr (0, [.ref (24), .int (lc_i (lc_cnt (lc_f0) 1 36)), .int (lc_i (lc_cnt (lc_f0) 2 36)), .int (lc_i (1)), .int (lc_i (0)), .int (lc_i (20))]) : lc_Cel) := (fr384 _ (by omega)).trans h378
  have h407 : σ382 (24) = some (lc_aI 36 (lc_f0)) := (fr384 _ (by omega)).trans h379
  have h408 : σ382 (25) = some (lc_aJ 60 (fun i : Int => lc_j ((lc_rp (fun _ : Int => (0 : Int)) (0) (lc_key (lc_f0) (1) 36)) i))) := (fr384 _ (by omega)).trans h380
  have h409 : σ382 (26) = some (.inr (7, [.ref (27), .int (lc_i (0)), .int (lc_i (0)), .ref (29), .int (lc_i (lc_rc 0))]) : lc_Cel) := (fr384 _ (by omega)).trans h349
  have h410 : σ382 (27) = some (.inr (0, [.ref (28), .int (lc_i (lc_cnt (lc_f0) 1 36)), .int (lc_i (lc_cnt (lc_f0) 2 36)), .int (lc_i (1)), .int (lc_i (0)), .int (lc_i (20))]) : lc_Cel) := (fr384 _ (by omega)).trans h350
  have h411 : σ382 (28) = some (lc_aI 36 (lc_f0)) := (fr384 _ (by omega)).trans h351
  have h412 : σ382 (29) = some (lc_aJ 60 (fun i : Int => lc_j ((lc_rp (fun _ : Int => (0 : Int)) (0) (lc_key (lc_f0) (1) 36)) i))) := (fr384 _ (by omega)).trans h352
  refine lc_aload_n dX10_init_108 rfl 0 rfl ?_
  refine lc_N2 dX10_init_109 lc_cX10_63 (by omega) (Nat.le_of_ble_eq_true rfl) (Nat.le_of_ble_eq_true rfl) (fun σ413 h414 fr415 => ?_)
  have h416 : σ413 (2) = some (.inr (1, [.ref (3), .ref (4)]) : lc_Cel) := (fr415 _ (by omega)).trans h385
  have h417 : σ413 (3) = some (lc_aI 48 (lc_pt)) := (fr415 _ (by omega)).trans h386
  have h418 : σ413 (4) = some (lc_aI 72 (lc_sp)) := (fr415 _ (by omega)).trans h387
  have h419 : σ413 (5) = some (.inr (9, [.ref (2), .ref (6), .int (lc_i (0)), .int (lc_i (0)), .int (lc_i (0)), .int (lc_i (0))]) : lc_Cel) := (fr415 _ (by omega)).trans h388
  have h420 : σ413 (6) = some (.inr (8, [.ref (2), .int (lc_i (0)), .int (lc_i (0)), .int (lc_i (0))]) : lc_Cel) := (fr415 _ (by omega)).trans h389
  have h421 : σ413 (7) = some (.inr (6, [.ref (2), .ref (8), .ref (5)]) : lc_Cel) := (fr415 _ (by omega)).trans h390
  have h422 : σ413 (8) = some (.inr (8, [.ref (2), .int (lc_i (0)), .int (lc_i (0)), .int (lc_i (0))]) : lc_Cel) := (fr415 _ (by omega)).trans h391
  have h423 : σ413 (9) = some (.inr (4, [.ref (10), .int (lc_i (0)), .int (lc_i (0))]) : lc_Cel) := (fr415 _ (by omega)).trans h392
  have h424 : σ413 (10) = some (lc_aI 364 (fun _ : Int => (0 : Int))) := (fr415 _ (by omega)).trans h393
  have h425 : σ413 (11) = some (.inr (3, [.ref (7), .ref (12), .ref (14), .ref (16), .int (lc_i (0))]) : lc_Cel) := (fr415 _ (by omega)).trans h394
  have h426 : σ413 (12) = some (.inr (0, [.ref (13), .int (lc_i (lc_cnt (lc_f0) 1 36)), .int (lc_i (lc_cnt (lc_f0) 2 36)), .int (lc_i (1)), .int (lc_i (0)), .int (lc_i (20))]) : lc_Cel) := (fr415 _ (by omega)).trans h395
  have h427 : σ413 (13) = some (lc_aI 36 (lc_f0)) := (fr415 _ (by omega)).trans h396
  have h428 : σ413 (14) = some (.inr (4, [.ref (15), .int (lc_i (0)), .int (lc_i (0))]) : lc_Cel) := (fr415 _ (by omega)).trans h397
  have h429 : σ413 (15) = some (lc_aI 364 (fun _ : Int => (0 : Int))) := (fr415 _ (by omega)).trans h398
  have h430 : σ413 (16) = some (.inr (4, [.ref (17), .int (lc_i (0)), .int (lc_i (0))]) : lc_Cel) := (fr415 _ (by omega)).trans h399
  have h431 : σ413 (17) = some (lc_aI 364 (fun _ : Int => (0 : Int))) := (fr415 _ (by omega)).trans h400
  have h432 : σ413 (18) = some (.inr (7, [.ref (19), .int (lc_i (0)), .int (lc_i (0)), .ref (21), .int (lc_i (lc_rc 0))]) : lc_Cel) := (fr415 _ (by omega)).trans h401
  have h433 : σ413 (19) = some (.inr (0, [.ref (20), .int (lc_i (lc_cnt (lc_f0) 1 36)), .int (lc_i (lc_cnt (lc_f0) 2 36)), .int (lc_i (1)), .int (lc_i (0)), .int (lc_i (20))]) : lc_Cel) := (fr415 _ (by omega)).trans h402
  have h434 : σ413 (20) = some (lc_aI 36 (lc_f0)) := (fr415 _ (by omega)).trans h403
  have h435 : σ413 (21) = some (lc_aJ 60 (fun i : Int => lc_j ((lc_rp (fun _ : Int => (0 : Int)) (0) (lc_key (lc_f0) (1) 36)) i))) := (fr415 _ (by omega)).trans h404
  have h436 : σ413 (22) = some (.inr (7, [.ref (23), .int (lc_i (0)), .int (lc_i (0)), .ref (25), .int (lc_i (lc_rc 0))]) : lc_Cel) := (fr415 _ (by omega)).trans h405
  have h437 : σ413 (23) = some (.inr (0, [.ref (24), .int (lc_i (lc_cnt (lc_f0) 1 36)), .int (lc_i (lc_cnt (lc_f0) 2 36)), .int (lc_i (1)), .int (lc_i (0)), .int (lc_i (20))]) : lc_Cel) := (fr415 _ (by omega)).trans h406
  have h438 : σ413 (24) = some (lc_aI 36 (lc_f0)) := (fr415 _ (by omega)).trans h407
  have h439 : σ413 (25) = some (lc_aJ 60 (fun i : Int => lc_j ((lc_rp (fun _ : Int => (0 : Int)) (0) (lc_key (lc_f0) (1) 36)) i))) := (fr415 _ (by omega)).trans h408
  have h440 : σ413 (26) = some (.inr (7, [.ref (27), .int (lc_i (0)), .int (lc_i (0)), .ref (29), .int (lc_i (lc_rc 0))]) : lc_Cel) := (fr415 _ (by omega)).trans h409
  have h441 : σ413 (27) = some (.inr (0, [.ref (28), .int (lc_i (lc_cnt (lc_f0) 1 36)), .int (lc_i (lc_cnt (lc_f0) 2 36)), .int (lc_i (1)), .int (lc_i (0)), .int (lc_i (20))]) : lc_Cel) := (fr415 _ (by omega)).trans h410
  have h442 : σ413 (28) = some (lc_aI 36 (lc_f0)) := (fr415 _ (by omega)).trans h411
  have h443 : σ413 (29) = some (lc_aJ 60 (fun i : Int => lc_j ((lc_rp (fun _ : Int => (0 : Int)) (0) (lc_key (lc_f0) (1) 36)) i))) := (fr415 _ (by omega)).trans h412
  have h444 : σ413 (1) = some (.inr (10, [.ref (2), .ref (5), .ref (7), .ref (9), .ref (11), .ref (18), .ref (22), .ref (26), .null, .null, .int (lc_i (0)), .int (lc_i (0)), .int (lc_i (0)), .int (lc_i (0))]) : lc_Cel) := (fr415 _ (by omega)).trans h383
  refine lc_dup dX10_init_112 rfl ?_
  refine lc_callI (As := []) (stk := [.ref (30), .ref (1)]) (b := 30) dX10_init_113 lc_mX10_65 lc_yX2_init (by omega) (lc_cX2_init l σ413 h414 ) rfl ⟨Nat.le_of_ble_eq_true rfl, Nat.le_of_ble_eq_true rfl⟩ ⟨Nat.le_of_ble_eq_true rfl, Nat.le_of_ble_eq_true rfl⟩ rfl (Nat.le_of_ble_eq_true rfl) (fun v464 n465 σ466 q467 => ?_)
  obtain ⟨rfl, rfl, h446, h447, h448, h449, h450, h451, h452, h453, h454, h455, h456, h457, h458, h459, h460, h461, h462, h463, fr445⟩ := q467
  have h468 : σ466 (2) = some (.inr (1, [.ref (3), .ref (4)]) : lc_Cel) := (fr445 _ (by omega)).trans h416
  have h469 : σ466 (3) = some (lc_aI 48 (lc_pt)) := (fr445 _ (by omega)).trans h417
  have h470 : σ466 (4) = some (lc_aI 72 (lc_sp)) := (fr445 _ (by omega)).trans h418
  have h471 : σ466 (5) = some (.inr (9, [.ref (2), .ref (6), .int (lc_i (0)), .int (lc_i (0)), .int (lc_i (0)), .int (lc_i (0))]) : lc_Cel) := (fr445 _ (by omega)).trans h419
  have h472 : σ466 (6) = some (.inr (8, [.ref (2), .int (lc_i (0)), .int (lc_i (0)), .int (lc_i (0))]) : lc_Cel) := (fr445 _ (by omega)).trans h420
  have h473 : σ466 (7) = some (.inr (6, [.ref (2), .ref (8), .ref (5)]) : lc_Cel) := (fr445 _ (by omega)).trans h421
  have h474 : σ466 (8) = some (.inr (8, [.ref (2), .int (lc_i (0)), .int (lc_i (0)), .int (lc_i (0))]) : lc_Cel) := (fr445 _ (by omega)).trans h422
  have h475 : σ466 (9) = some (.inr (4, [.ref (10), .int (lc_i (0)), .int (lc_i (0))]) : lc_Cel) := (fr445 _ (by omega)).trans h423
  have h476 : σ466 (10) = some (lc_aI 364 (fun _ : Int => (0 : Int))) := (fr445 _ (by omega)).trans h424
  have h477 : σ466 (11) = some (.inr (3, [.ref (7), .ref (12), .ref (14), .ref (16), .int (lc_i (0))]) : lc_Cel) := (fr445 _ (by omega)).trans h425
  have h478 : σ466 (12) = some (.inr (0, [.ref (13), .int (lc_i (lc_cnt (lc_f0) 1 36)), .int (lc_i (lc_cnt (lc_f0) 2 36)), .int (lc_i (1)), .int (lc_i (0)), .int (lc_i (20))]) : lc_Cel) := (fr445 _ (by omega)).trans h426
  have h479 : σ466 (13) = some (lc_aI 36 (lc_f0)) := (fr445 _ (by omega)).trans h427
  have h480 : σ466 (14) = some (.inr (4, [.ref (15), .int (lc_i (0)), .int (lc_i (0))]) : lc_Cel) := (fr445 _ (by omega)).trans h428
  have h481 : σ466 (15) = some (lc_aI 364 (fun _ : Int => (0 : Int))) := (fr445 _ (by omega)).trans h429
  have h482 : σ466 (16) = some (.inr (4, [.ref (17), .int (lc_i (0)), .int (lc_i (0))]) : lc_Cel) := (fr445 _ (by omega)).trans h430
  have h483 : σ466 (17) = some (lc_aI 364 (fun _ : Int => (0 : Int))) := (fr445 _ (by omega)).trans h431
  have h484 : σ466 (18) = some (.inr (7, [.ref (19), .int (lc_i (0)), .int (lc_i (0)), .ref (21), .int (lc_i (lc_rc 0))]) : lc_Cel) := (fr445 _ (by omega)).trans h432
  have h485 : σ466 (19) = some (.inr (0, [.ref (20), .int (lc_i (lc_cnt (lc_f0) 1 36)), .int (lc_i (lc_cnt (lc_f0) 2 36)), .int (lc_i (1)), .int (lc_i (0)), .int (lc_i (20))]) : lc_Cel) := (fr445 _ (by omega)).trans h433
  have h486 : σ466 (20) = some (lc_aI 36 (lc_f0)) := (fr445 _ (by omega)).trans h434
  have h487 : σ466 (21) = some (lc_aJ 60 (fun i : Int => lc_j ((lc_rp (fun _ : Int => (0 : Int)) (0) (lc_key (lc_f0) (1) 36)) i))) := (fr445 _ (by omega)).trans h435
  have h488 : σ466 (22) = some (.inr (7, [.ref (23), .int (lc_i (0)), .int (lc_i (0)), .ref (25), .int (lc_i (lc_rc 0))]) : lc_Cel) := (fr445 _ (by omega)).trans h436
  have h489 : σ466 (23) = some (.inr (0, [.ref (24), .int (lc_i (lc_cnt (lc_f0) 1 36)), .int (lc_i (lc_cnt (lc_f0) 2 36)), .int (lc_i (1)), .int (lc_i (0)), .int (lc_i (20))]) : lc_Cel) := (fr445 _ (by omega)).trans h437
  have h490 : σ466 (24) = some (lc_aI 36 (lc_f0)) := (fr445 _ (by omega)).trans h438
  have h491 : σ466 (25) = some (lc_aJ 60 (fun i : Int => lc_j ((lc_rp (fun _ : Int => (0 : Int)) (0) (lc_key (lc_f0) (1) 36)) i))) := (fr445 _ (by omega)).trans h439
  have h492 : σ466 (26) = some (.inr (7, [.ref (27), .int (lc_i (0)), .int (lc_i (0)), .ref (29), .int (lc_i (lc_rc 0))]) : lc_Cel) := (fr445 _ (by omega)).trans h440
  have h493 : σ466 (27) = some (.inr (0, [.ref (28), .int (lc_i (lc_cnt (lc_f0) 1 36)), .int (lc_i (lc_cnt (lc_f0) 2 36)), .int (lc_i (1)), .int (lc_i (0)), .int (lc_i (20))]) : lc_Cel) := (fr445 _ (by omega)).trans h441
  have h494 : σ466 (28) = some (lc_aI 36 (lc_f0)) := (fr445 _ (by omega)).trans h442
  have h495 : σ466 (29) = some (lc_aJ 60 (fun i : Int => lc_j ((lc_rp (fun _ : Int => (0 : Int)) (0) (lc_key (lc_f0) (1) 36)) i))) := (fr445 _ (by omega)).trans h443
  have h496 : σ466 (1) = some (.inr (10, [.ref (2), .ref (5), .ref (7), .ref (9), .ref (11), .ref (18), .ref (22), .ref (26), .null, .null, .int (lc_i (0)), .int (lc_i (0)), .int (lc_i (0)), .int (lc_i (0))]) : lc_Cel) := (fr445 _ (by omega)).trans h444
  refine lc_wF (vs' := [.ref (2), .ref (5), .ref (7), .ref (9), .ref (11), .ref (18), .ref (22), .ref (26), .ref (30), .null, .int (lc_i (0)), .int (lc_i (0)), .int (lc_i (0)), .int (lc_i (0))]) dX10_init_116 lc_fX10_66 h496 (Nat.le_of_ble_eq_true rfl) rfl rfl lc_refObj rfl (fun σ497 h498 fr499 => ?_)
  have h500 : σ497 (2) = some (.inr (1, [.ref (3), .ref (4)]) : lc_Cel) := (fr499 _ (by omega)).trans h468
  have h501 : σ497 (3) = some (lc_aI 48 (lc_pt)) := (fr499 _ (by omega)).trans h469
  have h502 : σ497 (4) = some (lc_aI 72 (lc_sp)) := (fr499 _ (by omega)).trans h470
  have h503 : σ497 (5) = some (.inr (9, [.ref (2), .ref (6), .int (lc_i (0)), .int (lc_i (0)), .int (lc_i (0)), .int (lc_i (0))]) : lc_Cel) := (fr499 _ (by omega)).trans h471
  have h504 : σ497 (6) = some (.inr (8, [.ref (2), .int (lc_i (0)), .int (lc_i (0)), .int (lc_i (0))]) : lc_Cel) := (fr499 _ (by omega)).trans h472
  have h505 : σ497 (7) = some (.inr (6, [.ref (2), .ref (8), .ref (5)]) : lc_Cel) := (fr499 _ (by omega)).trans h473
  have h506 : σ497 (8) = some (.inr (8, [.ref (2), .int (lc_i (0)), .int (lc_i (0)), .int (lc_i (0))]) : lc_Cel) := (fr499 _ (by omega)).trans h474
  have h507 : σ497 (9) = some (.inr (4, [.ref (10), .int (lc_i (0)), .int (lc_i (0))]) : lc_Cel) := (fr499 _ (by omega)).trans h475
  have h508 : σ497 (10) = some (lc_aI 364 (fun _ : Int => (0 : Int))) := (fr499 _ (by omega)).trans h476
  have h509 : σ497 (11) = some (.inr (3, [.ref (7), .ref (12), .ref (14), .ref (16), .int (lc_i (0))]) : lc_Cel) := (fr499 _ (by omega)).trans h477
  have h510 : σ497 (12) = some (.inr (0, [.ref (13), .int (lc_i (lc_cnt (lc_f0) 1 36)), .int (lc_i (lc_cnt (lc_f0) 2 36)), .int (lc_i (1)), .int (lc_i (0)), .int (lc_i (20))]) : lc_Cel) := (fr499 _ (by omega)).trans h478
  have h511 : σ497 (13) = some (lc_aI 36 (lc_f0)) := (fr499 _ (by omega)).trans h479
  have h512 : σ497 (14) = some (.inr (4, [.ref (15), .int (lc_i (0)), .int (lc_i (0))]) : lc_Cel) := (fr499 _ (by omega)).trans h480
  have h513 : σ497 (15) = some (lc_aI 364 (fun _ : Int => (0 : Int))) := (fr499 _ (by omega)).trans h481
  have h514 : σ497 (16) = some (.inr (4, [.ref (17), .int (lc_i (0)), .int (lc_i (0))]) : lc_Cel) := (fr499 _ (by omega)).trans h482
  have h515 : σ497 (17) = some (lc_aI 364 (fun _ : Int => (0 : Int))) := (fr499 _ (by omega)).trans h483
  have h516 : σ497 (18) = some (.inr (7, [.ref (19), .int (lc_i (0)), .int (lc_i (0)), .ref (21), .int (lc_i (lc_rc 0))]) : lc_Cel) := (fr499 _ (by omega)).trans h484
  have h517 : σ497 (19) = some (.inr (0, [.ref (20), .int (lc_i (lc_cnt (lc_f0) 1 36)), .int (lc_i (lc_cnt (lc_f0) 2 36)), .int (lc_i (1)), .int (lc_i (0)), .int (lc_i (20))]) : lc_Cel) := (fr499 _ (by omega)).trans h485
  have h518 : σ497 (20) = some (lc_aI 36 (lc_f0)) := (fr499 _ (by omega)).trans h486
  have h519 : σ497 (21) = some (lc_aJ 60 (fun i : Int => lc_j ((lc_rp (fun _ : Int => (0 : Int)) (0) (lc_key (lc_f0) (1) 36)) i))) := (fr499 _ (by omega)).trans h487
  have h520 : σ497 (22) = some (.inr (7, [.ref (23), .int (lc_i (0)), .int (lc_i (0)), .ref (25), .int (lc_i (lc_rc 0))]) : lc_Cel) := (fr499 _ (by omega)).trans h488
  have h521 : σ497 (23) = some (.inr (0, [.ref (24), .int (lc_i (lc_cnt (lc_f0) 1 36)), .int (lc_i (lc_cnt (lc_f0) 2 36)), .int (lc_i (1)), .int (lc_i (0)), .int (lc_i (20))]) : lc_Cel) := (fr499 _ (by omega)).trans h489
  have h522 : σ497 (24) = some (lc_aI 36 (lc_f0)) := (fr499 _ (by omega)).trans h490
  have h523 : σ497 (25) = some (lc_aJ 60 (fun i : Int => lc_j ((lc_rp (fun _ : Int => (0 : Int)) (0) (lc_key (lc_f0) (1) 36)) i))) := (fr499 _ (by omega)).trans h491
  have h524 : σ497 (26) = some (.inr (7, [.ref (27), .int (lc_i (0)), .int (lc_i (0)), .ref (29), .int (lc_i (lc_rc 0))]) : lc_Cel) := (fr499 _ (by omega)).trans h492
  have h525 : σ497 (27) = some (.inr (0, [.ref (28), .int (lc_i (lc_cnt (lc_f0) 1 36)), .int (lc_i (lc_cnt (lc_f0) 2 36)), .int (lc_i (1)), .int (lc_i (0)), .int (lc_i (20))]) : lc_Cel) := (fr499 _ (by omega)).trans h493
  have h526 : σ497 (28) = some (lc_aI 36 (lc_f0)) := (fr499 _ (by omega)).trans h494
  have h527 : σ497 (29) = some (lc_aJ 60 (fun i : Int => lc_j ((lc_rp (fun _ : Int => (0 : Int)) (0) (lc_key (lc_f0) (1) 36)) i))) := (fr499 _ (by omega)).trans h495
  have h528 : σ497 (30) = some (.inr (2, [.ref (31), .int (lc_i (0))]) : lc_Cel) := (fr499 _ (by omega)).trans h446
  have h529 : σ497 (31) = some (lc_aS 4 (lc_h4 (0))) := (fr499 _ (by omega)).trans h447
  have h530 : σ497 (32) = some (.inr (7, [.ref (33), .int (lc_i (0)), .int (lc_i (0)), .ref (35), .int (lc_i (lc_rc 0))]) : lc_Cel) := (fr499 _ (by omega)).trans h448
  have h531 : σ497 (33) = some (.inr (0, [.ref (34), .int (lc_i (lc_cnt (lc_f0) 1 36)), .int (lc_i (lc_cnt (lc_f0) 2 36)), .int (lc_i (1)), .int (lc_i (0)), .int (lc_i (20))]) : lc_Cel) := (fr499 _ (by omega)).trans h449
  have h532 : σ497 (34) = some (lc_aI 36 (lc_f0)) := (fr499 _ (by omega)).trans h450
  have h533 : σ497 (35) = some (lc_aJ 60 (fun i : Int => lc_j ((lc_rp (fun _ : Int => (0 : Int)) (0) (lc_key (lc_f0) (1) 36)) i))) := (fr499 _ (by omega)).trans h451
  have h534 : σ497 (36) = some (.inr (7, [.ref (37), .int (lc_i (0)), .int (lc_i (0)), .ref (39), .int (lc_i (lc_rc 0))]) : lc_Cel) := (fr499 _ (by omega)).trans h452
  have h535 : σ497 (37) = some (.inr (0, [.ref (38), .int (lc_i (lc_cnt (lc_f0) 1 36)), .int (lc_i (lc_cnt (lc_f0) 2 36)), .int (lc_i (1)), .int (lc_i (0)), .int (lc_i (20))]) : lc_Cel) := (fr499 _ (by omega)).trans h453
  have h536 : σ497 (38) = some (lc_aI 36 (lc_f0)) := (fr499 _ (by omega)).trans h454
  have h537 : σ497 (39) = some (lc_aJ 60 (fun i : Int => lc_j ((lc_rp (fun _ : Int => (0 : Int)) (0) (lc_key (lc_f0) (1) 36)) i))) := (fr499 _ (by omega)).trans h455
  have h538 : σ497 (40) = some (.inr (7, [.ref (41), .int (lc_i (0)), .int (lc_i (0)), .ref (43), .int (lc_i (lc_rc 0))]) : lc_Cel) := (fr499 _ (by omega)).trans h456
  have h539 : σ497 (41) = some (.inr (0, [.ref (42), .int (lc_i (lc_cnt (lc_f0) 1 36)), .int (lc_i (lc_cnt (lc_f0) 2 36)), .int (lc_i (1)), .int (lc_i (0)), .int (lc_i (20))]) : lc_Cel) := (fr499 _ (by omega)).trans h457
  have h540 : σ497 (42) = some (lc_aI 36 (lc_f0)) := (fr499 _ (by omega)).trans h458
  have h541 : σ497 (43) = some (lc_aJ 60 (fun i : Int => lc_j ((lc_rp (fun _ : Int => (0 : Int)) (0) (lc_key (lc_f0) (1) 36)) i))) := (fr499 _ (by omega)).trans h459
  have h542 : σ497 (44) = some (.inr (7, [.ref (45), .int (lc_i (0)), .int (lc_i (0)), .ref (47), .int (lc_i (lc_rc 0))]) : lc_Cel) := (fr499 _ (by omega)).trans h460
  have h543 : σ497 (45) = some (.inr (0, [.ref (46), .int (lc_i (lc_cnt (lc_f0) 1 36)), .int (lc_i (lc_cnt (lc_f0) 2 36)), .int (lc_i (1)), .int (lc_i (0)), .int (lc_i (20))]) : lc_Cel) := (fr499 _ (by omega)).trans h461
  have h544 : σ497 (46) = some (lc_aI 36 (lc_f0)) := (fr499 _ (by omega)).trans h462
  have h545 : σ497 (47) = some (lc_aJ 60 (fun i : Int => lc_j ((lc_rp (fun _ : Int => (0 : Int)) (0) (lc_key (lc_f0) (1) 36)) i))) := (fr499 _ (by omega)).trans h463
  refine lc_aload_n dX10_init_119 rfl 0 rfl ?_
  refine lc_N5 dX10_init_120 lc_cX10_70 (by omega) (Nat.le_of_ble_eq_true rfl) (Nat.le_of_ble_eq_true rfl) (fun σ546 h547 fr548 => ?_)
  have h549 : σ546 (2) = some (.inr (1, [.ref (3), .ref (4)]) : lc_Cel) := (fr548 _ (by omega)).trans h500
  have h550 : σ546 (3) = some (lc_aI 48 (lc_pt)) := (fr548 _ (by omega)).trans h501
  have h551 : σ546 (4) = some (lc_aI 72 (lc_sp)) := (fr548 _ (by omega)).trans h502
  have h552 : σ546 (5) = some (.inr (9, [.ref (2), .ref (6), .int (lc_i (0)), .int (lc_i (0)), .int (lc_i (0)), .int (lc_i (0))]) : lc_Cel) := (fr548 _ (by omega)).trans h503
  have h553 : σ546 (6) = some (.inr (8, [.ref (2), .int (lc_i (0)), .int (lc_i (0)), .int (lc_i (0))]) : lc_Cel) := (fr548 _ (by omega)).trans h504
  have h554 : σ546 (7) = some (.inr (6, [.ref (2), .ref (8), .ref (5)]) : lc_Cel) := (fr548 _ (by omega)).trans h505
  have h555 : σ546 (8) = some (.inr (8, [.ref (2), .int (lc_i (0)), .int (lc_i (0)), .int (lc_i (0))]) : lc_Cel) := (fr548 _ (by omega)).trans h506
  have h556 : σ546 (9) = some (.inr (4, [.ref (10), .int (lc_i (0)), .int (lc_i (0))]) : lc_Cel) := (fr548 _ (by omega)).trans h507
  have h557 : σ546 (10) = some (lc_aI 364 (fun _ : Int => (0 : Int))) := (fr548 _ (by omega)).trans h508
  have h558 : σ546 (11) = some (.inr (3, [.ref (7), .ref (12), .ref (14), .ref (16), .int (lc_i (0))]) : lc_Cel) := (fr548 _ (by omega)).trans h509
  have h559 : σ546 (12) = some (.inr (0, [.ref (13), .int (lc_i (lc_cnt (lc_f0) 1 36)), .int (lc_i (lc_cnt (lc_f0) 2 36)), .int (lc_i (1)), .int (lc_i (0)), .int (lc_i (20))]) : lc_Cel) := (fr548 _ (by omega)).trans h510
  have h560 : σ546 (13) = some (lc_aI 36 (lc_f0)) := (fr548 _ (by omega)).trans h511
  have h561 : σ546 (14) = some (.inr (4, [.ref (15), .int (lc_i (0)), .int (lc_i (0))]) : lc_Cel) := (fr548 _ (by omega)).trans h512
  have h562 : σ546 (15) = some (lc_aI 364 (fun _ : Int => (0 : Int))) := (fr548 _ (by omega)).trans h513
  have h563 : σ546 (16) = some (.inr (4, [.ref (17), .int (lc_i (0)), .int (lc_i (0))]) : lc_Cel) := (fr548 _ (by omega)).trans h514
  have h564 : σ546 (17) = some (lc_aI 364 (fun _ : Int => (0 : Int))) := (fr548 _ (by omega)).trans h515
  have h565 : σ546 (18) = some (.inr (7, [.ref (19), .int (lc_i (0)), .int (lc_i (0)), .ref (21), .int (lc_i (lc_rc 0))]) : lc_Cel) := (fr548 _ (by omega)).trans h516
  have h566 : σ546 (19) = some (.inr (0, [.ref (20), .int (lc_i (lc_cnt (lc_f0) 1 36)), .int (lc_i (lc_cnt (lc_f0) 2 36)), .int (lc_i (1)), .int (lc_i (0)), .int (lc_i (20))]) : lc_Cel) := (fr548 _ (by omega)).trans h517
  have h567 : σ546 (20) = some (lc_aI 36 (lc_f0)) := (fr548 _ (by omega)).trans h518
  have h568 : σ546 (21) = some (lc_aJ 60 (fun i : Int => lc_j ((lc_rp (fun _ : Int => (0 : Int)) (0) (lc_key (lc_f0) (1) 36)) i))) := (fr548 _ (by omega)).trans h519
  have h569 : σ546 (22) = some (.inr (7, [.ref (23), .int (lc_i (0)), .int (lc_i (0)), .ref (25), .int (lc_i (lc_rc 0))]) : lc_Cel) := (fr548 _ (by omega)).trans h520
  have h570 : σ546 (23) = some (.inr (0, [.ref (24), .int (lc_i (lc_cnt (lc_f0) 1 36)), .int (lc_i (lc_cnt (lc_f0) 2 36)), .int (lc_i (1)), .int (lc_i (0)), .int (lc_i (20))]) : lc_Cel) := (fr548 _ (by omega)).trans h521
  have h571 : σ546 (24) = some (lc_aI 36 (lc_f0)) := (fr548 _ (by omega)).trans h522
  have h572 : σ546 (25) = some (lc_aJ 60 (fun i : Int => lc_j ((lc_rp (fun _ : Int => (0 : Int)) (0) (lc_key (lc_f0) (1) 36)) i))) := (fr548 _ (by omega)).trans h523
  have h573 : σ546 (26) = some (.inr (7, [.ref (27), .int (lc_i (0)), .int (lc_i (0)), .ref (29), .int (lc_i (lc_rc 0))]) : lc_Cel) := (fr548 _ (by omega)).trans h524
  have h574 : σ546 (27) = some (.inr (0, [.ref (28), .int (lc_i (lc_cnt (lc_f0) 1 36)), .int (lc_i (lc_cnt (lc_f0) 2 36)), .int (lc_i (1)), .int (lc_i (0)), .int (lc_i (20))]) : lc_Cel) := (fr548 _ (by omega)).trans h525
  have h575 : σ546 (28) = some (lc_aI 36 (lc_f0)) := (fr548 _ (by omega)).trans h526
  have h576 : σ546 (29) = some (lc_aJ 60 (fun i : Int => lc_j ((lc_rp (fun _ : Int => (0 : Int)) (0) (lc_key (lc_f0) (1) 36)) i))) := (fr548 _ (by omega)).trans h527
  have h577 : σ546 (30) = some (.inr (2, [.ref (31), .int (lc_i (0))]) : lc_Cel) := (fr548 _ (by omega)).trans h528
  have h578 : σ546 (31) = some (lc_aS 4 (lc_h4 (0))) := (fr548 _ (by omega)).trans h529
  have h579 : σ546 (32) = some (.inr (7, [.ref (33), .int (lc_i (0)), .int (lc_i (0)), .ref (35), .int (lc_i (lc_rc 0))]) : lc_Cel) := (fr548 _ (by omega)).trans h530
  have h580 : σ546 (33) = some (.inr (0, [.ref (34), .int (lc_i (lc_cnt (lc_f0) 1 36)), .int (lc_i (lc_cnt (lc_f0) 2 36)), .int (lc_i (1)), .int (lc_i (0)), .int (lc_i (20))]) : lc_Cel) := (fr548 _ (by omega)).trans h531
  have h581 : σ546 (34) = some (lc_aI 36 (lc_f0)) := (fr548 _ (by omega)).trans h532
  have h582 : σ546 (35) = some (lc_aJ 60 (fun i : Int => lc_j ((lc_rp (fun _ : Int => (0 : Int)) (0) (lc_key (lc_f0) (1) 36)) i))) := (fr548 _ (by omega)).trans h533
  have h583 : σ546 (36) = some (.inr (7, [.ref (37), .int (lc_i (0)), .int (lc_i (0)), .ref (39), .int (lc_i (lc_rc 0))]) : lc_Cel) := (fr548 _ (by omega)).trans h534
  have h584 : σ546 (37) = some (.inr (0, [.ref (38), .int (lc_i (lc_cnt (lc_f0) 1 36)), .int (lc_i (lc_cnt (lc_f0) 2 36)), .int (lc_i (1)), .int (lc_i (0)), .int (lc_i (20))]) : lc_Cel) := (fr548 _ (by omega)).trans h535
  have h585 : σ546 (38) = some (lc_aI 36 (lc_f0)) := (fr548 _ (by omega)).trans h536
  have h586 : σ546 (39) = some (lc_aJ 60 (fun i : Int => lc_j ((lc_rp (fun _ : Int => (0 : Int)) (0) (lc_key (lc_f0) (1) 36)) i))) := (fr548 _ (by omega)).trans h537
  have h587 : σ546 (40) = some (.inr (7, [.ref (41), .int (lc_i (0)), .int (lc_i (0)), .ref (43), .int (lc_i (lc_rc 0))]) : lc_Cel) := (fr548 _ (by omega)).trans h538
  have h588 : σ546 (41) = some (.inr (0, [.ref (42), .int (lc_i (lc_cnt (lc_f0) 1 36)), .int (lc_i (lc_cnt (lc_f0) 2 36)), .int (lc_i (1)), .int (lc_i (0)), .int (lc_i (20))]) : lc_Cel) := (fr548 _ (by omega)).trans h539
  have h589 : σ546 (42) = some (lc_aI 36 (lc_f0)) := (fr548 _ (by omega)).trans h540
  have h590 : σ546 (43) = some (lc_aJ 60 (fun i : Int => lc_j ((lc_rp (fun _ : Int => (0 : Int)) (0) (lc_key (lc_f0) (1) 36)) i))) := (fr548 _ (by omega)).trans h541
  have h591 : σ546 (44) = some (.inr (7, [.ref (45), .int (lc_i (0)), .int (lc_i (0)), .ref (47), .int (lc_i (lc_rc 0))]) : lc_Cel) := (fr548 _ (by omega)).trans h542
  have h592 : σ546 (45) = some (.inr (0, [.ref (46), .int (lc_i (lc_cnt (lc_f0) 1 36)), .int (lc_i (lc_cnt (lc_f0) 2 36)), .int (lc_i (1)), .int (lc_i (0)), .int (lc_i (20))]) : lc_Cel) := (fr548 _ (by omega)).trans h543
  have h593 : σ546 (46) = some (lc_aI 36 (lc_f0)) := (fr548 _ (by omega)).trans h544
  have h594 : σ546 (47) = some (lc_aJ 60 (fun i : Int => lc_j ((lc_rp (fun _ : Int => (0 : Int)) (0) (lc_key (lc_f0) (1) 36)) i))) := (fr548 _ (by omega)).trans h545
  have h595 : σ546 (1) = some (.inr (10, [.ref (2), .ref (5), .ref (7), .ref (9), .ref (11), .ref (18), .ref (22), .ref (26), .ref (30), .null, .int (lc_i (0)), .int (lc_i (0)), .int (lc_i (0)), .int (lc_i (0))]) : lc_Cel) := (fr548 _ (by omega)).trans h498
  refine lc_dup dX10_init_123 rfl ?_
  refine lc_callIN (As := []) (stk := [.ref (48), .ref (1)]) (b := 48) dX10_init_124 (fun U hU => hU.2.2.1) lc_yX5_init (by omega) (lc_cX5_init l σ546 h547 ) rfl ⟨Nat.le_of_ble_eq_true rfl, Nat.le_of_ble_eq_true rfl⟩ ⟨Nat.le_of_ble_eq_true rfl, Nat.le_of_ble_eq_true rfl⟩ rfl (Nat.le_of_ble_eq_true rfl) (fun v599 n600 σ601 q602 => ?_)
  obtain ⟨rfl, rfl, h597, h598, fr596⟩ := q602
  have h603 : σ601 (2) = some (.inr (1, [.ref (3), .ref (4)]) : lc_Cel) := (fr596 _ (by omega)).trans h549
  have h604 : σ601 (3) = some (lc_aI 48 (lc_pt)) := (fr596 _ (by omega)).trans h550
  have h605 : σ601 (4) = some (lc_aI 72 (lc_sp)) := (fr596 _ (by omega)).trans h551
  have h606 : σ601 (5) = some (.inr (9, [.ref (2), .ref (6), .int (lc_i (0)), .int (lc_i (0)), .int (lc_i (0)), .int (lc_i (0))]) : lc_Cel) := (fr596 _ (by omega)).trans h552
  have h607 : σ601 (6) = some (.inr (8, [.ref (2), .int (lc_i (0)), .int (lc_i (0)), .int (lc_i (0))]) : lc_Cel) := (fr596 _ (by omega)).trans h553
  have h608 : σ601 (7) = some (.inr (6, [.ref (2), .ref (8), .ref (5)]) : lc_Cel) := (fr596 _ (by omega)).trans h554
  have h609 : σ601 (8) = some (.inr (8, [.ref (2), .int (lc_i (0)), .int (lc_i (0)), .int (lc_i (0))]) : lc_Cel) := (fr596 _ (by omega)).trans h555
  have h610 : σ601 (9) = some (.inr (4, [.ref (10), .int (lc_i (0)), .int (lc_i (0))]) : lc_Cel) := (fr596 _ (by omega)).trans h556
  have h611 : σ601 (10) = some (lc_aI 364 (fun _ : Int => (0 : Int))) := (fr596 _ (by omega)).trans h557
  have h612 : σ601 (11) = some (.inr (3, [.ref (7), .ref (12), .ref (14), .ref (16), .int (lc_i (0))]) : lc_Cel) := (fr596 _ (by omega)).trans h558
  have h613 : σ601 (12) = some (.inr (0, [.ref (13), .int (lc_i (lc_cnt (lc_f0) 1 36)), .int (lc_i (lc_cnt (lc_f0) 2 36)), .int (lc_i (1)), .int (lc_i (0)), .int (lc_i (20))]) : lc_Cel) := (fr596 _ (by omega)).trans h559
  have h614 : σ601 (13) = some (lc_aI 36 (lc_f0)) := (fr596 _ (by omega)).trans h560
  have h615 : σ601 (14) = some (.inr (4, [.ref (15), .int (lc_i (0)), .int (lc_i (0))]) : lc_Cel) := (fr596 _ (by omega)).trans h561
  have h616 : σ601 (15) = some (lc_aI 364 (fun _ : Int => (0 : Int))) := (fr596 _ (by omega)).trans h562
  have h617 : σ601 (16) = some (.inr (4, [.ref (17), .int (lc_i (0)), .int (lc_i (0))]) : lc_Cel) := (fr596 _ (by omega)).trans h563
  have h618 : σ601 (17) = some (lc_aI 364 (fun _ : Int => (0 : Int))) := (fr596 _ (by omega)).trans h564
  have h619 : σ601 (18) = some (.inr (7, [.ref (19), .int (lc_i (0)), .int (lc_i (0)), .ref (21), .int (lc_i (lc_rc 0))]) : lc_Cel) := (fr596 _ (by omega)).trans h565
  have h620 : σ601 (19) = some (.inr (0, [.ref (20), .int (lc_i (lc_cnt (lc_f0) 1 36)), .int (lc_i (lc_cnt (lc_f0) 2 36)), .int (lc_i (1)), .int (lc_i (0)), .int (lc_i (20))]) : lc_Cel) := (fr596 _ (by omega)).trans h566
  have h621 : σ601 (20) = some (lc_aI 36 (lc_f0)) := (fr596 _ (by omega)).trans h567
  have h622 : σ601 (21) = some (lc_aJ 60 (fun i : Int => lc_j ((lc_rp (fun _ : Int => (0 : Int)) (0) (lc_key (lc_f0) (1) 36)) i))) := (fr596 _ (by omega)).trans h568
  have h623 : σ601 (22) = some (.inr (7, [.ref (23), .int (lc_i (0)), .int (lc_i (0)), .ref (25), .int (lc_i (lc_rc 0))]) : lc_Cel) := (fr596 _ (by omega)).trans h569
  have h624 : σ601 (23) = some (.inr (0, [.ref (24), .int (lc_i (lc_cnt (lc_f0) 1 36)), .int (lc_i (lc_cnt (lc_f0) 2 36)), .int (lc_i (1)), .int (lc_i (0)), .int (lc_i (20))]) : lc_Cel) := (fr596 _ (by omega)).trans h570
  have h625 : σ601 (24) = some (lc_aI 36 (lc_f0)) := (fr596 _ (by omega)).trans h571
  have h626 : σ601 (25) = some (lc_aJ 60 (fun i : Int => lc_j ((lc_rp (fun _ : Int => (0 : Int)) (0) (lc_key (lc_f0) (1) 36)) i))) := (fr596 _ (by omega)).trans h572
  have h627 : σ601 (26) = some (.inr (7, [.ref (27), .int (lc_i (0)), .int (lc_i (0)), .ref (29), .int (lc_i (lc_rc 0))]) : lc_Cel) := (fr596 _ (by omega)).trans h573
  have h628 : σ601 (27) = some (.inr (0, [.ref (28), .int (lc_i (lc_cnt (lc_f0) 1 36)), .int (lc_i (lc_cnt (lc_f0) 2 36)), .int (lc_i (1)), .int (lc_i (0)), .int (lc_i (20))]) : lc_Cel) := (fr596 _ (by omega)).trans h574
  have h629 : σ601 (28) = some (lc_aI 36 (lc_f0)) := (fr596 _ (by omega)).trans h575
  have h630 : σ601 (29) = some (lc_aJ 60 (fun i : Int => lc_j ((lc_rp (fun _ : Int => (0 : Int)) (0) (lc_key (lc_f0) (1) 36)) i))) := (fr596 _ (by omega)).trans h576
  have h631 : σ601 (30) = some (.inr (2, [.ref (31), .int (lc_i (0))]) : lc_Cel) := (fr596 _ (by omega)).trans h577
  have h632 : σ601 (31) = some (lc_aS 4 (lc_h4 (0))) := (fr596 _ (by omega)).trans h578
  have h633 : σ601 (32) = some (.inr (7, [.ref (33), .int (lc_i (0)), .int (lc_i (0)), .ref (35), .int (lc_i (lc_rc 0))]) : lc_Cel) := (fr596 _ (by omega)).trans h579
  have h634 : σ601 (33) = some (.inr (0, [.ref (34), .int (lc_i (lc_cnt (lc_f0) 1 36)), .int (lc_i (lc_cnt (lc_f0) 2 36)), .int (lc_i (1)), .int (lc_i (0)), .int (lc_i (20))]) : lc_Cel) := (fr596 _ (by omega)).trans h580
  have h635 : σ601 (34) = some (lc_aI 36 (lc_f0)) := (fr596 _ (by omega)).trans h581
  have h636 : σ601 (35) = some (lc_aJ 60 (fun i : Int => lc_j ((lc_rp (fun _ : Int => (0 : Int)) (0) (lc_key (lc_f0) (1) 36)) i))) := (fr596 _ (by omega)).trans h582
  have h637 : σ601 (36) = some (.inr (7, [.ref (37), .int (lc_i (0)), .int (lc_i (0)), .ref (39), .int (lc_i (lc_rc 0))]) : lc_Cel) := (fr596 _ (by omega)).trans h583
  have h638 : σ601 (37) = some (.inr (0, [.ref (38), .int (lc_i (lc_cnt (lc_f0) 1 36)), .int (lc_i (lc_cnt (lc_f0) 2 36)), .int (lc_i (1)), .int (lc_i (0)), .int (lc_i (20))]) : lc_Cel) := (fr596 _ (by omega)).trans h584
  have h639 : σ601 (38) = some (lc_aI 36 (lc_f0)) := (fr596 _ (by omega)).trans h585
  have h640 : σ601 (39) = some (lc_aJ 60 (fun i : Int => lc_j ((lc_rp (fun _ : Int => (0 : Int)) (0) (lc_key (lc_f0) (1) 36)) i))) := (fr596 _ (by omega)).trans h586
  have h641 : σ601 (40) = some (.inr (7, [.ref (41), .int (lc_i (0)), .int (lc_i (0)), .ref (43), .int (lc_i (lc_rc 0))]) : lc_Cel) := (fr596 _ (by omega)).trans h587
  have h642 : σ601 (41) = some (.inr (0, [.ref (42), .int (lc_i (lc_cnt (lc_f0) 1 36)), .int (lc_i (lc_cnt (lc_f0) 2 36)), .int (lc_i (1)), .int (lc_i (0)), .int (lc_i (20))]) : lc_Cel) := (fr596 _ (by omega)).trans h588
  have h643 : σ601 (42) = some (lc_aI 36 (lc_f0)) := (fr596 _ (by omega)).trans h589
  have h644 : σ601 (43) = some (lc_aJ 60 (fun i : Int => lc_j ((lc_rp (fun _ : Int => (0 : Int)) (0) (lc_key (lc_f0) (1) 36)) i))) := (fr596 _ (by omega)).trans h590
  have h645 : σ601 (44) = some (.inr (7, [.ref (45), .int (lc_i (0)), .int (lc_i (0)), .ref (47), .int (lc_i (lc_rc 0))]) : lc_Cel) := (fr596 _ (by omega)).trans h591
  have h646 : σ601 (45) = some (.inr (0, [.ref (46), .int (lc_i (lc_cnt (lc_f0) 1 36)), .int (lc_i (lc_cnt (lc_f0) 2 36)), .int (lc_i (1)), .int (lc_i (0)), .int (lc_i (20))]) : lc_Cel) := (fr596 _ (by omega)).trans h592
  have h647 : σ601 (46) = some (lc_aI 36 (lc_f0)) := (fr596 _ (by omega)).trans h593
  have h648 : σ601 (47) = some (lc_aJ 60 (fun i : Int => lc_j ((lc_rp (fun _ : Int => (0 : Int)) (0) (lc_key (lc_f0) (1) 36)) i))) := (fr596 _ (by omega)).trans h594
  have h649 : σ601 (1) = some (.inr (10, [.ref (2), .ref (5), .ref (7), .ref (9), .ref (11), .ref (18), .ref (22), .ref (26), .ref (30), .null, .int (lc_i (0)), .int (lc_i (0)), .int (lc_i (0)), .int (lc_i (0))]) : lc_Cel) := (fr596 _ (by omega)).trans h595
  refine lc_wF (vs' := [.ref (2), .ref (5), .ref (7), .ref (9), .ref (11), .ref (18), .ref (22), .ref (26), .ref (30), .ref (48), .int (lc_i (0)), .int (lc_i (0)), .int (lc_i (0)), .int (lc_i (0))]) dX10_init_127 lc_fX10_73 h649 (Nat.le_of_ble_eq_true rfl) rfl rfl lc_refObj rfl (fun σ650 h651 fr652 => ?_)
  have h653 : σ650 (2) = some (.inr (1, [.ref (3), .ref (4)]) : lc_Cel) := (fr652 _ (by omega)).trans h603
  have h654 : σ650 (3) = some (lc_aI 48 (lc_pt)) := (fr652 _ (by omega)).trans h604
  have h655 : σ650 (4) = some (lc_aI 72 (lc_sp)) := (fr652 _ (by omega)).trans h605
  have h656 : σ650 (5) = some (.inr (9, [.ref (2), .ref (6), .int (lc_i (0)), .int (lc_i (0)), .int (lc_i (0)), .int (lc_i (0))]) : lc_Cel) := (fr652 _ (by omega)).trans h606
  have h657 : σ650 (6) = some (.inr (8, [.ref (2), .int (lc_i (0)), .int (lc_i (0)), .int (lc_i (0))]) : lc_Cel) := (fr652 _ (by omega)).trans h607
  have h658 : σ650 (7) = some (.inr (6, [.ref (2), .ref (8), .ref (5)]) : lc_Cel) := (fr652 _ (by omega)).trans h608
  have h659 : σ650 (8) = some (.inr (8, [.ref (2), .int (lc_i (0)), .int (lc_i (0)), .int (lc_i (0))]) : lc_Cel) := (fr652 _ (by omega)).trans h609
  have h660 : σ650 (9) = some (.inr (4, [.ref (10), .int (lc_i (0)), .int (lc_i (0))]) : lc_Cel) := (fr652 _ (by omega)).trans h610
  have h661 : σ650 (10) = some (lc_aI 364 (fun _ : Int => (0 : Int))) := (fr652 _ (by omega)).trans h611
  have h662 : σ650 (11) = some (.inr (3, [.ref (7), .ref (12), .ref (14), .ref (16), .int (lc_i (0))]) : lc_Cel) := (fr652 _ (by omega)).trans h612
  have h663 : σ650 (12) = some (.inr (0, [.ref (13), .int (lc_i (lc_cnt (lc_f0) 1 36)), .int (lc_i (lc_cnt (lc_f0) 2 36)), .int (lc_i (1)), .int (lc_i (0)), .int (lc_i (20))]) : lc_Cel) := (fr652 _ (by omega)).trans h613
  have h664 : σ650 (13) = some (lc_aI 36 (lc_f0)) := (fr652 _ (by omega)).trans h614
  have h665 : σ650 (14) = some (.inr (4, [.ref (15), .int (lc_i (0)), .int (lc_i (0))]) : lc_Cel) := (fr652 _ (by omega)).trans h615
  have h666 : σ650 (15) = some (lc_aI 364 (fun _ : Int => (0 : Int))) := (fr652 _ (by omega)).trans h616
  have h667 : σ650 (16) = some (.inr (4, [.ref (17), .int (lc_i (0)), .int (lc_i (0))]) : lc_Cel) := (fr652 _ (by omega)).trans h617
  have h668 : σ650 (17) = some (lc_aI 364 (fun _ : Int => (0 : Int))) := (fr652 _ (by omega)).trans h618
  have h669 : σ650 (18) = some (.inr (7, [.ref (19), .int (lc_i (0)), .int (lc_i (0)), .ref (21), .int (lc_i (lc_rc 0))]) : lc_Cel) := (fr652 _ (by omega)).trans h619
  have h670 : σ650 (19) = some (.inr (0, [.ref (20), .int (lc_i (lc_cnt (lc_f0) 1 36)), .int (lc_i (lc_cnt (lc_f0) 2 36)), .int (lc_i (1)), .int (lc_i (0)), .int (lc_i (20))]) : lc_Cel) := (fr652 _ (by omega)).trans h620
  have h671 : σ650 (20) = some (lc_aI 36 (lc_f0)) := (fr652 _ (by omega)).trans h621
  have h672 : σ650 (21) = some (lc_aJ 60 (fun i : Int => lc_j ((lc_rp (fun _ : Int => (0 : Int)) (0) (lc_key (lc_f0) (1) 36)) i))) := (fr652 _ (by omega)).trans h622
  have h673 : σ650 (22) = some (.inr (7, [.ref (23), .int (lc_i (0)), .int (lc_i (0)), .ref (25), .int (lc_i (lc_rc 0))]) : lc_Cel) := (fr652 _ (by omega)).trans h623
  have h674 : σ650 (23) = some (.inr (0, [.ref (24), .int (lc_i (lc_cnt (lc_f0) 1 36)), .int (lc_i (lc_cnt (lc_f0) 2 36)), .int (lc_i (1)), .int (lc_i (0)), .int (lc_i (20))]) : lc_Cel) := (fr652 _ (by omega)).trans h624
  have h675 : σ650 (24) = some (lc_aI 36 (lc_f0)) := (fr652 _ (by omega)).trans h625
  have h676 : σ650 (25) = some (lc_aJ 60 (fun i : Int => lc_j ((lc_rp (fun _ : Int => (0 : Int)) (0) (lc_key (lc_f0) (1) 36)) i))) := (fr652 _ (by omega)).trans h626
  have h677 : σ650 (26) = some (.inr (7, [.ref (27), .int (lc_i (0)), .int (lc_i (0)), .ref (29), .int (lc_i (lc_rc 0))]) : lc_Cel) := (fr652 _ (by omega)).trans h627
  have h678 : σ650 (27) = some (.inr (0, [.ref (28), .int (lc_i (lc_cnt (lc_f0) 1 36)), .int (lc_i (lc_cnt (lc_f0) 2 36)), .int (lc_i (1)), .int (lc_i (0)), .int (lc_i (20))]) : lc_Cel) := (fr652 _ (by omega)).trans h628
  have h679 : σ650 (28) = some (lc_aI 36 (lc_f0)) := (fr652 _ (by omega)).trans h629
  have h680 : σ650 (29) = some (lc_aJ 60 (fun i : Int => lc_j ((lc_rp (fun _ : Int => (0 : Int)) (0) (lc_key (lc_f0) (1) 36)) i))) := (fr652 _ (by omega)).trans h630
  have h681 : σ650 (30) = some (.inr (2, [.ref (31), .int (lc_i (0))]) : lc_Cel) := (fr652 _ (by omega)).trans h631
  have h682 : σ650 (31) = some (lc_aS 4 (lc_h4 (0))) := (fr652 _ (by omega)).trans h632
  have h683 : σ650 (32) = some (.inr (7, [.ref (33), .int (lc_i (0)), .int (lc_i (0)), .ref (35), .int (lc_i (lc_rc 0))]) : lc_Cel) := (fr652 _ (by omega)).trans h633
  have h684 : σ650 (33) = some (.inr (0, [.ref (34), .int (lc_i (lc_cnt (lc_f0) 1 36)), .int (lc_i (lc_cnt (lc_f0) 2 36)), .int (lc_i (1)), .int (lc_i (0)), .int (lc_i (20))]) : lc_Cel) := (fr652 _ (by omega)).trans h634
  have h685 : σ650 (34) = some (lc_aI 36 (lc_f0)) := (fr652 _ (by omega)).trans h635
  have h686 : σ650 (35) = some (lc_aJ 60 (fun i : Int => lc_j ((lc_rp (fun _ : Int => (0 : Int)) (0) (lc_key (lc_f0) (1) 36)) i))) := (fr652 _ (by omega)).trans h636
  have h687 : σ650 (36) = some (.inr (7, [.ref (37), .int (lc_i (0)), .int (lc_i (0)), .ref (39), .int (lc_i (lc_rc 0))]) : lc_Cel) := (fr652 _ (by omega)).trans h637
  have h688 : σ650 (37) = some (.inr (0, [.ref (38), .int (lc_i (lc_cnt (lc_f0) 1 36)), .int (lc_i (lc_cnt (lc_f0) 2 36)), .int (lc_i (1)), .int (lc_i (0)), .int (lc_i (20))]) : lc_Cel) := (fr652 _ (by omega)).trans h638
  have h689 : σ650 (38) = some (lc_aI 36 (lc_f0)) := (fr652 _ (by omega)).trans h639
  have h690 : σ650 (39) = some (lc_aJ 60 (fun i : Int => lc_j ((lc_rp (fun _ : Int => (0 : Int)) (0) (lc_key (lc_f0) (1) 36)) i))) := (fr652 _ (by omega)).trans h640
  have h691 : σ650 (40) = some (.inr (7, [.ref (41), .int (lc_i (0)), .int (lc_i (0)), .ref (43), .int (lc_i (lc_rc 0))]) : lc_Cel) := (fr652 _ (by omega)).trans h641
  have h692 : σ650 (41) = some (.inr (0, [.ref (42), .int (lc_i (lc_cnt (lc_f0) 1 36)), .int (lc_i (lc_cnt (lc_f0) 2 36)), .int (lc_i (1)), .int (lc_i (0)), .int (lc_i (20))]) : lc_Cel) := (fr652 _ (by omega)).trans h642
  have h693 : σ650 (42) = some (lc_aI 36 (lc_f0)) := (fr652 _ (by omega)).trans h643
  have h694 : σ650 (43) = some (lc_aJ 60 (fun i : Int => lc_j ((lc_rp (fun _ : Int => (0 : Int)) (0) (lc_key (lc_f0) (1) 36)) i))) := (fr652 _ (by omega)).trans h644
  have h695 : σ650 (44) = some (.inr (7, [.ref (45), .int (lc_i (0)), .int (lc_i (0)), .ref (47), .int (lc_i (lc_rc 0))]) : lc_Cel) := (fr652 _ (by omega)).trans h645
  have h696 : σ650 (45) = some (.inr (0, [.ref (46), .int (lc_i (lc_cnt (lc_f0) 1 36)), .int (lc_i (lc_cnt (lc_f0) 2 36)), .int (lc_i (1)), .int (lc_i (0)), .int (lc_i (20))]) : lc_Cel) := (fr652 _ (by omega)).trans h646
  have h697 : σ650 (46) = some (lc_aI 36 (lc_f0)) := (fr652 _ (by omega)).trans h647
  have h698 : σ650 (47) = some (lc_aJ 60 (fun i : Int => lc_j ((lc_rp (fun _ : Int => (0 : Int)) (0) (lc_key (lc_f0) (1) 36)) i))) := (fr652 _ (by omega)).trans h648
  have h699 : σ650 (48) = some (.inr (5, [.ref (49), .int (lc_i (0))]) : lc_Cel) := (fr652 _ (by omega)).trans h597
  have h700 : σ650 (49) = some (lc_aC 80 (fun _ : Int => (0 : Int))) := (fr652 _ (by omega)).trans h598
  exact lc_vret dX10_init_130 rfl (Nat.le_of_ble_eq_true rfl) (Nat.le_of_ble_eq_true rfl) (hQ _ _ _ ⟨rfl, rfl, lc_CI_mk (N := (lc_f0, 1, 0, 20, 0, 0, lc_rc 0, lc_rp (fun _ : Int => (0 : Int)) (0) (lc_key (lc_f0) (1) 36))) (BF := (lc_f0, 1, 0, 20, 0, 0, lc_rc 0, lc_rp (fun _ : Int => (0 : Int)) (0) (lc_key (lc_f0) (1) 36))) (SN := (lc_f0, 1, 0, 20, 0, 0, lc_rc 0, lc_rp (fun _ : Int => (0 : Int)) (0) (lc_key (lc_f0) (1) 36))) (w := (0, 0, 0, 0)) (bs := false) (bt := false) (k := 0) h651 h653 h654 h655 h656 h657 h658 h660 h661 (lc_Lk_mk h659 h662 h663 h664 h665 h666 h667 h668) ⟨h669, h670, h671, h672⟩ ⟨h673, h674, h675, h676⟩ ⟨h677, h678, h679, h680⟩ (fun h9 => absurd h9 (by decide)) h681 h682 (lc_Sl_0 (N := (lc_f0, 1, 0, 20, 0, 0, lc_rc 0, lc_rp (fun _ : Int => (0 : Int)) (0) (lc_key (lc_f0) (1) 36))) ⟨h683, h684, h685, h686⟩ ⟨h687, h688, h689, h690⟩ ⟨h691, h692, h693, h694⟩ ⟨h695, h696, h697, h698⟩) h699 h700, (fun i _ => ((fr652 i (by omega)).trans ((fr596 i (by omega)).trans ((fr548 i (by omega)).trans ((fr499 i (by omega)).trans ((fr445 i (by omega)).trans ((fr415 i (by omega)).trans ((fr384 i (by omega)).trans ((fr348 i (by omega)).trans ((fr322 i (by omega)).trans ((fr295 i (by omega)).trans ((fr263 i (by omega)).trans ((fr241 i (by omega)).trans ((fr218 i (by omega)).trans ((fr190 i (by omega)).trans ((fr172 i (by omega)).trans ((fr153 i (by omega)).trans ((fr129 i (by omega)).trans ((fr118 i (by omega)).trans ((fr106 i (by omega)).trans ((fr89 i (by omega)).trans ((fr80 i (by omega)).trans ((fr70 i (by omega)).trans ((fr55 i (by omega)).trans ((fr48 i (by omega)).trans ((fr40 i (by omega)).trans ((fr27 i (by omega)).trans ((fr22 i (by omega)).trans ((fr16 i (by omega)).trans ((fr5 i (by omega)).trans (fr3 i (by omega))))))))))))))))))))))))))))))))⟩)
