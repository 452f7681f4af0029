set_option maxHeartbeats 4000000 in
set_option maxRecDepth 100000 in
theorem c_X8_rowIsRight (l : Launch) (D : va_G) (cI cL : ClassId) (ad zz : Nat → Nat) (hJ : jD ad) (σ : Nat → Nat → Int32) (τ : Nat → Nat → Int64) (a1 : Int32) (A1 : Int) (t1 : a1.toInt = A1) : jM l yX8_rowIsRight cX8_rowIsRight 3 (some .boolean) ({ frames := 0, cells := 0, slots := 0, locals := 0 }) D cI cL ad zz [.int a1] σ τ (fun r σ' τ' => (σ = σ' ∧ τ = τ') ∧ True) := by
  refine jM.of hJ (by decide +kernel) (nt := .boolean) rfl (Nat.le_of_ble_eq_true rfl) ?_
  intro p e s m args below meth c Q ls hC hret hl hP
  obtain ⟨hx, hb, hr, hml, hown, hts, hK, -, hlocks, hZ⟩ := hC
  have hown : s.vm.findClass RX8 = some m.cls := hown
  have hS : va_S (jA ad) s.heap s.heap [] := va_S.rf
  have hA : ∀ q, jA ad q → jA ad q := fun _ h => h
  have hl : lv_has ls 3 [(0, .int a1)] := hl
  have g1 := jrg t1
  refine lv_iload_n hx hb dX8_rowIsRight_0 rfl (lv_at hl 0 rfl) ?_
  refine lv_if_lt (tgt := 10) hx hb dX8_rowIsRight_1 (by decide) (fun c1 => ?_) (fun c1 => ?_)
  · have kc1 := jlt c1 t1 jz_0
    refine lv_iconst (v := 0) hx hb dX8_rowIsRight_10 (by decide) ?_
    exact hret 0 σ τ _ _ _ _ rfl ⟨⟨rfl, rfl⟩, trivial⟩ hP hS dX8_rowIsRight_11
  · have kc1 := jnlt c1 t1 jz_0
    refine lv_iload_n hx hb dX8_rowIsRight_4 rfl (lv_at hl 0 rfl) ?_
    refine lv_ldc (v := 99999999) hx hb hown (hts _ kw_24_12) dX8_rowIsRight_5 ?_
    refine lv_icmp_le (tgt := 12) hx hb dX8_rowIsRight_7 (by decide) (fun c2 => ?_) (fun c2 => ?_)
    · have kc2 := jle c2 t1 jz_99999999
      refine lv_iload_n hx hb dX8_rowIsRight_12 rfl (lv_at hl 0 rfl) ?_
      refine lv_istore_n (lv' := [(1, .int a1), (0, .int a1)]) hx hb dX8_rowIsRight_13 rfl hl (by decide) rfl (fun ls hl => ?_)
      refine lv_iconst (v := 0) hx hb dX8_rowIsRight_14 (by decide) ?_
      refine lv_istore_n (lv' := [(2, .int 0), (1, .int a1), (0, .int a1)]) hx hb dX8_rowIsRight_15 rfl hl (by decide) rfl (fun ls hl => ?_)
      have lp3 : ∀ (n4 : Nat) (x5 : Int32) (x6 : Int32) (H : Heap) (locs : List Loc) (ls : Array Slot), (-x6.toInt + 8 : Int) < n4 → 0 ≤ x6.toInt → x6.toInt ≤ 8 → jH D cI cL ad σ τ H → va_S (jA ad) s.heap H locs → lv_has ls 3 [(2, .int x6), (1, .int x5), (0, .int a1)] → W p l e ({ frames := 0, cells := 0, slots := 0, locals := 0 }) s m args below meth c H locs 0 0 Q (F0 m 16 ls []) := by
        intro n4
        induction n4 with
        | zero => intro x5 x6 H locs ls h7 h8 h9; have gx5 := jrg (rfl : x5.toInt = x5.toInt); exact absurd h7 (by omega)
        | succ n4 ihlp3 =>
          intro x5 x6 H locs ls h7 h8 h9 hP hS hl
          have gx5 := jrg (rfl : x5.toInt = x5.toInt)
          refine lv_iload_n hx hb dX8_rowIsRight_16 rfl (lv_at hl 1 rfl) ?_
          refine lv_if_le (tgt := 55) hx hb dX8_rowIsRight_17 (by decide) (fun c11 => ?_) (fun c11 => ?_)
          · have kc11 := jle c11 rfl jz_0
            refine lv_iconst (v := 1) hx hb dX8_rowIsRight_55 (by decide) ?_
            exact hret 1 σ τ _ _ _ _ rfl ⟨⟨rfl, rfl⟩, trivial⟩ hP hS dX8_rowIsRight_56
          · have kc11 := jnle c11 rfl jz_0
            refine lv_iload_n hx hb dX8_rowIsRight_20 rfl (lv_at hl 0 rfl) ?_
            refine lv_bipush (v := 8) hx hb dX8_rowIsRight_21 (by decide) ?_
            refine lv_icmp_ge (tgt := 55) hx hb dX8_rowIsRight_23 (by decide) (fun c12 => ?_) (fun c12 => ?_)
            · have kc12 := jle c12 jz_8 rfl
              refine lv_iconst (v := 1) hx hb dX8_rowIsRight_55 (by decide) ?_
              exact hret 1 σ τ _ _ _ _ rfl ⟨⟨rfl, rfl⟩, trivial⟩ hP hS dX8_rowIsRight_56
            · have kc12 := jnle c12 jz_8 rfl
              refine lv_iload_n hx hb dX8_rowIsRight_26 rfl (lv_at hl 1 rfl) ?_
              refine lv_bipush (v := 10) hx hb dX8_rowIsRight_27 (by decide) ?_
              refine lv_irem hx hb dX8_rowIsRight_29 (by decide) ?_
              refine lv_topi (fun x13 ex13 => ?_)
              have tx13 : x13.toInt = (x5.toInt % 10) := jrem ex13 rfl jz_10 (by omega)
              refine lv_iconst (v := 1) hx hb dX8_rowIsRight_30 (by decide) ?_
              refine lv_icmp_lt (tgt := 42) hx hb dX8_rowIsRight_31 (by decide) (fun c14 => ?_) (fun c14 => ?_)
              · have kc14 := jlt c14 tx13 jz_1
                refine lv_iconst (v := 0) hx hb dX8_rowIsRight_42 (by decide) ?_
                exact hret 0 σ τ _ _ _ _ rfl ⟨⟨rfl, rfl⟩, trivial⟩ hP hS dX8_rowIsRight_43
              · have kc14 := jnlt c14 tx13 jz_1
                refine lv_iload_n hx hb dX8_rowIsRight_34 rfl (lv_at hl 1 rfl) ?_
                refine lv_bipush (v := 10) hx hb dX8_rowIsRight_35 (by decide) ?_
                refine lv_irem hx hb dX8_rowIsRight_37 (by decide) ?_
                refine lv_topi (fun x15 ex15 => ?_)
                have tx15 : x15.toInt = (x5.toInt % 10) := jrem ex15 rfl jz_10 (by omega)
                refine lv_iconst (v := 4) hx hb dX8_rowIsRight_38 (by decide) ?_
                refine lv_icmp_le (tgt := 44) hx hb dX8_rowIsRight_39 (by decide) (fun c16 => ?_) (fun c16 => ?_)
                · have kc16 := jle c16 tx15 jz_4
                  refine lv_iload_n hx hb dX8_rowIsRight_44 rfl (lv_at hl 1 rfl) ?_
                  refine lv_bipush (v := 10) hx hb dX8_rowIsRight_45 (by decide) ?_
                  refine lv_idiv hx hb dX8_rowIsRight_47 (by decide) ?_
                  refine lv_topi (fun x17 ex17 => ?_)
                  have tx17 : x17.toInt = (x5.toInt / 10) := jdiv ex17 rfl jz_10 (by omega) (by omega)
                  refine lv_istore_n (lv' := [(1, .int x17), (2, .int x6), (0, .int a1)]) hx hb dX8_rowIsRight_48 rfl hl (by decide) rfl (fun ls hl => ?_)
                  obtain ⟨x18, ex18⟩ : ∃ y : Int32, y = x6 + 1 := ⟨_, rfl⟩
                  have tx18 : x18.toInt = x6.toInt + 1 := (jadd ex18 rfl jz_1 (by omega) (by omega)).trans (by omega)
                  refine lv_iinc (v := x18) (lv' := [(2, .int x18), (1, .int x17), (0, .int a1)]) hx hb dX8_rowIsRight_49 hl (k := 1) rfl (by rw [ex18]; rfl) (by decide) rfl (fun ls hl => ?_)
                  refine lv_goto (tgt := 16) hx hb dX8_rowIsRight_52 (by decide) ?_
                  exact ihlp3 x17 x18 _ _ ls (by have h90 := tx17; have h91 := tx18; omega) (by have h90 := tx17; have h91 := tx18; omega) (by have h90 := tx17; have h91 := tx18; omega)    hP hS (lv_sub hl [0, 1, 2] rfl)
                · have kc16 := jnle c16 tx15 jz_4
                  refine lv_iconst (v := 0) hx hb dX8_rowIsRight_42 (by decide) ?_
                  exact hret 0 σ τ _ _ _ _ rfl ⟨⟨rfl, rfl⟩, trivial⟩ hP hS dX8_rowIsRight_43
      exact lp3 1000000 a1 0 _ _ ls (by have h90 := t1; have h91 := jz_0; omega) (by have h90 := t1; have h91 := jz_0; omega) (by have h90 := t1; have h91 := jz_0; omega)   hP hS hl
    · have kc2 := jnle c2 t1 jz_99999999
      refine lv_iconst (v := 0) hx hb dX8_rowIsRight_10 (by decide) ?_
      exact hret 0 σ τ _ _ _ _ rfl ⟨⟨rfl, rfl⟩, trivial⟩ hP hS dX8_rowIsRight_11
set_option maxHeartbeats 4000000 in
set_option maxRecDepth 100000 in
theorem c_X8_above (l : Launch) (D : va_G) (cI cL : ClassId) (ad zz : Nat → Nat) (hJ : jD ad) (σ : Nat → Nat → Int32) (τ : Nat → Nat → Int64) (a1 : Int32) (A1 : Int) (t1 : a1.toInt = A1) : jM l yX8_above cX8_above 1 (some .int) ({ frames := 0, cells := 0, slots := 0, locals := 0 }) D cI cL ad zz [.int a1] σ τ (fun r σ' τ' => (σ = σ' ∧ τ = τ') ∧ True) := by
  refine jM.of hJ (by decide +kernel) (nt := .int) rfl (Nat.le_of_ble_eq_true rfl) ?_
  intro p e s m args below meth c Q ls hC hret hl hP
  obtain ⟨hx, hb, hr, hml, hown, hts, hK, -, hlocks, hZ⟩ := hC
  have hown : s.vm.findClass RX8 = some m.cls := hown
  have hS : va_S (jA ad) s.heap s.heap [] := va_S.rf
  have hA : ∀ q, jA ad q → jA ad q := fun _ h => h
  have hl : lv_has ls 1 [(0, .int a1)] := hl
  have g1 := jrg t1
  refine lv_iload_n hx hb dX8_above_0 rfl (lv_at hl 0 rfl) ?_
  refine lv_if_lt (tgt := 10) hx hb dX8_above_1 (by decide) (fun c1 => ?_) (fun c1 => ?_)
  · have kc1 := jlt c1 t1 jz_0
    refine lv_iconst (v := (-1)) hx hb dX8_above_10 (by decide) ?_
    refine lv_goto (tgt := 19) hx hb dX8_above_11 (by decide) ?_
    exact hret (-1) σ τ _ _ _ _ rfl ⟨⟨rfl, rfl⟩, trivial⟩ hP hS dX8_above_19
  · have kc1 := jnlt c1 t1 jz_0
    refine lv_iload_n hx hb dX8_above_4 rfl (lv_at hl 0 rfl) ?_
    refine lv_bipush (v := 7) hx hb dX8_above_5 (by decide) ?_
    refine lv_icmp_lt (tgt := 14) hx hb dX8_above_7 (by decide) (fun c2 => ?_) (fun c2 => ?_)
    · have kc2 := jlt c2 t1 jz_7
      refine va_gets hx hb hZ.2.1.1 hS hown (hts _ kw_48_22) (fun _ h9 => h9) dX8_above_14 ?_
      refine lv_iload_n hx hb dX8_above_17 rfl (lv_at hl 0 rfl) ?_
      refine va_ti (v := .int (js1 a1.toNatClampNeg)) hx hb hZ.2.1.2 hS (jin t1 (by omega) (by omega)) rfl dX8_above_18 ?_
      have g4 := js1_r a1.toNatClampNeg
      refine lv_topi (fun x3 ex3 => ?_)
      rw [← ex3] at g4
      exact hret x3 σ τ _ _ _ _ rfl ⟨⟨rfl, rfl⟩, trivial⟩ hP hS dX8_above_19
    · have kc2 := jnlt c2 t1 jz_7
      refine lv_iconst (v := (-1)) hx hb dX8_above_10 (by decide) ?_
      refine lv_goto (tgt := 19) hx hb dX8_above_11 (by decide) ?_
      exact hret (-1) σ τ _ _ _ _ rfl ⟨⟨rfl, rfl⟩, trivial⟩ hP hS dX8_above_19
set_option maxHeartbeats 4000000 in
set_option maxRecDepth 100000 in
theorem c_X8_isUnder (l : Launch) (D : va_G) (cI cL : ClassId) (ad zz : Nat → Nat) (hJ : jD ad) (σ : Nat → Nat → Int32) (τ : Nat → Nat → Int64) (a1 : Int32) (A1 : Int) (t1 : a1.toInt = A1) (a2 : Int32) (A2 : Int) (t2 : a2.toInt = A2) : jM l yX8_isUnder cX8_isUnder 4 (some .boolean) ({ frames := 1, cells := 0, slots := 0, locals := 20 }) D cI cL ad zz [.int a1, .int a2] σ τ (fun r σ' τ' => (σ = σ' ∧ τ = τ') ∧ True) := by
  refine jM.of hJ (by decide +kernel) (nt := .boolean) rfl (Nat.le_of_ble_eq_true rfl) ?_
  intro p e s m args below meth c Q ls hC hret hl hP
  obtain ⟨hx, hb, hr, hml, hown, hts, hK, -, hlocks, hZ⟩ := hC
  have hown : s.vm.findClass RX8 = some m.cls := hown
  have hS : va_S (jA ad) s.heap s.heap [] := va_S.rf
  have hA : ∀ q, jA ad q → jA ad q := fun _ h => h
  have hl : lv_has ls 4 [(0, .int a1), (1, .int a2)] := hl
  have g1 := jrg t1
  have g2 := jrg t2
  refine lv_iload_n hx hb dX8_isUnder_0 rfl (lv_at hl 0 rfl) ?_
  refine lv_istore_n (lv' := [(2, .int a1), (0, .int a1), (1, .int a2)]) hx hb dX8_isUnder_1 rfl hl (by decide) rfl (fun ls hl => ?_)
  refine lv_iconst (v := 0) hx hb dX8_isUnder_2 (by decide) ?_
  refine lv_istore_n (lv' := [(3, .int 0), (2, .int a1), (0, .int a1), (1, .int a2)]) hx hb dX8_isUnder_3 rfl hl (by decide) rfl (fun ls hl => ?_)
  have lp1 : ∀ (n2 : Nat) (x3 : Int32) (x4 : Int32) (H : Heap) (locs : List Loc) (ls : Array Slot), (-x4.toInt + 7 : Int) < n2 → 0 ≤ x4.toInt → x4.toInt ≤ 7 → jH D cI cL ad σ τ H → va_S (jA ad) s.heap H locs → lv_has ls 4 [(3, .int x4), (2, .int x3), (0, .int a1), (1, .int a2)] → W p l e ({ frames := 1, cells := 0, slots := 0, locals := 20 }) s m args below meth c H locs 0 0 Q (F0 m 4 ls []) := by
    intro n2
    induction n2 with
    | zero => intro x3 x4 H locs ls h5 h6 h7; have gx3 := jrg (rfl : x3.toInt = x3.toInt); exact absurd h5 (by omega)
    | succ n2 ihlp1 =>
      intro x3 x4 H locs ls h5 h6 h7 hP hS hl
      have gx3 := jrg (rfl : x3.toInt = x3.toInt)
      refine lv_iload_n hx hb dX8_isUnder_4 rfl (lv_at hl 0 rfl) ?_
      refine lv_bipush (v := 7) hx hb dX8_isUnder_5 (by decide) ?_
      refine lv_icmp_ge (tgt := 32) hx hb dX8_isUnder_7 (by decide) (fun c9 => ?_) (fun c9 => ?_)
      · have kc9 := jle c9 jz_7 rfl
        refine lv_iconst (v := 0) hx hb dX8_isUnder_32 (by decide) ?_
        exact hret 0 σ τ _ _ _ _ rfl ⟨⟨rfl, rfl⟩, trivial⟩ hP hS dX8_isUnder_33
      · have kc9 := jnle c9 jz_7 rfl
        refine lv_iload_n hx hb dX8_isUnder_10 rfl (lv_at hl 1 rfl) ?_
        refine lv_if_lt (tgt := 32) hx hb dX8_isUnder_11 (by decide) (fun c10 => ?_) (fun c10 => ?_)
        · have kc10 := jlt c10 rfl jz_0
          refine lv_iconst (v := 0) hx hb dX8_isUnder_32 (by decide) ?_
          exact hret 0 σ τ _ _ _ _ rfl ⟨⟨rfl, rfl⟩, trivial⟩ hP hS dX8_isUnder_33
        · have kc10 := jnlt c10 rfl jz_0
          refine lv_iload_n hx hb dX8_isUnder_14 rfl (lv_at hl 1 rfl) ?_
          refine lv_iload_n hx hb dX8_isUnder_15 rfl (lv_at hl 3 rfl) ?_
          refine lv_icmp_ne (tgt := 21) hx hb dX8_isUnder_16 (by decide) (fun c11 => ?_) (fun c11 => ?_)
          · have kc11 := jne c11 rfl t2
            refine lv_iload_n hx hb dX8_isUnder_21 rfl (lv_at hl 1 rfl) ?_
            refine jcallS (As := [.int x3]) (rest := []) ⟨hx, hb, hml, hown, hts⟩ hK hP hA hS hZ (c_X8_above l D cI cL ad zz hJ σ τ x3 (x3.toInt) rfl) cw_RX8_28 ⟨Nat.le_of_ble_eq_true rfl, Nat.le_of_ble_eq_true rfl⟩ rfl rfl rfl hl.1 rfl (Nat.le_of_ble_eq_true rfl) dX8_isUnder_22 ⟨Nat.zero_le _, Nat.zero_le _⟩ (fun r13 σ12 τ12 H locs h12 hP hS => ?_)
            obtain ⟨⟨rfl, rfl⟩, h12⟩ := h12
            refine lv_istore_n (lv' := [(2, .int r13), (3, .int x4), (0, .int a1), (1, .int a2)]) hx hb dX8_isUnder_25 rfl hl (by decide) rfl (fun ls hl => ?_)
            obtain ⟨x14, ex14⟩ : ∃ y : Int32, y = x4 + 1 := ⟨_, rfl⟩
            have tx14 : x14.toInt = x4.toInt + 1 := (jadd ex14 rfl jz_1 (by omega) (by omega)).trans (by omega)
            refine lv_iinc (v := x14) (lv' := [(3, .int x14), (2, .int r13), (0, .int a1), (1, .int a2)]) hx hb dX8_isUnder_26 hl (k := 1) rfl (by rw [ex14]; rfl) (by decide) rfl (fun ls hl => ?_)
            refine lv_goto (tgt := 4) hx hb dX8_isUnder_29 (by decide) ?_
            exact ihlp1 r13 x14 _ _ ls (by have h91 := tx14; omega) (by have h91 := tx14; omega) (by have h91 := tx14; omega)    hP hS (lv_sub hl [0, 1, 2, 3] rfl)
          · have kc11 := jeq c11 rfl t2
            refine lv_iconst (v := 1) hx hb dX8_isUnder_19 (by decide) ?_
            exact hret 1 σ τ _ _ _ _ rfl ⟨⟨rfl, rfl⟩, trivial⟩ hP hS dX8_isUnder_20
  exact lp1 1000000 a1 0 _ _ ls (by have h90 := t1; have h91 := jz_0; omega) (by have h90 := t1; have h91 := jz_0; omega) (by have h90 := t1; have h91 := jz_0; omega)   hP hS hl
set_option maxHeartbeats 4000000 in
set_option maxRecDepth 100000 in
theorem c_X8_make_38 (l : Launch) (D : va_G) (cI cL : ClassId) (ad zz : Nat → Nat) (hJ : jD ad) (σ : Nat → Nat → Int32) (τ : Nat → Nat → Int64) (a1 : Int32) (A1 : Int) (t1 : a1.toInt = A1) (a2 : Int32) (A2 : Int) (t2 : a2.toInt = A2) (a3 : Int32) (A3 : Int) (t3 : a3.toInt = A3) (hI38 : jI38 σ) (hp0 : 0 ≤ A1 ∧ A1 ≤ 6) : jM l yX8_make cX8_make 4 (some .int) ({ frames := 0, cells := 0, slots := 0, locals := 0 }) D cI cL ad zz [.ref (ad 38), .int a1, .int a2, .int a3] σ τ (fun r σ' τ' => τ = τ' ∧ (∀ i : Nat, (i < 38 ∨ 41 < i) → σ' i = σ i) ∧ (∀ k : Nat, (k < 0 ∨ 0 < k) → σ' 38 k = σ 38 k) ∧ (jI38 σ') ∧ True) := by
  refine jM.of hJ (by decide +kernel) (nt := .int) rfl (Nat.le_of_ble_eq_true rfl) ?_
  intro p e s m args below meth c Q ls hC hret hl hP
  obtain ⟨hx, hb, hr, hml, hown, hts, hK, -, hlocks, hZ⟩ := hC
  have hown : s.vm.findClass RX8 = some m.cls := hown
  have hS : va_S (jA ad) s.heap s.heap [] := va_S.rf
  have hA : ∀ q, jA ad q → jA ad q := fun _ h => h
  have hl : lv_has ls 4 [(0, .ref (ad 38)), (1, .int a1), (2, .int a2), (3, .int a3)] := hl
  have g1 := jrg t1
  have g2 := jrg t2
  have g3 := jrg t3
  obtain ⟨i1, i2, w3⟩ : (0 ≤ (σ 38 0).toInt ∧ (σ 38 0).toInt ≤ 20) ∧ (0 ≤ (σ 38 1).toInt ∧ (σ 38 1).toInt ≤ 1000) ∧ (∀ k : Nat, k < 20 → 0 ≤ (σ 39 k).toInt ∧ (σ 39 k).toInt ≤ 6) := id hI38
  refine lv_aload_n hx hb dX8_make_0 rfl (lv_at hl 0 rfl) ?_
  refine va_get (D := D) hx hb hts inlX8 hown hK hP 38 (jc_38 cI cL ad σ τ) rfl 0 (by decide) (hts _ kw_24_17) (fun _ h9 => h9) rfl dX8_make_1 ?_
  refine lv_bipush (v := 20) hx hb dX8_make_4 (by decide) ?_
  refine lv_icmp_lt (tgt := 12) hx hb dX8_make_6 (by decide) (fun c4 => ?_) (fun c4 => ?_)
  · have kc4 := jlt c4 rfl jz_20
    refine lv_aload_n hx hb dX8_make_12 rfl (lv_at hl 0 rfl) ?_
    refine va_get (D := D) hx hb hts inlX8 hown hK hP 38 (jc_38 cI cL ad σ τ) rfl 2 (by decide) (hts _ kw_5_15) (fun _ h9 => h9) rfl dX8_make_13 ?_
    refine lv_aload_n hx hb dX8_make_16 rfl (lv_at hl 0 rfl) ?_
    refine va_get (D := D) hx hb hts inlX8 hown hK hP 38 (jc_38 cI cL ad σ τ) rfl 0 (by decide) (hts _ kw_24_17) (fun _ h9 => h9) rfl dX8_make_17 ?_
    refine lv_iload_n hx hb dX8_make_20 rfl (lv_at hl 1 rfl) ?_
    refine jast hx hb hK hP hJ hA hS (jc_39 cI cL ad σ τ) (ja_39 cI cL ad σ τ _ _) (jin rfl (by omega) (by omega)) dX8_make_21 (fun σ5 H locs eσ5 hP hS => ?_)
    refine lv_aload_n hx hb dX8_make_22 rfl (lv_at hl 0 rfl) ?_
    refine va_get (D := D) hx hb hts inlX8 hown hK hP 38 (jc_38 cI cL ad σ5 τ) rfl 3 (by decide) (hts _ kw_5_16) (fun _ h9 => h9) rfl dX8_make_23 ?_
    refine lv_aload_n hx hb dX8_make_26 rfl (lv_at hl 0 rfl) ?_
    refine va_get (D := D) hx hb hts inlX8 hown hK hP 38 (jc_38 cI cL ad σ5 τ) rfl 0 (by decide) (hts _ kw_24_17) (fun _ h9 => h9) rfl dX8_make_27 ?_
    have m6 : σ5 38 0 = (σ 38 0) := (by rw [eσ5, jup_n (by decide)])
    refine jtopr m6 ?_
    refine lv_iload_n hx hb dX8_make_30 rfl (lv_at hl 2 rfl) ?_
    refine jast hx hb hK hP hJ hA hS (jc_40 cI cL ad σ5 τ) (ja_40 cI cL ad σ5 τ _ _) (jin rfl (by omega) (by omega)) dX8_make_31 (fun σ7 H locs eσ7 hP hS => ?_)
    refine lv_aload_n hx hb dX8_make_32 rfl (lv_at hl 0 rfl) ?_
    refine va_get (D := D) hx hb hts inlX8 hown hK hP 38 (jc_38 cI cL ad σ7 τ) rfl 4 (by decide) (hts _ kw_5_17) (fun _ h9 => h9) rfl dX8_make_33 ?_
    refine lv_aload_n hx hb dX8_make_36 rfl (lv_at hl 0 rfl) ?_
    refine va_get (D := D) hx hb hts inlX8 hown hK hP 38 (jc_38 cI cL ad σ7 τ) rfl 0 (by decide) (hts _ kw_24_17) (fun _ h9 => h9) rfl dX8_make_37 ?_
    have m8 : σ7 38 0 = (σ 38 0) := (by rw [eσ7, jup_n (by decide)]; exact m6)
    refine jtopr m8 ?_
    refine lv_iload_n hx hb dX8_make_40 rfl (lv_at hl 3 rfl) ?_
    refine jast hx hb hK hP hJ hA hS (jc_41 cI cL ad σ7 τ) (ja_41 cI cL ad σ7 τ _ _) (jin rfl (by omega) (by omega)) dX8_make_41 (fun σ9 H locs eσ9 hP hS => ?_)
    refine lv_aload_n hx hb dX8_make_42 rfl (lv_at hl 0 rfl) ?_
    refine lv_dup hx hb dX8_make_43 rfl ?_
    refine va_get (D := D) hx hb hts inlX8 hown hK hP 38 (jc_38 cI cL ad σ9 τ) rfl 0 (by decide) (hts _ kw_24_17) (fun _ h9 => h9) rfl dX8_make_44 ?_
    have m10 : σ9 38 0 = (σ 38 0) := (by rw [eσ9, jup_n (by decide)]; exact m8)
    refine jtopr m10 ?_
    refine lv_dup_x1 hx hb dX8_make_47 rfl rfl ?_
    refine lv_iconst (v := 1) hx hb dX8_make_48 (by decide) ?_
    have g11 := jrg (rfl : (σ 38 0).toInt = (σ 38 0).toInt)
    refine lv_iadd hx hb dX8_make_49 ?_
    refine lv_topi (fun x12 ex12 => ?_)
    have tx12 : x12.toInt = (σ 38 0).toInt + 1 := (jadd ex12 rfl jz_1 (by omega) (by omega)).trans (by omega)
    refine jput (ty := .int) hx hb hts inlX8 tyX8 tyX8_ok nmX8 hown hK hP hJ hA hS (jc_38 cI cL ad σ9 τ) rfl (k := 0) (by decide) (Nat.le_of_ble_eq_true rfl) (jp_38_0 cI cL ad σ9 τ x12) (hts _ kw_24_17) (fun _ h9 => h9) rfl (by decide +kernel) rfl rfl dX8_make_50 (fun σ13 H locs eσ13 hP hS => ?_)
    have z14 : (σ13 38 0).toInt = (σ 38 0).toInt + 1 := by rw [(show σ13 38 0 = x12 from (by rw [eσ13]; exact jup_s))]; exact tx12
    have z15 : (σ13 38 1).toInt = (σ 38 1).toInt := by rw [(show σ13 38 1 = (σ 38 1) from (by rw [eσ13, jup_k (by decide)]; exact (by rw [eσ9, jup_n (by decide)]; exact (by rw [eσ7, jup_n (by decide)]; exact (by rw [eσ5, jup_n (by decide)])))))]
    have w16 : ∀ k : Nat, k < 20 → 0 ≤ (σ13 39 k).toInt ∧ (σ13 39 k).toInt ≤ 6 := (by rw [eσ13, jup_n (by decide)]; exact (by rw [eσ9, jup_n (by decide)]; exact (by rw [eσ7, jup_n (by decide)]; exact (by rw [eσ5]; exact jrr_up w3 (by have h9 := t1; omega) (by have h9 := t1; omega)))))
    have I17 : jI38 σ13 := ⟨(by omega), (by omega), w16⟩
    exact hret (σ 38 0) σ13 τ _ _ _ _ rfl ⟨rfl, (fun i hi => by rw [eσ13, jup_n (by omega), eσ9, jup_n (by omega), eσ7, jup_n (by omega), eσ5, jup_n (by omega)]), (fun k hk => by rw [eσ13, jup_k (by omega), eσ9, jup_n (by decide), eσ7, jup_n (by decide), eσ5, jup_n (by decide)]), I17, trivial⟩ hP hS dX8_make_53
  · have kc4 := jnlt c4 rfl jz_20
    refine lv_bipush (v := (-3)) hx hb dX8_make_9 (by decide) ?_
    have I18 : jI38 σ := ⟨(by omega), (by omega), w3⟩
    exact hret (-3) σ τ _ _ _ _ rfl ⟨rfl, (fun _ _ => rfl), (fun _ _ => rfl), I18, trivial⟩ hP hS dX8_make_11
set_option maxHeartbeats 4000000 in
set_option maxRecDepth 100000 in
theorem c_X8_kindOf_38 (l : Launch) (D : va_G) (cI cL : ClassId) (ad zz : Nat → Nat) (hJ : jD ad) (σ : Nat → Nat → Int32) (τ : Nat → Nat → Int64) (a1 : Int32) (A1 : Int) (t1 : a1.toInt = A1) (hI38 : jI38 σ) : jM l yX8_kindOf cX8_kindOf 2 (some .int) ({ frames := 0, cells := 0, slots := 0, locals := 0 }) D cI cL ad zz [.ref (ad 38), .int a1] σ τ (fun r σ' τ' => (σ = σ' ∧ τ = τ') ∧ ((True ∧ (0 ≤ r.toInt ∧ r.toInt ≤ 6)))) := by
  refine jM.of hJ (by decide +kernel) (nt := .int) rfl (Nat.le_of_ble_eq_true rfl) ?_
  intro p e s m args below meth c Q ls hC hret hl hP
  obtain ⟨hx, hb, hr, hml, hown, hts, hK, -, hlocks, hZ⟩ := hC
  have hown : s.vm.findClass RX8 = some m.cls := hown
  have hS : va_S (jA ad) s.heap s.heap [] := va_S.rf
  have hA : ∀ q, jA ad q → jA ad q := fun _ h => h
  have hl : lv_has ls 2 [(0, .ref (ad 38)), (1, .int a1)] := hl
  have g1 := jrg t1
  obtain ⟨i1, i2, w3⟩ : (0 ≤ (σ 38 0).toInt ∧ (σ 38 0).toInt ≤ 20) ∧ (0 ≤ (σ 38 1).toInt ∧ (σ 38 1).toInt ≤ 1000) ∧ (∀ k : Nat, k < 20 → 0 ≤ (σ 39 k).toInt ∧ (σ 39 k).toInt ≤ 6) := id hI38
  refine lv_iload_n hx hb dX8_kindOf_0 rfl (lv_at hl 1 rfl) ?_
  refine lv_if_lt (tgt := 12) hx hb dX8_kindOf_1 (by decide) (fun c4 => ?_) (fun c4 => ?_)
  · have kc4 := jlt c4 t1 jz_0
    refine lv_iconst (v := 0) hx hb dX8_kindOf_12 (by decide) ?_
    refine lv_goto (tgt := 22) hx hb dX8_kindOf_13 (by decide) ?_
    exact hret 0 σ τ _ _ _ _ rfl ⟨⟨rfl, rfl⟩, ⟨trivial, (by have h9 := jz_0; omega)⟩⟩ hP hS dX8_kindOf_22
  · have kc4 := jnlt c4 t1 jz_0
    refine lv_iload_n hx hb dX8_kindOf_4 rfl (lv_at hl 1 rfl) ?_
    refine lv_aload_n hx hb dX8_kindOf_5 rfl (lv_at hl 0 rfl) ?_
    refine va_get (D := D) hx hb hts inlX8 hown hK hP 38 (jc_38 cI cL ad σ τ) rfl 0 (by decide) (hts _ kw_24_17) (fun _ h9 => h9) rfl dX8_kindOf_6 ?_
    refine lv_icmp_lt (tgt := 16) hx hb dX8_kindOf_9 (by decide) (fun c5 => ?_) (fun c5 => ?_)
    · have kc5 := jlt c5 t1 rfl
      refine lv_aload_n hx hb dX8_kindOf_16 rfl (lv_at hl 0 rfl) ?_
      refine va_get (D := D) hx hb hts inlX8 hown hK hP 38 (jc_38 cI cL ad σ τ) rfl 2 (by decide) (hts _ kw_5_15) (fun _ h9 => h9) rfl dX8_kindOf_17 ?_
      refine lv_iload_n hx hb dX8_kindOf_20 rfl (lv_at hl 1 rfl) ?_
      refine jald hx hb hK hP (jc_39 cI cL ad σ τ) (jin t1 (by omega) (by omega)) dX8_kindOf_21 ?_
      have g6 := w3 _ (jnat (x := a1) t1 (n := 20) (by omega) (by decide))
      refine lv_topi (fun x7 ex7 => ?_)
      rw [← ex7] at g6
      exact hret x7 σ τ _ _ _ _ rfl ⟨⟨rfl, rfl⟩, ⟨trivial, (by omega)⟩⟩ hP hS dX8_kindOf_22
    · have kc5 := jnlt c5 t1 rfl
      refine lv_iconst (v := 0) hx hb dX8_kindOf_12 (by decide) ?_
      refine lv_goto (tgt := 22) hx hb dX8_kindOf_13 (by decide) ?_
      exact hret 0 σ τ _ _ _ _ rfl ⟨⟨rfl, rfl⟩, ⟨trivial, (by have h9 := jz_0; omega)⟩⟩ hP hS dX8_kindOf_22
set_option maxHeartbeats 4000000 in
set_option maxRecDepth 100000 in
theorem c_X8_numberOf_38 (l : Launch) (D : va_G) (cI cL : ClassId) (ad zz : Nat → Nat) (hJ : jD ad) (σ : Nat → Nat → Int32) (τ : Nat → Nat → Int64) (a1 : Int32) (A1 : Int) (t1 : a1.toInt = A1) (hI38 : jI38 σ) : jM l yX8_numberOf cX8_numberOf 2 (some .int) ({ frames := 0, cells := 0, slots := 0, locals := 0 }) D cI cL ad zz [.ref (ad 38), .int a1] σ τ (fun r σ' τ' => (σ = σ' ∧ τ = τ') ∧ True) := by
  refine jM.of hJ (by decide +kernel) (nt := .int) rfl (Nat.le_of_ble_eq_true rfl) ?_
  intro p e s m args below meth c Q ls hC hret hl hP
  obtain ⟨hx, hb, hr, hml, hown, hts, hK, -, hlocks, hZ⟩ := hC
  have hown : s.vm.findClass RX8 = some m.cls := hown
  have hS : va_S (jA ad) s.heap s.heap [] := va_S.rf
  have hA : ∀ q, jA ad q → jA ad q := fun _ h => h
  have hl : lv_has ls 2 [(0, .ref (ad 38)), (1, .int a1)] := hl
  have g1 := jrg t1
  obtain ⟨i1, i2, w3⟩ : (0 ≤ (σ 38 0).toInt ∧ (σ 38 0).toInt ≤ 20) ∧ (0 ≤ (σ 38 1).toInt ∧ (σ 38 1).toInt ≤ 1000) ∧ (∀ k : Nat, k < 20 → 0 ≤ (σ 39 k).toInt ∧ (σ 39 k).toInt ≤ 6) := id hI38
  refine lv_iload_n hx hb dX8_numberOf_0 rfl (lv_at hl 1 rfl) ?_
  refine lv_if_lt (tgt := 12) hx hb dX8_numberOf_1 (by decide) (fun c4 => ?_) (fun c4 => ?_)
  · have kc4 := jlt c4 t1 jz_0
    refine lv_iconst (v := 0) hx hb dX8_numberOf_12 (by decide) ?_
    refine lv_goto (tgt := 22) hx hb dX8_numberOf_13 (by decide) ?_
    exact hret 0 σ τ _ _ _ _ rfl ⟨⟨rfl, rfl⟩, trivial⟩ hP hS dX8_numberOf_22
  · have kc4 := jnlt c4 t1 jz_0
    refine lv_iload_n hx hb dX8_numberOf_4 rfl (lv_at hl 1 rfl) ?_
    refine lv_aload_n hx hb dX8_numberOf_5 rfl (lv_at hl 0 rfl) ?_
    refine va_get (D := D) hx hb hts inlX8 hown hK hP 38 (jc_38 cI cL ad σ τ) rfl 0 (by decide) (hts _ kw_24_17) (fun _ h9 => h9) rfl dX8_numberOf_6 ?_
    refine lv_icmp_lt (tgt := 16) hx hb dX8_numberOf_9 (by decide) (fun c5 => ?_) (fun c5 => ?_)
    · have kc5 := jlt c5 t1 rfl
      refine lv_aload_n hx hb dX8_numberOf_16 rfl (lv_at hl 0 rfl) ?_
      refine va_get (D := D) hx hb hts inlX8 hown hK hP 38 (jc_38 cI cL ad σ τ) rfl 4 (by decide) (hts _ kw_5_17) (fun _ h9 => h9) rfl dX8_numberOf_17 ?_
      refine lv_iload_n hx hb dX8_numberOf_20 rfl (lv_at hl 1 rfl) ?_
      refine jald hx hb hK hP (jc_41 cI cL ad σ τ) (jin t1 (by omega) (by omega)) dX8_numberOf_21 ?_
      refine lv_topi (fun x6 ex6 => ?_)
      exact hret x6 σ τ _ _ _ _ rfl ⟨⟨rfl, rfl⟩, trivial⟩ hP hS dX8_numberOf_22
    · have kc5 := jnlt c5 t1 rfl
      refine lv_iconst (v := 0) hx hb dX8_numberOf_12 (by decide) ?_
      refine lv_goto (tgt := 22) hx hb dX8_numberOf_13 (by decide) ?_
      exact hret 0 σ τ _ _ _ _ rfl ⟨⟨rfl, rfl⟩, trivial⟩ hP hS dX8_numberOf_22
set_option maxHeartbeats 4000000 in
set_option maxRecDepth 100000 in
theorem c_X8_turnOf_38 (l : Launch) (D : va_G) (cI cL : ClassId) (ad zz : Nat → Nat) (hJ : jD ad) (σ : Nat → Nat → Int32) (τ : Nat → Nat → Int64) (a1 : Int32) (A1 : Int) (t1 : a1.toInt = A1) (a2 : Int32) (A2 : Int) (t2 : a2.toInt = A2) (hI38 : jI38 σ) : jM l yX8_turnOf cX8_turnOf 6 (some .int) ({ frames := 0, cells := 0, slots := 0, locals := 0 }) D cI cL ad zz [.ref (ad 38), .int a1, .int a2] σ τ (fun r σ' τ' => (σ = σ' ∧ τ = τ') ∧ True) := by
  refine jM.of hJ (by decide +kernel) (nt := .int) rfl (Nat.le_of_ble_eq_true rfl) ?_
  intro p e s m args below meth c Q ls hC hret hl hP
  obtain ⟨hx, hb, hr, hml, hown, hts, hK, -, hlocks, hZ⟩ := hC
  have hown : s.vm.findClass RX8 = some m.cls := hown
  have hS : va_S (jA ad) s.heap s.heap [] := va_S.rf
  have hA : ∀ q, jA ad q → jA ad q := fun _ h => h
  have hl : lv_has ls 6 [(0, .ref (ad 38)), (1, .int a1), (2, .int a2)] := hl
  have g1 := jrg t1
  have g2 := jrg t2
  obtain ⟨i1, i2, w3⟩ : (0 ≤ (σ 38 0).toInt ∧ (σ 38 0).toInt ≤ 20) ∧ (0 ≤ (σ 38 1).toInt ∧ (σ 38 1).toInt ≤ 1000) ∧ (∀ k : Nat, k < 20 → 0 ≤ (σ 39 k).toInt ∧ (σ 39 k).toInt ≤ 6) := id hI38
  refine lv_iload_n hx hb dX8_turnOf_0 rfl (lv_at hl 1 rfl) ?_
  refine lv_if_lt (tgt := 25) hx hb dX8_turnOf_1 (by decide) (fun c4 => ?_) (fun c4 => ?_)
  · have kc4 := jlt c4 t1 jz_0
    refine lv_iconst (v := (-1)) hx hb dX8_turnOf_25 (by decide) ?_
    exact hret (-1) σ τ _ _ _ _ rfl ⟨⟨rfl, rfl⟩, trivial⟩ hP hS dX8_turnOf_26
  · have kc4 := jnlt c4 t1 jz_0
    refine lv_iload_n hx hb dX8_turnOf_4 rfl (lv_at hl 1 rfl) ?_
    refine lv_aload_n hx hb dX8_turnOf_5 rfl (lv_at hl 0 rfl) ?_
    refine va_get (D := D) hx hb hts inlX8 hown hK hP 38 (jc_38 cI cL ad σ τ) rfl 0 (by decide) (hts _ kw_24_17) (fun _ h9 => h9) rfl dX8_turnOf_6 ?_
    refine lv_icmp_ge (tgt := 25) hx hb dX8_turnOf_9 (by decide) (fun c5 => ?_) (fun c5 => ?_)
    · have kc5 := jle c5 rfl t1
      refine lv_iconst (v := (-1)) hx hb dX8_turnOf_25 (by decide) ?_
      exact hret (-1) σ τ _ _ _ _ rfl ⟨⟨rfl, rfl⟩, trivial⟩ hP hS dX8_turnOf_26
    · have kc5 := jnle c5 rfl t1
      refine lv_aload_n hx hb dX8_turnOf_12 rfl (lv_at hl 0 rfl) ?_
      refine va_get (D := D) hx hb hts inlX8 hown hK hP 38 (jc_38 cI cL ad σ τ) rfl 3 (by decide) (hts _ kw_5_16) (fun _ h9 => h9) rfl dX8_turnOf_13 ?_
      refine lv_iload_n hx hb dX8_turnOf_16 rfl (lv_at hl 1 rfl) ?_
      refine jald hx hb hK hP (jc_40 cI cL ad σ τ) (jin t1 (by omega) (by omega)) dX8_turnOf_17 ?_
      refine lv_topi (fun x6 ex6 => ?_)
      refine lv_if_le (tgt := 25) hx hb dX8_turnOf_18 (by decide) (fun c7 => ?_) (fun c7 => ?_)
      · have kc7 := jle c7 rfl jz_0
        refine lv_iconst (v := (-1)) hx hb dX8_turnOf_25 (by decide) ?_
        exact hret (-1) σ τ _ _ _ _ rfl ⟨⟨rfl, rfl⟩, trivial⟩ hP hS dX8_turnOf_26
      · have kc7 := jnle c7 rfl jz_0
        refine lv_iload_n hx hb dX8_turnOf_21 rfl (lv_at hl 2 rfl) ?_
        refine lv_if_ge (tgt := 27) hx hb dX8_turnOf_22 (by decide) (fun c8 => ?_) (fun c8 => ?_)
        · have kc8 := jle c8 jz_0 t2
          refine lv_iconst (v := 0) hx hb dX8_turnOf_27 (by decide) ?_
          refine lv_istore_n (lv' := [(3, .int 0), (0, .ref (ad 38)), (1, .int a1), (2, .int a2)]) hx hb dX8_turnOf_28 rfl hl (by decide) rfl (fun ls hl => ?_)
          refine lv_aload_n hx hb dX8_turnOf_29 rfl (lv_at hl 1 rfl) ?_
          refine va_get (D := D) hx hb hts inlX8 hown hK hP 38 (jc_38 cI cL ad σ τ) rfl 3 (by decide) (hts _ kw_5_16) (fun _ h9 => h9) rfl dX8_turnOf_30 ?_
          refine lv_iload_n hx hb dX8_turnOf_33 rfl (lv_at hl 2 rfl) ?_
          refine jald hx hb hK hP (jc_40 cI cL ad σ τ) (jin t1 (by omega) (by omega)) dX8_turnOf_34 ?_
          refine lv_topi (fun x9 ex9 => ?_)
          refine lv_istore (lv' := [(4, .int x9), (3, .int 0), (0, .ref (ad 38)), (1, .int a1), (2, .int a2)]) hx hb dX8_turnOf_35 hl (by decide) rfl (fun ls hl => ?_)
          have lp10 : ∀ (n11 : Nat) (x12 : Int32) (x13 : Int32) (H : Heap) (locs : List Loc) (ls : Array Slot), (-x12.toInt + 8 : Int) < n11 → 0 ≤ x12.toInt → x12.toInt ≤ 8 → jH D cI cL ad σ τ H → va_S (jA ad) s.heap H locs → lv_has ls 6 [(4, .int x13), (3, .int x12), (0, .ref (ad 38)), (1, .int a1), (2, .int a2)] → W p l e ({ frames := 0, cells := 0, slots := 0, locals := 0 }) s m args below meth c H locs 0 0 Q (F0 m 37 ls []) := by
            intro n11
            induction n11 with
            | zero => intro x12 x13 H locs ls h14 h15 h16; have gx13 := jrg (rfl : x13.toInt = x13.toInt); exact absurd h14 (by omega)
            | succ n11 ihlp10 =>
              intro x12 x13 H locs ls h14 h15 h16 hP hS hl
              have gx13 := jrg (rfl : x13.toInt = x13.toInt)
              refine lv_iload hx hb dX8_turnOf_37 (lv_at hl 0 rfl) ?_
              refine lv_if_le (tgt := 61) hx hb dX8_turnOf_39 (by decide) (fun c18 => ?_) (fun c18 => ?_)
              · have kc18 := jle c18 rfl jz_0
                refine lv_aload_n hx hb dX8_turnOf_61 rfl (lv_at hl 2 rfl) ?_
                refine va_get (D := D) hx hb hts inlX8 hown hK hP 38 (jc_38 cI cL ad σ τ) rfl 3 (by decide) (hts _ kw_5_16) (fun _ h9 => h9) rfl dX8_turnOf_62 ?_
                refine lv_iload_n hx hb dX8_turnOf_65 rfl (lv_at hl 3 rfl) ?_
                refine jald hx hb hK hP (jc_40 cI cL ad σ τ) (jin t1 (by omega) (by omega)) dX8_turnOf_66 ?_
                refine lv_topi (fun x19 ex19 => ?_)
                refine lv_istore (lv' := [(4, .int x19), (3, .int x12), (0, .ref (ad 38)), (1, .int a1), (2, .int a2)]) hx hb dX8_turnOf_67 hl (by decide) rfl (fun ls hl => ?_)
                refine lv_iload_n hx hb dX8_turnOf_69 rfl (lv_at hl 1 rfl) ?_
                refine lv_if_ne (tgt := 75) hx hb dX8_turnOf_70 (by decide) (fun c20 => ?_) (fun c20 => ?_)
                · have kc20 := jne c20 rfl jz_0
                  refine lv_iload_n hx hb dX8_turnOf_75 rfl (lv_at hl 1 rfl) ?_
                  refine lv_iconst (v := 1) hx hb dX8_turnOf_76 (by decide) ?_
                  have g21 := jrg (rfl : x12.toInt = x12.toInt)
                  refine lv_isub hx hb dX8_turnOf_77 ?_
                  refine lv_topi (fun x22 ex22 => ?_)
                  have tx22 : x22.toInt = x12.toInt - 1 := (jsub ex22 rfl jz_1 (by omega) (by omega)).trans (by omega)
                  refine lv_iload_n hx hb dX8_turnOf_78 rfl (lv_at hl 4 rfl) ?_
                  refine lv_iload_n hx hb dX8_turnOf_79 rfl (lv_at hl 1 rfl) ?_
                  refine lv_irem hx hb dX8_turnOf_80 (fun h => absurd (jeq h rfl jz_0) (by omega)) ?_
                  have g23 := jremv (a := a2) (b := x12) t2 rfl (by omega) (by omega)
                  refine lv_topi (fun x24 ex24 => ?_)
                  have tx24 : x24.toInt = (A2 % x12.toInt) := jrem ex24 t2 rfl (by omega)
                  refine lv_isub hx hb dX8_turnOf_81 ?_
                  refine lv_topi (fun x25 ex25 => ?_)
                  have tx25 : x25.toInt = x12.toInt - (A2 % x12.toInt) - 1 := (jsub ex25 tx22 tx24 (by omega) (by omega)).trans (by omega)
                  refine lv_istore (lv' := [(5, .int x25), (4, .int x19), (3, .int x12), (0, .ref (ad 38)), (1, .int a1), (2, .int a2)]) hx hb dX8_turnOf_82 hl (by decide) rfl (fun ls hl => ?_)
                  have lp26 : ∀ (n27 : Nat) (x28 : Int32) (x29 : Int32) (H : Heap) (locs : List Loc) (ls : Array Slot), (x29.toInt + 2147483648 : Int) < n27 → jH D cI cL ad σ τ H → va_S (jA ad) s.heap H locs → lv_has ls 6 [(5, .int x29), (4, .int x28), (3, .int x12), (0, .ref (ad 38)), (1, .int a1), (2, .int a2)] → W p l e ({ frames := 0, cells := 0, slots := 0, locals := 0 }) s m args below meth c H locs 0 0 Q (F0 m 84 ls []) := by
                    intro n27
                    induction n27 with
                    | zero => intro x28 x29 H locs ls h30; have gx28 := jrg (rfl : x28.toInt = x28.toInt); have gx29 := jrg (rfl : x29.toInt = x29.toInt); exact absurd h30 (by omega)
                    | succ n27 ihlp26 =>
                      intro x28 x29 H locs ls h30 hP hS hl
                      have gx28 := jrg (rfl : x28.toInt = x28.toInt); have gx29 := jrg (rfl : x29.toInt = x29.toInt)
                      refine lv_iload hx hb dX8_turnOf_84 (lv_at hl 0 rfl) ?_
                      refine lv_if_le (tgt := 102) hx hb dX8_turnOf_86 (by decide) (fun c32 => ?_) (fun c32 => ?_)
                      · have kc32 := jle c32 rfl jz_0
                        refine lv_iload hx hb dX8_turnOf_102 (lv_at hl 1 rfl) ?_
                        refine lv_bipush (v := 10) hx hb dX8_turnOf_104 (by decide) ?_
                        refine lv_irem hx hb dX8_turnOf_106 (by decide) ?_
                        refine lv_topi (fun x33 ex33 => ?_)
                        have gx33 := jrg (rfl : x33.toInt = x33.toInt)
                        refine lv_iconst (v := 1) hx hb dX8_turnOf_107 (by decide) ?_
                        have g34 := jrg (rfl : x33.toInt = x33.toInt)
                        refine lv_isub hx hb dX8_turnOf_108 ?_
                        refine lv_topi (fun x35 ex35 => ?_)
                        have gx35 := jrg (rfl : x35.toInt = x35.toInt)
                        exact hret x35 σ τ _ _ _ _ rfl ⟨⟨rfl, rfl⟩, trivial⟩ hP hS dX8_turnOf_109
                      · have kc32 := jnle c32 rfl jz_0
                        refine lv_iload hx hb dX8_turnOf_89 (lv_at hl 1 rfl) ?_
                        refine lv_bipush (v := 10) hx hb dX8_turnOf_91 (by decide) ?_
                        refine lv_idiv hx hb dX8_turnOf_93 (by decide) ?_
                        refine lv_topi (fun x36 ex36 => ?_)
                        have gx36 := jrg (rfl : x36.toInt = x36.toInt)
                        refine lv_istore (lv' := [(4, .int x36), (5, .int x29), (3, .int x12), (0, .ref (ad 38)), (1, .int a1), (2, .int a2)]) hx hb dX8_turnOf_94 hl (by decide) rfl (fun ls hl => ?_)
                        obtain ⟨x37, ex37⟩ : ∃ y : Int32, y = x29 + (-1) := ⟨_, rfl⟩
                        have tx37 : x37.toInt = x29.toInt - 1 := (jadd ex37 rfl jz_m1 (by omega) (by omega)).trans (by omega)
                        refine lv_iinc (v := x37) (lv' := [(5, .int x37), (4, .int x36), (3, .int x12), (0, .ref (ad 38)), (1, .int a1), (2, .int a2)]) hx hb dX8_turnOf_96 hl (k := 1) rfl (by rw [ex37]; rfl) (by decide) rfl (fun ls hl => ?_)
                        refine lv_goto (tgt := 84) hx hb dX8_turnOf_99 (by decide) ?_
                        exact ihlp26 x36 x37 _ _ ls (by have h91 := tx37; omega)    hP hS (lv_sub hl [0, 1, 2, 3, 4, 5] rfl)
                  exact lp26 4294967297 x19 x25 _ _ ls (by have h91 := tx25; omega)   hP hS hl
                · have kc20 := jeq c20 rfl jz_0
                  refine lv_iconst (v := (-1)) hx hb dX8_turnOf_73 (by decide) ?_
                  exact hret (-1) σ τ _ _ _ _ rfl ⟨⟨rfl, rfl⟩, trivial⟩ hP hS dX8_turnOf_74
              · have kc18 := jnle c18 rfl jz_0
                refine lv_iload_n hx hb dX8_turnOf_42 rfl (lv_at hl 1 rfl) ?_
                refine lv_bipush (v := 8) hx hb dX8_turnOf_43 (by decide) ?_
                refine lv_icmp_ge (tgt := 61) hx hb dX8_turnOf_45 (by decide) (fun c38 => ?_) (fun c38 => ?_)
                · have kc38 := jle c38 jz_8 rfl
                  refine lv_aload_n hx hb dX8_turnOf_61 rfl (lv_at hl 2 rfl) ?_
                  refine va_get (D := D) hx hb hts inlX8 hown hK hP 38 (jc_38 cI cL ad σ τ) rfl 3 (by decide) (hts _ kw_5_16) (fun _ h9 => h9) rfl dX8_turnOf_62 ?_
                  refine lv_iload_n hx hb dX8_turnOf_65 rfl (lv_at hl 3 rfl) ?_
                  refine jald hx hb hK hP (jc_40 cI cL ad σ τ) (jin t1 (by omega) (by omega)) dX8_turnOf_66 ?_
                  refine lv_topi (fun x39 ex39 => ?_)
                  refine lv_istore (lv' := [(4, .int x39), (3, .int x12), (0, .ref (ad 38)), (1, .int a1), (2, .int a2)]) hx hb dX8_turnOf_67 hl (by decide) rfl (fun ls hl => ?_)
                  refine lv_iload_n hx hb dX8_turnOf_69 rfl (lv_at hl 1 rfl) ?_
                  refine lv_if_ne (tgt := 75) hx hb dX8_turnOf_70 (by decide) (fun c40 => ?_) (fun c => absurd (jeq c rfl jz_0) (by omega))
                  have kc40 := jne c40 rfl jz_0
                  refine lv_iload_n hx hb dX8_turnOf_75 rfl (lv_at hl 1 rfl) ?_
                  refine lv_iconst (v := 1) hx hb dX8_turnOf_76 (by decide) ?_
                  have g41 := jrg (rfl : x12.toInt = x12.toInt)
                  refine lv_isub hx hb dX8_turnOf_77 ?_
                  refine lv_topi (fun x42 ex42 => ?_)
                  have tx42 : x42.toInt = x12.toInt - 1 := (jsub ex42 rfl jz_1 (by omega) (by omega)).trans (by omega)
                  refine lv_iload_n hx hb dX8_turnOf_78 rfl (lv_at hl 4 rfl) ?_
                  refine lv_iload_n hx hb dX8_turnOf_79 rfl (lv_at hl 1 rfl) ?_
                  refine lv_irem hx hb dX8_turnOf_80 (fun h => absurd (jeq h rfl jz_0) (by omega)) ?_
                  have g43 := jremv (a := a2) (b := x12) t2 rfl (by omega) (by omega)
                  refine lv_topi (fun x44 ex44 => ?_)
                  have tx44 : x44.toInt = (A2 % x12.toInt) := jrem ex44 t2 rfl (by omega)
                  refine lv_isub hx hb dX8_turnOf_81 ?_
                  refine lv_topi (fun x45 ex45 => ?_)
                  have tx45 : x45.toInt = x12.toInt - (A2 % x12.toInt) - 1 := (jsub ex45 tx42 tx44 (by omega) (by omega)).trans (by omega)
                  refine lv_istore (lv' := [(5, .int x45), (4, .int x39), (3, .int x12), (0, .ref (ad 38)), (1, .int a1), (2, .int a2)]) hx hb dX8_turnOf_82 hl (by decide) rfl (fun ls hl => ?_)
                  have lp46 : ∀ (n47 : Nat) (x48 : Int32) (x49 : Int32) (H : Heap) (locs : List Loc) (ls : Array Slot), (x49.toInt + 2147483648 : Int) < n47 → jH D cI cL ad σ τ H → va_S (jA ad) s.heap H locs → lv_has ls 6 [(5, .int x49), (4, .int x48), (3, .int x12), (0, .ref (ad 38)), (1, .int a1), (2, .int a2)] → W p l e ({ frames := 0, cells := 0, slots := 0, locals := 0 }) s m args below meth c H locs 0 0 Q (F0 m 84 ls []) := by
                    intro n47
                    induction n47 with
                    | zero => intro x48 x49 H locs ls h50; have gx48 := jrg (rfl : x48.toInt = x48.toInt); have gx49 := jrg (rfl : x49.toInt = x49.toInt); exact absurd h50 (by omega)
                    | succ n47 ihlp46 =>
                      intro x48 x49 H locs ls h50 hP hS hl
                      have gx48 := jrg (rfl : x48.toInt = x48.toInt); have gx49 := jrg (rfl : x49.toInt = x49.toInt)
                      refine lv_iload hx hb dX8_turnOf_84 (lv_at hl 0 rfl) ?_
                      refine lv_if_le (tgt := 102) hx hb dX8_turnOf_86 (by decide) (fun c52 => ?_) (fun c52 => ?_)
                      · have kc52 := jle c52 rfl jz_0
                        refine lv_iload hx hb dX8_turnOf_102 (lv_at hl 1 rfl) ?_
                        refine lv_bipush (v := 10) hx hb dX8_turnOf_104 (by decide) ?_
                        refine lv_irem hx hb dX8_turnOf_106 (by decide) ?_
                        refine lv_topi (fun x53 ex53 => ?_)
                        have gx53 := jrg (rfl : x53.toInt = x53.toInt)
                        refine lv_iconst (v := 1) hx hb dX8_turnOf_107 (by decide) ?_
                        have g54 := jrg (rfl : x53.toInt = x53.toInt)
                        refine lv_isub hx hb dX8_turnOf_108 ?_
                        refine lv_topi (fun x55 ex55 => ?_)
                        have gx55 := jrg (rfl : x55.toInt = x55.toInt)
                        exact hret x55 σ τ _ _ _ _ rfl ⟨⟨rfl, rfl⟩, trivial⟩ hP hS dX8_turnOf_109
                      · have kc52 := jnle c52 rfl jz_0
                        refine lv_iload hx hb dX8_turnOf_89 (lv_at hl 1 rfl) ?_
                        refine lv_bipush (v := 10) hx hb dX8_turnOf_91 (by decide) ?_
                        refine lv_idiv hx hb dX8_turnOf_93 (by decide) ?_
                        refine lv_topi (fun x56 ex56 => ?_)
                        have gx56 := jrg (rfl : x56.toInt = x56.toInt)
                        refine lv_istore (lv' := [(4, .int x56), (5, .int x49), (3, .int x12), (0, .ref (ad 38)), (1, .int a1), (2, .int a2)]) hx hb dX8_turnOf_94 hl (by decide) rfl (fun ls hl => ?_)
                        obtain ⟨x57, ex57⟩ : ∃ y : Int32, y = x49 + (-1) := ⟨_, rfl⟩
                        have tx57 : x57.toInt = x49.toInt - 1 := (jadd ex57 rfl jz_m1 (by omega) (by omega)).trans (by omega)
                        refine lv_iinc (v := x57) (lv' := [(5, .int x57), (4, .int x56), (3, .int x12), (0, .ref (ad 38)), (1, .int a1), (2, .int a2)]) hx hb dX8_turnOf_96 hl (k := 1) rfl (by rw [ex57]; rfl) (by decide) rfl (fun ls hl => ?_)
                        refine lv_goto (tgt := 84) hx hb dX8_turnOf_99 (by decide) ?_
                        exact ihlp46 x56 x57 _ _ ls (by have h91 := tx57; omega)    hP hS (lv_sub hl [0, 1, 2, 3, 4, 5] rfl)
                  exact lp46 4294967297 x39 x45 _ _ ls (by have h91 := tx45; omega)   hP hS hl
                · have kc38 := jnle c38 jz_8 rfl
                  obtain ⟨x58, ex58⟩ : ∃ y : Int32, y = x12 + 1 := ⟨_, rfl⟩
                  have tx58 : x58.toInt = x12.toInt + 1 := (jadd ex58 rfl jz_1 (by omega) (by omega)).trans (by omega)
                  refine lv_iinc (v := x58) (lv' := [(3, .int x58), (4, .int x13), (0, .ref (ad 38)), (1, .int a1), (2, .int a2)]) hx hb dX8_turnOf_48 hl (k := 1) rfl (by rw [ex58]; rfl) (by decide) rfl (fun ls hl => ?_)
                  refine lv_iload hx hb dX8_turnOf_51 (lv_at hl 1 rfl) ?_
                  refine lv_bipush (v := 10) hx hb dX8_turnOf_53 (by decide) ?_
                  refine lv_idiv hx hb dX8_turnOf_55 (by decide) ?_
                  refine lv_topi (fun x59 ex59 => ?_)
                  have tx59 : x59.toInt = (x13.toInt / 10) := jdiv ex59 rfl jz_10 (by omega) (by omega)
                  refine lv_istore (lv' := [(4, .int x59), (3, .int x58), (0, .ref (ad 38)), (1, .int a1), (2, .int a2)]) hx hb dX8_turnOf_56 hl (by decide) rfl (fun ls hl => ?_)
                  refine lv_goto (tgt := 37) hx hb dX8_turnOf_58 (by decide) ?_
                  exact ihlp10 x58 x59 _ _ ls (by have h90 := tx58; have h91 := tx59; omega) (by have h90 := tx58; have h91 := tx59; omega) (by have h90 := tx58; have h91 := tx59; omega)    hP hS (lv_sub hl [0, 1, 2, 3, 4] rfl)
          exact lp10 1000000 0 x9 _ _ ls (by have h90 := jz_0; omega) (by have h90 := jz_0; omega) (by have h90 := jz_0; omega)   hP hS hl
        · have kc8 := jnle c8 jz_0 t2
          refine lv_iconst (v := (-1)) hx hb dX8_turnOf_25 (by decide) ?_
          exact hret (-1) σ τ _ _ _ _ rfl ⟨⟨rfl, rfl⟩, trivial⟩ hP hS dX8_turnOf_26
set_option maxHeartbeats 4000000 in
set_option maxRecDepth 100000 in
theorem c_X8_traceAt_38 (l : Launch) (D : va_G) (cI cL : ClassId) (ad zz : Nat → Nat) (hJ : jD ad) (σ : Nat → Nat → Int32) (τ : Nat → Nat → Int64) (a1 : Int32) (A1 : Int) (t1 : a1.toInt = A1) : jM l yX8_traceAt cX8_traceAt 2 (some .int) ({ frames := 0, cells := 0, slots := 0, locals := 0 }) D cI cL ad zz [.ref (ad 38), .int a1] σ τ (fun r σ' τ' => (σ = σ' ∧ τ = τ') ∧ True) := by
  refine jM.of hJ (by decide +kernel) (nt := .int) rfl (Nat.le_of_ble_eq_true rfl) ?_
  intro p e s m args below meth c Q ls hC hret hl hP
  obtain ⟨hx, hb, hr, hml, hown, hts, hK, -, hlocks, hZ⟩ := hC
  have hown : s.vm.findClass RX8 = some m.cls := hown
  have hS : va_S (jA ad) s.heap s.heap [] := va_S.rf
  have hA : ∀ q, jA ad q → jA ad q := fun _ h => h
  have hl : lv_has ls 2 [(0, .ref (ad 38)), (1, .int a1)] := hl
  have g1 := jrg t1
  refine lv_iload_n hx hb dX8_traceAt_0 rfl (lv_at hl 1 rfl) ?_
  refine lv_if_lt (tgt := 10) hx hb dX8_traceAt_1 (by decide) (fun c1 => ?_) (fun c1 => ?_)
  · have kc1 := jlt c1 t1 jz_0
    refine lv_iconst (v := (-1)) hx hb dX8_traceAt_10 (by decide) ?_
    refine lv_goto (tgt := 20) hx hb dX8_traceAt_11 (by decide) ?_
    exact hret (-1) σ τ _ _ _ _ rfl ⟨⟨rfl, rfl⟩, trivial⟩ hP hS dX8_traceAt_20
  · have kc1 := jnlt c1 t1 jz_0
    refine lv_iload_n hx hb dX8_traceAt_4 rfl (lv_at hl 1 rfl) ?_
    refine lv_bipush (v := 24) hx hb dX8_traceAt_5 (by decide) ?_
    refine lv_icmp_lt (tgt := 14) hx hb dX8_traceAt_7 (by decide) (fun c2 => ?_) (fun c2 => ?_)
    · have kc2 := jlt c2 t1 jz_24
      refine lv_aload_n hx hb dX8_traceAt_14 rfl (lv_at hl 0 rfl) ?_
      refine va_get (D := D) hx hb hts inlX8 hown hK hP 38 (jc_38 cI cL ad σ τ) rfl 5 (by decide) (hts _ kw_5_18) (fun _ h9 => h9) rfl dX8_traceAt_15 ?_
      refine lv_iload_n hx hb dX8_traceAt_18 rfl (lv_at hl 1 rfl) ?_
      refine jald hx hb hK hP (jc_42 cI cL ad σ τ) (jin t1 (by omega) (by omega)) dX8_traceAt_19 ?_
      refine lv_topi (fun x3 ex3 => ?_)
      exact hret x3 σ τ _ _ _ _ rfl ⟨⟨rfl, rfl⟩, trivial⟩ hP hS dX8_traceAt_20
    · have kc2 := jnlt c2 t1 jz_24
      refine lv_iconst (v := (-1)) hx hb dX8_traceAt_10 (by decide) ?_
      refine lv_goto (tgt := 20) hx hb dX8_traceAt_11 (by decide) ?_
      exact hret (-1) σ τ _ _ _ _ rfl ⟨⟨rfl, rfl⟩, trivial⟩ hP hS dX8_traceAt_20
set_option maxHeartbeats 4000000 in
set_option maxRecDepth 100000 in
theorem c_X3_turn_43 (l : Launch) (D : va_G) (cI cL : ClassId) (ad zz : Nat → Nat) (hJ : jD ad) (σ : Nat → Nat → Int32) (τ : Nat → Nat → Int64) (a1 : Int32) (A1 : Int) (t1 : a1.toInt = A1) (a2 : Int32) (A2 : Int) (t2 : a2.toInt = A2) (a3 : Int32) (A3 : Int) (t3 : a3.toInt = A3) (hI38 : jI38 σ) : jM l yX3_turn cX3_turn 5 (some .int) ({ frames := 3, cells := 0, slots := 0, locals := 63 }) D cI cL ad zz [.ref (ad 43), .int a1, .int a2, .int a3] σ τ (fun r σ' τ' => (σ = σ' ∧ τ = τ') ∧ True) := by
  refine jM.of hJ (by decide +kernel) (nt := .int) rfl (Nat.le_of_ble_eq_true rfl) ?_
  intro p e s m args below meth c Q ls hC hret hl hP
  obtain ⟨hx, hb, hr, hml, hown, hts, hK, -, hlocks, hZ⟩ := hC
  have hown : s.vm.findClass RX3 = some m.cls := hown
  have hS : va_S (jA ad) s.heap s.heap [] := va_S.rf
  have hA : ∀ q, jA ad q → jA ad q := fun _ h => h
  have hl : lv_has ls 5 [(0, .ref (ad 43)), (1, .int a1), (2, .int a2), (3, .int a3)] := hl
  have g1 := jrg t1
  have g2 := jrg t2
  have g3 := jrg t3
  obtain ⟨i1, i2, w3⟩ : (0 ≤ (σ 38 0).toInt ∧ (σ 38 0).toInt ≤ 20) ∧ (0 ≤ (σ 38 1).toInt ∧ (σ 38 1).toInt ≤ 1000) ∧ (∀ k : Nat, k < 20 → 0 ≤ (σ 39 k).toInt ∧ (σ 39 k).toInt ≤ 6) := id hI38
  refine lv_aload_n hx hb dX3_turn_0 rfl (lv_at hl 0 rfl) ?_
  refine va_get (D := D) hx hb hts inlX3 hown hK hP 43 (jc_43 cI cL ad σ τ) rfl 0 (by decide) (hts _ kw_6_2) (fun _ h9 => h9) rfl dX3_turn_1 ?_
  refine lv_iload_n hx hb dX3_turn_4 rfl (lv_at hl 1 rfl) ?_
  refine lv_iload_n hx hb dX3_turn_5 rfl (lv_at hl 2 rfl) ?_
  have I4 : jI38 σ := ⟨(by omega), (by omega), w3⟩
  refine jcallV (As := [.int a1, .int a2]) (rest := []) ⟨hx, hb, hml, hown, hts⟩ hK hP hA hS hZ (c_X8_turnOf_38 l D cI cL ad zz hJ σ τ a1 (A1) t1 a2 (A2) t2 I4) cw_RX3_72 (jc_38 cI cL ad σ τ) rfl ⟨Nat.le_of_ble_eq_true rfl, Nat.le_of_ble_eq_true rfl⟩ rfl rfl rfl hl.1 rfl (Nat.le_of_ble_eq_true rfl) dX3_turn_6 ⟨Nat.zero_le _, Nat.zero_le _⟩ (fun r6 σ5 τ5 H locs h5 hP hS => ?_)
  obtain ⟨⟨rfl, rfl⟩, h5⟩ := h5
  refine lv_istore (lv' := [(4, .int r6), (0, .ref (ad 43)), (1, .int a1), (2, .int a2), (3, .int a3)]) hx hb dX3_turn_9 hl (by decide) rfl (fun ls hl => ?_)
  refine lv_iload_n hx hb dX3_turn_11 rfl (lv_at hl 4 rfl) ?_
  refine lv_iload hx hb dX3_turn_12 (lv_at hl 0 rfl) ?_
  refine jcallS (As := [.int a3, .int r6]) (rest := []) ⟨hx, hb, hml, hown, hts⟩ hK hP hA hS hZ (c_X0_mayBowl l D cI cL ad zz hJ σ τ a3 (A3) t3 r6 (r6.toInt) rfl) cw_RX3_75 ⟨Nat.le_of_ble_eq_true rfl, Nat.le_of_ble_eq_true rfl⟩ rfl rfl rfl hl.1 rfl (Nat.le_of_ble_eq_true rfl) dX3_turn_14 ⟨Nat.zero_le _, Nat.zero_le _⟩ (fun r8 σ7 τ7 H locs h7 hP hS => ?_)
  obtain ⟨⟨rfl, rfl⟩, h7⟩ := h7
  refine lv_if_eq (tgt := 25) hx hb dX3_turn_17 (by decide) (fun c9 => ?_) (fun c9 => ?_)
  · have kc9 := jeq c9 rfl jz_0
    refine lv_iload_n hx hb dX3_turn_25 rfl (lv_at hl 4 rfl) ?_
    refine jcallS (As := [.int a3]) (rest := []) ⟨hx, hb, hml, hown, hts⟩ hK hP hA hS hZ (c_X0_first l D cI cL ad zz hJ σ τ a3 (A3) t3) cw_RX3_67 ⟨Nat.le_of_ble_eq_true rfl, Nat.le_of_ble_eq_true rfl⟩ rfl rfl rfl hl.1 rfl (Nat.le_of_ble_eq_true rfl) dX3_turn_26 ⟨Nat.zero_le _, Nat.zero_le _⟩ (fun r11 σ10 τ10 H locs h10 hP hS => ?_)
    obtain ⟨⟨rfl, rfl⟩, h10⟩ := h10
    exact hret r11 σ τ _ _ _ _ rfl ⟨⟨rfl, rfl⟩, trivial⟩ hP hS dX3_turn_29
  · have kc9 := jne c9 rfl jz_0
    refine lv_iload hx hb dX3_turn_20 (lv_at hl 0 rfl) ?_
    refine lv_goto (tgt := 29) hx hb dX3_turn_22 (by decide) ?_
    exact hret r6 σ τ _ _ _ _ rfl ⟨⟨rfl, rfl⟩, trivial⟩ hP hS dX3_turn_29
set_option maxHeartbeats 4000000 in
set_option maxRecDepth 100000 in
theorem c_X3_withoutKept_43 (l : Launch) (D : va_G) (cI cL : ClassId) (ad zz : Nat → Nat) (hJ : jD ad) (σ : Nat → Nat → Int32) (τ : Nat → Nat → Int64) (a1 : Int32) (A1 : Int) (t1 : a1.toInt = A1) (a2 : Int32) (A2 : Int) (t2 : a2.toInt = A2) (a3 : Int32) (A3 : Int) (t3 : a3.toInt = A3) (hI38 : jI38 σ) : jM l yX3_withoutKept cX3_withoutKept 6 (some .int) ({ frames := 3, cells := 0, slots := 0, locals := 63 }) D cI cL ad zz [.ref (ad 43), .int a1, .int a2, .int a3] σ τ (fun r σ' τ' => (σ = σ' ∧ τ = τ') ∧ True) := by
  refine jM.of hJ (by decide +kernel) (nt := .int) rfl (Nat.le_of_ble_eq_true rfl) ?_
  intro p e s m args below meth c Q ls hC hret hl hP
  obtain ⟨hx, hb, hr, hml, hown, hts, hK, -, hlocks, hZ⟩ := hC
  have hown : s.vm.findClass RX3 = some m.cls := hown
  have hS : va_S (jA ad) s.heap s.heap [] := va_S.rf
  have hA : ∀ q, jA ad q → jA ad q := fun _ h => h
  have hl : lv_has ls 6 [(0, .ref (ad 43)), (1, .int a1), (2, .int a2), (3, .int a3)] := hl
  have g1 := jrg t1
  have g2 := jrg t2
  have g3 := jrg t3
  obtain ⟨i1, i2, w3⟩ : (0 ≤ (σ 38 0).toInt ∧ (σ 38 0).toInt ≤ 20) ∧ (0 ≤ (σ 38 1).toInt ∧ (σ 38 1).toInt ≤ 1000) ∧ (∀ k : Nat, k < 20 → 0 ≤ (σ 39 k).toInt ∧ (σ 39 k).toInt ≤ 6) := id hI38
  refine lv_aload_n hx hb dX3_withoutKept_0 rfl (lv_at hl 0 rfl) ?_
  refine va_get (D := D) hx hb hts inlX3 hown hK hP 43 (jc_43 cI cL ad σ τ) rfl 0 (by decide) (hts _ kw_6_2) (fun _ h9 => h9) rfl dX3_withoutKept_1 ?_
  refine lv_iload_n hx hb dX3_withoutKept_4 rfl (lv_at hl 1 rfl) ?_
  refine lv_iconst (v := 0) hx hb dX3_withoutKept_5 (by decide) ?_
  have I4 : jI38 σ := ⟨(by omega), (by omega), w3⟩
  refine jcallV (As := [.int a1, .int 0]) (rest := []) ⟨hx, hb, hml, hown, hts⟩ hK hP hA hS hZ (c_X8_turnOf_38 l D cI cL ad zz hJ σ τ a1 (A1) t1 0 (0) jz_0 I4) cw_RX3_72 (jc_38 cI cL ad σ τ) rfl ⟨Nat.le_of_ble_eq_true rfl, Nat.le_of_ble_eq_true rfl⟩ rfl rfl rfl hl.1 rfl (Nat.le_of_ble_eq_true rfl) dX3_withoutKept_6 ⟨Nat.zero_le _, Nat.zero_le _⟩ (fun r6 σ5 τ5 H locs h5 hP hS => ?_)
  obtain ⟨⟨rfl, rfl⟩, h5⟩ := h5
  refine lv_istore (lv' := [(4, .int r6), (0, .ref (ad 43)), (1, .int a1), (2, .int a2), (3, .int a3)]) hx hb dX3_withoutKept_9 hl (by decide) rfl (fun ls hl => ?_)
  refine lv_iload hx hb dX3_withoutKept_11 (lv_at hl 0 rfl) ?_
  refine lv_if_lt (tgt := 28) hx hb dX3_withoutKept_13 (by decide) (fun c7 => ?_) (fun c7 => ?_)
  · have kc7 := jlt c7 rfl jz_0
    refine lv_iload_n hx hb dX3_withoutKept_28 rfl (lv_at hl 4 rfl) ?_
    exact hret a3 σ τ _ _ _ _ rfl ⟨⟨rfl, rfl⟩, trivial⟩ hP hS dX3_withoutKept_29
  · have kc7 := jnlt c7 rfl jz_0
    refine lv_iload_n hx hb dX3_withoutKept_16 rfl (lv_at hl 3 rfl) ?_
    refine lv_aload_n hx hb dX3_withoutKept_17 rfl (lv_at hl 1 rfl) ?_
    refine va_get (D := D) hx hb hts inlX3 hown hK hP 43 (jc_43 cI cL ad σ τ) rfl 0 (by decide) (hts _ kw_6_2) (fun _ h9 => h9) rfl dX3_withoutKept_18 ?_
    refine lv_iload_n hx hb dX3_withoutKept_21 rfl (lv_at hl 2 rfl) ?_
    refine jcallV (As := [.int a1]) (rest := [.int a2]) ⟨hx, hb, hml, hown, hts⟩ hK hP hA hS hZ (c_X8_numberOf_38 l D cI cL ad zz hJ σ τ a1 (A1) t1 I4) cw_RX3_79 (jc_38 cI cL ad σ τ) rfl ⟨Nat.le_of_ble_eq_true rfl, Nat.le_of_ble_eq_true rfl⟩ rfl rfl rfl hl.1 rfl (Nat.le_of_ble_eq_true rfl) dX3_withoutKept_22 ⟨Nat.zero_le _, Nat.zero_le _⟩ (fun r9 σ8 τ8 H locs h8 hP hS => ?_)
    obtain ⟨⟨rfl, rfl⟩, h8⟩ := h8
    refine lv_icmp_lt (tgt := 30) hx hb dX3_withoutKept_25 (by decide) (fun c10 => ?_) (fun c10 => ?_)
    · have kc10 := jlt c10 t2 rfl
      refine lv_iload_n hx hb dX3_withoutKept_30 rfl (lv_at hl 4 rfl) ?_
      refine lv_iload hx hb dX3_withoutKept_31 (lv_at hl 0 rfl) ?_
      refine lv_iconst (v := 0) hx hb dX3_withoutKept_33 (by decide) ?_
      refine jcallS (As := [.int a3, .int r6, .int 0]) (rest := []) ⟨hx, hb, hml, hown, hts⟩ hK hP hA hS hZ (c_X0_withLeft l D cI cL ad zz hJ σ τ a3 (A3) t3 r6 (r6.toInt) rfl 0 (0) jz_0) cw_RX3_82 ⟨Nat.le_of_ble_eq_true rfl, Nat.le_of_ble_eq_true rfl⟩ rfl rfl rfl hl.1 rfl (Nat.le_of_ble_eq_true rfl) dX3_withoutKept_34 ⟨Nat.zero_le _, Nat.zero_le _⟩ (fun r12 σ11 τ11 H locs h11 hP hS => ?_)
      obtain ⟨⟨rfl, rfl⟩, h11⟩ := h11
      refine lv_istore (lv' := [(5, .int r12), (4, .int r6), (0, .ref (ad 43)), (1, .int a1), (2, .int a2), (3, .int a3)]) hx hb dX3_withoutKept_37 hl (by decide) rfl (fun ls hl => ?_)
      refine lv_iload hx hb dX3_withoutKept_39 (lv_at hl 0 rfl) ?_
      refine jcallS (As := [.int r12]) (rest := []) ⟨hx, hb, hml, hown, hts⟩ hK hP hA hS hZ (c_X0_first l D cI cL ad zz hJ σ τ r12 (r12.toInt) rfl) cw_RX3_67 ⟨Nat.le_of_ble_eq_true rfl, Nat.le_of_ble_eq_true rfl⟩ rfl rfl rfl hl.1 rfl (Nat.le_of_ble_eq_true rfl) dX3_withoutKept_41 ⟨Nat.zero_le _, Nat.zero_le _⟩ (fun r14 σ13 τ13 H locs h13 hP hS => ?_)
      obtain ⟨⟨rfl, rfl⟩, h13⟩ := h13
      refine lv_if_ge (tgt := 51) hx hb dX3_withoutKept_44 (by decide) (fun c15 => ?_) (fun c15 => ?_)
      · have kc15 := jle c15 jz_0 rfl
        refine lv_iload hx hb dX3_withoutKept_51 (lv_at hl 0 rfl) ?_
        exact hret r12 σ τ _ _ _ _ rfl ⟨⟨rfl, rfl⟩, trivial⟩ hP hS dX3_withoutKept_53
      · have kc15 := jnle c15 jz_0 rfl
        refine lv_iload_n hx hb dX3_withoutKept_47 rfl (lv_at hl 5 rfl) ?_
        refine lv_goto (tgt := 53) hx hb dX3_withoutKept_48 (by decide) ?_
        exact hret a3 σ τ _ _ _ _ rfl ⟨⟨rfl, rfl⟩, trivial⟩ hP hS dX3_withoutKept_53
    · have kc10 := jnlt c10 t2 rfl
      refine lv_iload_n hx hb dX3_withoutKept_28 rfl (lv_at hl 4 rfl) ?_
      exact hret a3 σ τ _ _ _ _ rfl ⟨⟨rfl, rfl⟩, trivial⟩ hP hS dX3_withoutKept_29
set_option maxHeartbeats 4000000 in
set_option maxRecDepth 100000 in
theorem c_X3_rating_43 (l : Launch) (D : va_G) (cI cL : ClassId) (ad zz : Nat → Nat) (hJ : jD ad) (σ : Nat → Nat → Int32) (τ : Nat → Nat → Int64) (a1 : Int32) (A1 : Int) (t1 : a1.toInt = A1) (a2 : Int32) (A2 : Int) (t2 : a2.toInt = A2) (a3 : Int32) (A3 : Int) (t3 : a3.toInt = A3) (a4 : Int32) (A4 : Int) (t4 : a4.toInt = A4) (a5 : Int32) (A5 : Int) (t5 : a5.toInt = A5) (hI16 : jI16 σ) (hI18 : jI18 σ) (hI22 : jI22 σ) (hI31 : jI31 σ) (hI38 : jI38 σ) : jM l yX3_rating cX3_rating 10 (some .int) ({ frames := 3, cells := 0, slots := 0, locals := 76 }) D cI cL ad zz [.ref (ad 43), .int a1, .int a2, .int a3, .int a4, .int a5] σ τ (fun r σ' τ' => τ = τ' ∧ (∀ i : Nat, (i < 20 ∨ 21 < i) ∧ (i < 24 ∨ 25 < i) ∧ (i < 29 ∨ 30 < i) → σ' i = σ i) ∧ True) := by
  refine jM.of hJ (by decide +kernel) (nt := .int) rfl (Nat.le_of_ble_eq_true rfl) ?_
  intro p e s m args below meth c Q ls hC hret hl hP
  obtain ⟨hx, hb, hr, hml, hown, hts, hK, -, hlocks, hZ⟩ := hC
  have hown : s.vm.findClass RX3 = some m.cls := hown
  have hS : va_S (jA ad) s.heap s.heap [] := va_S.rf
  have hA : ∀ q, jA ad q → jA ad q := fun _ h => h
  have hl : lv_has ls 10 [(0, .ref (ad 43)), (1, .int a1), (2, .int a2), (3, .int a3), (4, .int a4), (5, .int a5)] := hl
  have g1 := jrg t1
  have g2 := jrg t2
  have g3 := jrg t3
  have g4 := jrg t4
  have g5 := jrg t5
  obtain ⟨i1, i2, i3, w4⟩ : (1 ≤ (σ 16 0).toInt ∧ (σ 16 0).toInt ≤ 8) ∧ (1 ≤ (σ 16 1).toInt ∧ (σ 16 1).toInt ≤ 12) ∧ (0 ≤ (σ 16 2).toInt ∧ (σ 16 2).toInt ≤ 999) ∧ (∀ k : Nat, k < 8 → 0 ≤ (σ 17 k).toInt ∧ (σ 17 k).toInt ≤ 3) := id hI16
  obtain ⟨i5, w6⟩ : (0 ≤ (σ 18 0).toInt ∧ (σ 18 0).toInt ≤ 160) ∧ (∀ k : Nat, k < 160 → 0 ≤ (σ 19 k).toInt ∧ (σ 19 k).toInt ≤ 30000) := id hI18
  obtain ⟨i7, w8⟩ : (0 ≤ (σ 22 0).toInt ∧ (σ 22 0).toInt ≤ 160) ∧ (∀ k : Nat, k < 160 → 0 ≤ (σ 23 k).toInt ∧ (σ 23 k).toInt ≤ 30000) := id hI22
  obtain ⟨i9, w10, w11⟩ : (0 ≤ (σ 31 8).toInt ∧ (σ 31 8).toInt ≤ 350) ∧ (∀ k : Nat, k < 1400 → (-1) ≤ (σ 33 k).toInt ∧ (σ 33 k).toInt ≤ 350) ∧ (∀ k : Nat, k < 1024 → 0 ≤ (σ 36 k).toInt ∧ (σ 36 k).toInt ≤ 349) := id hI31
  obtain ⟨i12, i13, w14⟩ : (0 ≤ (σ 38 0).toInt ∧ (σ 38 0).toInt ≤ 20) ∧ (0 ≤ (σ 38 1).toInt ∧ (σ 38 1).toInt ≤ 1000) ∧ (∀ k : Nat, k < 20 → 0 ≤ (σ 39 k).toInt ∧ (σ 39 k).toInt ≤ 6) := id hI38
  refine lv_aload_n hx hb dX3_rating_0 rfl (lv_at hl 0 rfl) ?_
  refine va_get (D := D) hx hb hts inlX3 hown hK hP 43 (jc_43 cI cL ad σ τ) rfl 3 (by decide) (hts _ kw_6_5) (fun _ h9 => h9) rfl dX3_rating_1 ?_
  refine lv_iload_n hx hb dX3_rating_4 rfl (lv_at hl 3 rfl) ?_
  refine jcallV (As := [.int a3]) (rest := []) ⟨hx, hb, hml, hown, hts⟩ hK hP hA hS hZ (c_X6_sortAt_16 l D cI cL ad zz hJ σ τ a3 (A3) t3) cw_RX3_89 (jc_16 cI cL ad σ τ) rfl ⟨Nat.le_of_ble_eq_true rfl, Nat.le_of_ble_eq_true rfl⟩ rfl rfl rfl hl.1 rfl (Nat.le_of_ble_eq_true rfl) dX3_rating_5 ⟨Nat.zero_le _, Nat.zero_le _⟩ (fun r16 σ15 τ15 H locs h15 hP hS => ?_)
  obtain ⟨⟨rfl, rfl⟩, h15⟩ := h15
  refine lv_istore (lv' := [(6, .int r16), (0, .ref (ad 43)), (1, .int a1), (2, .int a2), (3, .int a3), (4, .int a4), (5, .int a5)]) hx hb dX3_rating_8 hl (by decide) rfl (fun ls hl => ?_)
  refine lv_iload hx hb dX3_rating_10 (lv_at hl 5 rfl) ?_
  refine lv_iload hx hb dX3_rating_12 (lv_at hl 6 rfl) ?_
  refine jcallS (As := [.int a4, .int a5]) (rest := []) ⟨hx, hb, hml, hown, hts⟩ hK hP hA hS hZ (c_X0_steps l D cI cL ad zz hJ σ τ a4 (A4) t4 a5 (A5) t5) cw_RX3_94 ⟨Nat.le_of_ble_eq_true rfl, Nat.le_of_ble_eq_true rfl⟩ rfl rfl rfl hl.1 rfl (Nat.le_of_ble_eq_true rfl) dX3_rating_14 ⟨Nat.zero_le _, Nat.zero_le _⟩ (fun r18 σ17 τ17 H locs h17 hP hS => ?_)
  obtain ⟨⟨rfl, rfl⟩, h17⟩ := h17
  refine lv_istore (lv' := [(7, .int r18), (6, .int r16), (0, .ref (ad 43)), (1, .int a1), (2, .int a2), (3, .int a3), (4, .int a4), (5, .int a5)]) hx hb dX3_rating_17 hl (by decide) rfl (fun ls hl => ?_)
  refine lv_iload hx hb dX3_rating_19 (lv_at hl 6 rfl) ?_
  refine lv_iload hx hb dX3_rating_21 (lv_at hl 7 rfl) ?_
  refine jcallS (As := [.int a4, .int a5]) (rest := []) ⟨hx, hb, hml, hown, hts⟩ hK hP hA hS hZ (c_X0_left l D cI cL ad zz hJ σ τ a4 (A4) t4 a5 (A5) t5) cw_RX3_97 ⟨Nat.le_of_ble_eq_true rfl, Nat.le_of_ble_eq_true rfl⟩ rfl rfl rfl hl.1 rfl (Nat.le_of_ble_eq_true rfl) dX3_rating_23 ⟨Nat.zero_le _, Nat.zero_le _⟩ (fun r20 σ19 τ19 H locs h19 hP hS => ?_)
  obtain ⟨⟨rfl, rfl⟩, h19⟩ := h19
  refine lv_istore (lv' := [(8, .int r20), (7, .int r18), (6, .int r16), (0, .ref (ad 43)), (1, .int a1), (2, .int a2), (3, .int a3), (4, .int a4), (5, .int a5)]) hx hb dX3_rating_26 hl (by decide) rfl (fun ls hl => ?_)
  refine lv_aload_n hx hb dX3_rating_28 rfl (lv_at hl 3 rfl) ?_
  refine va_get (D := D) hx hb hts inlX3 hown hK hP 43 (jc_43 cI cL ad σ τ) rfl 1 (by decide) (hts _ kw_6_3) (fun _ h9 => h9) rfl dX3_rating_29 ?_
  refine lv_iload hx hb dX3_rating_32 (lv_at hl 8 rfl) ?_
  refine lv_iload hx hb dX3_rating_34 (lv_at hl 2 rfl) ?_
  refine lv_iload hx hb dX3_rating_36 (lv_at hl 1 rfl) ?_
  refine lv_iload hx hb dX3_rating_38 (lv_at hl 0 rfl) ?_
  refine lv_iload_n hx hb dX3_rating_40 rfl (lv_at hl 5 rfl) ?_
  refine lv_iload_n hx hb dX3_rating_41 rfl (lv_at hl 6 rfl) ?_
  have I21 : jI22 σ := ⟨(by omega), w8⟩
  refine jcallV (As := [.int a5, .int r16, .int r18, .int r20, .int a2, .int a3]) (rest := []) ⟨hx, hb, hml, hown, hts⟩ hK hP hA hS hZ (c_X5_outOf_26 l D cI cL ad zz hJ σ τ a5 (A5) t5 r16 (r16.toInt) rfl r18 (r18.toInt) rfl r20 (r20.toInt) rfl a2 (A2) t2 a3 (A3) t3 I21) cw_RX3_100 (jc_26 cI cL ad σ τ) rfl ⟨Nat.le_of_ble_eq_true rfl, Nat.le_of_ble_eq_true rfl⟩ rfl rfl rfl hl.1 rfl (Nat.le_of_ble_eq_true rfl) dX3_rating_42 ⟨Nat.zero_le _, Nat.zero_le _⟩ (fun r23 σ22 τ22 H locs h22 hP hS => ?_)
  obtain ⟨rfl, f24, h22⟩ := h22
  refine lv_istore (lv' := [(9, .int r23), (8, .int r20), (7, .int r18), (6, .int r16), (0, .ref (ad 43)), (1, .int a1), (2, .int a2), (3, .int a3), (4, .int a4), (5, .int a5)]) hx hb dX3_rating_45 hl (by decide) rfl (fun ls hl => ?_)
  refine lv_aload_n hx hb dX3_rating_47 rfl (lv_at hl 4 rfl) ?_
  refine va_get (D := D) hx hb hts inlX3 hown hK hP 43 (jc_43 cI cL ad σ22 τ) rfl 0 (by decide) (hts _ kw_6_2) (fun _ h9 => h9) rfl dX3_rating_48 ?_
  refine lv_iload_n hx hb dX3_rating_51 rfl (lv_at hl 5 rfl) ?_
  have z25 : (σ22 38 0).toInt = (σ 38 0).toInt := by rw [(show σ22 38 0 = (σ 38 0) from (by rw [f24 38 (by omega)]))]
  have z26 : (σ22 38 1).toInt = (σ 38 1).toInt := by rw [(show σ22 38 1 = (σ 38 1) from (by rw [f24 38 (by omega)]))]
  have w27 : ∀ k : Nat, k < 20 → 0 ≤ (σ22 39 k).toInt ∧ (σ22 39 k).toInt ≤ 6 := (by rw [f24 39 (by omega)]; exact w14)
  have I28 : jI38 σ22 := ⟨(by omega), (by omega), w27⟩
  refine jcallV (As := [.int a1]) (rest := []) ⟨hx, hb, hml, hown, hts⟩ hK hP hA hS hZ (c_X8_kindOf_38 l D cI cL ad zz hJ σ22 τ a1 (A1) t1 I28) cw_RX3_41 (jc_38 cI cL ad σ22 τ) rfl ⟨Nat.le_of_ble_eq_true rfl, Nat.le_of_ble_eq_true rfl⟩ rfl rfl rfl hl.1 rfl (Nat.le_of_ble_eq_true rfl) dX3_rating_52 ⟨Nat.zero_le _, Nat.zero_le _⟩ (fun r30 σ29 τ29 H locs h29 hP hS => ?_)
  obtain ⟨⟨rfl, rfl⟩, h29⟩ := h29
  have h31 := h29
  obtain ⟨q33, k32⟩ := h31
  by_cases c34 : r30 = 3
  · have kc34 := jeq c34 rfl jz_3
    refine jtopr c34 ?_
    refine lv_lookup (off := 25) (tgt := 80) hx hb dX3_rating_55 (by decide) (by decide) (by decide) ?_
    refine lv_iload hx hb dX3_rating_80 (lv_at hl 0 rfl) ?_
    refine lv_sipush (v := 1000) hx hb dX3_rating_82 (by decide) ?_
    refine lv_aload_n hx hb dX3_rating_85 rfl (lv_at hl 4 rfl) ?_
    refine va_get (D := D) hx hb hts inlX3 hown hK hP 43 (jc_43 cI cL ad σ22 τ) rfl 1 (by decide) (hts _ kw_6_3) (fun _ h9 => h9) rfl dX3_rating_86 ?_
    refine lv_iload hx hb dX3_rating_89 (lv_at hl 9 rfl) ?_
    refine lv_iload hx hb dX3_rating_91 (lv_at hl 3 rfl) ?_
    refine lv_iload hx hb dX3_rating_93 (lv_at hl 2 rfl) ?_
    refine jcallV (As := [.int a5, .int r16, .int r18]) (rest := [.int 1000, .int r23]) ⟨hx, hb, hml, hown, hts⟩ hK hP hA hS hZ (c_X5_runsOf_26 l D cI cL ad zz hJ σ22 τ a5 (A5) t5 r16 (r16.toInt) rfl r18 (r18.toInt) rfl) cw_RX3_106 (jc_26 cI cL ad σ22 τ) rfl ⟨Nat.le_of_ble_eq_true rfl, Nat.le_of_ble_eq_true rfl⟩ rfl rfl rfl hl.1 rfl (Nat.le_of_ble_eq_true rfl) dX3_rating_95 ⟨Nat.zero_le _, Nat.zero_le _⟩ (fun r36 σ35 τ35 H locs h35 hP hS => ?_)
    obtain ⟨⟨rfl, rfl⟩, h35⟩ := h35
    have g37 := jrg (rfl : r36.toInt = r36.toInt)
    refine lv_imul hx hb dX3_rating_98 ?_
    refine lv_topi (fun x38 ex38 => ?_)
    have gx38 := jrg (rfl : x38.toInt = x38.toInt)
    have g39 := jrg (rfl : r23.toInt = r23.toInt)
    have g40 := jrg (rfl : x38.toInt = x38.toInt)
    refine lv_isub hx hb dX3_rating_99 ?_
    refine lv_topi (fun x41 ex41 => ?_)
    have gx41 := jrg (rfl : x41.toInt = x41.toInt)
    exact hret x41 σ22 τ _ _ _ _ rfl ⟨rfl, (fun i hi => by rw [f24 i (by omega)]), trivial⟩ hP hS dX3_rating_100
  have kc34 := jne c34 rfl jz_3
  by_cases c42 : r30 = 5
  · have kc42 := jeq c42 rfl jz_5
    refine jtopr c42 ?_
    refine lv_lookup (off := 46) (tgt := 101) hx hb dX3_rating_55 (by decide) (by decide) (by decide) ?_
    refine lv_iload hx hb dX3_rating_101 (lv_at hl 0 rfl) ?_
    exact hret r23 σ22 τ _ _ _ _ rfl ⟨rfl, (fun i hi => by rw [f24 i (by omega)]), trivial⟩ hP hS dX3_rating_103
  have kc42 := jne c42 rfl jz_5
  refine lv_lookup (off := 49) (tgt := 104) hx hb dX3_rating_55 (by decide) (jlook (fun p hp => by have h9 := (rfl : r30.toInt = r30.toInt); simp only [List.mem_cons, List.not_mem_nil, or_false] at hp; rcases hp with hp | hp <;> subst hp <;> simp only [] <;> omega)) (by decide) ?_
  refine lv_aload_n hx hb dX3_rating_104 rfl (lv_at hl 4 rfl) ?_
  refine va_get (D := D) hx hb hts inlX3 hown hK hP 43 (jc_43 cI cL ad σ22 τ) rfl 4 (by decide) (hts _ kw_6_6) (fun _ h9 => h9) rfl dX3_rating_105 ?_
  refine lv_iload_n hx hb dX3_rating_108 rfl (lv_at hl 6 rfl) ?_
  refine lv_iload_n hx hb dX3_rating_109 rfl (lv_at hl 7 rfl) ?_
  refine lv_iload hx hb dX3_rating_110 (lv_at hl 3 rfl) ?_
  refine lv_iload hx hb dX3_rating_112 (lv_at hl 9 rfl) ?_
  refine lv_iload hx hb dX3_rating_114 (lv_at hl 2 rfl) ?_
  refine lv_iload hx hb dX3_rating_116 (lv_at hl 1 rfl) ?_
  refine jcallVv (As := [.int a2, .int a3, .int r16, .int a5, .int r18, .int r20]) (rest := []) ⟨hx, hb, hml, hown, hts⟩ hK hP hA hS hZ (c_X10_say_18 l D cI cL ad zz hJ σ22 τ a2 (A2) t2 a3 (A3) t3 r16 (r16.toInt) rfl a5 (A5) t5 r18 (r18.toInt) rfl r20 (r20.toInt) rfl) cw_RX3_109 (jc_18 cI cL ad σ22 τ) rfl ⟨Nat.le_of_ble_eq_true rfl, Nat.le_of_ble_eq_true rfl⟩ rfl rfl rfl hl.1 rfl (Nat.le_of_ble_eq_true rfl) dX3_rating_118 ⟨Nat.zero_le _, Nat.zero_le _⟩ (fun σ43 τ43 H locs h43 hP hS => ?_)
  obtain ⟨rfl, f45, h43⟩ := h43
  refine lv_aload_n hx hb dX3_rating_121 rfl (lv_at hl 4 rfl) ?_
  refine va_get (D := D) hx hb hts inlX3 hown hK hP 43 (jc_43 cI cL ad σ43 τ) rfl 4 (by decide) (hts _ kw_6_6) (fun _ h9 => h9) rfl dX3_rating_122 ?_
  refine lv_iload hx hb dX3_rating_125 (lv_at hl 0 rfl) ?_
  refine lv_aload_n hx hb dX3_rating_127 rfl (lv_at hl 4 rfl) ?_
  refine va_get (D := D) hx hb hts inlX3 hown hK hP 43 (jc_43 cI cL ad σ43 τ) rfl 0 (by decide) (hts _ kw_6_2) (fun _ h9 => h9) rfl dX3_rating_128 ?_
  refine lv_iload_n hx hb dX3_rating_131 rfl (lv_at hl 5 rfl) ?_
  have z46 : (σ43 38 0).toInt = (σ 38 0).toInt := by rw [(show σ43 38 0 = (σ 38 0) from (by rw [f45 38 (by omega)]; exact (by rw [f24 38 (by omega)])))]
  have z47 : (σ43 38 1).toInt = (σ 38 1).toInt := by rw [(show σ43 38 1 = (σ 38 1) from (by rw [f45 38 (by omega)]; exact (by rw [f24 38 (by omega)])))]
  have w48 : ∀ k : Nat, k < 20 → 0 ≤ (σ43 39 k).toInt ∧ (σ43 39 k).toInt ≤ 6 := (by rw [f45 39 (by omega)]; exact w27)
  have I49 : jI38 σ43 := ⟨(by omega), (by omega), w48⟩
  refine jcallV (As := [.int a1]) (rest := [.int r23, .ref (ad 18)]) ⟨hx, hb, hml, hown, hts⟩ hK hP hA hS hZ (c_X8_numberOf_38 l D cI cL ad zz hJ σ43 τ a1 (A1) t1 I49) cw_RX3_79 (jc_38 cI cL ad σ43 τ) rfl ⟨Nat.le_of_ble_eq_true rfl, Nat.le_of_ble_eq_true rfl⟩ rfl rfl rfl hl.1 rfl (Nat.le_of_ble_eq_true rfl) dX3_rating_132 ⟨Nat.zero_le _, Nat.zero_le _⟩ (fun r51 σ50 τ50 H locs h50 hP hS => ?_)
  obtain ⟨⟨rfl, rfl⟩, h50⟩ := h50
  refine jcallVv (As := [.int r23, .int r51]) (rest := []) ⟨hx, hb, hml, hown, hts⟩ hK hP hA hS hZ (c_X10_sayChance_18 l D cI cL ad zz hJ σ43 τ r23 (r23.toInt) rfl r51 (r51.toInt) rfl) cw_RX3_115 (jc_18 cI cL ad σ43 τ) rfl ⟨Nat.le_of_ble_eq_true rfl, Nat.le_of_ble_eq_true rfl⟩ rfl rfl rfl hl.1 rfl (Nat.le_of_ble_eq_true rfl) dX3_rating_135 ⟨Nat.zero_le _, Nat.zero_le _⟩ (fun σ52 τ52 H locs h52 hP hS => ?_)
  obtain ⟨rfl, f54, h52⟩ := h52
  refine lv_aload_n hx hb dX3_rating_138 rfl (lv_at hl 4 rfl) ?_
  refine va_get (D := D) hx hb hts inlX3 hown hK hP 43 (jc_43 cI cL ad σ52 τ) rfl 4 (by decide) (hts _ kw_6_6) (fun _ h9 => h9) rfl dX3_rating_139 ?_
  have z55 : (σ52 18 0).toInt = (σ 18 0).toInt := by rw [(show σ52 18 0 = (σ 18 0) from (by rw [f54 18 (by omega)]; exact (by rw [f45 18 (by omega)]; exact (by rw [f24 18 (by omega)]))))]
  have w56 : ∀ k : Nat, k < 160 → 0 ≤ (σ52 19 k).toInt ∧ (σ52 19 k).toInt ≤ 30000 := (by rw [f54 19 (by omega)]; exact (by rw [f45 19 (by omega)]; exact (by rw [f24 19 (by omega)]; exact w6)))
  have I57 : jI18 σ52 := ⟨(by omega), w56⟩
  refine jcallV (As := []) (rest := []) ⟨hx, hb, hml, hown, hts⟩ hK hP hA hS hZ (c_X10_worked_18 l D cI cL ad zz hJ σ52 τ I57) cw_RX3_119 (jc_18 cI cL ad σ52 τ) rfl ⟨Nat.le_of_ble_eq_true rfl, Nat.le_of_ble_eq_true rfl⟩ rfl rfl rfl hl.1 rfl (Nat.le_of_ble_eq_true rfl) dX3_rating_142 ⟨Nat.zero_le _, Nat.zero_le _⟩ (fun r59 σ58 τ58 H locs h58 hP hS => ?_)
  obtain ⟨rfl, f60, h58⟩ := h58
  exact hret r59 σ58 τ _ _ _ _ rfl ⟨rfl, (fun i hi => by rw [f60 i (by omega), f54 i (by omega), f45 i (by omega), f24 i (by omega)]), trivial⟩ hP hS dX3_rating_145
set_option maxHeartbeats 4000000 in
set_option maxRecDepth 100000 in
theorem c_X3_greatest_43 (l : Launch) (D : va_G) (cI cL : ClassId) (ad zz : Nat → Nat) (hJ : jD ad) (σ : Nat → Nat → Int32) (τ : Nat → Nat → Int64) (a1 : Int32) (A1 : Int) (t1 : a1.toInt = A1) (a2 : Int32) (A2 : Int) (t2 : a2.toInt = A2) (a3 : Int32) (A3 : Int) (t3 : a3.toInt = A3) (a4 : Int32) (A4 : Int) (t4 : a4.toInt = A4) (hI16 : jI16 σ) (hI18 : jI18 σ) (hI22 : jI22 σ) (hI31 : jI31 σ) (hI38 : jI38 σ) : jM l yX3_greatest cX3_greatest 9 (some .int) ({ frames := 4, cells := 0, slots := 0, locals := 105 }) D cI cL ad zz [.ref (ad 43), .int a1, .int a2, .int a3, .int a4] σ τ (fun r σ' τ' => τ = τ' ∧ (∀ i : Nat, (i < 20 ∨ 21 < i) ∧ (i < 24 ∨ 25 < i) ∧ (i < 29 ∨ 30 < i) → σ' i = σ i) ∧ True) := by
  refine jM.of hJ (by decide +kernel) (nt := .int) rfl (Nat.le_of_ble_eq_true rfl) ?_
  intro p e s m args below meth c Q ls hC hret hl hP
  obtain ⟨hx, hb, hr, hml, hown, hts, hK, -, hlocks, hZ⟩ := hC
  have hown : s.vm.findClass RX3 = some m.cls := hown
  have hS : va_S (jA ad) s.heap s.heap [] := va_S.rf
  have hA : ∀ q, jA ad q → jA ad q := fun _ h => h
  have hl : lv_has ls 9 [(0, .ref (ad 43)), (1, .int a1), (2, .int a2), (3, .int a3), (4, .int a4)] := hl
  have g1 := jrg t1
  have g2 := jrg t2
  have g3 := jrg t3
  have g4 := jrg t4
  obtain ⟨i1, i2, i3, w4⟩ : (1 ≤ (σ 16 0).toInt ∧ (σ 16 0).toInt ≤ 8) ∧ (1 ≤ (σ 16 1).toInt ∧ (σ 16 1).toInt ≤ 12) ∧ (0 ≤ (σ 16 2).toInt ∧ (σ 16 2).toInt ≤ 999) ∧ (∀ k : Nat, k < 8 → 0 ≤ (σ 17 k).toInt ∧ (σ 17 k).toInt ≤ 3) := id hI16
  obtain ⟨i5, w6⟩ : (0 ≤ (σ 18 0).toInt ∧ (σ 18 0).toInt ≤ 160) ∧ (∀ k : Nat, k < 160 → 0 ≤ (σ 19 k).toInt ∧ (σ 19 k).toInt ≤ 30000) := id hI18
  obtain ⟨i7, w8⟩ : (0 ≤ (σ 22 0).toInt ∧ (σ 22 0).toInt ≤ 160) ∧ (∀ k : Nat, k < 160 → 0 ≤ (σ 23 k).toInt ∧ (σ 23 k).toInt ≤ 30000) := id hI22
  obtain ⟨i9, w10, w11⟩ : (0 ≤ (σ 31 8).toInt ∧ (σ 31 8).toInt ≤ 350) ∧ (∀ k : Nat, k < 1400 → (-1) ≤ (σ 33 k).toInt ∧ (σ 33 k).toInt ≤ 350) ∧ (∀ k : Nat, k < 1024 → 0 ≤ (σ 36 k).toInt ∧ (σ 36 k).toInt ≤ 349) := id hI31
  obtain ⟨i12, i13, w14⟩ : (0 ≤ (σ 38 0).toInt ∧ (σ 38 0).toInt ≤ 20) ∧ (0 ≤ (σ 38 1).toInt ∧ (σ 38 1).toInt ≤ 1000) ∧ (∀ k : Nat, k < 20 → 0 ≤ (σ 39 k).toInt ∧ (σ 39 k).toInt ≤ 6) := id hI38
  refine lv_iconst (v := (-1)) hx hb dX3_greatest_0 (by decide) ?_
  refine lv_istore (lv' := [(5, .int (-1)), (0, .ref (ad 43)), (1, .int a1), (2, .int a2), (3, .int a3), (4, .int a4)]) hx hb dX3_greatest_1 hl (by decide) rfl (fun ls hl => ?_)
  refine lv_iconst (v := 0) hx hb dX3_greatest_3 (by decide) ?_
  refine lv_istore (lv' := [(6, .int 0), (5, .int (-1)), (0, .ref (ad 43)), (1, .int a1), (2, .int a2), (3, .int a3), (4, .int a4)]) hx hb dX3_greatest_4 hl (by decide) rfl (fun ls hl => ?_)
  refine lv_iconst (v := 0) hx hb dX3_greatest_6 (by decide) ?_
  refine lv_istore (lv' := [(7, .int 0), (6, .int 0), (5, .int (-1)), (0, .ref (ad 43)), (1, .int a1), (2, .int a2), (3, .int a3), (4, .int a4)]) hx hb dX3_greatest_7 hl (by decide) rfl (fun ls hl => ?_)
  have lp15 : ∀ (n16 : Nat) (x17 : Int32) (x18 : Int32) (x19 : Int32) (σ21 : Nat → Nat → Int32) (H : Heap) (locs : List Loc) (ls : Array Slot), (-x19.toInt + 4 : Int) < n16 → 0 ≤ x19.toInt → x19.toInt ≤ 4 → (∀ i : Nat, (i < 20 ∨ 21 < i) ∧ (i < 24 ∨ 25 < i) ∧ (i < 29 ∨ 30 < i) → σ21 i = σ i) → jH D cI cL ad σ21 τ H → va_S (jA ad) s.heap H locs → lv_has ls 9 [(7, .int x19), (6, .int x18), (5, .int x17), (0, .ref (ad 43)), (1, .int a1), (2, .int a2), (3, .int a3), (4, .int a4)] → W p l e ({ frames := 4, cells := 0, slots := 0, locals := 105 }) s m args below meth c H locs 0 0 Q (F0 m 9 ls []) := by
    intro n16
    induction n16 with
    | zero => intro x17 x18 x19 σ21 H locs ls h22 h23 h24; have gx17 := jrg (rfl : x17.toInt = x17.toInt); have gx18 := jrg (rfl : x18.toInt = x18.toInt); exact absurd h22 (by omega)
    | succ n16 ihlp15 =>
      intro x17 x18 x19 σ21 H locs ls h22 h23 h24 f25 hP hS hl
      have gx17 := jrg (rfl : x17.toInt = x17.toInt); have gx18 := jrg (rfl : x18.toInt = x18.toInt)
      refine lv_iload hx hb dX3_greatest_9 (lv_at hl 0 rfl) ?_
      refine lv_iconst (v := 4) hx hb dX3_greatest_11 (by decide) ?_
      refine lv_icmp_ge (tgt := 67) hx hb dX3_greatest_12 (by decide) (fun c26 => ?_) (fun c26 => ?_)
      · have kc26 := jle c26 jz_4 rfl
        refine lv_iload hx hb dX3_greatest_67 (lv_at hl 2 rfl) ?_
        exact hret x17 σ21 τ _ _ _ _ rfl ⟨rfl, (fun i hi => by rw [f25 i (by omega)]), trivial⟩ hP hS dX3_greatest_69
      · have kc26 := jnle c26 jz_4 rfl
        refine lv_iload hx hb dX3_greatest_15 (lv_at hl 7 rfl) ?_
        refine lv_iload hx hb dX3_greatest_17 (lv_at hl 0 rfl) ?_
        refine jcallS (As := [.int a4, .int x19]) (rest := []) ⟨hx, hb, hml, hown, hts⟩ hK hP hA hS hZ (c_X0_mayBowl l D cI cL ad zz hJ σ21 τ a4 (A4) t4 x19 (x19.toInt) rfl) cw_RX3_75 ⟨Nat.le_of_ble_eq_true rfl, Nat.le_of_ble_eq_true rfl⟩ rfl rfl rfl hl.1 rfl (Nat.le_of_ble_eq_true rfl) dX3_greatest_19 ⟨Nat.zero_le _, Nat.zero_le _⟩ (fun r28 σ27 τ27 H locs h27 hP hS => ?_)
        obtain ⟨⟨rfl, rfl⟩, h27⟩ := h27
        refine lv_if_ne (tgt := 28) hx hb dX3_greatest_22 (by decide) (fun c29 => ?_) (fun c29 => ?_)
        · have kc29 := jne c29 rfl jz_0
          refine lv_aload_n hx hb dX3_greatest_28 rfl (lv_at hl 3 rfl) ?_
          refine lv_iload_n hx hb dX3_greatest_29 rfl (lv_at hl 4 rfl) ?_
          refine lv_iload_n hx hb dX3_greatest_30 rfl (lv_at hl 5 rfl) ?_
          refine lv_iload_n hx hb dX3_greatest_31 rfl (lv_at hl 6 rfl) ?_
          refine lv_iload hx hb dX3_greatest_32 (lv_at hl 7 rfl) ?_
          refine lv_iload hx hb dX3_greatest_34 (lv_at hl 0 rfl) ?_
          have z30 : (σ21 16 0).toInt = (σ 16 0).toInt := by rw [(show σ21 16 0 = (σ 16 0) from (by rw [f25 16 (by omega)]))]
          have z31 : (σ21 16 1).toInt = (σ 16 1).toInt := by rw [(show σ21 16 1 = (σ 16 1) from (by rw [f25 16 (by omega)]))]
          have z32 : (σ21 16 2).toInt = (σ 16 2).toInt := by rw [(show σ21 16 2 = (σ 16 2) from (by rw [f25 16 (by omega)]))]
          have w33 : ∀ k : Nat, k < 8 → 0 ≤ (σ21 17 k).toInt ∧ (σ21 17 k).toInt ≤ 3 := (by rw [f25 17 (by omega)]; exact w4)
          have I34 : jI16 σ21 := ⟨(by omega), (by omega), (by omega), w33⟩
          have z35 : (σ21 18 0).toInt = (σ 18 0).toInt := by rw [(show σ21 18 0 = (σ 18 0) from (by rw [f25 18 (by omega)]))]
          have w36 : ∀ k : Nat, k < 160 → 0 ≤ (σ21 19 k).toInt ∧ (σ21 19 k).toInt ≤ 30000 := (by rw [f25 19 (by omega)]; exact w6)
          have I37 : jI18 σ21 := ⟨(by omega), w36⟩
          have z38 : (σ21 22 0).toInt = (σ 22 0).toInt := by rw [(show σ21 22 0 = (σ 22 0) from (by rw [f25 22 (by omega)]))]
          have w39 : ∀ k : Nat, k < 160 → 0 ≤ (σ21 23 k).toInt ∧ (σ21 23 k).toInt ≤ 30000 := (by rw [f25 23 (by omega)]; exact w8)
          have I40 : jI22 σ21 := ⟨(by omega), w39⟩
          have z41 : (σ21 31 8).toInt = (σ 31 8).toInt := by rw [(show σ21 31 8 = (σ 31 8) from (by rw [f25 31 (by omega)]))]
          have w42 : ∀ k : Nat, k < 1400 → (-1) ≤ (σ21 33 k).toInt ∧ (σ21 33 k).toInt ≤ 350 := (by rw [f25 33 (by omega)]; exact w10)
          have w43 : ∀ k : Nat, k < 1024 → 0 ≤ (σ21 36 k).toInt ∧ (σ21 36 k).toInt ≤ 349 := (by rw [f25 36 (by omega)]; exact w11)
          have I44 : jI31 σ21 := ⟨(by omega), w42, w43⟩
          have z45 : (σ21 38 0).toInt = (σ 38 0).toInt := by rw [(show σ21 38 0 = (σ 38 0) from (by rw [f25 38 (by omega)]))]
          have z46 : (σ21 38 1).toInt = (σ 38 1).toInt := by rw [(show σ21 38 1 = (σ 38 1) from (by rw [f25 38 (by omega)]))]
          have w47 : ∀ k : Nat, k < 20 → 0 ≤ (σ21 39 k).toInt ∧ (σ21 39 k).toInt ≤ 6 := (by rw [f25 39 (by omega)]; exact w14)
          have I48 : jI38 σ21 := ⟨(by omega), (by omega), w47⟩
          refine jcallV (As := [.int a1, .int a2, .int a3, .int a4, .int x19]) (rest := []) ⟨hx, hb, hml, hown, hts⟩ hK hP hA hS hZ (c_X3_rating_43 l D cI cL ad zz hJ σ21 τ a1 (A1) t1 a2 (A2) t2 a3 (A3) t3 a4 (A4) t4 x19 (x19.toInt) rfl I34 I37 I40 I44 I48) cw_RX3_85 (jc_43 cI cL ad σ21 τ) rfl ⟨Nat.le_of_ble_eq_true rfl, Nat.le_of_ble_eq_true rfl⟩ rfl rfl rfl hl.1 rfl (Nat.le_of_ble_eq_true rfl) dX3_greatest_36 ⟨Nat.zero_le _, Nat.zero_le _⟩ (fun r50 σ49 τ49 H locs h49 hP hS => ?_)
          obtain ⟨rfl, f51, h49⟩ := h49
          refine lv_istore (lv' := [(8, .int r50), (7, .int x19), (6, .int x18), (5, .int x17), (0, .ref (ad 43)), (1, .int a1), (2, .int a2), (3, .int a3), (4, .int a4)]) hx hb dX3_greatest_39 hl (by decide) rfl (fun ls hl => ?_)
          refine lv_iload hx hb dX3_greatest_41 (lv_at hl 3 rfl) ?_
          refine lv_if_lt (tgt := 53) hx hb dX3_greatest_43 (by decide) (fun c52 => ?_) (fun c52 => ?_)
          · have kc52 := jlt c52 rfl jz_0
            refine lv_iload hx hb dX3_greatest_53 (lv_at hl 1 rfl) ?_
            refine lv_istore (lv' := [(5, .int x19), (8, .int r50), (7, .int x19), (6, .int x18), (0, .ref (ad 43)), (1, .int a1), (2, .int a2), (3, .int a3), (4, .int a4)]) hx hb dX3_greatest_55 hl (by decide) rfl (fun ls hl => ?_)
            refine lv_iload hx hb dX3_greatest_57 (lv_at hl 1 rfl) ?_
            refine lv_istore (lv' := [(6, .int r50), (5, .int x19), (8, .int r50), (7, .int x19), (0, .ref (ad 43)), (1, .int a1), (2, .int a2), (3, .int a3), (4, .int a4)]) hx hb dX3_greatest_59 hl (by decide) rfl (fun ls hl => ?_)
            obtain ⟨x53, ex53⟩ : ∃ y : Int32, y = x19 + 1 := ⟨_, rfl⟩
            have tx53 : x53.toInt = x19.toInt + 1 := (jadd ex53 rfl jz_1 (by omega) (by omega)).trans (by omega)
            refine lv_iinc (v := x53) (lv' := [(7, .int x53), (6, .int r50), (5, .int x19), (8, .int r50), (0, .ref (ad 43)), (1, .int a1), (2, .int a2), (3, .int a3), (4, .int a4)]) hx hb dX3_greatest_61 hl (k := 3) rfl (by rw [ex53]; rfl) (by decide) rfl (fun ls hl => ?_)
            refine lv_goto (tgt := 9) hx hb dX3_greatest_64 (by decide) ?_
            exact ihlp15 x19 r50 x53 σ49 _ _ ls (by have h92 := tx53; omega) (by have h92 := tx53; omega) (by have h92 := tx53; omega) (fun i hi => by rw [f51 i (by omega), f25 i hi])    hP hS (lv_sub hl [0, 1, 2, 4, 5, 6, 7, 8] rfl)
          · have kc52 := jnlt c52 rfl jz_0
            refine lv_iload hx hb dX3_greatest_46 (lv_at hl 0 rfl) ?_
            refine lv_iload hx hb dX3_greatest_48 (lv_at hl 2 rfl) ?_
            refine lv_icmp_le (tgt := 61) hx hb dX3_greatest_50 (by decide) (fun c54 => ?_) (fun c54 => ?_)
            · have kc54 := jle c54 rfl rfl
              obtain ⟨x55, ex55⟩ : ∃ y : Int32, y = x19 + 1 := ⟨_, rfl⟩
              have tx55 : x55.toInt = x19.toInt + 1 := (jadd ex55 rfl jz_1 (by omega) (by omega)).trans (by omega)
              refine lv_iinc (v := x55) (lv' := [(7, .int x55), (8, .int r50), (6, .int x18), (5, .int x17), (0, .ref (ad 43)), (1, .int a1), (2, .int a2), (3, .int a3), (4, .int a4)]) hx hb dX3_greatest_61 hl (k := 1) rfl (by rw [ex55]; rfl) (by decide) rfl (fun ls hl => ?_)
              refine lv_goto (tgt := 9) hx hb dX3_greatest_64 (by decide) ?_
              exact ihlp15 x17 x18 x55 σ49 _ _ ls (by have h92 := tx55; omega) (by have h92 := tx55; omega) (by have h92 := tx55; omega) (fun i hi => by rw [f51 i (by omega), f25 i hi])    hP hS (lv_sub hl [0, 2, 3, 4, 5, 6, 7, 8] rfl)
            · have kc54 := jnle c54 rfl rfl
              refine lv_iload hx hb dX3_greatest_53 (lv_at hl 1 rfl) ?_
              refine lv_istore (lv' := [(5, .int x19), (8, .int r50), (7, .int x19), (6, .int x18), (0, .ref (ad 43)), (1, .int a1), (2, .int a2), (3, .int a3), (4, .int a4)]) hx hb dX3_greatest_55 hl (by decide) rfl (fun ls hl => ?_)
              refine lv_iload hx hb dX3_greatest_57 (lv_at hl 1 rfl) ?_
              refine lv_istore (lv' := [(6, .int r50), (5, .int x19), (8, .int r50), (7, .int x19), (0, .ref (ad 43)), (1, .int a1), (2, .int a2), (3, .int a3), (4, .int a4)]) hx hb dX3_greatest_59 hl (by decide) rfl (fun ls hl => ?_)
              obtain ⟨x56, ex56⟩ : ∃ y : Int32, y = x19 + 1 := ⟨_, rfl⟩
              have tx56 : x56.toInt = x19.toInt + 1 := (jadd ex56 rfl jz_1 (by omega) (by omega)).trans (by omega)
              refine lv_iinc (v := x56) (lv' := [(7, .int x56), (6, .int r50), (5, .int x19), (8, .int r50), (0, .ref (ad 43)), (1, .int a1), (2, .int a2), (3, .int a3), (4, .int a4)]) hx hb dX3_greatest_61 hl (k := 3) rfl (by rw [ex56]; rfl) (by decide) rfl (fun ls hl => ?_)
              refine lv_goto (tgt := 9) hx hb dX3_greatest_64 (by decide) ?_
              exact ihlp15 x19 r50 x56 σ49 _ _ ls (by have h92 := tx56; omega) (by have h92 := tx56; omega) (by have h92 := tx56; omega) (fun i hi => by rw [f51 i (by omega), f25 i hi])    hP hS (lv_sub hl [0, 1, 2, 4, 5, 6, 7, 8] rfl)
        · have kc29 := jeq c29 rfl jz_0
          refine lv_goto (tgt := 61) hx hb dX3_greatest_25 (by decide) ?_
          obtain ⟨x57, ex57⟩ : ∃ y : Int32, y = x19 + 1 := ⟨_, rfl⟩
          have tx57 : x57.toInt = x19.toInt + 1 := (jadd ex57 rfl jz_1 (by omega) (by omega)).trans (by omega)
          refine lv_iinc (v := x57) (lv' := [(7, .int x57), (6, .int x18), (5, .int x17), (0, .ref (ad 43)), (1, .int a1), (2, .int a2), (3, .int a3), (4, .int a4)]) hx hb dX3_greatest_61 hl (k := 0) rfl (by rw [ex57]; rfl) (by decide) rfl (fun ls hl => ?_)
          refine lv_goto (tgt := 9) hx hb dX3_greatest_64 (by decide) ?_
          exact ihlp15 x17 x18 x57 σ21 _ _ ls (by have h92 := tx57; omega) (by have h92 := tx57; omega) (by have h92 := tx57; omega) (fun i hi => by rw [f25 i hi])    hP hS (lv_sub hl [0, 1, 2, 3, 4, 5, 6, 7] rfl)
  exact lp15 1000000 (-1) 0 0 σ _ _ ls (by have h90 := jz_m1; have h91 := jz_0; have h92 := jz_0; omega) (by have h90 := jz_m1; have h91 := jz_0; have h92 := jz_0; omega) (by have h90 := jz_m1; have h91 := jz_0; have h92 := jz_0; omega) (fun _ _ => rfl)   hP hS hl
set_option maxHeartbeats 4000000 in
set_option maxRecDepth 100000 in
theorem c_X3_putOn_43 (l : Launch) (D : va_G) (cI cL : ClassId) (ad zz : Nat → Nat) (hJ : jD ad) (σ : Nat → Nat → Int32) (τ : Nat → Nat → Int64) (a1 : Int32) (A1 : Int) (t1 : a1.toInt = A1) (a2 : Int32) (A2 : Int) (t2 : a2.toInt = A2) (a3 : Int32) (A3 : Int) (t3 : a3.toInt = A3) (a4 : Int32) (A4 : Int) (t4 : a4.toInt = A4) (hI16 : jI16 σ) (hI18 : jI18 σ) (hI22 : jI22 σ) (hI31 : jI31 σ) (hI38 : jI38 σ) : jM l yX3_putOn cX3_putOn 5 (some .int) ({ frames := 5, cells := 0, slots := 0, locals := 133 }) D cI cL ad zz [.ref (ad 43), .int a1, .int a2, .int a3, .int a4] σ τ (fun r σ' τ' => τ = τ' ∧ (∀ i : Nat, (i < 20 ∨ 21 < i) ∧ (i < 24 ∨ 25 < i) ∧ (i < 29 ∨ 30 < i) → σ' i = σ i) ∧ True) := by
  refine jM.of hJ (by decide +kernel) (nt := .int) rfl (Nat.le_of_ble_eq_true rfl) ?_
  intro p e s m args below meth c Q ls hC hret hl hP
  obtain ⟨hx, hb, hr, hml, hown, hts, hK, -, hlocks, hZ⟩ := hC
  have hown : s.vm.findClass RX3 = some m.cls := hown
  have hS : va_S (jA ad) s.heap s.heap [] := va_S.rf
  have hA : ∀ q, jA ad q → jA ad q := fun _ h => h
  have hl : lv_has ls 5 [(0, .ref (ad 43)), (1, .int a1), (2, .int a2), (3, .int a3), (4, .int a4)] := hl
  have g1 := jrg t1
  have g2 := jrg t2
  have g3 := jrg t3
  have g4 := jrg t4
  obtain ⟨i1, i2, i3, w4⟩ : (1 ≤ (σ 16 0).toInt ∧ (σ 16 0).toInt ≤ 8) ∧ (1 ≤ (σ 16 1).toInt ∧ (σ 16 1).toInt ≤ 12) ∧ (0 ≤ (σ 16 2).toInt ∧ (σ 16 2).toInt ≤ 999) ∧ (∀ k : Nat, k < 8 → 0 ≤ (σ 17 k).toInt ∧ (σ 17 k).toInt ≤ 3) := id hI16
  obtain ⟨i5, w6⟩ : (0 ≤ (σ 18 0).toInt ∧ (σ 18 0).toInt ≤ 160) ∧ (∀ k : Nat, k < 160 → 0 ≤ (σ 19 k).toInt ∧ (σ 19 k).toInt ≤ 30000) := id hI18
  obtain ⟨i7, w8⟩ : (0 ≤ (σ 22 0).toInt ∧ (σ 22 0).toInt ≤ 160) ∧ (∀ k : Nat, k < 160 → 0 ≤ (σ 23 k).toInt ∧ (σ 23 k).toInt ≤ 30000) := id hI22
  obtain ⟨i9, w10, w11⟩ : (0 ≤ (σ 31 8).toInt ∧ (σ 31 8).toInt ≤ 350) ∧ (∀ k : Nat, k < 1400 → (-1) ≤ (σ 33 k).toInt ∧ (σ 33 k).toInt ≤ 350) ∧ (∀ k : Nat, k < 1024 → 0 ≤ (σ 36 k).toInt ∧ (σ 36 k).toInt ≤ 349) := id hI31
  obtain ⟨i12, i13, w14⟩ : (0 ≤ (σ 38 0).toInt ∧ (σ 38 0).toInt ≤ 20) ∧ (0 ≤ (σ 38 1).toInt ∧ (σ 38 1).toInt ≤ 1000) ∧ (∀ k : Nat, k < 20 → 0 ≤ (σ 39 k).toInt ∧ (σ 39 k).toInt ≤ 6) := id hI38
  refine lv_aload_n hx hb dX3_putOn_0 rfl (lv_at hl 0 rfl) ?_
  refine va_get (D := D) hx hb hts inlX3 hown hK hP 43 (jc_43 cI cL ad σ τ) rfl 0 (by decide) (hts _ kw_6_2) (fun _ h9 => h9) rfl dX3_putOn_1 ?_
  refine lv_iload_n hx hb dX3_putOn_4 rfl (lv_at hl 1 rfl) ?_
  have I15 : jI38 σ := ⟨(by omega), (by omega), w14⟩
  refine jcallV (As := [.int a1]) (rest := []) ⟨hx, hb, hml, hown, hts⟩ hK hP hA hS hZ (c_X8_kindOf_38 l D cI cL ad zz hJ σ τ a1 (A1) t1 I15) cw_RX3_41 (jc_38 cI cL ad σ τ) rfl ⟨Nat.le_of_ble_eq_true rfl, Nat.le_of_ble_eq_true rfl⟩ rfl rfl rfl hl.1 rfl (Nat.le_of_ble_eq_true rfl) dX3_putOn_5 ⟨Nat.zero_le _, Nat.zero_le _⟩ (fun r17 σ16 τ16 H locs h16 hP hS => ?_)
  obtain ⟨⟨rfl, rfl⟩, h16⟩ := h16
  have h18 := h16
  obtain ⟨q20, k19⟩ := h18
  by_cases c21 : r17 = 1
  · have kc21 := jeq c21 rfl jz_1
    refine jtopr c21 ?_
    refine lv_tableIn (off := 40) (tgt := 48) hx hb dX3_putOn_8 (by decide) (by decide) (by decide) (by decide) ?_
    refine lv_aload_n hx hb dX3_putOn_48 rfl (lv_at hl 0 rfl) ?_
    refine lv_iload_n hx hb dX3_putOn_49 rfl (lv_at hl 1 rfl) ?_
    refine lv_iload_n hx hb dX3_putOn_50 rfl (lv_at hl 2 rfl) ?_
    refine lv_iload hx hb dX3_putOn_51 (lv_at hl 4 rfl) ?_
    refine jcallV (As := [.int a1, .int a2, .int a4]) (rest := []) ⟨hx, hb, hml, hown, hts⟩ hK hP hA hS hZ (c_X3_turn_43 l D cI cL ad zz hJ σ τ a1 (A1) t1 a2 (A2) t2 a4 (A4) t4 I15) cw_RX3_47 (jc_43 cI cL ad σ τ) rfl ⟨Nat.le_of_ble_eq_true rfl, Nat.le_of_ble_eq_true rfl⟩ rfl rfl rfl hl.1 rfl (Nat.le_of_ble_eq_true rfl) dX3_putOn_53 ⟨Nat.zero_le _, Nat.zero_le _⟩ (fun r23 σ22 τ22 H locs h22 hP hS => ?_)
    obtain ⟨⟨rfl, rfl⟩, h22⟩ := h22
    exact hret r23 σ τ _ _ _ _ rfl ⟨rfl, (fun _ _ => rfl), trivial⟩ hP hS dX3_putOn_56
  have kc21 := jne c21 rfl jz_1
  by_cases c24 : r17 = 2
  · have kc24 := jeq c24 rfl jz_2
    refine jtopr c24 ?_
    refine lv_tableIn (off := 49) (tgt := 57) hx hb dX3_putOn_8 (by decide) (by decide) (by decide) (by decide) ?_
    refine lv_aload_n hx hb dX3_putOn_57 rfl (lv_at hl 0 rfl) ?_
    refine va_get (D := D) hx hb hts inlX3 hown hK hP 43 (jc_43 cI cL ad σ τ) rfl 2 (by decide) (hts _ kw_6_4) (fun _ h9 => h9) rfl dX3_putOn_58 ?_
    refine lv_aload_n hx hb dX3_putOn_61 rfl (lv_at hl 0 rfl) ?_
    refine va_get (D := D) hx hb hts inlX3 hown hK hP 43 (jc_43 cI cL ad σ τ) rfl 2 (by decide) (hts _ kw_6_4) (fun _ h9 => h9) rfl dX3_putOn_62 ?_
    refine lv_iload hx hb dX3_putOn_65 (lv_at hl 4 rfl) ?_
    refine lv_iload_n hx hb dX3_putOn_67 rfl (lv_at hl 2 rfl) ?_
    have I25 : jI31 σ := ⟨(by omega), w10, w11⟩
    refine jcallV (As := [.int a4, .int a2]) (rest := [.ref (ad 31)]) ⟨hx, hb, hml, hown, hts⟩ hK hP hA hS hZ (c_X1_nodeOf_31 l D cI cL ad zz hJ σ τ a4 (A4) t4 a2 (A2) t2 I25) cw_RX3_51 (jc_31 cI cL ad σ τ) rfl ⟨Nat.le_of_ble_eq_true rfl, Nat.le_of_ble_eq_true rfl⟩ rfl rfl rfl hl.1 rfl (Nat.le_of_ble_eq_true rfl) dX3_putOn_68 ⟨Nat.zero_le _, Nat.zero_le _⟩ (fun r27 σ26 τ26 H locs h26 hP hS => ?_)
    obtain ⟨⟨rfl, rfl⟩, h26⟩ := h26
    have h28 := h26
    obtain ⟨q30, k29⟩ := h28
    refine lv_iload_n hx hb dX3_putOn_71 rfl (lv_at hl 3 rfl) ?_
    have I31 : jI16 σ := ⟨(by omega), (by omega), (by omega), w4⟩
    refine jcallV (As := [.int r27, .int a3]) (rest := []) ⟨hx, hb, hml, hown, hts⟩ hK hP hA hS hZ (c_X1_whomAt_31 l D cI cL ad zz hJ σ τ r27 (r27.toInt) rfl a3 (A3) t3 I31 I25) cw_RX3_57 (jc_31 cI cL ad σ τ) rfl ⟨Nat.le_of_ble_eq_true rfl, Nat.le_of_ble_eq_true rfl⟩ rfl rfl rfl hl.1 rfl (Nat.le_of_ble_eq_true rfl) dX3_putOn_72 ⟨Nat.zero_le _, Nat.zero_le _⟩ (fun r33 σ32 τ32 H locs h32 hP hS => ?_)
    obtain ⟨⟨rfl, rfl⟩, h32⟩ := h32
    exact hret r33 σ τ _ _ _ _ rfl ⟨rfl, (fun _ _ => rfl), trivial⟩ hP hS dX3_putOn_75
  have kc24 := jne c24 rfl jz_2
  by_cases c34 : r17 = 3
  · have kc34 := jeq c34 rfl jz_3
    refine jtopr c34 ?_
    refine lv_tableIn (off := 68) (tgt := 76) hx hb dX3_putOn_8 (by decide) (by decide) (by decide) (by decide) ?_
    refine lv_aload_n hx hb dX3_putOn_76 rfl (lv_at hl 0 rfl) ?_
    refine lv_iload_n hx hb dX3_putOn_77 rfl (lv_at hl 1 rfl) ?_
    refine lv_iload_n hx hb dX3_putOn_78 rfl (lv_at hl 2 rfl) ?_
    refine lv_iload_n hx hb dX3_putOn_79 rfl (lv_at hl 3 rfl) ?_
    refine lv_iload hx hb dX3_putOn_80 (lv_at hl 4 rfl) ?_
    have I35 : jI16 σ := ⟨(by omega), (by omega), (by omega), w4⟩
    have I36 : jI18 σ := ⟨(by omega), w6⟩
    have I37 : jI22 σ := ⟨(by omega), w8⟩
    have I38 : jI31 σ := ⟨(by omega), w10, w11⟩
    refine jcallV (As := [.int a1, .int a2, .int a3, .int a4]) (rest := []) ⟨hx, hb, hml, hown, hts⟩ hK hP hA hS hZ (c_X3_greatest_43 l D cI cL ad zz hJ σ τ a1 (A1) t1 a2 (A2) t2 a3 (A3) t3 a4 (A4) t4 I35 I36 I37 I38 I15) cw_RX3_60 (jc_43 cI cL ad σ τ) rfl ⟨Nat.le_of_ble_eq_true rfl, Nat.le_of_ble_eq_true rfl⟩ rfl rfl rfl hl.1 rfl (Nat.le_of_ble_eq_true rfl) dX3_putOn_82 ⟨Nat.zero_le _, Nat.zero_le _⟩ (fun r40 σ39 τ39 H locs h39 hP hS => ?_)
    obtain ⟨rfl, f41, h39⟩ := h39
    exact hret r40 σ39 τ _ _ _ _ rfl ⟨rfl, (fun i hi => by rw [f41 i (by omega)]), trivial⟩ hP hS dX3_putOn_85
  have kc34 := jne c34 rfl jz_3
  by_cases c42 : r17 = 4
  · have kc42 := jeq c42 rfl jz_4
    refine jtopr c42 ?_
    refine lv_tableIn (off := 78) (tgt := 86) hx hb dX3_putOn_8 (by decide) (by decide) (by decide) (by decide) ?_
    refine lv_aload_n hx hb dX3_putOn_86 rfl (lv_at hl 0 rfl) ?_
    refine lv_iload_n hx hb dX3_putOn_87 rfl (lv_at hl 1 rfl) ?_
    refine lv_iload_n hx hb dX3_putOn_88 rfl (lv_at hl 2 rfl) ?_
    refine lv_aload_n hx hb dX3_putOn_89 rfl (lv_at hl 0 rfl) ?_
    refine lv_iload_n hx hb dX3_putOn_90 rfl (lv_at hl 1 rfl) ?_
    refine lv_iload_n hx hb dX3_putOn_91 rfl (lv_at hl 2 rfl) ?_
    refine lv_iload hx hb dX3_putOn_92 (lv_at hl 4 rfl) ?_
    refine jcallV (As := [.int a1, .int a2, .int a4]) (rest := [.int a2, .int a1, .ref (ad 43)]) ⟨hx, hb, hml, hown, hts⟩ hK hP hA hS hZ (c_X3_withoutKept_43 l D cI cL ad zz hJ σ τ a1 (A1) t1 a2 (A2) t2 a4 (A4) t4 I15) cw_RX3_64 (jc_43 cI cL ad σ τ) rfl ⟨Nat.le_of_ble_eq_true rfl, Nat.le_of_ble_eq_true rfl⟩ rfl rfl rfl hl.1 rfl (Nat.le_of_ble_eq_true rfl) dX3_putOn_94 ⟨Nat.zero_le _, Nat.zero_le _⟩ (fun r44 σ43 τ43 H locs h43 hP hS => ?_)
    obtain ⟨⟨rfl, rfl⟩, h43⟩ := h43
    refine jcallV (As := [.int a1, .int a2, .int r44]) (rest := []) ⟨hx, hb, hml, hown, hts⟩ hK hP hA hS hZ (c_X3_turn_43 l D cI cL ad zz hJ σ τ a1 (A1) t1 a2 (A2) t2 r44 (r44.toInt) rfl I15) cw_RX3_47 (jc_43 cI cL ad σ τ) rfl ⟨Nat.le_of_ble_eq_true rfl, Nat.le_of_ble_eq_true rfl⟩ rfl rfl rfl hl.1 rfl (Nat.le_of_ble_eq_true rfl) dX3_putOn_97 ⟨Nat.zero_le _, Nat.zero_le _⟩ (fun r46 σ45 τ45 H locs h45 hP hS => ?_)
    obtain ⟨⟨rfl, rfl⟩, h45⟩ := h45
    exact hret r46 σ τ _ _ _ _ rfl ⟨rfl, (fun _ _ => rfl), trivial⟩ hP hS dX3_putOn_100
  have kc42 := jne c42 rfl jz_4
  by_cases c47 : r17 = 5
  · have kc47 := jeq c47 rfl jz_5
    refine jtopr c47 ?_
    refine lv_tableIn (off := 68) (tgt := 76) hx hb dX3_putOn_8 (by decide) (by decide) (by decide) (by decide) ?_
    refine lv_aload_n hx hb dX3_putOn_76 rfl (lv_at hl 0 rfl) ?_
    refine lv_iload_n hx hb dX3_putOn_77 rfl (lv_at hl 1 rfl) ?_
    refine lv_iload_n hx hb dX3_putOn_78 rfl (lv_at hl 2 rfl) ?_
    refine lv_iload_n hx hb dX3_putOn_79 rfl (lv_at hl 3 rfl) ?_
    refine lv_iload hx hb dX3_putOn_80 (lv_at hl 4 rfl) ?_
    have I48 : jI16 σ := ⟨(by omega), (by omega), (by omega), w4⟩
    have I49 : jI18 σ := ⟨(by omega), w6⟩
    have I50 : jI22 σ := ⟨(by omega), w8⟩
    have I51 : jI31 σ := ⟨(by omega), w10, w11⟩
    refine jcallV (As := [.int a1, .int a2, .int a3, .int a4]) (rest := []) ⟨hx, hb, hml, hown, hts⟩ hK hP hA hS hZ (c_X3_greatest_43 l D cI cL ad zz hJ σ τ a1 (A1) t1 a2 (A2) t2 a3 (A3) t3 a4 (A4) t4 I48 I49 I50 I51 I15) cw_RX3_60 (jc_43 cI cL ad σ τ) rfl ⟨Nat.le_of_ble_eq_true rfl, Nat.le_of_ble_eq_true rfl⟩ rfl rfl rfl hl.1 rfl (Nat.le_of_ble_eq_true rfl) dX3_putOn_82 ⟨Nat.zero_le _, Nat.zero_le _⟩ (fun r53 σ52 τ52 H locs h52 hP hS => ?_)
    obtain ⟨rfl, f54, h52⟩ := h52
    exact hret r53 σ52 τ _ _ _ _ rfl ⟨rfl, (fun i hi => by rw [f54 i (by omega)]), trivial⟩ hP hS dX3_putOn_85
  have kc47 := jne c47 rfl jz_5
  by_cases c55 : r17 = 6
  · have kc55 := jeq c55 rfl jz_6
    refine jtopr c55 ?_
    refine lv_tableIn (off := 68) (tgt := 76) hx hb dX3_putOn_8 (by decide) (by decide) (by decide) (by decide) ?_
    refine lv_aload_n hx hb dX3_putOn_76 rfl (lv_at hl 0 rfl) ?_
    refine lv_iload_n hx hb dX3_putOn_77 rfl (lv_at hl 1 rfl) ?_
    refine lv_iload_n hx hb dX3_putOn_78 rfl (lv_at hl 2 rfl) ?_
    refine lv_iload_n hx hb dX3_putOn_79 rfl (lv_at hl 3 rfl) ?_
    refine lv_iload hx hb dX3_putOn_80 (lv_at hl 4 rfl) ?_
    have I56 : jI16 σ := ⟨(by omega), (by omega), (by omega), w4⟩
    have I57 : jI18 σ := ⟨(by omega), w6⟩
    have I58 : jI22 σ := ⟨(by omega), w8⟩
    have I59 : jI31 σ := ⟨(by omega), w10, w11⟩
    refine jcallV (As := [.int a1, .int a2, .int a3, .int a4]) (rest := []) ⟨hx, hb, hml, hown, hts⟩ hK hP hA hS hZ (c_X3_greatest_43 l D cI cL ad zz hJ σ τ a1 (A1) t1 a2 (A2) t2 a3 (A3) t3 a4 (A4) t4 I56 I57 I58 I59 I15) cw_RX3_60 (jc_43 cI cL ad σ τ) rfl ⟨Nat.le_of_ble_eq_true rfl, Nat.le_of_ble_eq_true rfl⟩ rfl rfl rfl hl.1 rfl (Nat.le_of_ble_eq_true rfl) dX3_putOn_82 ⟨Nat.zero_le _, Nat.zero_le _⟩ (fun r61 σ60 τ60 H locs h60 hP hS => ?_)
    obtain ⟨rfl, f62, h60⟩ := h60
    exact hret r61 σ60 τ _ _ _ _ rfl ⟨rfl, (fun i hi => by rw [f62 i (by omega)]), trivial⟩ hP hS dX3_putOn_85
  have kc55 := jne c55 rfl jz_6
  refine lv_tableOut (tgt := 101) hx hb dX3_putOn_8 (by rw [show r17.toInt = r17.toInt from rfl]; omega) (by decide) ?_
  refine lv_iload hx hb dX3_putOn_101 (lv_at hl 4 rfl) ?_
  refine jcallS (As := [.int a4]) (rest := []) ⟨hx, hb, hml, hown, hts⟩ hK hP hA hS hZ (c_X0_first l D cI cL ad zz hJ σ τ a4 (A4) t4) cw_RX3_67 ⟨Nat.le_of_ble_eq_true rfl, Nat.le_of_ble_eq_true rfl⟩ rfl rfl rfl hl.1 rfl (Nat.le_of_ble_eq_true rfl) dX3_putOn_103 ⟨Nat.zero_le _, Nat.zero_le _⟩ (fun r64 σ63 τ63 H locs h63 hP hS => ?_)
  obtain ⟨⟨rfl, rfl⟩, h63⟩ := h63
  exact hret r64 σ τ _ _ _ _ rfl ⟨rfl, (fun _ _ => rfl), trivial⟩ hP hS dX3_putOn_106
set_option maxHeartbeats 4000000 in
set_option maxRecDepth 100000 in
theorem c_X3_outBy_43 (l : Launch) (D : va_G) (cI cL : ClassId) (ad zz : Nat → Nat) (hJ : jD ad) (σ : Nat → Nat → Int32) (τ : Nat → Nat → Int64) (a1 : Int32) (A1 : Int) (t1 : a1.toInt = A1) (a2 : Int32) (A2 : Int) (t2 : a2.toInt = A2) (a3 : Int32) (A3 : Int) (t3 : a3.toInt = A3) (a4 : Int32) (A4 : Int) (t4 : a4.toInt = A4) (hI16 : jI16 σ) (hI22 : jI22 σ) : jM l yX3_outBy cX3_outBy 5 (some .int) ({ frames := 3, cells := 0, slots := 0, locals := 76 }) D cI cL ad zz [.ref (ad 43), .int a1, .int a2, .int a3, .int a4] σ τ (fun r σ' τ' => τ = τ' ∧ (∀ i : Nat, (i < 24 ∨ 25 < i) ∧ (i < 29 ∨ 30 < i) → σ' i = σ i) ∧ True) := by
  refine jM.of hJ (by decide +kernel) (nt := .int) rfl (Nat.le_of_ble_eq_true rfl) ?_
  intro p e s m args below meth c Q ls hC hret hl hP
  obtain ⟨hx, hb, hr, hml, hown, hts, hK, -, hlocks, hZ⟩ := hC
  have hown : s.vm.findClass RX3 = some m.cls := hown
  have hS : va_S (jA ad) s.heap s.heap [] := va_S.rf
  have hA : ∀ q, jA ad q → jA ad q := fun _ h => h
  have hl : lv_has ls 5 [(0, .ref (ad 43)), (1, .int a1), (2, .int a2), (3, .int a3), (4, .int a4)] := hl
  have g1 := jrg t1
  have g2 := jrg t2
  have g3 := jrg t3
  have g4 := jrg t4
  obtain ⟨i1, i2, i3, w4⟩ : (1 ≤ (σ 16 0).toInt ∧ (σ 16 0).toInt ≤ 8) ∧ (1 ≤ (σ 16 1).toInt ∧ (σ 16 1).toInt ≤ 12) ∧ (0 ≤ (σ 16 2).toInt ∧ (σ 16 2).toInt ≤ 999) ∧ (∀ k : Nat, k < 8 → 0 ≤ (σ 17 k).toInt ∧ (σ 17 k).toInt ≤ 3) := id hI16
  obtain ⟨i5, w6⟩ : (0 ≤ (σ 22 0).toInt ∧ (σ 22 0).toInt ≤ 160) ∧ (∀ k : Nat, k < 160 → 0 ≤ (σ 23 k).toInt ∧ (σ 23 k).toInt ≤ 30000) := id hI22
  refine lv_aload_n hx hb dX3_outBy_0 rfl (lv_at hl 0 rfl) ?_
  refine va_get (D := D) hx hb hts inlX3 hown hK hP 43 (jc_43 cI cL ad σ τ) rfl 1 (by decide) (hts _ kw_6_3) (fun _ h9 => h9) rfl dX3_outBy_1 ?_
  refine lv_iload_n hx hb dX3_outBy_4 rfl (lv_at hl 1 rfl) ?_
  refine lv_aload_n hx hb dX3_outBy_5 rfl (lv_at hl 0 rfl) ?_
  refine va_get (D := D) hx hb hts inlX3 hown hK hP 43 (jc_43 cI cL ad σ τ) rfl 3 (by decide) (hts _ kw_6_5) (fun _ h9 => h9) rfl dX3_outBy_6 ?_
  refine lv_iload_n hx hb dX3_outBy_9 rfl (lv_at hl 3 rfl) ?_
  refine jcallV (As := [.int a3]) (rest := [.int a1, .ref (ad 26)]) ⟨hx, hb, hml, hown, hts⟩ hK hP hA hS hZ (c_X6_sortAt_16 l D cI cL ad zz hJ σ τ a3 (A3) t3) cw_RX3_89 (jc_16 cI cL ad σ τ) rfl ⟨Nat.le_of_ble_eq_true rfl, Nat.le_of_ble_eq_true rfl⟩ rfl rfl rfl hl.1 rfl (Nat.le_of_ble_eq_true rfl) dX3_outBy_10 ⟨Nat.zero_le _, Nat.zero_le _⟩ (fun r8 σ7 τ7 H locs h7 hP hS => ?_)
  obtain ⟨⟨rfl, rfl⟩, h7⟩ := h7
  refine lv_iload hx hb dX3_outBy_13 (lv_at hl 4 rfl) ?_
  refine lv_iload_n hx hb dX3_outBy_15 rfl (lv_at hl 1 rfl) ?_
  refine jcallS (As := [.int a4, .int a1]) (rest := [.int r8, .int a1, .ref (ad 26)]) ⟨hx, hb, hml, hown, hts⟩ hK hP hA hS hZ (c_X0_steps l D cI cL ad zz hJ σ τ a4 (A4) t4 a1 (A1) t1) cw_RX3_94 ⟨Nat.le_of_ble_eq_true rfl, Nat.le_of_ble_eq_true rfl⟩ rfl rfl rfl hl.1 rfl (Nat.le_of_ble_eq_true rfl) dX3_outBy_16 ⟨Nat.zero_le _, Nat.zero_le _⟩ (fun r10 σ9 τ9 H locs h9 hP hS => ?_)
  obtain ⟨⟨rfl, rfl⟩, h9⟩ := h9
  refine lv_iload hx hb dX3_outBy_19 (lv_at hl 4 rfl) ?_
  refine lv_iload_n hx hb dX3_outBy_21 rfl (lv_at hl 1 rfl) ?_
  refine jcallS (As := [.int a4, .int a1]) (rest := [.int r10, .int r8, .int a1, .ref (ad 26)]) ⟨hx, hb, hml, hown, hts⟩ hK hP hA hS hZ (c_X0_left l D cI cL ad zz hJ σ τ a4 (A4) t4 a1 (A1) t1) cw_RX3_97 ⟨Nat.le_of_ble_eq_true rfl, Nat.le_of_ble_eq_true rfl⟩ rfl rfl rfl hl.1 rfl (Nat.le_of_ble_eq_true rfl) dX3_outBy_22 ⟨Nat.zero_le _, Nat.zero_le _⟩ (fun r12 σ11 τ11 H locs h11 hP hS => ?_)
  obtain ⟨⟨rfl, rfl⟩, h11⟩ := h11
  refine lv_iload_n hx hb dX3_outBy_25 rfl (lv_at hl 2 rfl) ?_
  refine lv_iload_n hx hb dX3_outBy_26 rfl (lv_at hl 3 rfl) ?_
  have I13 : jI22 σ := ⟨(by omega), w6⟩
  refine jcallV (As := [.int a1, .int r8, .int r10, .int r12, .int a2, .int a3]) (rest := []) ⟨hx, hb, hml, hown, hts⟩ hK hP hA hS hZ (c_X5_outOf_26 l D cI cL ad zz hJ σ τ a1 (A1) t1 r8 (r8.toInt) rfl r10 (r10.toInt) rfl r12 (r12.toInt) rfl a2 (A2) t2 a3 (A3) t3 I13) cw_RX3_100 (jc_26 cI cL ad σ τ) rfl ⟨Nat.le_of_ble_eq_true rfl, Nat.le_of_ble_eq_true rfl⟩ rfl rfl rfl hl.1 rfl (Nat.le_of_ble_eq_true rfl) dX3_outBy_27 ⟨Nat.zero_le _, Nat.zero_le _⟩ (fun r15 σ14 τ14 H locs h14 hP hS => ?_)
  obtain ⟨rfl, f16, h14⟩ := h14
  exact hret r15 σ14 τ _ _ _ _ rfl ⟨rfl, (fun i hi => by rw [f16 i (by omega)]), trivial⟩ hP hS dX3_outBy_30
set_option maxHeartbeats 4000000 in
set_option maxRecDepth 100000 in
theorem c_X3_runsBy_43 (l : Launch) (D : va_G) (cI cL : ClassId) (ad zz : Nat → Nat) (hJ : jD ad) (σ : Nat → Nat → Int32) (τ : Nat → Nat → Int64) (a1 : Int32) (A1 : Int) (t1 : a1.toInt = A1) (a2 : Int32) (A2 : Int) (t2 : a2.toInt = A2) (a3 : Int32) (A3 : Int) (t3 : a3.toInt = A3) (hI16 : jI16 σ) : jM l yX3_runsBy cX3_runsBy 4 (some .int) ({ frames := 1, cells := 0, slots := 0, locals := 24 }) D cI cL ad zz [.ref (ad 43), .int a1, .int a2, .int a3] σ τ (fun r σ' τ' => (σ = σ' ∧ τ = τ') ∧ True) := by
  refine jM.of hJ (by decide +kernel) (nt := .int) rfl (Nat.le_of_ble_eq_true rfl) ?_
  intro p e s m args below meth c Q ls hC hret hl hP
  obtain ⟨hx, hb, hr, hml, hown, hts, hK, -, hlocks, hZ⟩ := hC
  have hown : s.vm.findClass RX3 = some m.cls := hown
  have hS : va_S (jA ad) s.heap s.heap [] := va_S.rf
  have hA : ∀ q, jA ad q → jA ad q := fun _ h => h
  have hl : lv_has ls 4 [(0, .ref (ad 43)), (1, .int a1), (2, .int a2), (3, .int a3)] := hl
  have g1 := jrg t1
  have g2 := jrg t2
  have g3 := jrg t3
  obtain ⟨i1, i2, i3, w4⟩ : (1 ≤ (σ 16 0).toInt ∧ (σ 16 0).toInt ≤ 8) ∧ (1 ≤ (σ 16 1).toInt ∧ (σ 16 1).toInt ≤ 12) ∧ (0 ≤ (σ 16 2).toInt ∧ (σ 16 2).toInt ≤ 999) ∧ (∀ k : Nat, k < 8 → 0 ≤ (σ 17 k).toInt ∧ (σ 17 k).toInt ≤ 3) := id hI16
  refine lv_aload_n hx hb dX3_runsBy_0 rfl (lv_at hl 0 rfl) ?_
  refine va_get (D := D) hx hb hts inlX3 hown hK hP 43 (jc_43 cI cL ad σ τ) rfl 1 (by decide) (hts _ kw_6_3) (fun _ h9 => h9) rfl dX3_runsBy_1 ?_
  refine lv_iload_n hx hb dX3_runsBy_4 rfl (lv_at hl 1 rfl) ?_
  refine lv_aload_n hx hb dX3_runsBy_5 rfl (lv_at hl 0 rfl) ?_
  refine va_get (D := D) hx hb hts inlX3 hown hK hP 43 (jc_43 cI cL ad σ τ) rfl 3 (by decide) (hts _ kw_6_5) (fun _ h9 => h9) rfl dX3_runsBy_6 ?_
  refine lv_iload_n hx hb dX3_runsBy_9 rfl (lv_at hl 2 rfl) ?_
  refine jcallV (As := [.int a2]) (rest := [.int a1, .ref (ad 26)]) ⟨hx, hb, hml, hown, hts⟩ hK hP hA hS hZ (c_X6_sortAt_16 l D cI cL ad zz hJ σ τ a2 (A2) t2) cw_RX3_89 (jc_16 cI cL ad σ τ) rfl ⟨Nat.le_of_ble_eq_true rfl, Nat.le_of_ble_eq_true rfl⟩ rfl rfl rfl hl.1 rfl (Nat.le_of_ble_eq_true rfl) dX3_runsBy_10 ⟨Nat.zero_le _, Nat.zero_le _⟩ (fun r6 σ5 τ5 H locs h5 hP hS => ?_)
  obtain ⟨⟨rfl, rfl⟩, h5⟩ := h5
  refine lv_iload_n hx hb dX3_runsBy_13 rfl (lv_at hl 3 rfl) ?_
  refine lv_iload_n hx hb dX3_runsBy_14 rfl (lv_at hl 1 rfl) ?_
  refine jcallS (As := [.int a3, .int a1]) (rest := [.int r6, .int a1, .ref (ad 26)]) ⟨hx, hb, hml, hown, hts⟩ hK hP hA hS hZ (c_X0_steps l D cI cL ad zz hJ σ τ a3 (A3) t3 a1 (A1) t1) cw_RX3_94 ⟨Nat.le_of_ble_eq_true rfl, Nat.le_of_ble_eq_true rfl⟩ rfl rfl rfl hl.1 rfl (Nat.le_of_ble_eq_true rfl) dX3_runsBy_15 ⟨Nat.zero_le _, Nat.zero_le _⟩ (fun r8 σ7 τ7 H locs h7 hP hS => ?_)
  obtain ⟨⟨rfl, rfl⟩, h7⟩ := h7
  refine jcallV (As := [.int a1, .int r6, .int r8]) (rest := []) ⟨hx, hb, hml, hown, hts⟩ hK hP hA hS hZ (c_X5_runsOf_26 l D cI cL ad zz hJ σ τ a1 (A1) t1 r6 (r6.toInt) rfl r8 (r8.toInt) rfl) cw_RX3_106 (jc_26 cI cL ad σ τ) rfl ⟨Nat.le_of_ble_eq_true rfl, Nat.le_of_ble_eq_true rfl⟩ rfl rfl rfl hl.1 rfl (Nat.le_of_ble_eq_true rfl) dX3_runsBy_18 ⟨Nat.zero_le _, Nat.zero_le _⟩ (fun r10 σ9 τ9 H locs h9 hP hS => ?_)
  obtain ⟨⟨rfl, rfl⟩, h9⟩ := h9
  exact hret r10 σ τ _ _ _ _ rfl ⟨⟨rfl, rfl⟩, trivial⟩ hP hS dX3_runsBy_21
set_option maxHeartbeats 4000000 in
set_option maxRecDepth 100000 in
theorem c_X3_meanFrom_8 (l : Launch) (D : va_G) (cI cL : ClassId) (ad zz : Nat → Nat) (hJ : jD ad) (σ : Nat → Nat → Int32) (τ : Nat → Nat → Int64) (a1 : Int32) (A1 : Int) (t1 : a1.toInt = A1) (a3 : Int32) (A3 : Int) (t3 : a3.toInt = A3) (a4 : Int32) (A4 : Int) (t4 : a4.toInt = A4) (hI16 : jI16 σ) (hI18 : jI18 σ) (hI22 : jI22 σ) (hI31 : jI31 σ) (hI38 : jI38 σ) : jM l yX3_meanFrom cX3_meanFrom 9 (some .int) ({ frames := 0, cells := 0, slots := 0, locals := 0 }) D cI cL ad zz [.ref (ad 43), .int a1, .int 8, .int a3, .int a4] σ τ (fun r σ' τ' => τ = τ' ∧ (∀ i : Nat, (i < 20 ∨ 21 < i) ∧ (i < 24 ∨ 25 < i) ∧ (i < 29 ∨ 30 < i) → σ' i = σ i) ∧ True) := by
  refine jM.of hJ (by decide +kernel) (nt := .int) rfl (Nat.le_of_ble_eq_true rfl) ?_
  intro p e s m args below meth c Q ls hC hret hl hP
  obtain ⟨hx, hb, hr, hml, hown, hts, hK, -, hlocks, hZ⟩ := hC
  have hown : s.vm.findClass RX3 = some m.cls := hown
  have hS : va_S (jA ad) s.heap s.heap [] := va_S.rf
  have hA : ∀ q, jA ad q → jA ad q := fun _ h => h
  have hl : lv_has ls 9 [(0, .ref (ad 43)), (1, .int a1), (2, .int 8), (3, .int a3), (4, .int a4)] := hl
  have g1 := jrg t1
  have g3 := jrg t3
  have g4 := jrg t4
  obtain ⟨i1, i2, i3, w4⟩ : (1 ≤ (σ 16 0).toInt ∧ (σ 16 0).toInt ≤ 8) ∧ (1 ≤ (σ 16 1).toInt ∧ (σ 16 1).toInt ≤ 12) ∧ (0 ≤ (σ 16 2).toInt ∧ (σ 16 2).toInt ≤ 999) ∧ (∀ k : Nat, k < 8 → 0 ≤ (σ 17 k).toInt ∧ (σ 17 k).toInt ≤ 3) := id hI16
  obtain ⟨i5, w6⟩ : (0 ≤ (σ 18 0).toInt ∧ (σ 18 0).toInt ≤ 160) ∧ (∀ k : Nat, k < 160 → 0 ≤ (σ 19 k).toInt ∧ (σ 19 k).toInt ≤ 30000) := id hI18
  obtain ⟨i7, w8⟩ : (0 ≤ (σ 22 0).toInt ∧ (σ 22 0).toInt ≤ 160) ∧ (∀ k : Nat, k < 160 → 0 ≤ (σ 23 k).toInt ∧ (σ 23 k).toInt ≤ 30000) := id hI22
  obtain ⟨i9, w10, w11⟩ : (0 ≤ (σ 31 8).toInt ∧ (σ 31 8).toInt ≤ 350) ∧ (∀ k : Nat, k < 1400 → (-1) ≤ (σ 33 k).toInt ∧ (σ 33 k).toInt ≤ 350) ∧ (∀ k : Nat, k < 1024 → 0 ≤ (σ 36 k).toInt ∧ (σ 36 k).toInt ≤ 349) := id hI31
  obtain ⟨i12, i13, w14⟩ : (0 ≤ (σ 38 0).toInt ∧ (σ 38 0).toInt ≤ 20) ∧ (0 ≤ (σ 38 1).toInt ∧ (σ 38 1).toInt ≤ 1000) ∧ (∀ k : Nat, k < 20 → 0 ≤ (σ 39 k).toInt ∧ (σ 39 k).toInt ≤ 6) := id hI38
  refine lv_iload_n hx hb dX3_meanFrom_0 rfl (lv_at hl 2 rfl) ?_
  refine lv_bipush (v := 8) hx hb dX3_meanFrom_1 (by decide) ?_
  refine lv_icmp_ge (tgt := 20) hx hb dX3_meanFrom_3 (by decide) (fun _ => ?_) (fun c => absurd (by decide) c)
  refine lv_iconst (v := 0) hx hb dX3_meanFrom_20 (by decide) ?_
  exact hret 0 σ τ _ _ _ _ rfl ⟨rfl, (fun _ _ => rfl), trivial⟩ hP hS dX3_meanFrom_21
set_option maxHeartbeats 4000000 in
set_option maxRecDepth 100000 in
theorem c_X3_meanFrom_7 (l : Launch) (D : va_G) (cI cL : ClassId) (ad zz : Nat → Nat) (hJ : jD ad) (σ : Nat → Nat → Int32) (τ : Nat → Nat → Int64) (a1 : Int32) (A1 : Int) (t1 : a1.toInt = A1) (a3 : Int32) (A3 : Int) (t3 : a3.toInt = A3) (a4 : Int32) (A4 : Int) (t4 : a4.toInt = A4) (hI16 : jI16 σ) (hI18 : jI18 σ) (hI22 : jI22 σ) (hI31 : jI31 σ) (hI38 : jI38 σ) : jM l yX3_meanFrom cX3_meanFrom 9 (some .int) ({ frames := 6, cells := 0, slots := 0, locals := 157 }) D cI cL ad zz [.ref (ad 43), .int a1, .int 7, .int a3, .int a4] σ τ (fun r σ' τ' => τ = τ' ∧ (∀ i : Nat, (i < 20 ∨ 21 < i) ∧ (i < 24 ∨ 25 < i) ∧ (i < 29 ∨ 30 < i) → σ' i = σ i) ∧ True) := by
  refine jM.of hJ (by decide +kernel) (nt := .int) rfl (Nat.le_of_ble_eq_true rfl) ?_
  intro p e s m args below meth c Q ls hC hret hl hP
  obtain ⟨hx, hb, hr, hml, hown, hts, hK, -, hlocks, hZ⟩ := hC
  have hown : s.vm.findClass RX3 = some m.cls := hown
  have hS : va_S (jA ad) s.heap s.heap [] := va_S.rf
  have hA : ∀ q, jA ad q → jA ad q := fun _ h => h
  have hl : lv_has ls 9 [(0, .ref (ad 43)), (1, .int a1), (2, .int 7), (3, .int a3), (4, .int a4)] := hl
  have g1 := jrg t1
  have g3 := jrg t3
  have g4 := jrg t4
  obtain ⟨i1, i2, i3, w4⟩ : (1 ≤ (σ 16 0).toInt ∧ (σ 16 0).toInt ≤ 8) ∧ (1 ≤ (σ 16 1).toInt ∧ (σ 16 1).toInt ≤ 12) ∧ (0 ≤ (σ 16 2).toInt ∧ (σ 16 2).toInt ≤ 999) ∧ (∀ k : Nat, k < 8 → 0 ≤ (σ 17 k).toInt ∧ (σ 17 k).toInt ≤ 3) := id hI16
  obtain ⟨i5, w6⟩ : (0 ≤ (σ 18 0).toInt ∧ (σ 18 0).toInt ≤ 160) ∧ (∀ k : Nat, k < 160 → 0 ≤ (σ 19 k).toInt ∧ (σ 19 k).toInt ≤ 30000) := id hI18
  obtain ⟨i7, w8⟩ : (0 ≤ (σ 22 0).toInt ∧ (σ 22 0).toInt ≤ 160) ∧ (∀ k : Nat, k < 160 → 0 ≤ (σ 23 k).toInt ∧ (σ 23 k).toInt ≤ 30000) := id hI22
  obtain ⟨i9, w10, w11⟩ : (0 ≤ (σ 31 8).toInt ∧ (σ 31 8).toInt ≤ 350) ∧ (∀ k : Nat, k < 1400 → (-1) ≤ (σ 33 k).toInt ∧ (σ 33 k).toInt ≤ 350) ∧ (∀ k : Nat, k < 1024 → 0 ≤ (σ 36 k).toInt ∧ (σ 36 k).toInt ≤ 349) := id hI31
  obtain ⟨i12, i13, w14⟩ : (0 ≤ (σ 38 0).toInt ∧ (σ 38 0).toInt ≤ 20) ∧ (0 ≤ (σ 38 1).toInt ∧ (σ 38 1).toInt ≤ 1000) ∧ (∀ k : Nat, k < 20 → 0 ≤ (σ 39 k).toInt ∧ (σ 39 k).toInt ≤ 6) := id hI38
  refine lv_iload_n hx hb dX3_meanFrom_0 rfl (lv_at hl 2 rfl) ?_
  refine lv_bipush (v := 8) hx hb dX3_meanFrom_1 (by decide) ?_
  refine lv_icmp_ge (tgt := 20) hx hb dX3_meanFrom_3 (by decide) (fun c => absurd c (by decide)) (fun _ => ?_)
  refine lv_aload_n hx hb dX3_meanFrom_6 rfl (lv_at hl 0 rfl) ?_
  refine va_get (D := D) hx hb hts inlX3 hown hK hP 43 (jc_43 cI cL ad σ τ) rfl 3 (by decide) (hts _ kw_6_5) (fun _ h9 => h9) rfl dX3_meanFrom_7 ?_
  refine lv_iload_n hx hb dX3_meanFrom_10 rfl (lv_at hl 2 rfl) ?_
  refine lv_iload_n hx hb dX3_meanFrom_11 rfl (lv_at hl 3 rfl) ?_
  refine lv_iload hx hb dX3_meanFrom_12 (lv_at hl 4 rfl) ?_
  refine jcallV (As := [.int 7, .int a3, .int a4]) (rest := []) ⟨hx, hb, hml, hown, hts⟩ hK hP hA hS hZ (c_X6_ended_16 l D cI cL ad zz hJ σ τ 7 (7) jz_7 a3 (A3) t3 a4 (A4) t4) cw_RX3_123 (jc_16 cI cL ad σ τ) rfl ⟨Nat.le_of_ble_eq_true rfl, Nat.le_of_ble_eq_true rfl⟩ rfl rfl rfl hl.1 rfl (Nat.le_of_ble_eq_true rfl) dX3_meanFrom_14 ⟨Nat.zero_le _, Nat.zero_le _⟩ (fun r16 σ15 τ15 H locs h15 hP hS => ?_)
  obtain ⟨⟨rfl, rfl⟩, h15⟩ := h15
  refine lv_if_eq (tgt := 22) hx hb dX3_meanFrom_17 (by decide) (fun c17 => ?_) (fun c17 => ?_)
  · have kc17 := jeq c17 rfl jz_0
    refine lv_aload_n hx hb dX3_meanFrom_22 rfl (lv_at hl 0 rfl) ?_
    refine lv_iload_n hx hb dX3_meanFrom_23 rfl (lv_at hl 1 rfl) ?_
    refine lv_iload_n hx hb dX3_meanFrom_24 rfl (lv_at hl 2 rfl) ?_
    refine lv_iload_n hx hb dX3_meanFrom_25 rfl (lv_at hl 3 rfl) ?_
    refine lv_iload hx hb dX3_meanFrom_26 (lv_at hl 4 rfl) ?_
    have I18 : jI16 σ := ⟨(by omega), (by omega), (by omega), w4⟩
    have I19 : jI18 σ := ⟨(by omega), w6⟩
    have I20 : jI22 σ := ⟨(by omega), w8⟩
    have I21 : jI31 σ := ⟨(by omega), w10, w11⟩
    have I22 : jI38 σ := ⟨(by omega), (by omega), w14⟩
    refine jcallV (As := [.int a1, .int 7, .int a3, .int a4]) (rest := []) ⟨hx, hb, hml, hown, hts⟩ hK hP hA hS hZ (c_X3_putOn_43 l D cI cL ad zz hJ σ τ a1 (A1) t1 7 (7) jz_7 a3 (A3) t3 a4 (A4) t4 I18 I19 I20 I21 I22) cw_RX3_127 (jc_43 cI cL ad σ τ) rfl ⟨Nat.le_of_ble_eq_true rfl, Nat.le_of_ble_eq_true rfl⟩ rfl rfl rfl hl.1 rfl (Nat.le_of_ble_eq_true rfl) dX3_meanFrom_28 ⟨Nat.zero_le _, Nat.zero_le _⟩ (fun r24 σ23 τ23 H locs h23 hP hS => ?_)
    obtain ⟨rfl, f25, h23⟩ := h23
    refine lv_istore (lv' := [(5, .int r24), (0, .ref (ad 43)), (1, .int a1), (2, .int 7), (3, .int a3), (4, .int a4)]) hx hb dX3_meanFrom_31 hl (by decide) rfl (fun ls hl => ?_)
    refine lv_iload hx hb dX3_meanFrom_33 (lv_at hl 5 rfl) ?_
    refine lv_iload hx hb dX3_meanFrom_35 (lv_at hl 0 rfl) ?_
    refine jcallS (As := [.int a4, .int r24]) (rest := []) ⟨hx, hb, hml, hown, hts⟩ hK hP hA hS hZ (c_X0_after l D cI cL ad zz hJ σ23 τ a4 (A4) t4 r24 (r24.toInt) rfl) cw_RX3_130 ⟨Nat.le_of_ble_eq_true rfl, Nat.le_of_ble_eq_true rfl⟩ rfl rfl rfl hl.1 rfl (Nat.le_of_ble_eq_true rfl) dX3_meanFrom_37 ⟨Nat.zero_le _, Nat.zero_le _⟩ (fun r27 σ26 τ26 H locs h26 hP hS => ?_)
    obtain ⟨⟨rfl, rfl⟩, h26⟩ := h26
    refine lv_istore (lv' := [(6, .int r27), (5, .int r24), (0, .ref (ad 43)), (1, .int a1), (2, .int 7), (3, .int a3), (4, .int a4)]) hx hb dX3_meanFrom_40 hl (by decide) rfl (fun ls hl => ?_)
    refine lv_aload_n hx hb dX3_meanFrom_42 rfl (lv_at hl 2 rfl) ?_
    refine lv_iload_n hx hb dX3_meanFrom_43 rfl (lv_at hl 3 rfl) ?_
    refine lv_iload_n hx hb dX3_meanFrom_44 rfl (lv_at hl 4 rfl) ?_
    refine lv_iconst (v := 1) hx hb dX3_meanFrom_45 (by decide) ?_
    refine lv_iadd hx hb dX3_meanFrom_46 ?_
    refine jtopr (y := 8) (by decide) ?_
    refine lv_iload_n hx hb dX3_meanFrom_47 rfl (lv_at hl 5 rfl) ?_
    refine lv_iconst (v := 1) hx hb dX3_meanFrom_48 (by decide) ?_
    refine lv_iadd hx hb dX3_meanFrom_49 ?_
    refine lv_topi (fun x28 ex28 => ?_)
    have gx28 := jrg (rfl : x28.toInt = x28.toInt)
    refine lv_iload hx hb dX3_meanFrom_50 (lv_at hl 0 rfl) ?_
    have z29 : (σ23 16 0).toInt = (σ 16 0).toInt := by rw [(show σ23 16 0 = (σ 16 0) from (by rw [f25 16 (by omega)]))]
    have z30 : (σ23 16 1).toInt = (σ 16 1).toInt := by rw [(show σ23 16 1 = (σ 16 1) from (by rw [f25 16 (by omega)]))]
    have z31 : (σ23 16 2).toInt = (σ 16 2).toInt := by rw [(show σ23 16 2 = (σ 16 2) from (by rw [f25 16 (by omega)]))]
    have w32 : ∀ k : Nat, k < 8 → 0 ≤ (σ23 17 k).toInt ∧ (σ23 17 k).toInt ≤ 3 := (by rw [f25 17 (by omega)]; exact w4)
    have I33 : jI16 σ23 := ⟨(by omega), (by omega), (by omega), w32⟩
    have z34 : (σ23 18 0).toInt = (σ 18 0).toInt := by rw [(show σ23 18 0 = (σ 18 0) from (by rw [f25 18 (by omega)]))]
    have w35 : ∀ k : Nat, k < 160 → 0 ≤ (σ23 19 k).toInt ∧ (σ23 19 k).toInt ≤ 30000 := (by rw [f25 19 (by omega)]; exact w6)
    have I36 : jI18 σ23 := ⟨(by omega), w35⟩
    have z37 : (σ23 22 0).toInt = (σ 22 0).toInt := by rw [(show σ23 22 0 = (σ 22 0) from (by rw [f25 22 (by omega)]))]
    have w38 : ∀ k : Nat, k < 160 → 0 ≤ (σ23 23 k).toInt ∧ (σ23 23 k).toInt ≤ 30000 := (by rw [f25 23 (by omega)]; exact w8)
    have I39 : jI22 σ23 := ⟨(by omega), w38⟩
    have z40 : (σ23 31 8).toInt = (σ 31 8).toInt := by rw [(show σ23 31 8 = (σ 31 8) from (by rw [f25 31 (by omega)]))]
    have w41 : ∀ k : Nat, k < 1400 → (-1) ≤ (σ23 33 k).toInt ∧ (σ23 33 k).toInt ≤ 350 := (by rw [f25 33 (by omega)]; exact w10)
    have w42 : ∀ k : Nat, k < 1024 → 0 ≤ (σ23 36 k).toInt ∧ (σ23 36 k).toInt ≤ 349 := (by rw [f25 36 (by omega)]; exact w11)
    have I43 : jI31 σ23 := ⟨(by omega), w41, w42⟩
    have z44 : (σ23 38 0).toInt = (σ 38 0).toInt := by rw [(show σ23 38 0 = (σ 38 0) from (by rw [f25 38 (by omega)]))]
    have z45 : (σ23 38 1).toInt = (σ 38 1).toInt := by rw [(show σ23 38 1 = (σ 38 1) from (by rw [f25 38 (by omega)]))]
    have w46 : ∀ k : Nat, k < 20 → 0 ≤ (σ23 39 k).toInt ∧ (σ23 39 k).toInt ≤ 6 := (by rw [f25 39 (by omega)]; exact w14)
    have I47 : jI38 σ23 := ⟨(by omega), (by omega), w46⟩
    refine jcallV (As := [.int a1, .int 8, .int x28, .int r27]) (rest := []) ⟨hx, hb, hml, hown, hts⟩ hK hP hA hS hZ (c_X3_meanFrom_8 l D cI cL ad zz hJ σ23 τ a1 (A1) t1 x28 (x28.toInt) rfl r27 (r27.toInt) rfl I33 I36 I39 I43 I47) cw_RX3_133 (jc_43 cI cL ad σ23 τ) rfl ⟨Nat.le_of_ble_eq_true rfl, Nat.le_of_ble_eq_true rfl⟩ rfl rfl rfl hl.1 rfl (Nat.le_of_ble_eq_true rfl) dX3_meanFrom_52 ⟨Nat.zero_le _, Nat.zero_le _⟩ (fun r49 σ48 τ48 H locs h48 hP hS => ?_)
    obtain ⟨rfl, f50, h48⟩ := h48
    refine lv_istore (lv' := [(7, .int r49), (6, .int r27), (5, .int r24), (0, .ref (ad 43)), (1, .int a1), (2, .int 7), (3, .int a3), (4, .int a4)]) hx hb dX3_meanFrom_55 hl (by decide) rfl (fun ls hl => ?_)
    refine lv_aload_n hx hb dX3_meanFrom_57 rfl (lv_at hl 3 rfl) ?_
    refine lv_iload_n hx hb dX3_meanFrom_58 rfl (lv_at hl 4 rfl) ?_
    refine lv_iload_n hx hb dX3_meanFrom_59 rfl (lv_at hl 5 rfl) ?_
    refine lv_iconst (v := 1) hx hb dX3_meanFrom_60 (by decide) ?_
    refine lv_iadd hx hb dX3_meanFrom_61 ?_
    refine jtopr (y := 8) (by decide) ?_
    refine lv_iload_n hx hb dX3_meanFrom_62 rfl (lv_at hl 6 rfl) ?_
    refine lv_iload hx hb dX3_meanFrom_63 (lv_at hl 1 rfl) ?_
    have z51 : (σ48 16 0).toInt = (σ 16 0).toInt := by rw [(show σ48 16 0 = (σ 16 0) from (by rw [f50 16 (by omega)]; exact (by rw [f25 16 (by omega)])))]
    have z52 : (σ48 16 1).toInt = (σ 16 1).toInt := by rw [(show σ48 16 1 = (σ 16 1) from (by rw [f50 16 (by omega)]; exact (by rw [f25 16 (by omega)])))]
    have z53 : (σ48 16 2).toInt = (σ 16 2).toInt := by rw [(show σ48 16 2 = (σ 16 2) from (by rw [f50 16 (by omega)]; exact (by rw [f25 16 (by omega)])))]
    have w54 : ∀ k : Nat, k < 8 → 0 ≤ (σ48 17 k).toInt ∧ (σ48 17 k).toInt ≤ 3 := (by rw [f50 17 (by omega)]; exact w32)
    have I55 : jI16 σ48 := ⟨(by omega), (by omega), (by omega), w54⟩
    have z56 : (σ48 18 0).toInt = (σ 18 0).toInt := by rw [(show σ48 18 0 = (σ 18 0) from (by rw [f50 18 (by omega)]; exact (by rw [f25 18 (by omega)])))]
    have w57 : ∀ k : Nat, k < 160 → 0 ≤ (σ48 19 k).toInt ∧ (σ48 19 k).toInt ≤ 30000 := (by rw [f50 19 (by omega)]; exact w35)
    have I58 : jI18 σ48 := ⟨(by omega), w57⟩
    have z59 : (σ48 22 0).toInt = (σ 22 0).toInt := by rw [(show σ48 22 0 = (σ 22 0) from (by rw [f50 22 (by omega)]; exact (by rw [f25 22 (by omega)])))]
    have w60 : ∀ k : Nat, k < 160 → 0 ≤ (σ48 23 k).toInt ∧ (σ48 23 k).toInt ≤ 30000 := (by rw [f50 23 (by omega)]; exact w38)
    have I61 : jI22 σ48 := ⟨(by omega), w60⟩
    have z62 : (σ48 31 8).toInt = (σ 31 8).toInt := by rw [(show σ48 31 8 = (σ 31 8) from (by rw [f50 31 (by omega)]; exact (by rw [f25 31 (by omega)])))]
    have w63 : ∀ k : Nat, k < 1400 → (-1) ≤ (σ48 33 k).toInt ∧ (σ48 33 k).toInt ≤ 350 := (by rw [f50 33 (by omega)]; exact w41)
    have w64 : ∀ k : Nat, k < 1024 → 0 ≤ (σ48 36 k).toInt ∧ (σ48 36 k).toInt ≤ 349 := (by rw [f50 36 (by omega)]; exact w42)
    have I65 : jI31 σ48 := ⟨(by omega), w63, w64⟩
    have z66 : (σ48 38 0).toInt = (σ 38 0).toInt := by rw [(show σ48 38 0 = (σ 38 0) from (by rw [f50 38 (by omega)]; exact (by rw [f25 38 (by omega)])))]
    have z67 : (σ48 38 1).toInt = (σ 38 1).toInt := by rw [(show σ48 38 1 = (σ 38 1) from (by rw [f50 38 (by omega)]; exact (by rw [f25 38 (by omega)])))]
    have w68 : ∀ k : Nat, k < 20 → 0 ≤ (σ48 39 k).toInt ∧ (σ48 39 k).toInt ≤ 6 := (by rw [f50 39 (by omega)]; exact w46)
    have I69 : jI38 σ48 := ⟨(by omega), (by omega), w68⟩
    refine jcallV (As := [.int a1, .int 8, .int a3, .int r27]) (rest := []) ⟨hx, hb, hml, hown, hts⟩ hK hP hA hS hZ (c_X3_meanFrom_8 l D cI cL ad zz hJ σ48 τ a1 (A1) t1 a3 (A3) t3 r27 (r27.toInt) rfl I55 I58 I61 I65 I69) cw_RX3_133 (jc_43 cI cL ad σ48 τ) rfl ⟨Nat.le_of_ble_eq_true rfl, Nat.le_of_ble_eq_true rfl⟩ rfl rfl rfl hl.1 rfl (Nat.le_of_ble_eq_true rfl) dX3_meanFrom_65 ⟨Nat.zero_le _, Nat.zero_le _⟩ (fun r71 σ70 τ70 H locs h70 hP hS => ?_)
    obtain ⟨rfl, f72, h70⟩ := h70
    refine lv_istore (lv' := [(8, .int r71), (7, .int r49), (6, .int r27), (5, .int r24), (0, .ref (ad 43)), (1, .int a1), (2, .int 7), (3, .int a3), (4, .int a4)]) hx hb dX3_meanFrom_68 hl (by decide) rfl (fun ls hl => ?_)
    refine lv_aload_n hx hb dX3_meanFrom_70 rfl (lv_at hl 4 rfl) ?_
    refine va_get (D := D) hx hb hts inlX3 hown hK hP 43 (jc_43 cI cL ad σ70 τ) rfl 3 (by decide) (hts _ kw_6_5) (fun _ h9 => h9) rfl dX3_meanFrom_71 ?_
    refine lv_aload_n hx hb dX3_meanFrom_74 rfl (lv_at hl 4 rfl) ?_
    refine lv_iload hx hb dX3_meanFrom_75 (lv_at hl 3 rfl) ?_
    refine lv_iload_n hx hb dX3_meanFrom_77 rfl (lv_at hl 7 rfl) ?_
    refine lv_iload hx hb dX3_meanFrom_78 (lv_at hl 8 rfl) ?_
    have z73 : (σ70 16 0).toInt = (σ 16 0).toInt := by rw [(show σ70 16 0 = (σ 16 0) from (by rw [f72 16 (by omega)]; exact (by rw [f50 16 (by omega)]; exact (by rw [f25 16 (by omega)]))))]
    have z74 : (σ70 16 1).toInt = (σ 16 1).toInt := by rw [(show σ70 16 1 = (σ 16 1) from (by rw [f72 16 (by omega)]; exact (by rw [f50 16 (by omega)]; exact (by rw [f25 16 (by omega)]))))]
    have z75 : (σ70 16 2).toInt = (σ 16 2).toInt := by rw [(show σ70 16 2 = (σ 16 2) from (by rw [f72 16 (by omega)]; exact (by rw [f50 16 (by omega)]; exact (by rw [f25 16 (by omega)]))))]
    have w76 : ∀ k : Nat, k < 8 → 0 ≤ (σ70 17 k).toInt ∧ (σ70 17 k).toInt ≤ 3 := (by rw [f72 17 (by omega)]; exact w54)
    have I77 : jI16 σ70 := ⟨(by omega), (by omega), (by omega), w76⟩
    refine jcallV (As := [.int r24, .int a3, .int a4]) (rest := [.ref (ad 16)]) ⟨hx, hb, hml, hown, hts⟩ hK hP hA hS hZ (c_X3_runsBy_43 l D cI cL ad zz hJ σ70 τ r24 (r24.toInt) rfl a3 (A3) t3 a4 (A4) t4 I77) cw_RX3_136 (jc_43 cI cL ad σ70 τ) rfl ⟨Nat.le_of_ble_eq_true rfl, Nat.le_of_ble_eq_true rfl⟩ rfl rfl rfl hl.1 rfl (Nat.le_of_ble_eq_true rfl) dX3_meanFrom_80 ⟨Nat.zero_le _, Nat.zero_le _⟩ (fun r79 σ78 τ78 H locs h78 hP hS => ?_)
    obtain ⟨⟨rfl, rfl⟩, h78⟩ := h78
    refine lv_aload_n hx hb dX3_meanFrom_83 rfl (lv_at hl 4 rfl) ?_
    refine lv_iload hx hb dX3_meanFrom_84 (lv_at hl 3 rfl) ?_
    refine lv_iload_n hx hb dX3_meanFrom_86 rfl (lv_at hl 6 rfl) ?_
    refine lv_iload_n hx hb dX3_meanFrom_87 rfl (lv_at hl 7 rfl) ?_
    refine lv_iload hx hb dX3_meanFrom_88 (lv_at hl 8 rfl) ?_
    have z80 : (σ70 22 0).toInt = (σ 22 0).toInt := by rw [(show σ70 22 0 = (σ 22 0) from (by rw [f72 22 (by omega)]; exact (by rw [f50 22 (by omega)]; exact (by rw [f25 22 (by omega)]))))]
    have w81 : ∀ k : Nat, k < 160 → 0 ≤ (σ70 23 k).toInt ∧ (σ70 23 k).toInt ≤ 30000 := (by rw [f72 23 (by omega)]; exact w60)
    have I82 : jI22 σ70 := ⟨(by omega), w81⟩
    refine jcallV (As := [.int r24, .int 7, .int a3, .int a4]) (rest := [.int r79, .ref (ad 16)]) ⟨hx, hb, hml, hown, hts⟩ hK hP hA hS hZ (c_X3_outBy_43 l D cI cL ad zz hJ σ70 τ r24 (r24.toInt) rfl 7 (7) jz_7 a3 (A3) t3 a4 (A4) t4 I77 I82) cw_RX3_139 (jc_43 cI cL ad σ70 τ) rfl ⟨Nat.le_of_ble_eq_true rfl, Nat.le_of_ble_eq_true rfl⟩ rfl rfl rfl hl.1 rfl (Nat.le_of_ble_eq_true rfl) dX3_meanFrom_90 ⟨Nat.zero_le _, Nat.zero_le _⟩ (fun r84 σ83 τ83 H locs h83 hP hS => ?_)
    obtain ⟨rfl, f85, h83⟩ := h83
    refine lv_iload hx hb dX3_meanFrom_93 (lv_at hl 1 rfl) ?_
    refine lv_iload hx hb dX3_meanFrom_95 (lv_at hl 0 rfl) ?_
    refine jcallV (As := [.int r79, .int r84, .int r49, .int r71]) (rest := []) ⟨hx, hb, hml, hown, hts⟩ hK hP hA hS hZ (c_X6_meanOf_16 l D cI cL ad zz hJ σ83 τ r79 (r79.toInt) rfl r84 (r84.toInt) rfl r49 (r49.toInt) rfl r71 (r71.toInt) rfl) cw_RX3_142 (jc_16 cI cL ad σ83 τ) rfl ⟨Nat.le_of_ble_eq_true rfl, Nat.le_of_ble_eq_true rfl⟩ rfl rfl rfl hl.1 rfl (Nat.le_of_ble_eq_true rfl) dX3_meanFrom_97 ⟨Nat.zero_le _, Nat.zero_le _⟩ (fun r87 σ86 τ86 H locs h86 hP hS => ?_)
    obtain ⟨⟨rfl, rfl⟩, h86⟩ := h86
    exact hret r87 σ83 τ _ _ _ _ rfl ⟨rfl, (fun i hi => by rw [f85 i (by omega), f72 i (by omega), f50 i (by omega), f25 i (by omega)]), trivial⟩ hP hS dX3_meanFrom_100
  · have kc17 := jne c17 rfl jz_0
    refine lv_iconst (v := 0) hx hb dX3_meanFrom_20 (by decide) ?_
    exact hret 0 σ τ _ _ _ _ rfl ⟨rfl, (fun _ _ => rfl), trivial⟩ hP hS dX3_meanFrom_21
set_option maxHeartbeats 4000000 in
set_option maxRecDepth 100000 in
theorem c_X3_meanFrom_6 (l : Launch) (D : va_G) (cI cL : ClassId) (ad zz : Nat → Nat) (hJ : jD ad) (σ : Nat → Nat → Int32) (τ : Nat → Nat → Int64) (a1 : Int32) (A1 : Int) (t1 : a1.toInt = A1) (a3 : Int32) (A3 : Int) (t3 : a3.toInt = A3) (a4 : Int32) (A4 : Int) (t4 : a4.toInt = A4) (hI16 : jI16 σ) (hI18 : jI18 σ) (hI22 : jI22 σ) (hI31 : jI31 σ) (hI38 : jI38 σ) : jM l yX3_meanFrom cX3_meanFrom 9 (some .int) ({ frames := 7, cells := 0, slots := 0, locals := 185 }) D cI cL ad zz [.ref (ad 43), .int a1, .int 6, .int a3, .int a4] σ τ (fun r σ' τ' => τ = τ' ∧ (∀ i : Nat, (i < 20 ∨ 21 < i) ∧ (i < 24 ∨ 25 < i) ∧ (i < 29 ∨ 30 < i) → σ' i = σ i) ∧ True) := by
  refine jM.of hJ (by decide +kernel) (nt := .int) rfl (Nat.le_of_ble_eq_true rfl) ?_
  intro p e s m args below meth c Q ls hC hret hl hP
  obtain ⟨hx, hb, hr, hml, hown, hts, hK, -, hlocks, hZ⟩ := hC
  have hown : s.vm.findClass RX3 = some m.cls := hown
  have hS : va_S (jA ad) s.heap s.heap [] := va_S.rf
  have hA : ∀ q, jA ad q → jA ad q := fun _ h => h
  have hl : lv_has ls 9 [(0, .ref (ad 43)), (1, .int a1), (2, .int 6), (3, .int a3), (4, .int a4)] := hl
  have g1 := jrg t1
  have g3 := jrg t3
  have g4 := jrg t4
  obtain ⟨i1, i2, i3, w4⟩ : (1 ≤ (σ 16 0).toInt ∧ (σ 16 0).toInt ≤ 8) ∧ (1 ≤ (σ 16 1).toInt ∧ (σ 16 1).toInt ≤ 12) ∧ (0 ≤ (σ 16 2).toInt ∧ (σ 16 2).toInt ≤ 999) ∧ (∀ k : Nat, k < 8 → 0 ≤ (σ 17 k).toInt ∧ (σ 17 k).toInt ≤ 3) := id hI16
  obtain ⟨i5, w6⟩ : (0 ≤ (σ 18 0).toInt ∧ (σ 18 0).toInt ≤ 160) ∧ (∀ k : Nat, k < 160 → 0 ≤ (σ 19 k).toInt ∧ (σ 19 k).toInt ≤ 30000) := id hI18
  obtain ⟨i7, w8⟩ : (0 ≤ (σ 22 0).toInt ∧ (σ 22 0).toInt ≤ 160) ∧ (∀ k : Nat, k < 160 → 0 ≤ (σ 23 k).toInt ∧ (σ 23 k).toInt ≤ 30000) := id hI22
  obtain ⟨i9, w10, w11⟩ : (0 ≤ (σ 31 8).toInt ∧ (σ 31 8).toInt ≤ 350) ∧ (∀ k : Nat, k < 1400 → (-1) ≤ (σ 33 k).toInt ∧ (σ 33 k).toInt ≤ 350) ∧ (∀ k : Nat, k < 1024 → 0 ≤ (σ 36 k).toInt ∧ (σ 36 k).toInt ≤ 349) := id hI31
  obtain ⟨i12, i13, w14⟩ : (0 ≤ (σ 38 0).toInt ∧ (σ 38 0).toInt ≤ 20) ∧ (0 ≤ (σ 38 1).toInt ∧ (σ 38 1).toInt ≤ 1000) ∧ (∀ k : Nat, k < 20 → 0 ≤ (σ 39 k).toInt ∧ (σ 39 k).toInt ≤ 6) := id hI38
  refine lv_iload_n hx hb dX3_meanFrom_0 rfl (lv_at hl 2 rfl) ?_
  refine lv_bipush (v := 8) hx hb dX3_meanFrom_1 (by decide) ?_
  refine lv_icmp_ge (tgt := 20) hx hb dX3_meanFrom_3 (by decide) (fun c => absurd c (by decide)) (fun _ => ?_)
  refine lv_aload_n hx hb dX3_meanFrom_6 rfl (lv_at hl 0 rfl) ?_
  refine va_get (D := D) hx hb hts inlX3 hown hK hP 43 (jc_43 cI cL ad σ τ) rfl 3 (by decide) (hts _ kw_6_5) (fun _ h9 => h9) rfl dX3_meanFrom_7 ?_
  refine lv_iload_n hx hb dX3_meanFrom_10 rfl (lv_at hl 2 rfl) ?_
  refine lv_iload_n hx hb dX3_meanFrom_11 rfl (lv_at hl 3 rfl) ?_
  refine lv_iload hx hb dX3_meanFrom_12 (lv_at hl 4 rfl) ?_
  refine jcallV (As := [.int 6, .int a3, .int a4]) (rest := []) ⟨hx, hb, hml, hown, hts⟩ hK hP hA hS hZ (c_X6_ended_16 l D cI cL ad zz hJ σ τ 6 (6) jz_6 a3 (A3) t3 a4 (A4) t4) cw_RX3_123 (jc_16 cI cL ad σ τ) rfl ⟨Nat.le_of_ble_eq_true rfl, Nat.le_of_ble_eq_true rfl⟩ rfl rfl rfl hl.1 rfl (Nat.le_of_ble_eq_true rfl) dX3_meanFrom_14 ⟨Nat.zero_le _, Nat.zero_le _⟩ (fun r16 σ15 τ15 H locs h15 hP hS => ?_)
  obtain ⟨⟨rfl, rfl⟩, h15⟩ := h15
  refine lv_if_eq (tgt := 22) hx hb dX3_meanFrom_17 (by decide) (fun c17 => ?_) (fun c17 => ?_)
  · have kc17 := jeq c17 rfl jz_0
    refine lv_aload_n hx hb dX3_meanFrom_22 rfl (lv_at hl 0 rfl) ?_
    refine lv_iload_n hx hb dX3_meanFrom_23 rfl (lv_at hl 1 rfl) ?_
    refine lv_iload_n hx hb dX3_meanFrom_24 rfl (lv_at hl 2 rfl) ?_
    refine lv_iload_n hx hb dX3_meanFrom_25 rfl (lv_at hl 3 rfl) ?_
    refine lv_iload hx hb dX3_meanFrom_26 (lv_at hl 4 rfl) ?_
    have I18 : jI16 σ := ⟨(by omega), (by omega), (by omega), w4⟩
    have I19 : jI18 σ := ⟨(by omega), w6⟩
    have I20 : jI22 σ := ⟨(by omega), w8⟩
    have I21 : jI31 σ := ⟨(by omega), w10, w11⟩
    have I22 : jI38 σ := ⟨(by omega), (by omega), w14⟩
    refine jcallV (As := [.int a1, .int 6, .int a3, .int a4]) (rest := []) ⟨hx, hb, hml, hown, hts⟩ hK hP hA hS hZ (c_X3_putOn_43 l D cI cL ad zz hJ σ τ a1 (A1) t1 6 (6) jz_6 a3 (A3) t3 a4 (A4) t4 I18 I19 I20 I21 I22) cw_RX3_127 (jc_43 cI cL ad σ τ) rfl ⟨Nat.le_of_ble_eq_true rfl, Nat.le_of_ble_eq_true rfl⟩ rfl rfl rfl hl.1 rfl (Nat.le_of_ble_eq_true rfl) dX3_meanFrom_28 ⟨Nat.zero_le _, Nat.zero_le _⟩ (fun r24 σ23 τ23 H locs h23 hP hS => ?_)
    obtain ⟨rfl, f25, h23⟩ := h23
    refine lv_istore (lv' := [(5, .int r24), (0, .ref (ad 43)), (1, .int a1), (2, .int 6), (3, .int a3), (4, .int a4)]) hx hb dX3_meanFrom_31 hl (by decide) rfl (fun ls hl => ?_)
    refine lv_iload hx hb dX3_meanFrom_33 (lv_at hl 5 rfl) ?_
    refine lv_iload hx hb dX3_meanFrom_35 (lv_at hl 0 rfl) ?_
    refine jcallS (As := [.int a4, .int r24]) (rest := []) ⟨hx, hb, hml, hown, hts⟩ hK hP hA hS hZ (c_X0_after l D cI cL ad zz hJ σ23 τ a4 (A4) t4 r24 (r24.toInt) rfl) cw_RX3_130 ⟨Nat.le_of_ble_eq_true rfl, Nat.le_of_ble_eq_true rfl⟩ rfl rfl rfl hl.1 rfl (Nat.le_of_ble_eq_true rfl) dX3_meanFrom_37 ⟨Nat.zero_le _, Nat.zero_le _⟩ (fun r27 σ26 τ26 H locs h26 hP hS => ?_)
    obtain ⟨⟨rfl, rfl⟩, h26⟩ := h26
    refine lv_istore (lv' := [(6, .int r27), (5, .int r24), (0, .ref (ad 43)), (1, .int a1), (2, .int 6), (3, .int a3), (4, .int a4)]) hx hb dX3_meanFrom_40 hl (by decide) rfl (fun ls hl => ?_)
    refine lv_aload_n hx hb dX3_meanFrom_42 rfl (lv_at hl 2 rfl) ?_
    refine lv_iload_n hx hb dX3_meanFrom_43 rfl (lv_at hl 3 rfl) ?_
    refine lv_iload_n hx hb dX3_meanFrom_44 rfl (lv_at hl 4 rfl) ?_
    refine lv_iconst (v := 1) hx hb dX3_meanFrom_45 (by decide) ?_
    refine lv_iadd hx hb dX3_meanFrom_46 ?_
    refine jtopr (y := 7) (by decide) ?_
    refine lv_iload_n hx hb dX3_meanFrom_47 rfl (lv_at hl 5 rfl) ?_
    refine lv_iconst (v := 1) hx hb dX3_meanFrom_48 (by decide) ?_
    refine lv_iadd hx hb dX3_meanFrom_49 ?_
    refine lv_topi (fun x28 ex28 => ?_)
    have gx28 := jrg (rfl : x28.toInt = x28.toInt)
    refine lv_iload hx hb dX3_meanFrom_50 (lv_at hl 0 rfl) ?_
    have z29 : (σ23 16 0).toInt = (σ 16 0).toInt := by rw [(show σ23 16 0 = (σ 16 0) from (by rw [f25 16 (by omega)]))]
    have z30 : (σ23 16 1).toInt = (σ 16 1).toInt := by rw [(show σ23 16 1 = (σ 16 1) from (by rw [f25 16 (by omega)]))]
    have z31 : (σ23 16 2).toInt = (σ 16 2).toInt := by rw [(show σ23 16 2 = (σ 16 2) from (by rw [f25 16 (by omega)]))]
    have w32 : ∀ k : Nat, k < 8 → 0 ≤ (σ23 17 k).toInt ∧ (σ23 17 k).toInt ≤ 3 := (by rw [f25 17 (by omega)]; exact w4)
    have I33 : jI16 σ23 := ⟨(by omega), (by omega), (by omega), w32⟩
    have z34 : (σ23 18 0).toInt = (σ 18 0).toInt := by rw [(show σ23 18 0 = (σ 18 0) from (by rw [f25 18 (by omega)]))]
    have w35 : ∀ k : Nat, k < 160 → 0 ≤ (σ23 19 k).toInt ∧ (σ23 19 k).toInt ≤ 30000 := (by rw [f25 19 (by omega)]; exact w6)
    have I36 : jI18 σ23 := ⟨(by omega), w35⟩
    have z37 : (σ23 22 0).toInt = (σ 22 0).toInt := by rw [(show σ23 22 0 = (σ 22 0) from (by rw [f25 22 (by omega)]))]
    have w38 : ∀ k : Nat, k < 160 → 0 ≤ (σ23 23 k).toInt ∧ (σ23 23 k).toInt ≤ 30000 := (by rw [f25 23 (by omega)]; exact w8)
    have I39 : jI22 σ23 := ⟨(by omega), w38⟩
    have z40 : (σ23 31 8).toInt = (σ 31 8).toInt := by rw [(show σ23 31 8 = (σ 31 8) from (by rw [f25 31 (by omega)]))]
    have w41 : ∀ k : Nat, k < 1400 → (-1) ≤ (σ23 33 k).toInt ∧ (σ23 33 k).toInt ≤ 350 := (by rw [f25 33 (by omega)]; exact w10)
    have w42 : ∀ k : Nat, k < 1024 → 0 ≤ (σ23 36 k).toInt ∧ (σ23 36 k).toInt ≤ 349 := (by rw [f25 36 (by omega)]; exact w11)
    have I43 : jI31 σ23 := ⟨(by omega), w41, w42⟩
    have z44 : (σ23 38 0).toInt = (σ 38 0).toInt := by rw [(show σ23 38 0 = (σ 38 0) from (by rw [f25 38 (by omega)]))]
    have z45 : (σ23 38 1).toInt = (σ 38 1).toInt := by rw [(show σ23 38 1 = (σ 38 1) from (by rw [f25 38 (by omega)]))]
    have w46 : ∀ k : Nat, k < 20 → 0 ≤ (σ23 39 k).toInt ∧ (σ23 39 k).toInt ≤ 6 := (by rw [f25 39 (by omega)]; exact w14)
    have I47 : jI38 σ23 := ⟨(by omega), (by omega), w46⟩
    refine jcallV (As := [.int a1, .int 7, .int x28, .int r27]) (rest := []) ⟨hx, hb, hml, hown, hts⟩ hK hP hA hS hZ (c_X3_meanFrom_7 l D cI cL ad zz hJ σ23 τ a1 (A1) t1 x28 (x28.toInt) rfl r27 (r27.toInt) rfl I33 I36 I39 I43 I47) cw_RX3_133 (jc_43 cI cL ad σ23 τ) rfl ⟨Nat.le_of_ble_eq_true rfl, Nat.le_of_ble_eq_true rfl⟩ rfl rfl rfl hl.1 rfl (Nat.le_of_ble_eq_true rfl) dX3_meanFrom_52 ⟨Nat.zero_le _, Nat.zero_le _⟩ (fun r49 σ48 τ48 H locs h48 hP hS => ?_)
    obtain ⟨rfl, f50, h48⟩ := h48
    refine lv_istore (lv' := [(7, .int r49), (6, .int r27), (5, .int r24), (0, .ref (ad 43)), (1, .int a1), (2, .int 6), (3, .int a3), (4, .int a4)]) hx hb dX3_meanFrom_55 hl (by decide) rfl (fun ls hl => ?_)
    refine lv_aload_n hx hb dX3_meanFrom_57 rfl (lv_at hl 3 rfl) ?_
    refine lv_iload_n hx hb dX3_meanFrom_58 rfl (lv_at hl 4 rfl) ?_
    refine lv_iload_n hx hb dX3_meanFrom_59 rfl (lv_at hl 5 rfl) ?_
    refine lv_iconst (v := 1) hx hb dX3_meanFrom_60 (by decide) ?_
    refine lv_iadd hx hb dX3_meanFrom_61 ?_
    refine jtopr (y := 7) (by decide) ?_
    refine lv_iload_n hx hb dX3_meanFrom_62 rfl (lv_at hl 6 rfl) ?_
    refine lv_iload hx hb dX3_meanFrom_63 (lv_at hl 1 rfl) ?_
    have z51 : (σ48 16 0).toInt = (σ 16 0).toInt := by rw [(show σ48 16 0 = (σ 16 0) from (by rw [f50 16 (by omega)]; exact (by rw [f25 16 (by omega)])))]
    have z52 : (σ48 16 1).toInt = (σ 16 1).toInt := by rw [(show σ48 16 1 = (σ 16 1) from (by rw [f50 16 (by omega)]; exact (by rw [f25 16 (by omega)])))]
    have z53 : (σ48 16 2).toInt = (σ 16 2).toInt := by rw [(show σ48 16 2 = (σ 16 2) from (by rw [f50 16 (by omega)]; exact (by rw [f25 16 (by omega)])))]
    have w54 : ∀ k : Nat, k < 8 → 0 ≤ (σ48 17 k).toInt ∧ (σ48 17 k).toInt ≤ 3 := (by rw [f50 17 (by omega)]; exact w32)
    have I55 : jI16 σ48 := ⟨(by omega), (by omega), (by omega), w54⟩
    have z56 : (σ48 18 0).toInt = (σ 18 0).toInt := by rw [(show σ48 18 0 = (σ 18 0) from (by rw [f50 18 (by omega)]; exact (by rw [f25 18 (by omega)])))]
    have w57 : ∀ k : Nat, k < 160 → 0 ≤ (σ48 19 k).toInt ∧ (σ48 19 k).toInt ≤ 30000 := (by rw [f50 19 (by omega)]; exact w35)
    have I58 : jI18 σ48 := ⟨(by omega), w57⟩
    have z59 : (σ48 22 0).toInt = (σ 22 0).toInt := by rw [(show σ48 22 0 = (σ 22 0) from (by rw [f50 22 (by omega)]; exact (by rw [f25 22 (by omega)])))]
    have w60 : ∀ k : Nat, k < 160 → 0 ≤ (σ48 23 k).toInt ∧ (σ48 23 k).toInt ≤ 30000 := (by rw [f50 23 (by omega)]; exact w38)
    have I61 : jI22 σ48 := ⟨(by omega), w60⟩
    have z62 : (σ48 31 8).toInt = (σ 31 8).toInt := by rw [(show σ48 31 8 = (σ 31 8) from (by rw [f50 31 (by omega)]; exact (by rw [f25 31 (by omega)])))]
    have w63 : ∀ k : Nat, k < 1400 → (-1) ≤ (σ48 33 k).toInt ∧ (σ48 33 k).toInt ≤ 350 := (by rw [f50 33 (by omega)]; exact w41)
    have w64 : ∀ k : Nat, k < 1024 → 0 ≤ (σ48 36 k).toInt ∧ (σ48 36 k).toInt ≤ 349 := (by rw [f50 36 (by omega)]; exact w42)
    have I65 : jI31 σ48 := ⟨(by omega), w63, w64⟩
    have z66 : (σ48 38 0).toInt = (σ 38 0).toInt := by rw [(show σ48 38 0 = (σ 38 0) from (by rw [f50 38 (by omega)]; exact (by rw [f25 38 (by omega)])))]
    have z67 : (σ48 38 1).toInt = (σ 38 1).toInt := by rw [(show σ48 38 1 = (σ 38 1) from (by rw [f50 38 (by omega)]; exact (by rw [f25 38 (by omega)])))]
    have w68 : ∀ k : Nat, k < 20 → 0 ≤ (σ48 39 k).toInt ∧ (σ48 39 k).toInt ≤ 6 := (by rw [f50 39 (by omega)]; exact w46)
    have I69 : jI38 σ48 := ⟨(by omega), (by omega), w68⟩
    refine jcallV (As := [.int a1, .int 7, .int a3, .int r27]) (rest := []) ⟨hx, hb, hml, hown, hts⟩ hK hP hA hS hZ (c_X3_meanFrom_7 l D cI cL ad zz hJ σ48 τ a1 (A1) t1 a3 (A3) t3 r27 (r27.toInt) rfl I55 I58 I61 I65 I69) cw_RX3_133 (jc_43 cI cL ad σ48 τ) rfl ⟨Nat.le_of_ble_eq_true rfl, Nat.le_of_ble_eq_true rfl⟩ rfl rfl rfl hl.1 rfl (Nat.le_of_ble_eq_true rfl) dX3_meanFrom_65 ⟨Nat.zero_le _, Nat.zero_le _⟩ (fun r71 σ70 τ70 H locs h70 hP hS => ?_)
    obtain ⟨rfl, f72, h70⟩ := h70
    refine lv_istore (lv' := [(8, .int r71), (7, .int r49), (6, .int r27), (5, .int r24), (0, .ref (ad 43)), (1, .int a1), (2, .int 6), (3, .int a3), (4, .int a4)]) hx hb dX3_meanFrom_68 hl (by decide) rfl (fun ls hl => ?_)
    refine lv_aload_n hx hb dX3_meanFrom_70 rfl (lv_at hl 4 rfl) ?_
    refine va_get (D := D) hx hb hts inlX3 hown hK hP 43 (jc_43 cI cL ad σ70 τ) rfl 3 (by decide) (hts _ kw_6_5) (fun _ h9 => h9) rfl dX3_meanFrom_71 ?_
    refine lv_aload_n hx hb dX3_meanFrom_74 rfl (lv_at hl 4 rfl) ?_
    refine lv_iload hx hb dX3_meanFrom_75 (lv_at hl 3 rfl) ?_
    refine lv_iload_n hx hb dX3_meanFrom_77 rfl (lv_at hl 7 rfl) ?_
    refine lv_iload hx hb dX3_meanFrom_78 (lv_at hl 8 rfl) ?_
    have z73 : (σ70 16 0).toInt = (σ 16 0).toInt := by rw [(show σ70 16 0 = (σ 16 0) from (by rw [f72 16 (by omega)]; exact (by rw [f50 16 (by omega)]; exact (by rw [f25 16 (by omega)]))))]
    have z74 : (σ70 16 1).toInt = (σ 16 1).toInt := by rw [(show σ70 16 1 = (σ 16 1) from (by rw [f72 16 (by omega)]; exact (by rw [f50 16 (by omega)]; exact (by rw [f25 16 (by omega)]))))]
    have z75 : (σ70 16 2).toInt = (σ 16 2).toInt := by rw [(show σ70 16 2 = (σ 16 2) from (by rw [f72 16 (by omega)]; exact (by rw [f50 16 (by omega)]; exact (by rw [f25 16 (by omega)]))))]
    have w76 : ∀ k : Nat, k < 8 → 0 ≤ (σ70 17 k).toInt ∧ (σ70 17 k).toInt ≤ 3 := (by rw [f72 17 (by omega)]; exact w54)
    have I77 : jI16 σ70 := ⟨(by omega), (by omega), (by omega), w76⟩
    refine jcallV (As := [.int r24, .int a3, .int a4]) (rest := [.ref (ad 16)]) ⟨hx, hb, hml, hown, hts⟩ hK hP hA hS hZ (c_X3_runsBy_43 l D cI cL ad zz hJ σ70 τ r24 (r24.toInt) rfl a3 (A3) t3 a4 (A4) t4 I77) cw_RX3_136 (jc_43 cI cL ad σ70 τ) rfl ⟨Nat.le_of_ble_eq_true rfl, Nat.le_of_ble_eq_true rfl⟩ rfl rfl rfl hl.1 rfl (Nat.le_of_ble_eq_true rfl) dX3_meanFrom_80 ⟨Nat.zero_le _, Nat.zero_le _⟩ (fun r79 σ78 τ78 H locs h78 hP hS => ?_)
    obtain ⟨⟨rfl, rfl⟩, h78⟩ := h78
    refine lv_aload_n hx hb dX3_meanFrom_83 rfl (lv_at hl 4 rfl) ?_
    refine lv_iload hx hb dX3_meanFrom_84 (lv_at hl 3 rfl) ?_
    refine lv_iload_n hx hb dX3_meanFrom_86 rfl (lv_at hl 6 rfl) ?_
    refine lv_iload_n hx hb dX3_meanFrom_87 rfl (lv_at hl 7 rfl) ?_
    refine lv_iload hx hb dX3_meanFrom_88 (lv_at hl 8 rfl) ?_
    have z80 : (σ70 22 0).toInt = (σ 22 0).toInt := by rw [(show σ70 22 0 = (σ 22 0) from (by rw [f72 22 (by omega)]; exact (by rw [f50 22 (by omega)]; exact (by rw [f25 22 (by omega)]))))]
    have w81 : ∀ k : Nat, k < 160 → 0 ≤ (σ70 23 k).toInt ∧ (σ70 23 k).toInt ≤ 30000 := (by rw [f72 23 (by omega)]; exact w60)
    have I82 : jI22 σ70 := ⟨(by omega), w81⟩
    refine jcallV (As := [.int r24, .int 6, .int a3, .int a4]) (rest := [.int r79, .ref (ad 16)]) ⟨hx, hb, hml, hown, hts⟩ hK hP hA hS hZ (c_X3_outBy_43 l D cI cL ad zz hJ σ70 τ r24 (r24.toInt) rfl 6 (6) jz_6 a3 (A3) t3 a4 (A4) t4 I77 I82) cw_RX3_139 (jc_43 cI cL ad σ70 τ) rfl ⟨Nat.le_of_ble_eq_true rfl, Nat.le_of_ble_eq_true rfl⟩ rfl rfl rfl hl.1 rfl (Nat.le_of_ble_eq_true rfl) dX3_meanFrom_90 ⟨Nat.zero_le _, Nat.zero_le _⟩ (fun r84 σ83 τ83 H locs h83 hP hS => ?_)
    obtain ⟨rfl, f85, h83⟩ := h83
    refine lv_iload hx hb dX3_meanFrom_93 (lv_at hl 1 rfl) ?_
    refine lv_iload hx hb dX3_meanFrom_95 (lv_at hl 0 rfl) ?_
    refine jcallV (As := [.int r79, .int r84, .int r49, .int r71]) (rest := []) ⟨hx, hb, hml, hown, hts⟩ hK hP hA hS hZ (c_X6_meanOf_16 l D cI cL ad zz hJ σ83 τ r79 (r79.toInt) rfl r84 (r84.toInt) rfl r49 (r49.toInt) rfl r71 (r71.toInt) rfl) cw_RX3_142 (jc_16 cI cL ad σ83 τ) rfl ⟨Nat.le_of_ble_eq_true rfl, Nat.le_of_ble_eq_true rfl⟩ rfl rfl rfl hl.1 rfl (Nat.le_of_ble_eq_true rfl) dX3_meanFrom_97 ⟨Nat.zero_le _, Nat.zero_le _⟩ (fun r87 σ86 τ86 H locs h86 hP hS => ?_)
    obtain ⟨⟨rfl, rfl⟩, h86⟩ := h86
    exact hret r87 σ83 τ _ _ _ _ rfl ⟨rfl, (fun i hi => by rw [f85 i (by omega), f72 i (by omega), f50 i (by omega), f25 i (by omega)]), trivial⟩ hP hS dX3_meanFrom_100
  · have kc17 := jne c17 rfl jz_0
    refine lv_iconst (v := 0) hx hb dX3_meanFrom_20 (by decide) ?_
    exact hret 0 σ τ _ _ _ _ rfl ⟨rfl, (fun _ _ => rfl), trivial⟩ hP hS dX3_meanFrom_21
set_option maxHeartbeats 4000000 in
set_option maxRecDepth 100000 in
theorem c_X3_meanFrom_5 (l : Launch) (D : va_G) (cI cL : ClassId) (ad zz : Nat → Nat) (hJ : jD ad) (σ : Nat → Nat → Int32) (τ : Nat → Nat → Int64) (a1 : Int32) (A1 : Int) (t1 : a1.toInt = A1) (a3 : Int32) (A3 : Int) (t3 : a3.toInt = A3) (a4 : Int32) (A4 : Int) (t4 : a4.toInt = A4) (hI16 : jI16 σ) (hI18 : jI18 σ) (hI22 : jI22 σ) (hI31 : jI31 σ) (hI38 : jI38 σ) : jM l yX3_meanFrom cX3_meanFrom 9 (some .int) ({ frames := 8, cells := 0, slots := 0, locals := 213 }) D cI cL ad zz [.ref (ad 43), .int a1, .int 5, .int a3, .int a4] σ τ (fun r σ' τ' => τ = τ' ∧ (∀ i : Nat, (i < 20 ∨ 21 < i) ∧ (i < 24 ∨ 25 < i) ∧ (i < 29 ∨ 30 < i) → σ' i = σ i) ∧ True) := by
  refine jM.of hJ (by decide +kernel) (nt := .int) rfl (Nat.le_of_ble_eq_true rfl) ?_
  intro p e s m args below meth c Q ls hC hret hl hP
  obtain ⟨hx, hb, hr, hml, hown, hts, hK, -, hlocks, hZ⟩ := hC
  have hown : s.vm.findClass RX3 = some m.cls := hown
  have hS : va_S (jA ad) s.heap s.heap [] := va_S.rf
  have hA : ∀ q, jA ad q → jA ad q := fun _ h => h
  have hl : lv_has ls 9 [(0, .ref (ad 43)), (1, .int a1), (2, .int 5), (3, .int a3), (4, .int a4)] := hl
  have g1 := jrg t1
  have g3 := jrg t3
  have g4 := jrg t4
  obtain ⟨i1, i2, i3, w4⟩ : (1 ≤ (σ 16 0).toInt ∧ (σ 16 0).toInt ≤ 8) ∧ (1 ≤ (σ 16 1).toInt ∧ (σ 16 1).toInt ≤ 12) ∧ (0 ≤ (σ 16 2).toInt ∧ (σ 16 2).toInt ≤ 999) ∧ (∀ k : Nat, k < 8 → 0 ≤ (σ 17 k).toInt ∧ (σ 17 k).toInt ≤ 3) := id hI16
  obtain ⟨i5, w6⟩ : (0 ≤ (σ 18 0).toInt ∧ (σ 18 0).toInt ≤ 160) ∧ (∀ k : Nat, k < 160 → 0 ≤ (σ 19 k).toInt ∧ (σ 19 k).toInt ≤ 30000) := id hI18
  obtain ⟨i7, w8⟩ : (0 ≤ (σ 22 0).toInt ∧ (σ 22 0).toInt ≤ 160) ∧ (∀ k : Nat, k < 160 → 0 ≤ (σ 23 k).toInt ∧ (σ 23 k).toInt ≤ 30000) := id hI22
  obtain ⟨i9, w10, w11⟩ : (0 ≤ (σ 31 8).toInt ∧ (σ 31 8).toInt ≤ 350) ∧ (∀ k : Nat, k < 1400 → (-1) ≤ (σ 33 k).toInt ∧ (σ 33 k).toInt ≤ 350) ∧ (∀ k : Nat, k < 1024 → 0 ≤ (σ 36 k).toInt ∧ (σ 36 k).toInt ≤ 349) := id hI31
  obtain ⟨i12, i13, w14⟩ : (0 ≤ (σ 38 0).toInt ∧ (σ 38 0).toInt ≤ 20) ∧ (0 ≤ (σ 38 1).toInt ∧ (σ 38 1).toInt ≤ 1000) ∧ (∀ k : Nat, k < 20 → 0 ≤ (σ 39 k).toInt ∧ (σ 39 k).toInt ≤ 6) := id hI38
  refine lv_iload_n hx hb dX3_meanFrom_0 rfl (lv_at hl 2 rfl) ?_
  refine lv_bipush (v := 8) hx hb dX3_meanFrom_1 (by decide) ?_
  refine lv_icmp_ge (tgt := 20) hx hb dX3_meanFrom_3 (by decide) (fun c => absurd c (by decide)) (fun _ => ?_)
  refine lv_aload_n hx hb dX3_meanFrom_6 rfl (lv_at hl 0 rfl) ?_
  refine va_get (D := D) hx hb hts inlX3 hown hK hP 43 (jc_43 cI cL ad σ τ) rfl 3 (by decide) (hts _ kw_6_5) (fun _ h9 => h9) rfl dX3_meanFrom_7 ?_
  refine lv_iload_n hx hb dX3_meanFrom_10 rfl (lv_at hl 2 rfl) ?_
  refine lv_iload_n hx hb dX3_meanFrom_11 rfl (lv_at hl 3 rfl) ?_
  refine lv_iload hx hb dX3_meanFrom_12 (lv_at hl 4 rfl) ?_
  refine jcallV (As := [.int 5, .int a3, .int a4]) (rest := []) ⟨hx, hb, hml, hown, hts⟩ hK hP hA hS hZ (c_X6_ended_16 l D cI cL ad zz hJ σ τ 5 (5) jz_5 a3 (A3) t3 a4 (A4) t4) cw_RX3_123 (jc_16 cI cL ad σ τ) rfl ⟨Nat.le_of_ble_eq_true rfl, Nat.le_of_ble_eq_true rfl⟩ rfl rfl rfl hl.1 rfl (Nat.le_of_ble_eq_true rfl) dX3_meanFrom_14 ⟨Nat.zero_le _, Nat.zero_le _⟩ (fun r16 σ15 τ15 H locs h15 hP hS => ?_)
  obtain ⟨⟨rfl, rfl⟩, h15⟩ := h15
  refine lv_if_eq (tgt := 22) hx hb dX3_meanFrom_17 (by decide) (fun c17 => ?_) (fun c17 => ?_)
  · have kc17 := jeq c17 rfl jz_0
    refine lv_aload_n hx hb dX3_meanFrom_22 rfl (lv_at hl 0 rfl) ?_
    refine lv_iload_n hx hb dX3_meanFrom_23 rfl (lv_at hl 1 rfl) ?_
    refine lv_iload_n hx hb dX3_meanFrom_24 rfl (lv_at hl 2 rfl) ?_
    refine lv_iload_n hx hb dX3_meanFrom_25 rfl (lv_at hl 3 rfl) ?_
    refine lv_iload hx hb dX3_meanFrom_26 (lv_at hl 4 rfl) ?_
    have I18 : jI16 σ := ⟨(by omega), (by omega), (by omega), w4⟩
    have I19 : jI18 σ := ⟨(by omega), w6⟩
    have I20 : jI22 σ := ⟨(by omega), w8⟩
    have I21 : jI31 σ := ⟨(by omega), w10, w11⟩
    have I22 : jI38 σ := ⟨(by omega), (by omega), w14⟩
    refine jcallV (As := [.int a1, .int 5, .int a3, .int a4]) (rest := []) ⟨hx, hb, hml, hown, hts⟩ hK hP hA hS hZ (c_X3_putOn_43 l D cI cL ad zz hJ σ τ a1 (A1) t1 5 (5) jz_5 a3 (A3) t3 a4 (A4) t4 I18 I19 I20 I21 I22) cw_RX3_127 (jc_43 cI cL ad σ τ) rfl ⟨Nat.le_of_ble_eq_true rfl, Nat.le_of_ble_eq_true rfl⟩ rfl rfl rfl hl.1 rfl (Nat.le_of_ble_eq_true rfl) dX3_meanFrom_28 ⟨Nat.zero_le _, Nat.zero_le _⟩ (fun r24 σ23 τ23 H locs h23 hP hS => ?_)
    obtain ⟨rfl, f25, h23⟩ := h23
    refine lv_istore (lv' := [(5, .int r24), (0, .ref (ad 43)), (1, .int a1), (2, .int 5), (3, .int a3), (4, .int a4)]) hx hb dX3_meanFrom_31 hl (by decide) rfl (fun ls hl => ?_)
    refine lv_iload hx hb dX3_meanFrom_33 (lv_at hl 5 rfl) ?_
    refine lv_iload hx hb dX3_meanFrom_35 (lv_at hl 0 rfl) ?_
    refine jcallS (As := [.int a4, .int r24]) (rest := []) ⟨hx, hb, hml, hown, hts⟩ hK hP hA hS hZ (c_X0_after l D cI cL ad zz hJ σ23 τ a4 (A4) t4 r24 (r24.toInt) rfl) cw_RX3_130 ⟨Nat.le_of_ble_eq_true rfl, Nat.le_of_ble_eq_true rfl⟩ rfl rfl rfl hl.1 rfl (Nat.le_of_ble_eq_true rfl) dX3_meanFrom_37 ⟨Nat.zero_le _, Nat.zero_le _⟩ (fun r27 σ26 τ26 H locs h26 hP hS => ?_)
    obtain ⟨⟨rfl, rfl⟩, h26⟩ := h26
    refine lv_istore (lv' := [(6, .int r27), (5, .int r24), (0, .ref (ad 43)), (1, .int a1), (2, .int 5), (3, .int a3), (4, .int a4)]) hx hb dX3_meanFrom_40 hl (by decide) rfl (fun ls hl => ?_)
    refine lv_aload_n hx hb dX3_meanFrom_42 rfl (lv_at hl 2 rfl) ?_
    refine lv_iload_n hx hb dX3_meanFrom_43 rfl (lv_at hl 3 rfl) ?_
    refine lv_iload_n hx hb dX3_meanFrom_44 rfl (lv_at hl 4 rfl) ?_
    refine lv_iconst (v := 1) hx hb dX3_meanFrom_45 (by decide) ?_
    refine lv_iadd hx hb dX3_meanFrom_46 ?_
    refine jtopr (y := 6) (by decide) ?_
    refine lv_iload_n hx hb dX3_meanFrom_47 rfl (lv_at hl 5 rfl) ?_
    refine lv_iconst (v := 1) hx hb dX3_meanFrom_48 (by decide) ?_
    refine lv_iadd hx hb dX3_meanFrom_49 ?_
    refine lv_topi (fun x28 ex28 => ?_)
    have gx28 := jrg (rfl : x28.toInt = x28.toInt)
    refine lv_iload hx hb dX3_meanFrom_50 (lv_at hl 0 rfl) ?_
    have z29 : (σ23 16 0).toInt = (σ 16 0).toInt := by rw [(show σ23 16 0 = (σ 16 0) from (by rw [f25 16 (by omega)]))]
    have z30 : (σ23 16 1).toInt = (σ 16 1).toInt := by rw [(show σ23 16 1 = (σ 16 1) from (by rw [f25 16 (by omega)]))]
    have z31 : (σ23 16 2).toInt = (σ 16 2).toInt := by rw [(show σ23 16 2 = (σ 16 2) from (by rw [f25 16 (by omega)]))]
    have w32 : ∀ k : Nat, k < 8 → 0 ≤ (σ23 17 k).toInt ∧ (σ23 17 k).toInt ≤ 3 := (by rw [f25 17 (by omega)]; exact w4)
    have I33 : jI16 σ23 := ⟨(by omega), (by omega), (by omega), w32⟩
    have z34 : (σ23 18 0).toInt = (σ 18 0).toInt := by rw [(show σ23 18 0 = (σ 18 0) from (by rw [f25 18 (by omega)]))]
    have w35 : ∀ k : Nat, k < 160 → 0 ≤ (σ23 19 k).toInt ∧ (σ23 19 k).toInt ≤ 30000 := (by rw [f25 19 (by omega)]; exact w6)
    have I36 : jI18 σ23 := ⟨(by omega), w35⟩
    have z37 : (σ23 22 0).toInt = (σ 22 0).toInt := by rw [(show σ23 22 0 = (σ 22 0) from (by rw [f25 22 (by omega)]))]
    have w38 : ∀ k : Nat, k < 160 → 0 ≤ (σ23 23 k).toInt ∧ (σ23 23 k).toInt ≤ 30000 := (by rw [f25 23 (by omega)]; exact w8)
    have I39 : jI22 σ23 := ⟨(by omega), w38⟩
    have z40 : (σ23 31 8).toInt = (σ 31 8).toInt := by rw [(show σ23 31 8 = (σ 31 8) from (by rw [f25 31 (by omega)]))]
    have w41 : ∀ k : Nat, k < 1400 → (-1) ≤ (σ23 33 k).toInt ∧ (σ23 33 k).toInt ≤ 350 := (by rw [f25 33 (by omega)]; exact w10)
    have w42 : ∀ k : Nat, k < 1024 → 0 ≤ (σ23 36 k).toInt ∧ (σ23 36 k).toInt ≤ 349 := (by rw [f25 36 (by omega)]; exact w11)
    have I43 : jI31 σ23 := ⟨(by omega), w41, w42⟩
    have z44 : (σ23 38 0).toInt = (σ 38 0).toInt := by rw [(show σ23 38 0 = (σ 38 0) from (by rw [f25 38 (by omega)]))]
    have z45 : (σ23 38 1).toInt = (σ 38 1).toInt := by rw [(show σ23 38 1 = (σ 38 1) from (by rw [f25 38 (by omega)]))]
    have w46 : ∀ k : Nat, k < 20 → 0 ≤ (σ23 39 k).toInt ∧ (σ23 39 k).toInt ≤ 6 := (by rw [f25 39 (by omega)]; exact w14)
    have I47 : jI38 σ23 := ⟨(by omega), (by omega), w46⟩
    refine jcallV (As := [.int a1, .int 6, .int x28, .int r27]) (rest := []) ⟨hx, hb, hml, hown, hts⟩ hK hP hA hS hZ (c_X3_meanFrom_6 l D cI cL ad zz hJ σ23 τ a1 (A1) t1 x28 (x28.toInt) rfl r27 (r27.toInt) rfl I33 I36 I39 I43 I47) cw_RX3_133 (jc_43 cI cL ad σ23 τ) rfl ⟨Nat.le_of_ble_eq_true rfl, Nat.le_of_ble_eq_true rfl⟩ rfl rfl rfl hl.1 rfl (Nat.le_of_ble_eq_true rfl) dX3_meanFrom_52 ⟨Nat.zero_le _, Nat.zero_le _⟩ (fun r49 σ48 τ48 H locs h48 hP hS => ?_)
    obtain ⟨rfl, f50, h48⟩ := h48
    refine lv_istore (lv' := [(7, .int r49), (6, .int r27), (5, .int r24), (0, .ref (ad 43)), (1, .int a1), (2, .int 5), (3, .int a3), (4, .int a4)]) hx hb dX3_meanFrom_55 hl (by decide) rfl (fun ls hl => ?_)
    refine lv_aload_n hx hb dX3_meanFrom_57 rfl (lv_at hl 3 rfl) ?_
    refine lv_iload_n hx hb dX3_meanFrom_58 rfl (lv_at hl 4 rfl) ?_
    refine lv_iload_n hx hb dX3_meanFrom_59 rfl (lv_at hl 5 rfl) ?_
    refine lv_iconst (v := 1) hx hb dX3_meanFrom_60 (by decide) ?_
    refine lv_iadd hx hb dX3_meanFrom_61 ?_
    refine jtopr (y := 6) (by decide) ?_
    refine lv_iload_n hx hb dX3_meanFrom_62 rfl (lv_at hl 6 rfl) ?_
    refine lv_iload hx hb dX3_meanFrom_63 (lv_at hl 1 rfl) ?_
    have z51 : (σ48 16 0).toInt = (σ 16 0).toInt := by rw [(show σ48 16 0 = (σ 16 0) from (by rw [f50 16 (by omega)]; exact (by rw [f25 16 (by omega)])))]
    have z52 : (σ48 16 1).toInt = (σ 16 1).toInt := by rw [(show σ48 16 1 = (σ 16 1) from (by rw [f50 16 (by omega)]; exact (by rw [f25 16 (by omega)])))]
    have z53 : (σ48 16 2).toInt = (σ 16 2).toInt := by rw [(show σ48 16 2 = (σ 16 2) from (by rw [f50 16 (by omega)]; exact (by rw [f25 16 (by omega)])))]
    have w54 : ∀ k : Nat, k < 8 → 0 ≤ (σ48 17 k).toInt ∧ (σ48 17 k).toInt ≤ 3 := (by rw [f50 17 (by omega)]; exact w32)
    have I55 : jI16 σ48 := ⟨(by omega), (by omega), (by omega), w54⟩
    have z56 : (σ48 18 0).toInt = (σ 18 0).toInt := by rw [(show σ48 18 0 = (σ 18 0) from (by rw [f50 18 (by omega)]; exact (by rw [f25 18 (by omega)])))]
    have w57 : ∀ k : Nat, k < 160 → 0 ≤ (σ48 19 k).toInt ∧ (σ48 19 k).toInt ≤ 30000 := (by rw [f50 19 (by omega)]; exact w35)
    have I58 : jI18 σ48 := ⟨(by omega), w57⟩
    have z59 : (σ48 22 0).toInt = (σ 22 0).toInt := by rw [(show σ48 22 0 = (σ 22 0) from (by rw [f50 22 (by omega)]; exact (by rw [f25 22 (by omega)])))]
    have w60 : ∀ k : Nat, k < 160 → 0 ≤ (σ48 23 k).toInt ∧ (σ48 23 k).toInt ≤ 30000 := (by rw [f50 23 (by omega)]; exact w38)
    have I61 : jI22 σ48 := ⟨(by omega), w60⟩
    have z62 : (σ48 31 8).toInt = (σ 31 8).toInt := by rw [(show σ48 31 8 = (σ 31 8) from (by rw [f50 31 (by omega)]; exact (by rw [f25 31 (by omega)])))]
    have w63 : ∀ k : Nat, k < 1400 → (-1) ≤ (σ48 33 k).toInt ∧ (σ48 33 k).toInt ≤ 350 := (by rw [f50 33 (by omega)]; exact w41)
    have w64 : ∀ k : Nat, k < 1024 → 0 ≤ (σ48 36 k).toInt ∧ (σ48 36 k).toInt ≤ 349 := (by rw [f50 36 (by omega)]; exact w42)
    have I65 : jI31 σ48 := ⟨(by omega), w63, w64⟩
    have z66 : (σ48 38 0).toInt = (σ 38 0).toInt := by rw [(show σ48 38 0 = (σ 38 0) from (by rw [f50 38 (by omega)]; exact (by rw [f25 38 (by omega)])))]
    have z67 : (σ48 38 1).toInt = (σ 38 1).toInt := by rw [(show σ48 38 1 = (σ 38 1) from (by rw [f50 38 (by omega)]; exact (by rw [f25 38 (by omega)])))]
    have w68 : ∀ k : Nat, k < 20 → 0 ≤ (σ48 39 k).toInt ∧ (σ48 39 k).toInt ≤ 6 := (by rw [f50 39 (by omega)]; exact w46)
    have I69 : jI38 σ48 := ⟨(by omega), (by omega), w68⟩
    refine jcallV (As := [.int a1, .int 6, .int a3, .int r27]) (rest := []) ⟨hx, hb, hml, hown, hts⟩ hK hP hA hS hZ (c_X3_meanFrom_6 l D cI cL ad zz hJ σ48 τ a1 (A1) t1 a3 (A3) t3 r27 (r27.toInt) rfl I55 I58 I61 I65 I69) cw_RX3_133 (jc_43 cI cL ad σ48 τ) rfl ⟨Nat.le_of_ble_eq_true rfl, Nat.le_of_ble_eq_true rfl⟩ rfl rfl rfl hl.1 rfl (Nat.le_of_ble_eq_true rfl) dX3_meanFrom_65 ⟨Nat.zero_le _, Nat.zero_le _⟩ (fun r71 σ70 τ70 H locs h70 hP hS => ?_)
    obtain ⟨rfl, f72, h70⟩ := h70
    refine lv_istore (lv' := [(8, .int r71), (7, .int r49), (6, .int r27), (5, .int r24), (0, .ref (ad 43)), (1, .int a1), (2, .int 5), (3, .int a3), (4, .int a4)]) hx hb dX3_meanFrom_68 hl (by decide) rfl (fun ls hl => ?_)
    refine lv_aload_n hx hb dX3_meanFrom_70 rfl (lv_at hl 4 rfl) ?_
    refine va_get (D := D) hx hb hts inlX3 hown hK hP 43 (jc_43 cI cL ad σ70 τ) rfl 3 (by decide) (hts _ kw_6_5) (fun _ h9 => h9) rfl dX3_meanFrom_71 ?_
    refine lv_aload_n hx hb dX3_meanFrom_74 rfl (lv_at hl 4 rfl) ?_
    refine lv_iload hx hb dX3_meanFrom_75 (lv_at hl 3 rfl) ?_
    refine lv_iload_n hx hb dX3_meanFrom_77 rfl (lv_at hl 7 rfl) ?_
    refine lv_iload hx hb dX3_meanFrom_78 (lv_at hl 8 rfl) ?_
    have z73 : (σ70 16 0).toInt = (σ 16 0).toInt := by rw [(show σ70 16 0 = (σ 16 0) from (by rw [f72 16 (by omega)]; exact (by rw [f50 16 (by omega)]; exact (by rw [f25 16 (by omega)]))))]
    have z74 : (σ70 16 1).toInt = (σ 16 1).toInt := by rw [(show σ70 16 1 = (σ 16 1) from (by rw [f72 16 (by omega)]; exact (by rw [f50 16 (by omega)]; exact (by rw [f25 16 (by omega)]))))]
    have z75 : (σ70 16 2).toInt = (σ 16 2).toInt := by rw [(show σ70 16 2 = (σ 16 2) from (by rw [f72 16 (by omega)]; exact (by rw [f50 16 (by omega)]; exact (by rw [f25 16 (by omega)]))))]
    have w76 : ∀ k : Nat, k < 8 → 0 ≤ (σ70 17 k).toInt ∧ (σ70 17 k).toInt ≤ 3 := (by rw [f72 17 (by omega)]; exact w54)
    have I77 : jI16 σ70 := ⟨(by omega), (by omega), (by omega), w76⟩
    refine jcallV (As := [.int r24, .int a3, .int a4]) (rest := [.ref (ad 16)]) ⟨hx, hb, hml, hown, hts⟩ hK hP hA hS hZ (c_X3_runsBy_43 l D cI cL ad zz hJ σ70 τ r24 (r24.toInt) rfl a3 (A3) t3 a4 (A4) t4 I77) cw_RX3_136 (jc_43 cI cL ad σ70 τ) rfl ⟨Nat.le_of_ble_eq_true rfl, Nat.le_of_ble_eq_true rfl⟩ rfl rfl rfl hl.1 rfl (Nat.le_of_ble_eq_true rfl) dX3_meanFrom_80 ⟨Nat.zero_le _, Nat.zero_le _⟩ (fun r79 σ78 τ78 H locs h78 hP hS => ?_)
    obtain ⟨⟨rfl, rfl⟩, h78⟩ := h78
    refine lv_aload_n hx hb dX3_meanFrom_83 rfl (lv_at hl 4 rfl) ?_
    refine lv_iload hx hb dX3_meanFrom_84 (lv_at hl 3 rfl) ?_
    refine lv_iload_n hx hb dX3_meanFrom_86 rfl (lv_at hl 6 rfl) ?_
    refine lv_iload_n hx hb dX3_meanFrom_87 rfl (lv_at hl 7 rfl) ?_
    refine lv_iload hx hb dX3_meanFrom_88 (lv_at hl 8 rfl) ?_
    have z80 : (σ70 22 0).toInt = (σ 22 0).toInt := by rw [(show σ70 22 0 = (σ 22 0) from (by rw [f72 22 (by omega)]; exact (by rw [f50 22 (by omega)]; exact (by rw [f25 22 (by omega)]))))]
    have w81 : ∀ k : Nat, k < 160 → 0 ≤ (σ70 23 k).toInt ∧ (σ70 23 k).toInt ≤ 30000 := (by rw [f72 23 (by omega)]; exact w60)
    have I82 : jI22 σ70 := ⟨(by omega), w81⟩
    refine jcallV (As := [.int r24, .int 5, .int a3, .int a4]) (rest := [.int r79, .ref (ad 16)]) ⟨hx, hb, hml, hown, hts⟩ hK hP hA hS hZ (c_X3_outBy_43 l D cI cL ad zz hJ σ70 τ r24 (r24.toInt) rfl 5 (5) jz_5 a3 (A3) t3 a4 (A4) t4 I77 I82) cw_RX3_139 (jc_43 cI cL ad σ70 τ) rfl ⟨Nat.le_of_ble_eq_true rfl, Nat.le_of_ble_eq_true rfl⟩ rfl rfl rfl hl.1 rfl (Nat.le_of_ble_eq_true rfl) dX3_meanFrom_90 ⟨Nat.zero_le _, Nat.zero_le _⟩ (fun r84 σ83 τ83 H locs h83 hP hS => ?_)
    obtain ⟨rfl, f85, h83⟩ := h83
    refine lv_iload hx hb dX3_meanFrom_93 (lv_at hl 1 rfl) ?_
    refine lv_iload hx hb dX3_meanFrom_95 (lv_at hl 0 rfl) ?_
    refine jcallV (As := [.int r79, .int r84, .int r49, .int r71]) (rest := []) ⟨hx, hb, hml, hown, hts⟩ hK hP hA hS hZ (c_X6_meanOf_16 l D cI cL ad zz hJ σ83 τ r79 (r79.toInt) rfl r84 (r84.toInt) rfl r49 (r49.toInt) rfl r71 (r71.toInt) rfl) cw_RX3_142 (jc_16 cI cL ad σ83 τ) rfl ⟨Nat.le_of_ble_eq_true rfl, Nat.le_of_ble_eq_true rfl⟩ rfl rfl rfl hl.1 rfl (Nat.le_of_ble_eq_true rfl) dX3_meanFrom_97 ⟨Nat.zero_le _, Nat.zero_le _⟩ (fun r87 σ86 τ86 H locs h86 hP hS => ?_)
    obtain ⟨⟨rfl, rfl⟩, h86⟩ := h86
    exact hret r87 σ83 τ _ _ _ _ rfl ⟨rfl, (fun i hi => by rw [f85 i (by omega), f72 i (by omega), f50 i (by omega), f25 i (by omega)]), trivial⟩ hP hS dX3_meanFrom_100
  · have kc17 := jne c17 rfl jz_0
    refine lv_iconst (v := 0) hx hb dX3_meanFrom_20 (by decide) ?_
    exact hret 0 σ τ _ _ _ _ rfl ⟨rfl, (fun _ _ => rfl), trivial⟩ hP hS dX3_meanFrom_21
set_option maxHeartbeats 4000000 in
set_option maxRecDepth 100000 in
theorem c_X3_meanFrom_4 (l : Launch) (D : va_G) (cI cL : ClassId) (ad zz : Nat → Nat) (hJ : jD ad) (σ : Nat → Nat → Int32) (τ : Nat → Nat → Int64) (a1 : Int32) (A1 : Int) (t1 : a1.toInt = A1) (a3 : Int32) (A3 : Int) (t3 : a3.toInt = A3) (a4 : Int32) (A4 : Int) (t4 : a4.toInt = A4) (hI16 : jI16 σ) (hI18 : jI18 σ) (hI22 : jI22 σ) (hI31 : jI31 σ) (hI38 : jI38 σ) : jM l yX3_meanFrom cX3_meanFrom 9 (some .int) ({ frames := 9, cells := 0, slots := 0, locals := 241 }) D cI cL ad zz [.ref (ad 43), .int a1, .int 4, .int a3, .int a4] σ τ (fun r σ' τ' => τ = τ' ∧ (∀ i : Nat, (i < 20 ∨ 21 < i) ∧ (i < 24 ∨ 25 < i) ∧ (i < 29 ∨ 30 < i) → σ' i = σ i) ∧ True) := by
  refine jM.of hJ (by decide +kernel) (nt := .int) rfl (Nat.le_of_ble_eq_true rfl) ?_
  intro p e s m args below meth c Q ls hC hret hl hP
  obtain ⟨hx, hb, hr, hml, hown, hts, hK, -, hlocks, hZ⟩ := hC
  have hown : s.vm.findClass RX3 = some m.cls := hown
  have hS : va_S (jA ad) s.heap s.heap [] := va_S.rf
  have hA : ∀ q, jA ad q → jA ad q := fun _ h => h
  have hl : lv_has ls 9 [(0, .ref (ad 43)), (1, .int a1), (2, .int 4), (3, .int a3), (4, .int a4)] := hl
  have g1 := jrg t1
  have g3 := jrg t3
  have g4 := jrg t4
  obtain ⟨i1, i2, i3, w4⟩ : (1 ≤ (σ 16 0).toInt ∧ (σ 16 0).toInt ≤ 8) ∧ (1 ≤ (σ 16 1).toInt ∧ (σ 16 1).toInt ≤ 12) ∧ (0 ≤ (σ 16 2).toInt ∧ (σ 16 2).toInt ≤ 999) ∧ (∀ k : Nat, k < 8 → 0 ≤ (σ 17 k).toInt ∧ (σ 17 k).toInt ≤ 3) := id hI16
  obtain ⟨i5, w6⟩ : (0 ≤ (σ 18 0).toInt ∧ (σ 18 0).toInt ≤ 160) ∧ (∀ k : Nat, k < 160 → 0 ≤ (σ 19 k).toInt ∧ (σ 19 k).toInt ≤ 30000) := id hI18
  obtain ⟨i7, w8⟩ : (0 ≤ (σ 22 0).toInt ∧ (σ 22 0).toInt ≤ 160) ∧ (∀ k : Nat, k < 160 → 0 ≤ (σ 23 k).toInt ∧ (σ 23 k).toInt ≤ 30000) := id hI22
  obtain ⟨i9, w10, w11⟩ : (0 ≤ (σ 31 8).toInt ∧ (σ 31 8).toInt ≤ 350) ∧ (∀ k : Nat, k < 1400 → (-1) ≤ (σ 33 k).toInt ∧ (σ 33 k).toInt ≤ 350) ∧ (∀ k : Nat, k < 1024 → 0 ≤ (σ 36 k).toInt ∧ (σ 36 k).toInt ≤ 349) := id hI31
  obtain ⟨i12, i13, w14⟩ : (0 ≤ (σ 38 0).toInt ∧ (σ 38 0).toInt ≤ 20) ∧ (0 ≤ (σ 38 1).toInt ∧ (σ 38 1).toInt ≤ 1000) ∧ (∀ k : Nat, k < 20 → 0 ≤ (σ 39 k).toInt ∧ (σ 39 k).toInt ≤ 6) := id hI38
  refine lv_iload_n hx hb dX3_meanFrom_0 rfl (lv_at hl 2 rfl) ?_
  refine lv_bipush (v := 8) hx hb dX3_meanFrom_1 (by decide) ?_
  refine lv_icmp_ge (tgt := 20) hx hb dX3_meanFrom_3 (by decide) (fun c => absurd c (by decide)) (fun _ => ?_)
  refine lv_aload_n hx hb dX3_meanFrom_6 rfl (lv_at hl 0 rfl) ?_
  refine va_get (D := D) hx hb hts inlX3 hown hK hP 43 (jc_43 cI cL ad σ τ) rfl 3 (by decide) (hts _ kw_6_5) (fun _ h9 => h9) rfl dX3_meanFrom_7 ?_
  refine lv_iload_n hx hb dX3_meanFrom_10 rfl (lv_at hl 2 rfl) ?_
  refine lv_iload_n hx hb dX3_meanFrom_11 rfl (lv_at hl 3 rfl) ?_
  refine lv_iload hx hb dX3_meanFrom_12 (lv_at hl 4 rfl) ?_
  refine jcallV (As := [.int 4, .int a3, .int a4]) (rest := []) ⟨hx, hb, hml, hown, hts⟩ hK hP hA hS hZ (c_X6_ended_16 l D cI cL ad zz hJ σ τ 4 (4) jz_4 a3 (A3) t3 a4 (A4) t4) cw_RX3_123 (jc_16 cI cL ad σ τ) rfl ⟨Nat.le_of_ble_eq_true rfl, Nat.le_of_ble_eq_true rfl⟩ rfl rfl rfl hl.1 rfl (Nat.le_of_ble_eq_true rfl) dX3_meanFrom_14 ⟨Nat.zero_le _, Nat.zero_le _⟩ (fun r16 σ15 τ15 H locs h15 hP hS => ?_)
  obtain ⟨⟨rfl, rfl⟩, h15⟩ := h15
  refine lv_if_eq (tgt := 22) hx hb dX3_meanFrom_17 (by decide) (fun c17 => ?_) (fun c17 => ?_)
  · have kc17 := jeq c17 rfl jz_0
    refine lv_aload_n hx hb dX3_meanFrom_22 rfl (lv_at hl 0 rfl) ?_
    refine lv_iload_n hx hb dX3_meanFrom_23 rfl (lv_at hl 1 rfl) ?_
    refine lv_iload_n hx hb dX3_meanFrom_24 rfl (lv_at hl 2 rfl) ?_
    refine lv_iload_n hx hb dX3_meanFrom_25 rfl (lv_at hl 3 rfl) ?_
    refine lv_iload hx hb dX3_meanFrom_26 (lv_at hl 4 rfl) ?_
    have I18 : jI16 σ := ⟨(by omega), (by omega), (by omega), w4⟩
    have I19 : jI18 σ := ⟨(by omega), w6⟩
    have I20 : jI22 σ := ⟨(by omega), w8⟩
    have I21 : jI31 σ := ⟨(by omega), w10, w11⟩
    have I22 : jI38 σ := ⟨(by omega), (by omega), w14⟩
    refine jcallV (As := [.int a1, .int 4, .int a3, .int a4]) (rest := []) ⟨hx, hb, hml, hown, hts⟩ hK hP hA hS hZ (c_X3_putOn_43 l D cI cL ad zz hJ σ τ a1 (A1) t1 4 (4) jz_4 a3 (A3) t3 a4 (A4) t4 I18 I19 I20 I21 I22) cw_RX3_127 (jc_43 cI cL ad σ τ) rfl ⟨Nat.le_of_ble_eq_true rfl, Nat.le_of_ble_eq_true rfl⟩ rfl rfl rfl hl.1 rfl (Nat.le_of_ble_eq_true rfl) dX3_meanFrom_28 ⟨Nat.zero_le _, Nat.zero_le _⟩ (fun r24 σ23 τ23 H locs h23 hP hS => ?_)
    obtain ⟨rfl, f25, h23⟩ := h23
    refine lv_istore (lv' := [(5, .int r24), (0, .ref (ad 43)), (1, .int a1), (2, .int 4), (3, .int a3), (4, .int a4)]) hx hb dX3_meanFrom_31 hl (by decide) rfl (fun ls hl => ?_)
    refine lv_iload hx hb dX3_meanFrom_33 (lv_at hl 5 rfl) ?_
    refine lv_iload hx hb dX3_meanFrom_35 (lv_at hl 0 rfl) ?_
    refine jcallS (As := [.int a4, .int r24]) (rest := []) ⟨hx, hb, hml, hown, hts⟩ hK hP hA hS hZ (c_X0_after l D cI cL ad zz hJ σ23 τ a4 (A4) t4 r24 (r24.toInt) rfl) cw_RX3_130 ⟨Nat.le_of_ble_eq_true rfl, Nat.le_of_ble_eq_true rfl⟩ rfl rfl rfl hl.1 rfl (Nat.le_of_ble_eq_true rfl) dX3_meanFrom_37 ⟨Nat.zero_le _, Nat.zero_le _⟩ (fun r27 σ26 τ26 H locs h26 hP hS => ?_)
    obtain ⟨⟨rfl, rfl⟩, h26⟩ := h26
    refine lv_istore (lv' := [(6, .int r27), (5, .int r24), (0, .ref (ad 43)), (1, .int a1), (2, .int 4), (3, .int a3), (4, .int a4)]) hx hb dX3_meanFrom_40 hl (by decide) rfl (fun ls hl => ?_)
    refine lv_aload_n hx hb dX3_meanFrom_42 rfl (lv_at hl 2 rfl) ?_
    refine lv_iload_n hx hb dX3_meanFrom_43 rfl (lv_at hl 3 rfl) ?_
    refine lv_iload_n hx hb dX3_meanFrom_44 rfl (lv_at hl 4 rfl) ?_
    refine lv_iconst (v := 1) hx hb dX3_meanFrom_45 (by decide) ?_
    refine lv_iadd hx hb dX3_meanFrom_46 ?_
    refine jtopr (y := 5) (by decide) ?_
    refine lv_iload_n hx hb dX3_meanFrom_47 rfl (lv_at hl 5 rfl) ?_
    refine lv_iconst (v := 1) hx hb dX3_meanFrom_48 (by decide) ?_
    refine lv_iadd hx hb dX3_meanFrom_49 ?_
    refine lv_topi (fun x28 ex28 => ?_)
    have gx28 := jrg (rfl : x28.toInt = x28.toInt)
    refine lv_iload hx hb dX3_meanFrom_50 (lv_at hl 0 rfl) ?_
    have z29 : (σ23 16 0).toInt = (σ 16 0).toInt := by rw [(show σ23 16 0 = (σ 16 0) from (by rw [f25 16 (by omega)]))]
    have z30 : (σ23 16 1).toInt = (σ 16 1).toInt := by rw [(show σ23 16 1 = (σ 16 1) from (by rw [f25 16 (by omega)]))]
    have z31 : (σ23 16 2).toInt = (σ 16 2).toInt := by rw [(show σ23 16 2 = (σ 16 2) from (by rw [f25 16 (by omega)]))]
    have w32 : ∀ k : Nat, k < 8 → 0 ≤ (σ23 17 k).toInt ∧ (σ23 17 k).toInt ≤ 3 := (by rw [f25 17 (by omega)]; exact w4)
    have I33 : jI16 σ23 := ⟨(by omega), (by omega), (by omega), w32⟩
    have z34 : (σ23 18 0).toInt = (σ 18 0).toInt := by rw [(show σ23 18 0 = (σ 18 0) from (by rw [f25 18 (by omega)]))]
    have w35 : ∀ k : Nat, k < 160 → 0 ≤ (σ23 19 k).toInt ∧ (σ23 19 k).toInt ≤ 30000 := (by rw [f25 19 (by omega)]; exact w6)
    have I36 : jI18 σ23 := ⟨(by omega), w35⟩
    have z37 : (σ23 22 0).toInt = (σ 22 0).toInt := by rw [(show σ23 22 0 = (σ 22 0) from (by rw [f25 22 (by omega)]))]
    have w38 : ∀ k : Nat, k < 160 → 0 ≤ (σ23 23 k).toInt ∧ (σ23 23 k).toInt ≤ 30000 := (by rw [f25 23 (by omega)]; exact w8)
    have I39 : jI22 σ23 := ⟨(by omega), w38⟩
    have z40 : (σ23 31 8).toInt = (σ 31 8).toInt := by rw [(show σ23 31 8 = (σ 31 8) from (by rw [f25 31 (by omega)]))]
    have w41 : ∀ k : Nat, k < 1400 → (-1) ≤ (σ23 33 k).toInt ∧ (σ23 33 k).toInt ≤ 350 := (by rw [f25 33 (by omega)]; exact w10)
    have w42 : ∀ k : Nat, k < 1024 → 0 ≤ (σ23 36 k).toInt ∧ (σ23 36 k).toInt ≤ 349 := (by rw [f25 36 (by omega)]; exact w11)
    have I43 : jI31 σ23 := ⟨(by omega), w41, w42⟩
    have z44 : (σ23 38 0).toInt = (σ 38 0).toInt := by rw [(show σ23 38 0 = (σ 38 0) from (by rw [f25 38 (by omega)]))]
    have z45 : (σ23 38 1).toInt = (σ 38 1).toInt := by rw [(show σ23 38 1 = (σ 38 1) from (by rw [f25 38 (by omega)]))]
    have w46 : ∀ k : Nat, k < 20 → 0 ≤ (σ23 39 k).toInt ∧ (σ23 39 k).toInt ≤ 6 := (by rw [f25 39 (by omega)]; exact w14)
    have I47 : jI38 σ23 := ⟨(by omega), (by omega), w46⟩
    refine jcallV (As := [.int a1, .int 5, .int x28, .int r27]) (rest := []) ⟨hx, hb, hml, hown, hts⟩ hK hP hA hS hZ (c_X3_meanFrom_5 l D cI cL ad zz hJ σ23 τ a1 (A1) t1 x28 (x28.toInt) rfl r27 (r27.toInt) rfl I33 I36 I39 I43 I47) cw_RX3_133 (jc_43 cI cL ad σ23 τ) rfl ⟨Nat.le_of_ble_eq_true rfl, Nat.le_of_ble_eq_true rfl⟩ rfl rfl rfl hl.1 rfl (Nat.le_of_ble_eq_true rfl) dX3_meanFrom_52 ⟨Nat.zero_le _, Nat.zero_le _⟩ (fun r49 σ48 τ48 H locs h48 hP hS => ?_)
    obtain ⟨rfl, f50, h48⟩ := h48
    refine lv_istore (lv' := [(7, .int r49), (6, .int r27), (5, .int r24), (0, .ref (ad 43)), (1, .int a1), (2, .int 4), (3, .int a3), (4, .int a4)]) hx hb dX3_meanFrom_55 hl (by decide) rfl (fun ls hl => ?_)
    refine lv_aload_n hx hb dX3_meanFrom_57 rfl (lv_at hl 3 rfl) ?_
    refine lv_iload_n hx hb dX3_meanFrom_58 rfl (lv_at hl 4 rfl) ?_
    refine lv_iload_n hx hb dX3_meanFrom_59 rfl (lv_at hl 5 rfl) ?_
    refine lv_iconst (v := 1) hx hb dX3_meanFrom_60 (by decide) ?_
    refine lv_iadd hx hb dX3_meanFrom_61 ?_
    refine jtopr (y := 5) (by decide) ?_
    refine lv_iload_n hx hb dX3_meanFrom_62 rfl (lv_at hl 6 rfl) ?_
    refine lv_iload hx hb dX3_meanFrom_63 (lv_at hl 1 rfl) ?_
    have z51 : (σ48 16 0).toInt = (σ 16 0).toInt := by rw [(show σ48 16 0 = (σ 16 0) from (by rw [f50 16 (by omega)]; exact (by rw [f25 16 (by omega)])))]
    have z52 : (σ48 16 1).toInt = (σ 16 1).toInt := by rw [(show σ48 16 1 = (σ 16 1) from (by rw [f50 16 (by omega)]; exact (by rw [f25 16 (by omega)])))]
    have z53 : (σ48 16 2).toInt = (σ 16 2).toInt := by rw [(show σ48 16 2 = (σ 16 2) from (by rw [f50 16 (by omega)]; exact (by rw [f25 16 (by omega)])))]
    have w54 : ∀ k : Nat, k < 8 → 0 ≤ (σ48 17 k).toInt ∧ (σ48 17 k).toInt ≤ 3 := (by rw [f50 17 (by omega)]; exact w32)
    have I55 : jI16 σ48 := ⟨(by omega), (by omega), (by omega), w54⟩
    have z56 : (σ48 18 0).toInt = (σ 18 0).toInt := by rw [(show σ48 18 0 = (σ 18 0) from (by rw [f50 18 (by omega)]; exact (by rw [f25 18 (by omega)])))]
    have w57 : ∀ k : Nat, k < 160 → 0 ≤ (σ48 19 k).toInt ∧ (σ48 19 k).toInt ≤ 30000 := (by rw [f50 19 (by omega)]; exact w35)
    have I58 : jI18 σ48 := ⟨(by omega), w57⟩
    have z59 : (σ48 22 0).toInt = (σ 22 0).toInt := by rw [(show σ48 22 0 = (σ 22 0) from (by rw [f50 22 (by omega)]; exact (by rw [f25 22 (by omega)])))]
    have w60 : ∀ k : Nat, k < 160 → 0 ≤ (σ48 23 k).toInt ∧ (σ48 23 k).toInt ≤ 30000 := (by rw [f50 23 (by omega)]; exact w38)
    have I61 : jI22 σ48 := ⟨(by omega), w60⟩
    have z62 : (σ48 31 8).toInt = (σ 31 8).toInt := by rw [(show σ48 31 8 = (σ 31 8) from (by rw [f50 31 (by omega)]; exact (by rw [f25 31 (by omega)])))]
    have w63 : ∀ k : Nat, k < 1400 → (-1) ≤ (σ48 33 k).toInt ∧ (σ48 33 k).toInt ≤ 350 := (by rw [f50 33 (by omega)]; exact w41)
    have w64 : ∀ k : Nat, k < 1024 → 0 ≤ (σ48 36 k).toInt ∧ (σ48 36 k).toInt ≤ 349 := (by rw [f50 36 (by omega)]; exact w42)
    have I65 : jI31 σ48 := ⟨(by omega), w63, w64⟩
    have z66 : (σ48 38 0).toInt = (σ 38 0).toInt := by rw [(show σ48 38 0 = (σ 38 0) from (by rw [f50 38 (by omega)]; exact (by rw [f25 38 (by omega)])))]
    have z67 : (σ48 38 1).toInt = (σ 38 1).toInt := by rw [(show σ48 38 1 = (σ 38 1) from (by rw [f50 38 (by omega)]; exact (by rw [f25 38 (by omega)])))]
    have w68 : ∀ k : Nat, k < 20 → 0 ≤ (σ48 39 k).toInt ∧ (σ48 39 k).toInt ≤ 6 := (by rw [f50 39 (by omega)]; exact w46)
    have I69 : jI38 σ48 := ⟨(by omega), (by omega), w68⟩
    refine jcallV (As := [.int a1, .int 5, .int a3, .int r27]) (rest := []) ⟨hx, hb, hml, hown, hts⟩ hK hP hA hS hZ (c_X3_meanFrom_5 l D cI cL ad zz hJ σ48 τ a1 (A1) t1 a3 (A3) t3 r27 (r27.toInt) rfl I55 I58 I61 I65 I69) cw_RX3_133 (jc_43 cI cL ad σ48 τ) rfl ⟨Nat.le_of_ble_eq_true rfl, Nat.le_of_ble_eq_true rfl⟩ rfl rfl rfl hl.1 rfl (Nat.le_of_ble_eq_true rfl) dX3_meanFrom_65 ⟨Nat.zero_le _, Nat.zero_le _⟩ (fun r71 σ70 τ70 H locs h70 hP hS => ?_)
    obtain ⟨rfl, f72, h70⟩ := h70
    refine lv_istore (lv' := [(8, .int r71), (7, .int r49), (6, .int r27), (5, .int r24), (0, .ref (ad 43)), (1, .int a1), (2, .int 4), (3, .int a3), (4, .int a4)]) hx hb dX3_meanFrom_68 hl (by decide) rfl (fun ls hl => ?_)
    refine lv_aload_n hx hb dX3_meanFrom_70 rfl (lv_at hl 4 rfl) ?_
    refine va_get (D := D) hx hb hts inlX3 hown hK hP 43 (jc_43 cI cL ad σ70 τ) rfl 3 (by decide) (hts _ kw_6_5) (fun _ h9 => h9) rfl dX3_meanFrom_71 ?_
    refine lv_aload_n hx hb dX3_meanFrom_74 rfl (lv_at hl 4 rfl) ?_
    refine lv_iload hx hb dX3_meanFrom_75 (lv_at hl 3 rfl) ?_
    refine lv_iload_n hx hb dX3_meanFrom_77 rfl (lv_at hl 7 rfl) ?_
    refine lv_iload hx hb dX3_meanFrom_78 (lv_at hl 8 rfl) ?_
    have z73 : (σ70 16 0).toInt = (σ 16 0).toInt := by rw [(show σ70 16 0 = (σ 16 0) from (by rw [f72 16 (by omega)]; exact (by rw [f50 16 (by omega)]; exact (by rw [f25 16 (by omega)]))))]
    have z74 : (σ70 16 1).toInt = (σ 16 1).toInt := by rw [(show σ70 16 1 = (σ 16 1) from (by rw [f72 16 (by omega)]; exact (by rw [f50 16 (by omega)]; exact (by rw [f25 16 (by omega)]))))]
    have z75 : (σ70 16 2).toInt = (σ 16 2).toInt := by rw [(show σ70 16 2 = (σ 16 2) from (by rw [f72 16 (by omega)]; exact (by rw [f50 16 (by omega)]; exact (by rw [f25 16 (by omega)]))))]
    have w76 : ∀ k : Nat, k < 8 → 0 ≤ (σ70 17 k).toInt ∧ (σ70 17 k).toInt ≤ 3 := (by rw [f72 17 (by omega)]; exact w54)
    have I77 : jI16 σ70 := ⟨(by omega), (by omega), (by omega), w76⟩
    refine jcallV (As := [.int r24, .int a3, .int a4]) (rest := [.ref (ad 16)]) ⟨hx, hb, hml, hown, hts⟩ hK hP hA hS hZ (c_X3_runsBy_43 l D cI cL ad zz hJ σ70 τ r24 (r24.toInt) rfl a3 (A3) t3 a4 (A4) t4 I77) cw_RX3_136 (jc_43 cI cL ad σ70 τ) rfl ⟨Nat.le_of_ble_eq_true rfl, Nat.le_of_ble_eq_true rfl⟩ rfl rfl rfl hl.1 rfl (Nat.le_of_ble_eq_true rfl) dX3_meanFrom_80 ⟨Nat.zero_le _, Nat.zero_le _⟩ (fun r79 σ78 τ78 H locs h78 hP hS => ?_)
    obtain ⟨⟨rfl, rfl⟩, h78⟩ := h78
    refine lv_aload_n hx hb dX3_meanFrom_83 rfl (lv_at hl 4 rfl) ?_
    refine lv_iload hx hb dX3_meanFrom_84 (lv_at hl 3 rfl) ?_
    refine lv_iload_n hx hb dX3_meanFrom_86 rfl (lv_at hl 6 rfl) ?_
    refine lv_iload_n hx hb dX3_meanFrom_87 rfl (lv_at hl 7 rfl) ?_
    refine lv_iload hx hb dX3_meanFrom_88 (lv_at hl 8 rfl) ?_
    have z80 : (σ70 22 0).toInt = (σ 22 0).toInt := by rw [(show σ70 22 0 = (σ 22 0) from (by rw [f72 22 (by omega)]; exact (by rw [f50 22 (by omega)]; exact (by rw [f25 22 (by omega)]))))]
    have w81 : ∀ k : Nat, k < 160 → 0 ≤ (σ70 23 k).toInt ∧ (σ70 23 k).toInt ≤ 30000 := (by rw [f72 23 (by omega)]; exact w60)
    have I82 : jI22 σ70 := ⟨(by omega), w81⟩
    refine jcallV (As := [.int r24, .int 4, .int a3, .int a4]) (rest := [.int r79, .ref (ad 16)]) ⟨hx, hb, hml, hown, hts⟩ hK hP hA hS hZ (c_X3_outBy_43 l D cI cL ad zz hJ σ70 τ r24 (r24.toInt) rfl 4 (4) jz_4 a3 (A3) t3 a4 (A4) t4 I77 I82) cw_RX3_139 (jc_43 cI cL ad σ70 τ) rfl ⟨Nat.le_of_ble_eq_true rfl, Nat.le_of_ble_eq_true rfl⟩ rfl rfl rfl hl.1 rfl (Nat.le_of_ble_eq_true rfl) dX3_meanFrom_90 ⟨Nat.zero_le _, Nat.zero_le _⟩ (fun r84 σ83 τ83 H locs h83 hP hS => ?_)
    obtain ⟨rfl, f85, h83⟩ := h83
    refine lv_iload hx hb dX3_meanFrom_93 (lv_at hl 1 rfl) ?_
    refine lv_iload hx hb dX3_meanFrom_95 (lv_at hl 0 rfl) ?_
    refine jcallV (As := [.int r79, .int r84, .int r49, .int r71]) (rest := []) ⟨hx, hb, hml, hown, hts⟩ hK hP hA hS hZ (c_X6_meanOf_16 l D cI cL ad zz hJ σ83 τ r79 (r79.toInt) rfl r84 (r84.toInt) rfl r49 (r49.toInt) rfl r71 (r71.toInt) rfl) cw_RX3_142 (jc_16 cI cL ad σ83 τ) rfl ⟨Nat.le_of_ble_eq_true rfl, Nat.le_of_ble_eq_true rfl⟩ rfl rfl rfl hl.1 rfl (Nat.le_of_ble_eq_true rfl) dX3_meanFrom_97 ⟨Nat.zero_le _, Nat.zero_le _⟩ (fun r87 σ86 τ86 H locs h86 hP hS => ?_)
    obtain ⟨⟨rfl, rfl⟩, h86⟩ := h86
    exact hret r87 σ83 τ _ _ _ _ rfl ⟨rfl, (fun i hi => by rw [f85 i (by omega), f72 i (by omega), f50 i (by omega), f25 i (by omega)]), trivial⟩ hP hS dX3_meanFrom_100
  · have kc17 := jne c17 rfl jz_0
    refine lv_iconst (v := 0) hx hb dX3_meanFrom_20 (by decide) ?_
    exact hret 0 σ τ _ _ _ _ rfl ⟨rfl, (fun _ _ => rfl), trivial⟩ hP hS dX3_meanFrom_21
set_option maxHeartbeats 4000000 in
set_option maxRecDepth 100000 in
theorem c_X3_meanFrom_3 (l : Launch) (D : va_G) (cI cL : ClassId) (ad zz : Nat → Nat) (hJ : jD ad) (σ : Nat → Nat → Int32) (τ : Nat → Nat → Int64) (a1 : Int32) (A1 : Int) (t1 : a1.toInt = A1) (a3 : Int32) (A3 : Int) (t3 : a3.toInt = A3) (a4 : Int32) (A4 : Int) (t4 : a4.toInt = A4) (hI16 : jI16 σ) (hI18 : jI18 σ) (hI22 : jI22 σ) (hI31 : jI31 σ) (hI38 : jI38 σ) : jM l yX3_meanFrom cX3_meanFrom 9 (some .int) ({ frames := 10, cells := 0, slots := 0, locals := 269 }) D cI cL ad zz [.ref (ad 43), .int a1, .int 3, .int a3, .int a4] σ τ (fun r σ' τ' => τ = τ' ∧ (∀ i : Nat, (i < 20 ∨ 21 < i) ∧ (i < 24 ∨ 25 < i) ∧ (i < 29 ∨ 30 < i) → σ' i = σ i) ∧ True) := by
  refine jM.of hJ (by decide +kernel) (nt := .int) rfl (Nat.le_of_ble_eq_true rfl) ?_
  intro p e s m args below meth c Q ls hC hret hl hP
  obtain ⟨hx, hb, hr, hml, hown, hts, hK, -, hlocks, hZ⟩ := hC
  have hown : s.vm.findClass RX3 = some m.cls := hown
  have hS : va_S (jA ad) s.heap s.heap [] := va_S.rf
  have hA : ∀ q, jA ad q → jA ad q := fun _ h => h
  have hl : lv_has ls 9 [(0, .ref (ad 43)), (1, .int a1), (2, .int 3), (3, .int a3), (4, .int a4)] := hl
  have g1 := jrg t1
  have g3 := jrg t3
  have g4 := jrg t4
  obtain ⟨i1, i2, i3, w4⟩ : (1 ≤ (σ 16 0).toInt ∧ (σ 16 0).toInt ≤ 8) ∧ (1 ≤ (σ 16 1).toInt ∧ (σ 16 1).toInt ≤ 12) ∧ (0 ≤ (σ 16 2).toInt ∧ (σ 16 2).toInt ≤ 999) ∧ (∀ k : Nat, k < 8 → 0 ≤ (σ 17 k).toInt ∧ (σ 17 k).toInt ≤ 3) := id hI16
  obtain ⟨i5, w6⟩ : (0 ≤ (σ 18 0).toInt ∧ (σ 18 0).toInt ≤ 160) ∧ (∀ k : Nat, k < 160 → 0 ≤ (σ 19 k).toInt ∧ (σ 19 k).toInt ≤ 30000) := id hI18
  obtain ⟨i7, w8⟩ : (0 ≤ (σ 22 0).toInt ∧ (σ 22 0).toInt ≤ 160) ∧ (∀ k : Nat, k < 160 → 0 ≤ (σ 23 k).toInt ∧ (σ 23 k).toInt ≤ 30000) := id hI22
  obtain ⟨i9, w10, w11⟩ : (0 ≤ (σ 31 8).toInt ∧ (σ 31 8).toInt ≤ 350) ∧ (∀ k : Nat, k < 1400 → (-1) ≤ (σ 33 k).toInt ∧ (σ 33 k).toInt ≤ 350) ∧ (∀ k : Nat, k < 1024 → 0 ≤ (σ 36 k).toInt ∧ (σ 36 k).toInt ≤ 349) := id hI31
  obtain ⟨i12, i13, w14⟩ : (0 ≤ (σ 38 0).toInt ∧ (σ 38 0).toInt ≤ 20) ∧ (0 ≤ (σ 38 1).toInt ∧ (σ 38 1).toInt ≤ 1000) ∧ (∀ k : Nat, k < 20 → 0 ≤ (σ 39 k).toInt ∧ (σ 39 k).toInt ≤ 6) := id hI38
  refine lv_iload_n hx hb dX3_meanFrom_0 rfl (lv_at hl 2 rfl) ?_
  refine lv_bipush (v := 8) hx hb dX3_meanFrom_1 (by decide) ?_
  refine lv_icmp_ge (tgt := 20) hx hb dX3_meanFrom_3 (by decide) (fun c => absurd c (by decide)) (fun _ => ?_)
  refine lv_aload_n hx hb dX3_meanFrom_6 rfl (lv_at hl 0 rfl) ?_
  refine va_get (D := D) hx hb hts inlX3 hown hK hP 43 (jc_43 cI cL ad σ τ) rfl 3 (by decide) (hts _ kw_6_5) (fun _ h9 => h9) rfl dX3_meanFrom_7 ?_
  refine lv_iload_n hx hb dX3_meanFrom_10 rfl (lv_at hl 2 rfl) ?_
  refine lv_iload_n hx hb dX3_meanFrom_11 rfl (lv_at hl 3 rfl) ?_
  refine lv_iload hx hb dX3_meanFrom_12 (lv_at hl 4 rfl) ?_
  refine jcallV (As := [.int 3, .int a3, .int a4]) (rest := []) ⟨hx, hb, hml, hown, hts⟩ hK hP hA hS hZ (c_X6_ended_16 l D cI cL ad zz hJ σ τ 3 (3) jz_3 a3 (A3) t3 a4 (A4) t4) cw_RX3_123 (jc_16 cI cL ad σ τ) rfl ⟨Nat.le_of_ble_eq_true rfl, Nat.le_of_ble_eq_true rfl⟩ rfl rfl rfl hl.1 rfl (Nat.le_of_ble_eq_true rfl) dX3_meanFrom_14 ⟨Nat.zero_le _, Nat.zero_le _⟩ (fun r16 σ15 τ15 H locs h15 hP hS => ?_)
  obtain ⟨⟨rfl, rfl⟩, h15⟩ := h15
  refine lv_if_eq (tgt := 22) hx hb dX3_meanFrom_17 (by decide) (fun c17 => ?_) (fun c17 => ?_)
  · have kc17 := jeq c17 rfl jz_0
    refine lv_aload_n hx hb dX3_meanFrom_22 rfl (lv_at hl 0 rfl) ?_
    refine lv_iload_n hx hb dX3_meanFrom_23 rfl (lv_at hl 1 rfl) ?_
    refine lv_iload_n hx hb dX3_meanFrom_24 rfl (lv_at hl 2 rfl) ?_
    refine lv_iload_n hx hb dX3_meanFrom_25 rfl (lv_at hl 3 rfl) ?_
    refine lv_iload hx hb dX3_meanFrom_26 (lv_at hl 4 rfl) ?_
    have I18 : jI16 σ := ⟨(by omega), (by omega), (by omega), w4⟩
    have I19 : jI18 σ := ⟨(by omega), w6⟩
    have I20 : jI22 σ := ⟨(by omega), w8⟩
    have I21 : jI31 σ := ⟨(by omega), w10, w11⟩
    have I22 : jI38 σ := ⟨(by omega), (by omega), w14⟩
    refine jcallV (As := [.int a1, .int 3, .int a3, .int a4]) (rest := []) ⟨hx, hb, hml, hown, hts⟩ hK hP hA hS hZ (c_X3_putOn_43 l D cI cL ad zz hJ σ τ a1 (A1) t1 3 (3) jz_3 a3 (A3) t3 a4 (A4) t4 I18 I19 I20 I21 I22) cw_RX3_127 (jc_43 cI cL ad σ τ) rfl ⟨Nat.le_of_ble_eq_true rfl, Nat.le_of_ble_eq_true rfl⟩ rfl rfl rfl hl.1 rfl (Nat.le_of_ble_eq_true rfl) dX3_meanFrom_28 ⟨Nat.zero_le _, Nat.zero_le _⟩ (fun r24 σ23 τ23 H locs h23 hP hS => ?_)
    obtain ⟨rfl, f25, h23⟩ := h23
    refine lv_istore (lv' := [(5, .int r24), (0, .ref (ad 43)), (1, .int a1), (2, .int 3), (3, .int a3), (4, .int a4)]) hx hb dX3_meanFrom_31 hl (by decide) rfl (fun ls hl => ?_)
    refine lv_iload hx hb dX3_meanFrom_33 (lv_at hl 5 rfl) ?_
    refine lv_iload hx hb dX3_meanFrom_35 (lv_at hl 0 rfl) ?_
    refine jcallS (As := [.int a4, .int r24]) (rest := []) ⟨hx, hb, hml, hown, hts⟩ hK hP hA hS hZ (c_X0_after l D cI cL ad zz hJ σ23 τ a4 (A4) t4 r24 (r24.toInt) rfl) cw_RX3_130 ⟨Nat.le_of_ble_eq_true rfl, Nat.le_of_ble_eq_true rfl⟩ rfl rfl rfl hl.1 rfl (Nat.le_of_ble_eq_true rfl) dX3_meanFrom_37 ⟨Nat.zero_le _, Nat.zero_le _⟩ (fun r27 σ26 τ26 H locs h26 hP hS => ?_)
    obtain ⟨⟨rfl, rfl⟩, h26⟩ := h26
    refine lv_istore (lv' := [(6, .int r27), (5, .int r24), (0, .ref (ad 43)), (1, .int a1), (2, .int 3), (3, .int a3), (4, .int a4)]) hx hb dX3_meanFrom_40 hl (by decide) rfl (fun ls hl => ?_)
    refine lv_aload_n hx hb dX3_meanFrom_42 rfl (lv_at hl 2 rfl) ?_
    refine lv_iload_n hx hb dX3_meanFrom_43 rfl (lv_at hl 3 rfl) ?_
    refine lv_iload_n hx hb dX3_meanFrom_44 rfl (lv_at hl 4 rfl) ?_
    refine lv_iconst (v := 1) hx hb dX3_meanFrom_45 (by decide) ?_
    refine lv_iadd hx hb dX3_meanFrom_46 ?_
    refine jtopr (y := 4) (by decide) ?_
    refine lv_iload_n hx hb dX3_meanFrom_47 rfl (lv_at hl 5 rfl) ?_
    refine lv_iconst (v := 1) hx hb dX3_meanFrom_48 (by decide) ?_
    refine lv_iadd hx hb dX3_meanFrom_49 ?_
    refine lv_topi (fun x28 ex28 => ?_)
    have gx28 := jrg (rfl : x28.toInt = x28.toInt)
    refine lv_iload hx hb dX3_meanFrom_50 (lv_at hl 0 rfl) ?_
    have z29 : (σ23 16 0).toInt = (σ 16 0).toInt := by rw [(show σ23 16 0 = (σ 16 0) from (by rw [f25 16 (by omega)]))]
    have z30 : (σ23 16 1).toInt = (σ 16 1).toInt := by rw [(show σ23 16 1 = (σ 16 1) from (by rw [f25 16 (by omega)]))]
    have z31 : (σ23 16 2).toInt = (σ 16 2).toInt := by rw [(show σ23 16 2 = (σ 16 2) from (by rw [f25 16 (by omega)]))]
    have w32 : ∀ k : Nat, k < 8 → 0 ≤ (σ23 17 k).toInt ∧ (σ23 17 k).toInt ≤ 3 := (by rw [f25 17 (by omega)]; exact w4)
    have I33 : jI16 σ23 := ⟨(by omega), (by omega), (by omega), w32⟩
    have z34 : (σ23 18 0).toInt = (σ 18 0).toInt := by rw [(show σ23 18 0 = (σ 18 0) from (by rw [f25 18 (by omega)]))]
    have w35 : ∀ k : Nat, k < 160 → 0 ≤ (σ23 19 k).toInt ∧ (σ23 19 k).toInt ≤ 30000 := (by rw [f25 19 (by omega)]; exact w6)
    have I36 : jI18 σ23 := ⟨(by omega), w35⟩
    have z37 : (σ23 22 0).toInt = (σ 22 0).toInt := by rw [(show σ23 22 0 = (σ 22 0) from (by rw [f25 22 (by omega)]))]
    have w38 : ∀ k : Nat, k < 160 → 0 ≤ (σ23 23 k).toInt ∧ (σ23 23 k).toInt ≤ 30000 := (by rw [f25 23 (by omega)]; exact w8)
    have I39 : jI22 σ23 := ⟨(by omega), w38⟩
    have z40 : (σ23 31 8).toInt = (σ 31 8).toInt := by rw [(show σ23 31 8 = (σ 31 8) from (by rw [f25 31 (by omega)]))]
    have w41 : ∀ k : Nat, k < 1400 → (-1) ≤ (σ23 33 k).toInt ∧ (σ23 33 k).toInt ≤ 350 := (by rw [f25 33 (by omega)]; exact w10)
    have w42 : ∀ k : Nat, k < 1024 → 0 ≤ (σ23 36 k).toInt ∧ (σ23 36 k).toInt ≤ 349 := (by rw [f25 36 (by omega)]; exact w11)
    have I43 : jI31 σ23 := ⟨(by omega), w41, w42⟩
    have z44 : (σ23 38 0).toInt = (σ 38 0).toInt := by rw [(show σ23 38 0 = (σ 38 0) from (by rw [f25 38 (by omega)]))]
    have z45 : (σ23 38 1).toInt = (σ 38 1).toInt := by rw [(show σ23 38 1 = (σ 38 1) from (by rw [f25 38 (by omega)]))]
    have w46 : ∀ k : Nat, k < 20 → 0 ≤ (σ23 39 k).toInt ∧ (σ23 39 k).toInt ≤ 6 := (by rw [f25 39 (by omega)]; exact w14)
    have I47 : jI38 σ23 := ⟨(by omega), (by omega), w46⟩
    refine jcallV (As := [.int a1, .int 4, .int x28, .int r27]) (rest := []) ⟨hx, hb, hml, hown, hts⟩ hK hP hA hS hZ (c_X3_meanFrom_4 l D cI cL ad zz hJ σ23 τ a1 (A1) t1 x28 (x28.toInt) rfl r27 (r27.toInt) rfl I33 I36 I39 I43 I47) cw_RX3_133 (jc_43 cI cL ad σ23 τ) rfl ⟨Nat.le_of_ble_eq_true rfl, Nat.le_of_ble_eq_true rfl⟩ rfl rfl rfl hl.1 rfl (Nat.le_of_ble_eq_true rfl) dX3_meanFrom_52 ⟨Nat.zero_le _, Nat.zero_le _⟩ (fun r49 σ48 τ48 H locs h48 hP hS => ?_)
    obtain ⟨rfl, f50, h48⟩ := h48
    refine lv_istore (lv' := [(7, .int r49), (6, .int r27), (5, .int r24), (0, .ref (ad 43)), (1, .int a1), (2, .int 3), (3, .int a3), (4, .int a4)]) hx hb dX3_meanFrom_55 hl (by decide) rfl (fun ls hl => ?_)
    refine lv_aload_n hx hb dX3_meanFrom_57 rfl (lv_at hl 3 rfl) ?_
    refine lv_iload_n hx hb dX3_meanFrom_58 rfl (lv_at hl 4 rfl) ?_
    refine lv_iload_n hx hb dX3_meanFrom_59 rfl (lv_at hl 5 rfl) ?_
    refine lv_iconst (v := 1) hx hb dX3_meanFrom_60 (by decide) ?_
    refine lv_iadd hx hb dX3_meanFrom_61 ?_
    refine jtopr (y := 4) (by decide) ?_
    refine lv_iload_n hx hb dX3_meanFrom_62 rfl (lv_at hl 6 rfl) ?_
    refine lv_iload hx hb dX3_meanFrom_63 (lv_at hl 1 rfl) ?_
    have z51 : (σ48 16 0).toInt = (σ 16 0).toInt := by rw [(show σ48 16 0 = (σ 16 0) from (by rw [f50 16 (by omega)]; exact (by rw [f25 16 (by omega)])))]
    have z52 : (σ48 16 1).toInt = (σ 16 1).toInt := by rw [(show σ48 16 1 = (σ 16 1) from (by rw [f50 16 (by omega)]; exact (by rw [f25 16 (by omega)])))]
    have z53 : (σ48 16 2).toInt = (σ 16 2).toInt := by rw [(show σ48 16 2 = (σ 16 2) from (by rw [f50 16 (by omega)]; exact (by rw [f25 16 (by omega)])))]
    have w54 : ∀ k : Nat, k < 8 → 0 ≤ (σ48 17 k).toInt ∧ (σ48 17 k).toInt ≤ 3 := (by rw [f50 17 (by omega)]; exact w32)
    have I55 : jI16 σ48 := ⟨(by omega), (by omega), (by omega), w54⟩
    have z56 : (σ48 18 0).toInt = (σ 18 0).toInt := by rw [(show σ48 18 0 = (σ 18 0) from (by rw [f50 18 (by omega)]; exact (by rw [f25 18 (by omega)])))]
    have w57 : ∀ k : Nat, k < 160 → 0 ≤ (σ48 19 k).toInt ∧ (σ48 19 k).toInt ≤ 30000 := (by rw [f50 19 (by omega)]; exact w35)
    have I58 : jI18 σ48 := ⟨(by omega), w57⟩
    have z59 : (σ48 22 0).toInt = (σ 22 0).toInt := by rw [(show σ48 22 0 = (σ 22 0) from (by rw [f50 22 (by omega)]; exact (by rw [f25 22 (by omega)])))]
    have w60 : ∀ k : Nat, k < 160 → 0 ≤ (σ48 23 k).toInt ∧ (σ48 23 k).toInt ≤ 30000 := (by rw [f50 23 (by omega)]; exact w38)
    have I61 : jI22 σ48 := ⟨(by omega), w60⟩
    have z62 : (σ48 31 8).toInt = (σ 31 8).toInt := by rw [(show σ48 31 8 = (σ 31 8) from (by rw [f50 31 (by omega)]; exact (by rw [f25 31 (by omega)])))]
    have w63 : ∀ k : Nat, k < 1400 → (-1) ≤ (σ48 33 k).toInt ∧ (σ48 33 k).toInt ≤ 350 := (by rw [f50 33 (by omega)]; exact w41)
    have w64 : ∀ k : Nat, k < 1024 → 0 ≤ (σ48 36 k).toInt ∧ (σ48 36 k).toInt ≤ 349 := (by rw [f50 36 (by omega)]; exact w42)
    have I65 : jI31 σ48 := ⟨(by omega), w63, w64⟩
    have z66 : (σ48 38 0).toInt = (σ 38 0).toInt := by rw [(show σ48 38 0 = (σ 38 0) from (by rw [f50 38 (by omega)]; exact (by rw [f25 38 (by omega)])))]
    have z67 : (σ48 38 1).toInt = (σ 38 1).toInt := by rw [(show σ48 38 1 = (σ 38 1) from (by rw [f50 38 (by omega)]; exact (by rw [f25 38 (by omega)])))]
    have w68 : ∀ k : Nat, k < 20 → 0 ≤ (σ48 39 k).toInt ∧ (σ48 39 k).toInt ≤ 6 := (by rw [f50 39 (by omega)]; exact w46)
    have I69 : jI38 σ48 := ⟨(by omega), (by omega), w68⟩
    refine jcallV (As := [.int a1, .int 4, .int a3, .int r27]) (rest := []) ⟨hx, hb, hml, hown, hts⟩ hK hP hA hS hZ (c_X3_meanFrom_4 l D cI cL ad zz hJ σ48 τ a1 (A1) t1 a3 (A3) t3 r27 (r27.toInt) rfl I55 I58 I61 I65 I69) cw_RX3_133 (jc_43 cI cL ad σ48 τ) rfl ⟨Nat.le_of_ble_eq_true rfl, Nat.le_of_ble_eq_true rfl⟩ rfl rfl rfl hl.1 rfl (Nat.le_of_ble_eq_true rfl) dX3_meanFrom_65 ⟨Nat.zero_le _, Nat.zero_le _⟩ (fun r71 σ70 τ70 H locs h70 hP hS => ?_)
    obtain ⟨rfl, f72, h70⟩ := h70
    refine lv_istore (lv' := [(8, .int r71), (7, .int r49), (6, .int r27), (5, .int r24), (0, .ref (ad 43)), (1, .int a1), (2, .int 3), (3, .int a3), (4, .int a4)]) hx hb dX3_meanFrom_68 hl (by decide) rfl (fun ls hl => ?_)
    refine lv_aload_n hx hb dX3_meanFrom_70 rfl (lv_at hl 4 rfl) ?_
    refine va_get (D := D) hx hb hts inlX3 hown hK hP 43 (jc_43 cI cL ad σ70 τ) rfl 3 (by decide) (hts _ kw_6_5) (fun _ h9 => h9) rfl dX3_meanFrom_71 ?_
    refine lv_aload_n hx hb dX3_meanFrom_74 rfl (lv_at hl 4 rfl) ?_
    refine lv_iload hx hb dX3_meanFrom_75 (lv_at hl 3 rfl) ?_
    refine lv_iload_n hx hb dX3_meanFrom_77 rfl (lv_at hl 7 rfl) ?_
    refine lv_iload hx hb dX3_meanFrom_78 (lv_at hl 8 rfl) ?_
    have z73 : (σ70 16 0).toInt = (σ 16 0).toInt := by rw [(show σ70 16 0 = (σ 16 0) from (by rw [f72 16 (by omega)]; exact (by rw [f50 16 (by omega)]; exact (by rw [f25 16 (by omega)]))))]
    have z74 : (σ70 16 1).toInt = (σ 16 1).toInt := by rw [(show σ70 16 1 = (σ 16 1) from (by rw [f72 16 (by omega)]; exact (by rw [f50 16 (by omega)]; exact (by rw [f25 16 (by omega)]))))]
    have z75 : (σ70 16 2).toInt = (σ 16 2).toInt := by rw [(show σ70 16 2 = (σ 16 2) from (by rw [f72 16 (by omega)]; exact (by rw [f50 16 (by omega)]; exact (by rw [f25 16 (by omega)]))))]
    have w76 : ∀ k : Nat, k < 8 → 0 ≤ (σ70 17 k).toInt ∧ (σ70 17 k).toInt ≤ 3 := (by rw [f72 17 (by omega)]; exact w54)
    have I77 : jI16 σ70 := ⟨(by omega), (by omega), (by omega), w76⟩
    refine jcallV (As := [.int r24, .int a3, .int a4]) (rest := [.ref (ad 16)]) ⟨hx, hb, hml, hown, hts⟩ hK hP hA hS hZ (c_X3_runsBy_43 l D cI cL ad zz hJ σ70 τ r24 (r24.toInt) rfl a3 (A3) t3 a4 (A4) t4 I77) cw_RX3_136 (jc_43 cI cL ad σ70 τ) rfl ⟨Nat.le_of_ble_eq_true rfl, Nat.le_of_ble_eq_true rfl⟩ rfl rfl rfl hl.1 rfl (Nat.le_of_ble_eq_true rfl) dX3_meanFrom_80 ⟨Nat.zero_le _, Nat.zero_le _⟩ (fun r79 σ78 τ78 H locs h78 hP hS => ?_)
    obtain ⟨⟨rfl, rfl⟩, h78⟩ := h78
    refine lv_aload_n hx hb dX3_meanFrom_83 rfl (lv_at hl 4 rfl) ?_
    refine lv_iload hx hb dX3_meanFrom_84 (lv_at hl 3 rfl) ?_
    refine lv_iload_n hx hb dX3_meanFrom_86 rfl (lv_at hl 6 rfl) ?_
    refine lv_iload_n hx hb dX3_meanFrom_87 rfl (lv_at hl 7 rfl) ?_
    refine lv_iload hx hb dX3_meanFrom_88 (lv_at hl 8 rfl) ?_
    have z80 : (σ70 22 0).toInt = (σ 22 0).toInt := by rw [(show σ70 22 0 = (σ 22 0) from (by rw [f72 22 (by omega)]; exact (by rw [f50 22 (by omega)]; exact (by rw [f25 22 (by omega)]))))]
    have w81 : ∀ k : Nat, k < 160 → 0 ≤ (σ70 23 k).toInt ∧ (σ70 23 k).toInt ≤ 30000 := (by rw [f72 23 (by omega)]; exact w60)
    have I82 : jI22 σ70 := ⟨(by omega), w81⟩
    refine jcallV (As := [.int r24, .int 3, .int a3, .int a4]) (rest := [.int r79, .ref (ad 16)]) ⟨hx, hb, hml, hown, hts⟩ hK hP hA hS hZ (c_X3_outBy_43 l D cI cL ad zz hJ σ70 τ r24 (r24.toInt) rfl 3 (3) jz_3 a3 (A3) t3 a4 (A4) t4 I77 I82) cw_RX3_139 (jc_43 cI cL ad σ70 τ) rfl ⟨Nat.le_of_ble_eq_true rfl, Nat.le_of_ble_eq_true rfl⟩ rfl rfl rfl hl.1 rfl (Nat.le_of_ble_eq_true rfl) dX3_meanFrom_90 ⟨Nat.zero_le _, Nat.zero_le _⟩ (fun r84 σ83 τ83 H locs h83 hP hS => ?_)
    obtain ⟨rfl, f85, h83⟩ := h83
    refine lv_iload hx hb dX3_meanFrom_93 (lv_at hl 1 rfl) ?_
    refine lv_iload hx hb dX3_meanFrom_95 (lv_at hl 0 rfl) ?_
    refine jcallV (As := [.int r79, .int r84, .int r49, .int r71]) (rest := []) ⟨hx, hb, hml, hown, hts⟩ hK hP hA hS hZ (c_X6_meanOf_16 l D cI cL ad zz hJ σ83 τ r79 (r79.toInt) rfl r84 (r84.toInt) rfl r49 (r49.toInt) rfl r71 (r71.toInt) rfl) cw_RX3_142 (jc_16 cI cL ad σ83 τ) rfl ⟨Nat.le_of_ble_eq_true rfl, Nat.le_of_ble_eq_true rfl⟩ rfl rfl rfl hl.1 rfl (Nat.le_of_ble_eq_true rfl) dX3_meanFrom_97 ⟨Nat.zero_le _, Nat.zero_le _⟩ (fun r87 σ86 τ86 H locs h86 hP hS => ?_)
    obtain ⟨⟨rfl, rfl⟩, h86⟩ := h86
    exact hret r87 σ83 τ _ _ _ _ rfl ⟨rfl, (fun i hi => by rw [f85 i (by omega), f72 i (by omega), f50 i (by omega), f25 i (by omega)]), trivial⟩ hP hS dX3_meanFrom_100
  · have kc17 := jne c17 rfl jz_0
    refine lv_iconst (v := 0) hx hb dX3_meanFrom_20 (by decide) ?_
    exact hret 0 σ τ _ _ _ _ rfl ⟨rfl, (fun _ _ => rfl), trivial⟩ hP hS dX3_meanFrom_21
set_option maxHeartbeats 4000000 in
set_option maxRecDepth 100000 in
theorem c_X3_meanFrom_2 (l : Launch) (D : va_G) (cI cL : ClassId) (ad zz : Nat → Nat) (hJ : jD ad) (σ : Nat → Nat → Int32) (τ : Nat → Nat → Int64) (a1 : Int32) (A1 : Int) (t1 : a1.toInt = A1) (a3 : Int32) (A3 : Int) (t3 : a3.toInt = A3) (a4 : Int32) (A4 : Int) (t4 : a4.toInt = A4) (hI16 : jI16 σ) (hI18 : jI18 σ) (hI22 : jI22 σ) (hI31 : jI31 σ) (hI38 : jI38 σ) : jM l yX3_meanFrom cX3_meanFrom 9 (some .int) ({ frames := 11, cells := 0, slots := 0, locals := 297 }) D cI cL ad zz [.ref (ad 43), .int a1, .int 2, .int a3, .int a4] σ τ (fun r σ' τ' => τ = τ' ∧ (∀ i : Nat, (i < 20 ∨ 21 < i) ∧ (i < 24 ∨ 25 < i) ∧ (i < 29 ∨ 30 < i) → σ' i = σ i) ∧ True) := by
  refine jM.of hJ (by decide +kernel) (nt := .int) rfl (Nat.le_of_ble_eq_true rfl) ?_
  intro p e s m args below meth c Q ls hC hret hl hP
  obtain ⟨hx, hb, hr, hml, hown, hts, hK, -, hlocks, hZ⟩ := hC
  have hown : s.vm.findClass RX3 = some m.cls := hown
  have hS : va_S (jA ad) s.heap s.heap [] := va_S.rf
  have hA : ∀ q, jA ad q → jA ad q := fun _ h => h
  have hl : lv_has ls 9 [(0, .ref (ad 43)), (1, .int a1), (2, .int 2), (3, .int a3), (4, .int a4)] := hl
  have g1 := jrg t1
  have g3 := jrg t3
  have g4 := jrg t4
  obtain ⟨i1, i2, i3, w4⟩ : (1 ≤ (σ 16 0).toInt ∧ (σ 16 0).toInt ≤ 8) ∧ (1 ≤ (σ 16 1).toInt ∧ (σ 16 1).toInt ≤ 12) ∧ (0 ≤ (σ 16 2).toInt ∧ (σ 16 2).toInt ≤ 999) ∧ (∀ k : Nat, k < 8 → 0 ≤ (σ 17 k).toInt ∧ (σ 17 k).toInt ≤ 3) := id hI16
  obtain ⟨i5, w6⟩ : (0 ≤ (σ 18 0).toInt ∧ (σ 18 0).toInt ≤ 160) ∧ (∀ k : Nat, k < 160 → 0 ≤ (σ 19 k).toInt ∧ (σ 19 k).toInt ≤ 30000) := id hI18
  obtain ⟨i7, w8⟩ : (0 ≤ (σ 22 0).toInt ∧ (σ 22 0).toInt ≤ 160) ∧ (∀ k : Nat, k < 160 → 0 ≤ (σ 23 k).toInt ∧ (σ 23 k).toInt ≤ 30000) := id hI22
  obtain ⟨i9, w10, w11⟩ : (0 ≤ (σ 31 8).toInt ∧ (σ 31 8).toInt ≤ 350) ∧ (∀ k : Nat, k < 1400 → (-1) ≤ (σ 33 k).toInt ∧ (σ 33 k).toInt ≤ 350) ∧ (∀ k : Nat, k < 1024 → 0 ≤ (σ 36 k).toInt ∧ (σ 36 k).toInt ≤ 349) := id hI31
  obtain ⟨i12, i13, w14⟩ : (0 ≤ (σ 38 0).toInt ∧ (σ 38 0).toInt ≤ 20) ∧ (0 ≤ (σ 38 1).toInt ∧ (σ 38 1).toInt ≤ 1000) ∧ (∀ k : Nat, k < 20 → 0 ≤ (σ 39 k).toInt ∧ (σ 39 k).toInt ≤ 6) := id hI38
  refine lv_iload_n hx hb dX3_meanFrom_0 rfl (lv_at hl 2 rfl) ?_
  refine lv_bipush (v := 8) hx hb dX3_meanFrom_1 (by decide) ?_
  refine lv_icmp_ge (tgt := 20) hx hb dX3_meanFrom_3 (by decide) (fun c => absurd c (by decide)) (fun _ => ?_)
  refine lv_aload_n hx hb dX3_meanFrom_6 rfl (lv_at hl 0 rfl) ?_
  refine va_get (D := D) hx hb hts inlX3 hown hK hP 43 (jc_43 cI cL ad σ τ) rfl 3 (by decide) (hts _ kw_6_5) (fun _ h9 => h9) rfl dX3_meanFrom_7 ?_
  refine lv_iload_n hx hb dX3_meanFrom_10 rfl (lv_at hl 2 rfl) ?_
  refine lv_iload_n hx hb dX3_meanFrom_11 rfl (lv_at hl 3 rfl) ?_
  refine lv_iload hx hb dX3_meanFrom_12 (lv_at hl 4 rfl) ?_
  refine jcallV (As := [.int 2, .int a3, .int a4]) (rest := []) ⟨hx, hb, hml, hown, hts⟩ hK hP hA hS hZ (c_X6_ended_16 l D cI cL ad zz hJ σ τ 2 (2) jz_2 a3 (A3) t3 a4 (A4) t4) cw_RX3_123 (jc_16 cI cL ad σ τ) rfl ⟨Nat.le_of_ble_eq_true rfl, Nat.le_of_ble_eq_true rfl⟩ rfl rfl rfl hl.1 rfl (Nat.le_of_ble_eq_true rfl) dX3_meanFrom_14 ⟨Nat.zero_le _, Nat.zero_le _⟩ (fun r16 σ15 τ15 H locs h15 hP hS => ?_)
  obtain ⟨⟨rfl, rfl⟩, h15⟩ := h15
  refine lv_if_eq (tgt := 22) hx hb dX3_meanFrom_17 (by decide) (fun c17 => ?_) (fun c17 => ?_)
  · have kc17 := jeq c17 rfl jz_0
    refine lv_aload_n hx hb dX3_meanFrom_22 rfl (lv_at hl 0 rfl) ?_
    refine lv_iload_n hx hb dX3_meanFrom_23 rfl (lv_at hl 1 rfl) ?_
    refine lv_iload_n hx hb dX3_meanFrom_24 rfl (lv_at hl 2 rfl) ?_
    refine lv_iload_n hx hb dX3_meanFrom_25 rfl (lv_at hl 3 rfl) ?_
    refine lv_iload hx hb dX3_meanFrom_26 (lv_at hl 4 rfl) ?_
    have I18 : jI16 σ := ⟨(by omega), (by omega), (by omega), w4⟩
    have I19 : jI18 σ := ⟨(by omega), w6⟩
    have I20 : jI22 σ := ⟨(by omega), w8⟩
    have I21 : jI31 σ := ⟨(by omega), w10, w11⟩
    have I22 : jI38 σ := ⟨(by omega), (by omega), w14⟩
    refine jcallV (As := [.int a1, .int 2, .int a3, .int a4]) (rest := []) ⟨hx, hb, hml, hown, hts⟩ hK hP hA hS hZ (c_X3_putOn_43 l D cI cL ad zz hJ σ τ a1 (A1) t1 2 (2) jz_2 a3 (A3) t3 a4 (A4) t4 I18 I19 I20 I21 I22) cw_RX3_127 (jc_43 cI cL ad σ τ) rfl ⟨Nat.le_of_ble_eq_true rfl, Nat.le_of_ble_eq_true rfl⟩ rfl rfl rfl hl.1 rfl (Nat.le_of_ble_eq_true rfl) dX3_meanFrom_28 ⟨Nat.zero_le _, Nat.zero_le _⟩ (fun r24 σ23 τ23 H locs h23 hP hS => ?_)
    obtain ⟨rfl, f25, h23⟩ := h23
    refine lv_istore (lv' := [(5, .int r24), (0, .ref (ad 43)), (1, .int a1), (2, .int 2), (3, .int a3), (4, .int a4)]) hx hb dX3_meanFrom_31 hl (by decide) rfl (fun ls hl => ?_)
    refine lv_iload hx hb dX3_meanFrom_33 (lv_at hl 5 rfl) ?_
    refine lv_iload hx hb dX3_meanFrom_35 (lv_at hl 0 rfl) ?_
    refine jcallS (As := [.int a4, .int r24]) (rest := []) ⟨hx, hb, hml, hown, hts⟩ hK hP hA hS hZ (c_X0_after l D cI cL ad zz hJ σ23 τ a4 (A4) t4 r24 (r24.toInt) rfl) cw_RX3_130 ⟨Nat.le_of_ble_eq_true rfl, Nat.le_of_ble_eq_true rfl⟩ rfl rfl rfl hl.1 rfl (Nat.le_of_ble_eq_true rfl) dX3_meanFrom_37 ⟨Nat.zero_le _, Nat.zero_le _⟩ (fun r27 σ26 τ26 H locs h26 hP hS => ?_)
    obtain ⟨⟨rfl, rfl⟩, h26⟩ := h26
    refine lv_istore (lv' := [(6, .int r27), (5, .int r24), (0, .ref (ad 43)), (1, .int a1), (2, .int 2), (3, .int a3), (4, .int a4)]) hx hb dX3_meanFrom_40 hl (by decide) rfl (fun ls hl => ?_)
    refine lv_aload_n hx hb dX3_meanFrom_42 rfl (lv_at hl 2 rfl) ?_
    refine lv_iload_n hx hb dX3_meanFrom_43 rfl (lv_at hl 3 rfl) ?_
    refine lv_iload_n hx hb dX3_meanFrom_44 rfl (lv_at hl 4 rfl) ?_
    refine lv_iconst (v := 1) hx hb dX3_meanFrom_45 (by decide) ?_
    refine lv_iadd hx hb dX3_meanFrom_46 ?_
    refine jtopr (y := 3) (by decide) ?_
    refine lv_iload_n hx hb dX3_meanFrom_47 rfl (lv_at hl 5 rfl) ?_
    refine lv_iconst (v := 1) hx hb dX3_meanFrom_48 (by decide) ?_
    refine lv_iadd hx hb dX3_meanFrom_49 ?_
    refine lv_topi (fun x28 ex28 => ?_)
    have gx28 := jrg (rfl : x28.toInt = x28.toInt)
    refine lv_iload hx hb dX3_meanFrom_50 (lv_at hl 0 rfl) ?_
    have z29 : (σ23 16 0).toInt = (σ 16 0).toInt := by rw [(show σ23 16 0 = (σ 16 0) from (by rw [f25 16 (by omega)]))]
    have z30 : (σ23 16 1).toInt = (σ 16 1).toInt := by rw [(show σ23 16 1 = (σ 16 1) from (by rw [f25 16 (by omega)]))]
    have z31 : (σ23 16 2).toInt = (σ 16 2).toInt := by rw [(show σ23 16 2 = (σ 16 2) from (by rw [f25 16 (by omega)]))]
    have w32 : ∀ k : Nat, k < 8 → 0 ≤ (σ23 17 k).toInt ∧ (σ23 17 k).toInt ≤ 3 := (by rw [f25 17 (by omega)]; exact w4)
    have I33 : jI16 σ23 := ⟨(by omega), (by omega), (by omega), w32⟩
    have z34 : (σ23 18 0).toInt = (σ 18 0).toInt := by rw [(show σ23 18 0 = (σ 18 0) from (by rw [f25 18 (by omega)]))]
    have w35 : ∀ k : Nat, k < 160 → 0 ≤ (σ23 19 k).toInt ∧ (σ23 19 k).toInt ≤ 30000 := (by rw [f25 19 (by omega)]; exact w6)
    have I36 : jI18 σ23 := ⟨(by omega), w35⟩
    have z37 : (σ23 22 0).toInt = (σ 22 0).toInt := by rw [(show σ23 22 0 = (σ 22 0) from (by rw [f25 22 (by omega)]))]
    have w38 : ∀ k : Nat, k < 160 → 0 ≤ (σ23 23 k).toInt ∧ (σ23 23 k).toInt ≤ 30000 := (by rw [f25 23 (by omega)]; exact w8)
    have I39 : jI22 σ23 := ⟨(by omega), w38⟩
    have z40 : (σ23 31 8).toInt = (σ 31 8).toInt := by rw [(show σ23 31 8 = (σ 31 8) from (by rw [f25 31 (by omega)]))]
    have w41 : ∀ k : Nat, k < 1400 → (-1) ≤ (σ23 33 k).toInt ∧ (σ23 33 k).toInt ≤ 350 := (by rw [f25 33 (by omega)]; exact w10)
    have w42 : ∀ k : Nat, k < 1024 → 0 ≤ (σ23 36 k).toInt ∧ (σ23 36 k).toInt ≤ 349 := (by rw [f25 36 (by omega)]; exact w11)
    have I43 : jI31 σ23 := ⟨(by omega), w41, w42⟩
    have z44 : (σ23 38 0).toInt = (σ 38 0).toInt := by rw [(show σ23 38 0 = (σ 38 0) from (by rw [f25 38 (by omega)]))]
    have z45 : (σ23 38 1).toInt = (σ 38 1).toInt := by rw [(show σ23 38 1 = (σ 38 1) from (by rw [f25 38 (by omega)]))]
    have w46 : ∀ k : Nat, k < 20 → 0 ≤ (σ23 39 k).toInt ∧ (σ23 39 k).toInt ≤ 6 := (by rw [f25 39 (by omega)]; exact w14)
    have I47 : jI38 σ23 := ⟨(by omega), (by omega), w46⟩
    refine jcallV (As := [.int a1, .int 3, .int x28, .int r27]) (rest := []) ⟨hx, hb, hml, hown, hts⟩ hK hP hA hS hZ (c_X3_meanFrom_3 l D cI cL ad zz hJ σ23 τ a1 (A1) t1 x28 (x28.toInt) rfl r27 (r27.toInt) rfl I33 I36 I39 I43 I47) cw_RX3_133 (jc_43 cI cL ad σ23 τ) rfl ⟨Nat.le_of_ble_eq_true rfl, Nat.le_of_ble_eq_true rfl⟩ rfl rfl rfl hl.1 rfl (Nat.le_of_ble_eq_true rfl) dX3_meanFrom_52 ⟨Nat.zero_le _, Nat.zero_le _⟩ (fun r49 σ48 τ48 H locs h48 hP hS => ?_)
    obtain ⟨rfl, f50, h48⟩ := h48
    refine lv_istore (lv' := [(7, .int r49), (6, .int r27), (5, .int r24), (0, .ref (ad 43)), (1, .int a1), (2, .int 2), (3, .int a3), (4, .int a4)]) hx hb dX3_meanFrom_55 hl (by decide) rfl (fun ls hl => ?_)
    refine lv_aload_n hx hb dX3_meanFrom_57 rfl (lv_at hl 3 rfl) ?_
    refine lv_iload_n hx hb dX3_meanFrom_58 rfl (lv_at hl 4 rfl) ?_
    refine lv_iload_n hx hb dX3_meanFrom_59 rfl (lv_at hl 5 rfl) ?_
    refine lv_iconst (v := 1) hx hb dX3_meanFrom_60 (by decide) ?_
    refine lv_iadd hx hb dX3_meanFrom_61 ?_
    refine jtopr (y := 3) (by decide) ?_
    refine lv_iload_n hx hb dX3_meanFrom_62 rfl (lv_at hl 6 rfl) ?_
    refine lv_iload hx hb dX3_meanFrom_63 (lv_at hl 1 rfl) ?_
    have z51 : (σ48 16 0).toInt = (σ 16 0).toInt := by rw [(show σ48 16 0 = (σ 16 0) from (by rw [f50 16 (by omega)]; exact (by rw [f25 16 (by omega)])))]
    have z52 : (σ48 16 1).toInt = (σ 16 1).toInt := by rw [(show σ48 16 1 = (σ 16 1) from (by rw [f50 16 (by omega)]; exact (by rw [f25 16 (by omega)])))]
    have z53 : (σ48 16 2).toInt = (σ 16 2).toInt := by rw [(show σ48 16 2 = (σ 16 2) from (by rw [f50 16 (by omega)]; exact (by rw [f25 16 (by omega)])))]
    have w54 : ∀ k : Nat, k < 8 → 0 ≤ (σ48 17 k).toInt ∧ (σ48 17 k).toInt ≤ 3 := (by rw [f50 17 (by omega)]; exact w32)
    have I55 : jI16 σ48 := ⟨(by omega), (by omega), (by omega), w54⟩
    have z56 : (σ48 18 0).toInt = (σ 18 0).toInt := by rw [(show σ48 18 0 = (σ 18 0) from (by rw [f50 18 (by omega)]; exact (by rw [f25 18 (by omega)])))]
    have w57 : ∀ k : Nat, k < 160 → 0 ≤ (σ48 19 k).toInt ∧ (σ48 19 k).toInt ≤ 30000 := (by rw [f50 19 (by omega)]; exact w35)
    have I58 : jI18 σ48 := ⟨(by omega), w57⟩
    have z59 : (σ48 22 0).toInt = (σ 22 0).toInt := by rw [(show σ48 22 0 = (σ 22 0) from (by rw [f50 22 (by omega)]; exact (by rw [f25 22 (by omega)])))]
    have w60 : ∀ k : Nat, k < 160 → 0 ≤ (σ48 23 k).toInt ∧ (σ48 23 k).toInt ≤ 30000 := (by rw [f50 23 (by omega)]; exact w38)
    have I61 : jI22 σ48 := ⟨(by omega), w60⟩
    have z62 : (σ48 31 8).toInt = (σ 31 8).toInt := by rw [(show σ48 31 8 = (σ 31 8) from (by rw [f50 31 (by omega)]; exact (by rw [f25 31 (by omega)])))]
    have w63 : ∀ k : Nat, k < 1400 → (-1) ≤ (σ48 33 k).toInt ∧ (σ48 33 k).toInt ≤ 350 := (by rw [f50 33 (by omega)]; exact w41)
    have w64 : ∀ k : Nat, k < 1024 → 0 ≤ (σ48 36 k).toInt ∧ (σ48 36 k).toInt ≤ 349 := (by rw [f50 36 (by omega)]; exact w42)
    have I65 : jI31 σ48 := ⟨(by omega), w63, w64⟩
    have z66 : (σ48 38 0).toInt = (σ 38 0).toInt := by rw [(show σ48 38 0 = (σ 38 0) from (by rw [f50 38 (by omega)]; exact (by rw [f25 38 (by omega)])))]
    have z67 : (σ48 38 1).toInt = (σ 38 1).toInt := by rw [(show σ48 38 1 = (σ 38 1) from (by rw [f50 38 (by omega)]; exact (by rw [f25 38 (by omega)])))]
    have w68 : ∀ k : Nat, k < 20 → 0 ≤ (σ48 39 k).toInt ∧ (σ48 39 k).toInt ≤ 6 := (by rw [f50 39 (by omega)]; exact w46)
    have I69 : jI38 σ48 := ⟨(by omega), (by omega), w68⟩
    refine jcallV (As := [.int a1, .int 3, .int a3, .int r27]) (rest := []) ⟨hx, hb, hml, hown, hts⟩ hK hP hA hS hZ (c_X3_meanFrom_3 l D cI cL ad zz hJ σ48 τ a1 (A1) t1 a3 (A3) t3 r27 (r27.toInt) rfl I55 I58 I61 I65 I69) cw_RX3_133 (jc_43 cI cL ad σ48 τ) rfl ⟨Nat.le_of_ble_eq_true rfl, Nat.le_of_ble_eq_true rfl⟩ rfl rfl rfl hl.1 rfl (Nat.le_of_ble_eq_true rfl) dX3_meanFrom_65 ⟨Nat.zero_le _, Nat.zero_le _⟩ (fun r71 σ70 τ70 H locs h70 hP hS => ?_)
    obtain ⟨rfl, f72, h70⟩ := h70
    refine lv_istore (lv' := [(8, .int r71), (7, .int r49), (6, .int r27), (5, .int r24), (0, .ref (ad 43)), (1, .int a1), (2, .int 2), (3, .int a3), (4, .int a4)]) hx hb dX3_meanFrom_68 hl (by decide) rfl (fun ls hl => ?_)
    refine lv_aload_n hx hb dX3_meanFrom_70 rfl (lv_at hl 4 rfl) ?_
    refine va_get (D := D) hx hb hts inlX3 hown hK hP 43 (jc_43 cI cL ad σ70 τ) rfl 3 (by decide) (hts _ kw_6_5) (fun _ h9 => h9) rfl dX3_meanFrom_71 ?_
    refine lv_aload_n hx hb dX3_meanFrom_74 rfl (lv_at hl 4 rfl) ?_
    refine lv_iload hx hb dX3_meanFrom_75 (lv_at hl 3 rfl) ?_
    refine lv_iload_n hx hb dX3_meanFrom_77 rfl (lv_at hl 7 rfl) ?_
    refine lv_iload hx hb dX3_meanFrom_78 (lv_at hl 8 rfl) ?_
    have z73 : (σ70 16 0).toInt = (σ 16 0).toInt := by rw [(show σ70 16 0 = (σ 16 0) from (by rw [f72 16 (by omega)]; exact (by rw [f50 16 (by omega)]; exact (by rw [f25 16 (by omega)]))))]
    have z74 : (σ70 16 1).toInt = (σ 16 1).toInt := by rw [(show σ70 16 1 = (σ 16 1) from (by rw [f72 16 (by omega)]; exact (by rw [f50 16 (by omega)]; exact (by rw [f25 16 (by omega)]))))]
    have z75 : (σ70 16 2).toInt = (σ 16 2).toInt := by rw [(show σ70 16 2 = (σ 16 2) from (by rw [f72 16 (by omega)]; exact (by rw [f50 16 (by omega)]; exact (by rw [f25 16 (by omega)]))))]
    have w76 : ∀ k : Nat, k < 8 → 0 ≤ (σ70 17 k).toInt ∧ (σ70 17 k).toInt ≤ 3 := (by rw [f72 17 (by omega)]; exact w54)
    have I77 : jI16 σ70 := ⟨(by omega), (by omega), (by omega), w76⟩
    refine jcallV (As := [.int r24, .int a3, .int a4]) (rest := [.ref (ad 16)]) ⟨hx, hb, hml, hown, hts⟩ hK hP hA hS hZ (c_X3_runsBy_43 l D cI cL ad zz hJ σ70 τ r24 (r24.toInt) rfl a3 (A3) t3 a4 (A4) t4 I77) cw_RX3_136 (jc_43 cI cL ad σ70 τ) rfl ⟨Nat.le_of_ble_eq_true rfl, Nat.le_of_ble_eq_true rfl⟩ rfl rfl rfl hl.1 rfl (Nat.le_of_ble_eq_true rfl) dX3_meanFrom_80 ⟨Nat.zero_le _, Nat.zero_le _⟩ (fun r79 σ78 τ78 H locs h78 hP hS => ?_)
    obtain ⟨⟨rfl, rfl⟩, h78⟩ := h78
    refine lv_aload_n hx hb dX3_meanFrom_83 rfl (lv_at hl 4 rfl) ?_
    refine lv_iload hx hb dX3_meanFrom_84 (lv_at hl 3 rfl) ?_
    refine lv_iload_n hx hb dX3_meanFrom_86 rfl (lv_at hl 6 rfl) ?_
    refine lv_iload_n hx hb dX3_meanFrom_87 rfl (lv_at hl 7 rfl) ?_
    refine lv_iload hx hb dX3_meanFrom_88 (lv_at hl 8 rfl) ?_
    have z80 : (σ70 22 0).toInt = (σ 22 0).toInt := by rw [(show σ70 22 0 = (σ 22 0) from (by rw [f72 22 (by omega)]; exact (by rw [f50 22 (by omega)]; exact (by rw [f25 22 (by omega)]))))]
    have w81 : ∀ k : Nat, k < 160 → 0 ≤ (σ70 23 k).toInt ∧ (σ70 23 k).toInt ≤ 30000 := (by rw [f72 23 (by omega)]; exact w60)
    have I82 : jI22 σ70 := ⟨(by omega), w81⟩
    refine jcallV (As := [.int r24, .int 2, .int a3, .int a4]) (rest := [.int r79, .ref (ad 16)]) ⟨hx, hb, hml, hown, hts⟩ hK hP hA hS hZ (c_X3_outBy_43 l D cI cL ad zz hJ σ70 τ r24 (r24.toInt) rfl 2 (2) jz_2 a3 (A3) t3 a4 (A4) t4 I77 I82) cw_RX3_139 (jc_43 cI cL ad σ70 τ) rfl ⟨Nat.le_of_ble_eq_true rfl, Nat.le_of_ble_eq_true rfl⟩ rfl rfl rfl hl.1 rfl (Nat.le_of_ble_eq_true rfl) dX3_meanFrom_90 ⟨Nat.zero_le _, Nat.zero_le _⟩ (fun r84 σ83 τ83 H locs h83 hP hS => ?_)
    obtain ⟨rfl, f85, h83⟩ := h83
    refine lv_iload hx hb dX3_meanFrom_93 (lv_at hl 1 rfl) ?_
    refine lv_iload hx hb dX3_meanFrom_95 (lv_at hl 0 rfl) ?_
    refine jcallV (As := [.int r79, .int r84, .int r49, .int r71]) (rest := []) ⟨hx, hb, hml, hown, hts⟩ hK hP hA hS hZ (c_X6_meanOf_16 l D cI cL ad zz hJ σ83 τ r79 (r79.toInt) rfl r84 (r84.toInt) rfl r49 (r49.toInt) rfl r71 (r71.toInt) rfl) cw_RX3_142 (jc_16 cI cL ad σ83 τ) rfl ⟨Nat.le_of_ble_eq_true rfl, Nat.le_of_ble_eq_true rfl⟩ rfl rfl rfl hl.1 rfl (Nat.le_of_ble_eq_true rfl) dX3_meanFrom_97 ⟨Nat.zero_le _, Nat.zero_le _⟩ (fun r87 σ86 τ86 H locs h86 hP hS => ?_)
    obtain ⟨⟨rfl, rfl⟩, h86⟩ := h86
    exact hret r87 σ83 τ _ _ _ _ rfl ⟨rfl, (fun i hi => by rw [f85 i (by omega), f72 i (by omega), f50 i (by omega), f25 i (by omega)]), trivial⟩ hP hS dX3_meanFrom_100
  · have kc17 := jne c17 rfl jz_0
    refine lv_iconst (v := 0) hx hb dX3_meanFrom_20 (by decide) ?_
    exact hret 0 σ τ _ _ _ _ rfl ⟨rfl, (fun _ _ => rfl), trivial⟩ hP hS dX3_meanFrom_21
set_option maxHeartbeats 4000000 in
set_option maxRecDepth 100000 in
theorem c_X3_meanFrom_1 (l : Launch) (D : va_G) (cI cL : ClassId) (ad zz : Nat → Nat) (hJ : jD ad) (σ : Nat → Nat → Int32) (τ : Nat → Nat → Int64) (a1 : Int32) (A1 : Int) (t1 : a1.toInt = A1) (a3 : Int32) (A3 : Int) (t3 : a3.toInt = A3) (a4 : Int32) (A4 : Int) (t4 : a4.toInt = A4) (hI16 : jI16 σ) (hI18 : jI18 σ) (hI22 : jI22 σ) (hI31 : jI31 σ) (hI38 : jI38 σ) : jM l yX3_meanFrom cX3_meanFrom 9 (some .int) ({ frames := 12, cells := 0, slots := 0, locals := 325 }) D cI cL ad zz [.ref (ad 43), .int a1, .int 1, .int a3, .int a4] σ τ (fun r σ' τ' => τ = τ' ∧ (∀ i : Nat, (i < 20 ∨ 21 < i) ∧ (i < 24 ∨ 25 < i) ∧ (i < 29 ∨ 30 < i) → σ' i = σ i) ∧ True) := by
  refine jM.of hJ (by decide +kernel) (nt := .int) rfl (Nat.le_of_ble_eq_true rfl) ?_
  intro p e s m args below meth c Q ls hC hret hl hP
  obtain ⟨hx, hb, hr, hml, hown, hts, hK, -, hlocks, hZ⟩ := hC
  have hown : s.vm.findClass RX3 = some m.cls := hown
  have hS : va_S (jA ad) s.heap s.heap [] := va_S.rf
  have hA : ∀ q, jA ad q → jA ad q := fun _ h => h
  have hl : lv_has ls 9 [(0, .ref (ad 43)), (1, .int a1), (2, .int 1), (3, .int a3), (4, .int a4)] := hl
  have g1 := jrg t1
  have g3 := jrg t3
  have g4 := jrg t4
  obtain ⟨i1, i2, i3, w4⟩ : (1 ≤ (σ 16 0).toInt ∧ (σ 16 0).toInt ≤ 8) ∧ (1 ≤ (σ 16 1).toInt ∧ (σ 16 1).toInt ≤ 12) ∧ (0 ≤ (σ 16 2).toInt ∧ (σ 16 2).toInt ≤ 999) ∧ (∀ k : Nat, k < 8 → 0 ≤ (σ 17 k).toInt ∧ (σ 17 k).toInt ≤ 3) := id hI16
  obtain ⟨i5, w6⟩ : (0 ≤ (σ 18 0).toInt ∧ (σ 18 0).toInt ≤ 160) ∧ (∀ k : Nat, k < 160 → 0 ≤ (σ 19 k).toInt ∧ (σ 19 k).toInt ≤ 30000) := id hI18
  obtain ⟨i7, w8⟩ : (0 ≤ (σ 22 0).toInt ∧ (σ 22 0).toInt ≤ 160) ∧ (∀ k : Nat, k < 160 → 0 ≤ (σ 23 k).toInt ∧ (σ 23 k).toInt ≤ 30000) := id hI22
  obtain ⟨i9, w10, w11⟩ : (0 ≤ (σ 31 8).toInt ∧ (σ 31 8).toInt ≤ 350) ∧ (∀ k : Nat, k < 1400 → (-1) ≤ (σ 33 k).toInt ∧ (σ 33 k).toInt ≤ 350) ∧ (∀ k : Nat, k < 1024 → 0 ≤ (σ 36 k).toInt ∧ (σ 36 k).toInt ≤ 349) := id hI31
  obtain ⟨i12, i13, w14⟩ : (0 ≤ (σ 38 0).toInt ∧ (σ 38 0).toInt ≤ 20) ∧ (0 ≤ (σ 38 1).toInt ∧ (σ 38 1).toInt ≤ 1000) ∧ (∀ k : Nat, k < 20 → 0 ≤ (σ 39 k).toInt ∧ (σ 39 k).toInt ≤ 6) := id hI38
  refine lv_iload_n hx hb dX3_meanFrom_0 rfl (lv_at hl 2 rfl) ?_
  refine lv_bipush (v := 8) hx hb dX3_meanFrom_1 (by decide) ?_
  refine lv_icmp_ge (tgt := 20) hx hb dX3_meanFrom_3 (by decide) (fun c => absurd c (by decide)) (fun _ => ?_)
  refine lv_aload_n hx hb dX3_meanFrom_6 rfl (lv_at hl 0 rfl) ?_
  refine va_get (D := D) hx hb hts inlX3 hown hK hP 43 (jc_43 cI cL ad σ τ) rfl 3 (by decide) (hts _ kw_6_5) (fun _ h9 => h9) rfl dX3_meanFrom_7 ?_
  refine lv_iload_n hx hb dX3_meanFrom_10 rfl (lv_at hl 2 rfl) ?_
  refine lv_iload_n hx hb dX3_meanFrom_11 rfl (lv_at hl 3 rfl) ?_
  refine lv_iload hx hb dX3_meanFrom_12 (lv_at hl 4 rfl) ?_
  refine jcallV (As := [.int 1, .int a3, .int a4]) (rest := []) ⟨hx, hb, hml, hown, hts⟩ hK hP hA hS hZ (c_X6_ended_16 l D cI cL ad zz hJ σ τ 1 (1) jz_1 a3 (A3) t3 a4 (A4) t4) cw_RX3_123 (jc_16 cI cL ad σ τ) rfl ⟨Nat.le_of_ble_eq_true rfl, Nat.le_of_ble_eq_true rfl⟩ rfl rfl rfl hl.1 rfl (Nat.le_of_ble_eq_true rfl) dX3_meanFrom_14 ⟨Nat.zero_le _, Nat.zero_le _⟩ (fun r16 σ15 τ15 H locs h15 hP hS => ?_)
  obtain ⟨⟨rfl, rfl⟩, h15⟩ := h15
  refine lv_if_eq (tgt := 22) hx hb dX3_meanFrom_17 (by decide) (fun c17 => ?_) (fun c17 => ?_)
  · have kc17 := jeq c17 rfl jz_0
    refine lv_aload_n hx hb dX3_meanFrom_22 rfl (lv_at hl 0 rfl) ?_
    refine lv_iload_n hx hb dX3_meanFrom_23 rfl (lv_at hl 1 rfl) ?_
    refine lv_iload_n hx hb dX3_meanFrom_24 rfl (lv_at hl 2 rfl) ?_
    refine lv_iload_n hx hb dX3_meanFrom_25 rfl (lv_at hl 3 rfl) ?_
    refine lv_iload hx hb dX3_meanFrom_26 (lv_at hl 4 rfl) ?_
    have I18 : jI16 σ := ⟨(by omega), (by omega), (by omega), w4⟩
    have I19 : jI18 σ := ⟨(by omega), w6⟩
    have I20 : jI22 σ := ⟨(by omega), w8⟩
    have I21 : jI31 σ := ⟨(by omega), w10, w11⟩
    have I22 : jI38 σ := ⟨(by omega), (by omega), w14⟩
    refine jcallV (As := [.int a1, .int 1, .int a3, .int a4]) (rest := []) ⟨hx, hb, hml, hown, hts⟩ hK hP hA hS hZ (c_X3_putOn_43 l D cI cL ad zz hJ σ τ a1 (A1) t1 1 (1) jz_1 a3 (A3) t3 a4 (A4) t4 I18 I19 I20 I21 I22) cw_RX3_127 (jc_43 cI cL ad σ τ) rfl ⟨Nat.le_of_ble_eq_true rfl, Nat.le_of_ble_eq_true rfl⟩ rfl rfl rfl hl.1 rfl (Nat.le_of_ble_eq_true rfl) dX3_meanFrom_28 ⟨Nat.zero_le _, Nat.zero_le _⟩ (fun r24 σ23 τ23 H locs h23 hP hS => ?_)
    obtain ⟨rfl, f25, h23⟩ := h23
    refine lv_istore (lv' := [(5, .int r24), (0, .ref (ad 43)), (1, .int a1), (2, .int 1), (3, .int a3), (4, .int a4)]) hx hb dX3_meanFrom_31 hl (by decide) rfl (fun ls hl => ?_)
    refine lv_iload hx hb dX3_meanFrom_33 (lv_at hl 5 rfl) ?_
    refine lv_iload hx hb dX3_meanFrom_35 (lv_at hl 0 rfl) ?_
    refine jcallS (As := [.int a4, .int r24]) (rest := []) ⟨hx, hb, hml, hown, hts⟩ hK hP hA hS hZ (c_X0_after l D cI cL ad zz hJ σ23 τ a4 (A4) t4 r24 (r24.toInt) rfl) cw_RX3_130 ⟨Nat.le_of_ble_eq_true rfl, Nat.le_of_ble_eq_true rfl⟩ rfl rfl rfl hl.1 rfl (Nat.le_of_ble_eq_true rfl) dX3_meanFrom_37 ⟨Nat.zero_le _, Nat.zero_le _⟩ (fun r27 σ26 τ26 H locs h26 hP hS => ?_)
    obtain ⟨⟨rfl, rfl⟩, h26⟩ := h26
    refine lv_istore (lv' := [(6, .int r27), (5, .int r24), (0, .ref (ad 43)), (1, .int a1), (2, .int 1), (3, .int a3), (4, .int a4)]) hx hb dX3_meanFrom_40 hl (by decide) rfl (fun ls hl => ?_)
    refine lv_aload_n hx hb dX3_meanFrom_42 rfl (lv_at hl 2 rfl) ?_
    refine lv_iload_n hx hb dX3_meanFrom_43 rfl (lv_at hl 3 rfl) ?_
    refine lv_iload_n hx hb dX3_meanFrom_44 rfl (lv_at hl 4 rfl) ?_
    refine lv_iconst (v := 1) hx hb dX3_meanFrom_45 (by decide) ?_
    refine lv_iadd hx hb dX3_meanFrom_46 ?_
    refine jtopr (y := 2) (by decide) ?_
    refine lv_iload_n hx hb dX3_meanFrom_47 rfl (lv_at hl 5 rfl) ?_
    refine lv_iconst (v := 1) hx hb dX3_meanFrom_48 (by decide) ?_
    refine lv_iadd hx hb dX3_meanFrom_49 ?_
    refine lv_topi (fun x28 ex28 => ?_)
    have gx28 := jrg (rfl : x28.toInt = x28.toInt)
    refine lv_iload hx hb dX3_meanFrom_50 (lv_at hl 0 rfl) ?_
    have z29 : (σ23 16 0).toInt = (σ 16 0).toInt := by rw [(show σ23 16 0 = (σ 16 0) from (by rw [f25 16 (by omega)]))]
    have z30 : (σ23 16 1).toInt = (σ 16 1).toInt := by rw [(show σ23 16 1 = (σ 16 1) from (by rw [f25 16 (by omega)]))]
    have z31 : (σ23 16 2).toInt = (σ 16 2).toInt := by rw [(show σ23 16 2 = (σ 16 2) from (by rw [f25 16 (by omega)]))]
    have w32 : ∀ k : Nat, k < 8 → 0 ≤ (σ23 17 k).toInt ∧ (σ23 17 k).toInt ≤ 3 := (by rw [f25 17 (by omega)]; exact w4)
    have I33 : jI16 σ23 := ⟨(by omega), (by omega), (by omega), w32⟩
    have z34 : (σ23 18 0).toInt = (σ 18 0).toInt := by rw [(show σ23 18 0 = (σ 18 0) from (by rw [f25 18 (by omega)]))]
    have w35 : ∀ k : Nat, k < 160 → 0 ≤ (σ23 19 k).toInt ∧ (σ23 19 k).toInt ≤ 30000 := (by rw [f25 19 (by omega)]; exact w6)
    have I36 : jI18 σ23 := ⟨(by omega), w35⟩
    have z37 : (σ23 22 0).toInt = (σ 22 0).toInt := by rw [(show σ23 22 0 = (σ 22 0) from (by rw [f25 22 (by omega)]))]
    have w38 : ∀ k : Nat, k < 160 → 0 ≤ (σ23 23 k).toInt ∧ (σ23 23 k).toInt ≤ 30000 := (by rw [f25 23 (by omega)]; exact w8)
    have I39 : jI22 σ23 := ⟨(by omega), w38⟩
    have z40 : (σ23 31 8).toInt = (σ 31 8).toInt := by rw [(show σ23 31 8 = (σ 31 8) from (by rw [f25 31 (by omega)]))]
    have w41 : ∀ k : Nat, k < 1400 → (-1) ≤ (σ23 33 k).toInt ∧ (σ23 33 k).toInt ≤ 350 := (by rw [f25 33 (by omega)]; exact w10)
    have w42 : ∀ k : Nat, k < 1024 → 0 ≤ (σ23 36 k).toInt ∧ (σ23 36 k).toInt ≤ 349 := (by rw [f25 36 (by omega)]; exact w11)
    have I43 : jI31 σ23 := ⟨(by omega), w41, w42⟩
    have z44 : (σ23 38 0).toInt = (σ 38 0).toInt := by rw [(show σ23 38 0 = (σ 38 0) from (by rw [f25 38 (by omega)]))]
    have z45 : (σ23 38 1).toInt = (σ 38 1).toInt := by rw [(show σ23 38 1 = (σ 38 1) from (by rw [f25 38 (by omega)]))]
    have w46 : ∀ k : Nat, k < 20 → 0 ≤ (σ23 39 k).toInt ∧ (σ23 39 k).toInt ≤ 6 := (by rw [f25 39 (by omega)]; exact w14)
    have I47 : jI38 σ23 := ⟨(by omega), (by omega), w46⟩
    refine jcallV (As := [.int a1, .int 2, .int x28, .int r27]) (rest := []) ⟨hx, hb, hml, hown, hts⟩ hK hP hA hS hZ (c_X3_meanFrom_2 l D cI cL ad zz hJ σ23 τ a1 (A1) t1 x28 (x28.toInt) rfl r27 (r27.toInt) rfl I33 I36 I39 I43 I47) cw_RX3_133 (jc_43 cI cL ad σ23 τ) rfl ⟨Nat.le_of_ble_eq_true rfl, Nat.le_of_ble_eq_true rfl⟩ rfl rfl rfl hl.1 rfl (Nat.le_of_ble_eq_true rfl) dX3_meanFrom_52 ⟨Nat.zero_le _, Nat.zero_le _⟩ (fun r49 σ48 τ48 H locs h48 hP hS => ?_)
    obtain ⟨rfl, f50, h48⟩ := h48
    refine lv_istore (lv' := [(7, .int r49), (6, .int r27), (5, .int r24), (0, .ref (ad 43)), (1, .int a1), (2, .int 1), (3, .int a3), (4, .int a4)]) hx hb dX3_meanFrom_55 hl (by decide) rfl (fun ls hl => ?_)
    refine lv_aload_n hx hb dX3_meanFrom_57 rfl (lv_at hl 3 rfl) ?_
    refine lv_iload_n hx hb dX3_meanFrom_58 rfl (lv_at hl 4 rfl) ?_
    refine lv_iload_n hx hb dX3_meanFrom_59 rfl (lv_at hl 5 rfl) ?_
    refine lv_iconst (v := 1) hx hb dX3_meanFrom_60 (by decide) ?_
    refine lv_iadd hx hb dX3_meanFrom_61 ?_
    refine jtopr (y := 2) (by decide) ?_
    refine lv_iload_n hx hb dX3_meanFrom_62 rfl (lv_at hl 6 rfl) ?_
    refine lv_iload hx hb dX3_meanFrom_63 (lv_at hl 1 rfl) ?_
    have z51 : (σ48 16 0).toInt = (σ 16 0).toInt := by rw [(show σ48 16 0 = (σ 16 0) from (by rw [f50 16 (by omega)]; exact (by rw [f25 16 (by omega)])))]
    have z52 : (σ48 16 1).toInt = (σ 16 1).toInt := by rw [(show σ48 16 1 = (σ 16 1) from (by rw [f50 16 (by omega)]; exact (by rw [f25 16 (by omega)])))]
    have z53 : (σ48 16 2).toInt = (σ 16 2).toInt := by rw [(show σ48 16 2 = (σ 16 2) from (by rw [f50 16 (by omega)]; exact (by rw [f25 16 (by omega)])))]
    have w54 : ∀ k : Nat, k < 8 → 0 ≤ (σ48 17 k).toInt ∧ (σ48 17 k).toInt ≤ 3 := (by rw [f50 17 (by omega)]; exact w32)
    have I55 : jI16 σ48 := ⟨(by omega), (by omega), (by omega), w54⟩
    have z56 : (σ48 18 0).toInt = (σ 18 0).toInt := by rw [(show σ48 18 0 = (σ 18 0) from (by rw [f50 18 (by omega)]; exact (by rw [f25 18 (by omega)])))]
    have w57 : ∀ k : Nat, k < 160 → 0 ≤ (σ48 19 k).toInt ∧ (σ48 19 k).toInt ≤ 30000 := (by rw [f50 19 (by omega)]; exact w35)
    have I58 : jI18 σ48 := ⟨(by omega), w57⟩
    have z59 : (σ48 22 0).toInt = (σ 22 0).toInt := by rw [(show σ48 22 0 = (σ 22 0) from (by rw [f50 22 (by omega)]; exact (by rw [f25 22 (by omega)])))]
    have w60 : ∀ k : Nat, k < 160 → 0 ≤ (σ48 23 k).toInt ∧ (σ48 23 k).toInt ≤ 30000 := (by rw [f50 23 (by omega)]; exact w38)
    have I61 : jI22 σ48 := ⟨(by omega), w60⟩
    have z62 : (σ48 31 8).toInt = (σ 31 8).toInt := by rw [(show σ48 31 8 = (σ 31 8) from (by rw [f50 31 (by omega)]; exact (by rw [f25 31 (by omega)])))]
    have w63 : ∀ k : Nat, k < 1400 → (-1) ≤ (σ48 33 k).toInt ∧ (σ48 33 k).toInt ≤ 350 := (by rw [f50 33 (by omega)]; exact w41)
    have w64 : ∀ k : Nat, k < 1024 → 0 ≤ (σ48 36 k).toInt ∧ (σ48 36 k).toInt ≤ 349 := (by rw [f50 36 (by omega)]; exact w42)
    have I65 : jI31 σ48 := ⟨(by omega), w63, w64⟩
    have z66 : (σ48 38 0).toInt = (σ 38 0).toInt := by rw [(show σ48 38 0 = (σ 38 0) from (by rw [f50 38 (by omega)]; exact (by rw [f25 38 (by omega)])))]
    have z67 : (σ48 38 1).toInt = (σ 38 1).toInt := by rw [(show σ48 38 1 = (σ 38 1) from (by rw [f50 38 (by omega)]; exact (by rw [f25 38 (by omega)])))]
    have w68 : ∀ k : Nat, k < 20 → 0 ≤ (σ48 39 k).toInt ∧ (σ48 39 k).toInt ≤ 6 := (by rw [f50 39 (by omega)]; exact w46)
    have I69 : jI38 σ48 := ⟨(by omega), (by omega), w68⟩
    refine jcallV (As := [.int a1, .int 2, .int a3, .int r27]) (rest := []) ⟨hx, hb, hml, hown, hts⟩ hK hP hA hS hZ (c_X3_meanFrom_2 l D cI cL ad zz hJ σ48 τ a1 (A1) t1 a3 (A3) t3 r27 (r27.toInt) rfl I55 I58 I61 I65 I69) cw_RX3_133 (jc_43 cI cL ad σ48 τ) rfl ⟨Nat.le_of_ble_eq_true rfl, Nat.le_of_ble_eq_true rfl⟩ rfl rfl rfl hl.1 rfl (Nat.le_of_ble_eq_true rfl) dX3_meanFrom_65 ⟨Nat.zero_le _, Nat.zero_le _⟩ (fun r71 σ70 τ70 H locs h70 hP hS => ?_)
    obtain ⟨rfl, f72, h70⟩ := h70
    refine lv_istore (lv' := [(8, .int r71), (7, .int r49), (6, .int r27), (5, .int r24), (0, .ref (ad 43)), (1, .int a1), (2, .int 1), (3, .int a3), (4, .int a4)]) hx hb dX3_meanFrom_68 hl (by decide) rfl (fun ls hl => ?_)
    refine lv_aload_n hx hb dX3_meanFrom_70 rfl (lv_at hl 4 rfl) ?_
    refine va_get (D := D) hx hb hts inlX3 hown hK hP 43 (jc_43 cI cL ad σ70 τ) rfl 3 (by decide) (hts _ kw_6_5) (fun _ h9 => h9) rfl dX3_meanFrom_71 ?_
    refine lv_aload_n hx hb dX3_meanFrom_74 rfl (lv_at hl 4 rfl) ?_
    refine lv_iload hx hb dX3_meanFrom_75 (lv_at hl 3 rfl) ?_
    refine lv_iload_n hx hb dX3_meanFrom_77 rfl (lv_at hl 7 rfl) ?_
    refine lv_iload hx hb dX3_meanFrom_78 (lv_at hl 8 rfl) ?_
    have z73 : (σ70 16 0).toInt = (σ 16 0).toInt := by rw [(show σ70 16 0 = (σ 16 0) from (by rw [f72 16 (by omega)]; exact (by rw [f50 16 (by omega)]; exact (by rw [f25 16 (by omega)]))))]
    have z74 : (σ70 16 1).toInt = (σ 16 1).toInt := by rw [(show σ70 16 1 = (σ 16 1) from (by rw [f72 16 (by omega)]; exact (by rw [f50 16 (by omega)]; exact (by rw [f25 16 (by omega)]))))]
    have z75 : (σ70 16 2).toInt = (σ 16 2).toInt := by rw [(show σ70 16 2 = (σ 16 2) from (by rw [f72 16 (by omega)]; exact (by rw [f50 16 (by omega)]; exact (by rw [f25 16 (by omega)]))))]
    have w76 : ∀ k : Nat, k < 8 → 0 ≤ (σ70 17 k).toInt ∧ (σ70 17 k).toInt ≤ 3 := (by rw [f72 17 (by omega)]; exact w54)
    have I77 : jI16 σ70 := ⟨(by omega), (by omega), (by omega), w76⟩
    refine jcallV (As := [.int r24, .int a3, .int a4]) (rest := [.ref (ad 16)]) ⟨hx, hb, hml, hown, hts⟩ hK hP hA hS hZ (c_X3_runsBy_43 l D cI cL ad zz hJ σ70 τ r24 (r24.toInt) rfl a3 (A3) t3 a4 (A4) t4 I77) cw_RX3_136 (jc_43 cI cL ad σ70 τ) rfl ⟨Nat.le_of_ble_eq_true rfl, Nat.le_of_ble_eq_true rfl⟩ rfl rfl rfl hl.1 rfl (Nat.le_of_ble_eq_true rfl) dX3_meanFrom_80 ⟨Nat.zero_le _, Nat.zero_le _⟩ (fun r79 σ78 τ78 H locs h78 hP hS => ?_)
    obtain ⟨⟨rfl, rfl⟩, h78⟩ := h78
    refine lv_aload_n hx hb dX3_meanFrom_83 rfl (lv_at hl 4 rfl) ?_
    refine lv_iload hx hb dX3_meanFrom_84 (lv_at hl 3 rfl) ?_
    refine lv_iload_n hx hb dX3_meanFrom_86 rfl (lv_at hl 6 rfl) ?_
    refine lv_iload_n hx hb dX3_meanFrom_87 rfl (lv_at hl 7 rfl) ?_
    refine lv_iload hx hb dX3_meanFrom_88 (lv_at hl 8 rfl) ?_
    have z80 : (σ70 22 0).toInt = (σ 22 0).toInt := by rw [(show σ70 22 0 = (σ 22 0) from (by rw [f72 22 (by omega)]; exact (by rw [f50 22 (by omega)]; exact (by rw [f25 22 (by omega)]))))]
    have w81 : ∀ k : Nat, k < 160 → 0 ≤ (σ70 23 k).toInt ∧ (σ70 23 k).toInt ≤ 30000 := (by rw [f72 23 (by omega)]; exact w60)
    have I82 : jI22 σ70 := ⟨(by omega), w81⟩
    refine jcallV (As := [.int r24, .int 1, .int a3, .int a4]) (rest := [.int r79, .ref (ad 16)]) ⟨hx, hb, hml, hown, hts⟩ hK hP hA hS hZ (c_X3_outBy_43 l D cI cL ad zz hJ σ70 τ r24 (r24.toInt) rfl 1 (1) jz_1 a3 (A3) t3 a4 (A4) t4 I77 I82) cw_RX3_139 (jc_43 cI cL ad σ70 τ) rfl ⟨Nat.le_of_ble_eq_true rfl, Nat.le_of_ble_eq_true rfl⟩ rfl rfl rfl hl.1 rfl (Nat.le_of_ble_eq_true rfl) dX3_meanFrom_90 ⟨Nat.zero_le _, Nat.zero_le _⟩ (fun r84 σ83 τ83 H locs h83 hP hS => ?_)
    obtain ⟨rfl, f85, h83⟩ := h83
    refine lv_iload hx hb dX3_meanFrom_93 (lv_at hl 1 rfl) ?_
    refine lv_iload hx hb dX3_meanFrom_95 (lv_at hl 0 rfl) ?_
    refine jcallV (As := [.int r79, .int r84, .int r49, .int r71]) (rest := []) ⟨hx, hb, hml, hown, hts⟩ hK hP hA hS hZ (c_X6_meanOf_16 l D cI cL ad zz hJ σ83 τ r79 (r79.toInt) rfl r84 (r84.toInt) rfl r49 (r49.toInt) rfl r71 (r71.toInt) rfl) cw_RX3_142 (jc_16 cI cL ad σ83 τ) rfl ⟨Nat.le_of_ble_eq_true rfl, Nat.le_of_ble_eq_true rfl⟩ rfl rfl rfl hl.1 rfl (Nat.le_of_ble_eq_true rfl) dX3_meanFrom_97 ⟨Nat.zero_le _, Nat.zero_le _⟩ (fun r87 σ86 τ86 H locs h86 hP hS => ?_)
    obtain ⟨⟨rfl, rfl⟩, h86⟩ := h86
    exact hret r87 σ83 τ _ _ _ _ rfl ⟨rfl, (fun i hi => by rw [f85 i (by omega), f72 i (by omega), f50 i (by omega), f25 i (by omega)]), trivial⟩ hP hS dX3_meanFrom_100
  · have kc17 := jne c17 rfl jz_0
    refine lv_iconst (v := 0) hx hb dX3_meanFrom_20 (by decide) ?_
    exact hret 0 σ τ _ _ _ _ rfl ⟨rfl, (fun _ _ => rfl), trivial⟩ hP hS dX3_meanFrom_21
set_option maxHeartbeats 4000000 in
set_option maxRecDepth 100000 in
theorem c_X3_meanFrom_0 (l : Launch) (D : va_G) (cI cL : ClassId) (ad zz : Nat → Nat) (hJ : jD ad) (σ : Nat → Nat → Int32) (τ : Nat → Nat → Int64) (a1 : Int32) (A1 : Int) (t1 : a1.toInt = A1) (a3 : Int32) (A3 : Int) (t3 : a3.toInt = A3) (a4 : Int32) (A4 : Int) (t4 : a4.toInt = A4) (hI16 : jI16 σ) (hI18 : jI18 σ) (hI22 : jI22 σ) (hI31 : jI31 σ) (hI38 : jI38 σ) : jM l yX3_meanFrom cX3_meanFrom 9 (some .int) ({ frames := 13, cells := 0, slots := 0, locals := 353 }) D cI cL ad zz [.ref (ad 43), .int a1, .int 0, .int a3, .int a4] σ τ (fun r σ' τ' => τ = τ' ∧ (∀ i : Nat, (i < 20 ∨ 21 < i) ∧ (i < 24 ∨ 25 < i) ∧ (i < 29 ∨ 30 < i) → σ' i = σ i) ∧ True) := by
  refine jM.of hJ (by decide +kernel) (nt := .int) rfl (Nat.le_of_ble_eq_true rfl) ?_
  intro p e s m args below meth c Q ls hC hret hl hP
  obtain ⟨hx, hb, hr, hml, hown, hts, hK, -, hlocks, hZ⟩ := hC
  have hown : s.vm.findClass RX3 = some m.cls := hown
  have hS : va_S (jA ad) s.heap s.heap [] := va_S.rf
  have hA : ∀ q, jA ad q → jA ad q := fun _ h => h
  have hl : lv_has ls 9 [(0, .ref (ad 43)), (1, .int a1), (2, .int 0), (3, .int a3), (4, .int a4)] := hl
  have g1 := jrg t1
  have g3 := jrg t3
  have g4 := jrg t4
  obtain ⟨i1, i2, i3, w4⟩ : (1 ≤ (σ 16 0).toInt ∧ (σ 16 0).toInt ≤ 8) ∧ (1 ≤ (σ 16 1).toInt ∧ (σ 16 1).toInt ≤ 12) ∧ (0 ≤ (σ 16 2).toInt ∧ (σ 16 2).toInt ≤ 999) ∧ (∀ k : Nat, k < 8 → 0 ≤ (σ 17 k).toInt ∧ (σ 17 k).toInt ≤ 3) := id hI16
  obtain ⟨i5, w6⟩ : (0 ≤ (σ 18 0).toInt ∧ (σ 18 0).toInt ≤ 160) ∧ (∀ k : Nat, k < 160 → 0 ≤ (σ 19 k).toInt ∧ (σ 19 k).toInt ≤ 30000) := id hI18
  obtain ⟨i7, w8⟩ : (0 ≤ (σ 22 0).toInt ∧ (σ 22 0).toInt ≤ 160) ∧ (∀ k : Nat, k < 160 → 0 ≤ (σ 23 k).toInt ∧ (σ 23 k).toInt ≤ 30000) := id hI22
  obtain ⟨i9, w10, w11⟩ : (0 ≤ (σ 31 8).toInt ∧ (σ 31 8).toInt ≤ 350) ∧ (∀ k : Nat, k < 1400 → (-1) ≤ (σ 33 k).toInt ∧ (σ 33 k).toInt ≤ 350) ∧ (∀ k : Nat, k < 1024 → 0 ≤ (σ 36 k).toInt ∧ (σ 36 k).toInt ≤ 349) := id hI31
  obtain ⟨i12, i13, w14⟩ : (0 ≤ (σ 38 0).toInt ∧ (σ 38 0).toInt ≤ 20) ∧ (0 ≤ (σ 38 1).toInt ∧ (σ 38 1).toInt ≤ 1000) ∧ (∀ k : Nat, k < 20 → 0 ≤ (σ 39 k).toInt ∧ (σ 39 k).toInt ≤ 6) := id hI38
  refine lv_iload_n hx hb dX3_meanFrom_0 rfl (lv_at hl 2 rfl) ?_
  refine lv_bipush (v := 8) hx hb dX3_meanFrom_1 (by decide) ?_
  refine lv_icmp_ge (tgt := 20) hx hb dX3_meanFrom_3 (by decide) (fun c => absurd c (by decide)) (fun _ => ?_)
  refine lv_aload_n hx hb dX3_meanFrom_6 rfl (lv_at hl 0 rfl) ?_
  refine va_get (D := D) hx hb hts inlX3 hown hK hP 43 (jc_43 cI cL ad σ τ) rfl 3 (by decide) (hts _ kw_6_5) (fun _ h9 => h9) rfl dX3_meanFrom_7 ?_
  refine lv_iload_n hx hb dX3_meanFrom_10 rfl (lv_at hl 2 rfl) ?_
  refine lv_iload_n hx hb dX3_meanFrom_11 rfl (lv_at hl 3 rfl) ?_
  refine lv_iload hx hb dX3_meanFrom_12 (lv_at hl 4 rfl) ?_
  refine jcallV (As := [.int 0, .int a3, .int a4]) (rest := []) ⟨hx, hb, hml, hown, hts⟩ hK hP hA hS hZ (c_X6_ended_16 l D cI cL ad zz hJ σ τ 0 (0) jz_0 a3 (A3) t3 a4 (A4) t4) cw_RX3_123 (jc_16 cI cL ad σ τ) rfl ⟨Nat.le_of_ble_eq_true rfl, Nat.le_of_ble_eq_true rfl⟩ rfl rfl rfl hl.1 rfl (Nat.le_of_ble_eq_true rfl) dX3_meanFrom_14 ⟨Nat.zero_le _, Nat.zero_le _⟩ (fun r16 σ15 τ15 H locs h15 hP hS => ?_)
  obtain ⟨⟨rfl, rfl⟩, h15⟩ := h15
  refine lv_if_eq (tgt := 22) hx hb dX3_meanFrom_17 (by decide) (fun c17 => ?_) (fun c17 => ?_)
  · have kc17 := jeq c17 rfl jz_0
    refine lv_aload_n hx hb dX3_meanFrom_22 rfl (lv_at hl 0 rfl) ?_
    refine lv_iload_n hx hb dX3_meanFrom_23 rfl (lv_at hl 1 rfl) ?_
    refine lv_iload_n hx hb dX3_meanFrom_24 rfl (lv_at hl 2 rfl) ?_
    refine lv_iload_n hx hb dX3_meanFrom_25 rfl (lv_at hl 3 rfl) ?_
    refine lv_iload hx hb dX3_meanFrom_26 (lv_at hl 4 rfl) ?_
    have I18 : jI16 σ := ⟨(by omega), (by omega), (by omega), w4⟩
    have I19 : jI18 σ := ⟨(by omega), w6⟩
    have I20 : jI22 σ := ⟨(by omega), w8⟩
    have I21 : jI31 σ := ⟨(by omega), w10, w11⟩
    have I22 : jI38 σ := ⟨(by omega), (by omega), w14⟩
    refine jcallV (As := [.int a1, .int 0, .int a3, .int a4]) (rest := []) ⟨hx, hb, hml, hown, hts⟩ hK hP hA hS hZ (c_X3_putOn_43 l D cI cL ad zz hJ σ τ a1 (A1) t1 0 (0) jz_0 a3 (A3) t3 a4 (A4) t4 I18 I19 I20 I21 I22) cw_RX3_127 (jc_43 cI cL ad σ τ) rfl ⟨Nat.le_of_ble_eq_true rfl, Nat.le_of_ble_eq_true rfl⟩ rfl rfl rfl hl.1 rfl (Nat.le_of_ble_eq_true rfl) dX3_meanFrom_28 ⟨Nat.zero_le _, Nat.zero_le _⟩ (fun r24 σ23 τ23 H locs h23 hP hS => ?_)
    obtain ⟨rfl, f25, h23⟩ := h23
    refine lv_istore (lv' := [(5, .int r24), (0, .ref (ad 43)), (1, .int a1), (2, .int 0), (3, .int a3), (4, .int a4)]) hx hb dX3_meanFrom_31 hl (by decide) rfl (fun ls hl => ?_)
    refine lv_iload hx hb dX3_meanFrom_33 (lv_at hl 5 rfl) ?_
    refine lv_iload hx hb dX3_meanFrom_35 (lv_at hl 0 rfl) ?_
    refine jcallS (As := [.int a4, .int r24]) (rest := []) ⟨hx, hb, hml, hown, hts⟩ hK hP hA hS hZ (c_X0_after l D cI cL ad zz hJ σ23 τ a4 (A4) t4 r24 (r24.toInt) rfl) cw_RX3_130 ⟨Nat.le_of_ble_eq_true rfl, Nat.le_of_ble_eq_true rfl⟩ rfl rfl rfl hl.1 rfl (Nat.le_of_ble_eq_true rfl) dX3_meanFrom_37 ⟨Nat.zero_le _, Nat.zero_le _⟩ (fun r27 σ26 τ26 H locs h26 hP hS => ?_)
    obtain ⟨⟨rfl, rfl⟩, h26⟩ := h26
    refine lv_istore (lv' := [(6, .int r27), (5, .int r24), (0, .ref (ad 43)), (1, .int a1), (2, .int 0), (3, .int a3), (4, .int a4)]) hx hb dX3_meanFrom_40 hl (by decide) rfl (fun ls hl => ?_)
    refine lv_aload_n hx hb dX3_meanFrom_42 rfl (lv_at hl 2 rfl) ?_
    refine lv_iload_n hx hb dX3_meanFrom_43 rfl (lv_at hl 3 rfl) ?_
    refine lv_iload_n hx hb dX3_meanFrom_44 rfl (lv_at hl 4 rfl) ?_
    refine lv_iconst (v := 1) hx hb dX3_meanFrom_45 (by decide) ?_
    refine lv_iadd hx hb dX3_meanFrom_46 ?_
    refine jtopr (y := 1) (by decide) ?_
    refine lv_iload_n hx hb dX3_meanFrom_47 rfl (lv_at hl 5 rfl) ?_
    refine lv_iconst (v := 1) hx hb dX3_meanFrom_48 (by decide) ?_
    refine lv_iadd hx hb dX3_meanFrom_49 ?_
    refine lv_topi (fun x28 ex28 => ?_)
    have gx28 := jrg (rfl : x28.toInt = x28.toInt)
    refine lv_iload hx hb dX3_meanFrom_50 (lv_at hl 0 rfl) ?_
    have z29 : (σ23 16 0).toInt = (σ 16 0).toInt := by rw [(show σ23 16 0 = (σ 16 0) from (by rw [f25 16 (by omega)]))]
    have z30 : (σ23 16 1).toInt = (σ 16 1).toInt := by rw [(show σ23 16 1 = (σ 16 1) from (by rw [f25 16 (by omega)]))]
    have z31 : (σ23 16 2).toInt = (σ 16 2).toInt := by rw [(show σ23 16 2 = (σ 16 2) from (by rw [f25 16 (by omega)]))]
    have w32 : ∀ k : Nat, k < 8 → 0 ≤ (σ23 17 k).toInt ∧ (σ23 17 k).toInt ≤ 3 := (by rw [f25 17 (by omega)]; exact w4)
    have I33 : jI16 σ23 := ⟨(by omega), (by omega), (by omega), w32⟩
    have z34 : (σ23 18 0).toInt = (σ 18 0).toInt := by rw [(show σ23 18 0 = (σ 18 0) from (by rw [f25 18 (by omega)]))]
    have w35 : ∀ k : Nat, k < 160 → 0 ≤ (σ23 19 k).toInt ∧ (σ23 19 k).toInt ≤ 30000 := (by rw [f25 19 (by omega)]; exact w6)
    have I36 : jI18 σ23 := ⟨(by omega), w35⟩
    have z37 : (σ23 22 0).toInt = (σ 22 0).toInt := by rw [(show σ23 22 0 = (σ 22 0) from (by rw [f25 22 (by omega)]))]
    have w38 : ∀ k : Nat, k < 160 → 0 ≤ (σ23 23 k).toInt ∧ (σ23 23 k).toInt ≤ 30000 := (by rw [f25 23 (by omega)]; exact w8)
    have I39 : jI22 σ23 := ⟨(by omega), w38⟩
    have z40 : (σ23 31 8).toInt = (σ 31 8).toInt := by rw [(show σ23 31 8 = (σ 31 8) from (by rw [f25 31 (by omega)]))]
    have w41 : ∀ k : Nat, k < 1400 → (-1) ≤ (σ23 33 k).toInt ∧ (σ23 33 k).toInt ≤ 350 := (by rw [f25 33 (by omega)]; exact w10)
    have w42 : ∀ k : Nat, k < 1024 → 0 ≤ (σ23 36 k).toInt ∧ (σ23 36 k).toInt ≤ 349 := (by rw [f25 36 (by omega)]; exact w11)
    have I43 : jI31 σ23 := ⟨(by omega), w41, w42⟩
    have z44 : (σ23 38 0).toInt = (σ 38 0).toInt := by rw [(show σ23 38 0 = (σ 38 0) from (by rw [f25 38 (by omega)]))]
    have z45 : (σ23 38 1).toInt = (σ 38 1).toInt := by rw [(show σ23 38 1 = (σ 38 1) from (by rw [f25 38 (by omega)]))]
    have w46 : ∀ k : Nat, k < 20 → 0 ≤ (σ23 39 k).toInt ∧ (σ23 39 k).toInt ≤ 6 := (by rw [f25 39 (by omega)]; exact w14)
    have I47 : jI38 σ23 := ⟨(by omega), (by omega), w46⟩
    refine jcallV (As := [.int a1, .int 1, .int x28, .int r27]) (rest := []) ⟨hx, hb, hml, hown, hts⟩ hK hP hA hS hZ (c_X3_meanFrom_1 l D cI cL ad zz hJ σ23 τ a1 (A1) t1 x28 (x28.toInt) rfl r27 (r27.toInt) rfl I33 I36 I39 I43 I47) cw_RX3_133 (jc_43 cI cL ad σ23 τ) rfl ⟨Nat.le_of_ble_eq_true rfl, Nat.le_of_ble_eq_true rfl⟩ rfl rfl rfl hl.1 rfl (Nat.le_of_ble_eq_true rfl) dX3_meanFrom_52 ⟨Nat.zero_le _, Nat.zero_le _⟩ (fun r49 σ48 τ48 H locs h48 hP hS => ?_)
    obtain ⟨rfl, f50, h48⟩ := h48
    refine lv_istore (lv' := [(7, .int r49), (6, .int r27), (5, .int r24), (0, .ref (ad 43)), (1, .int a1), (2, .int 0), (3, .int a3), (4, .int a4)]) hx hb dX3_meanFrom_55 hl (by decide) rfl (fun ls hl => ?_)
    refine lv_aload_n hx hb dX3_meanFrom_57 rfl (lv_at hl 3 rfl) ?_
    refine lv_iload_n hx hb dX3_meanFrom_58 rfl (lv_at hl 4 rfl) ?_
    refine lv_iload_n hx hb dX3_meanFrom_59 rfl (lv_at hl 5 rfl) ?_
    refine lv_iconst (v := 1) hx hb dX3_meanFrom_60 (by decide) ?_
    refine lv_iadd hx hb dX3_meanFrom_61 ?_
    refine jtopr (y := 1) (by decide) ?_
    refine lv_iload_n hx hb dX3_meanFrom_62 rfl (lv_at hl 6 rfl) ?_
    refine lv_iload hx hb dX3_meanFrom_63 (lv_at hl 1 rfl) ?_
    have z51 : (σ48 16 0).toInt = (σ 16 0).toInt := by rw [(show σ48 16 0 = (σ 16 0) from (by rw [f50 16 (by omega)]; exact (by rw [f25 16 (by omega)])))]
    have z52 : (σ48 16 1).toInt = (σ 16 1).toInt := by rw [(show σ48 16 1 = (σ 16 1) from (by rw [f50 16 (by omega)]; exact (by rw [f25 16 (by omega)])))]
    have z53 : (σ48 16 2).toInt = (σ 16 2).toInt := by rw [(show σ48 16 2 = (σ 16 2) from (by rw [f50 16 (by omega)]; exact (by rw [f25 16 (by omega)])))]
    have w54 : ∀ k : Nat, k < 8 → 0 ≤ (σ48 17 k).toInt ∧ (σ48 17 k).toInt ≤ 3 := (by rw [f50 17 (by omega)]; exact w32)
    have I55 : jI16 σ48 := ⟨(by omega), (by omega), (by omega), w54⟩
    have z56 : (σ48 18 0).toInt = (σ 18 0).toInt := by rw [(show σ48 18 0 = (σ 18 0) from (by rw [f50 18 (by omega)]; exact (by rw [f25 18 (by omega)])))]
    have w57 : ∀ k : Nat, k < 160 → 0 ≤ (σ48 19 k).toInt ∧ (σ48 19 k).toInt ≤ 30000 := (by rw [f50 19 (by omega)]; exact w35)
    have I58 : jI18 σ48 := ⟨(by omega), w57⟩
    have z59 : (σ48 22 0).toInt = (σ 22 0).toInt := by rw [(show σ48 22 0 = (σ 22 0) from (by rw [f50 22 (by omega)]; exact (by rw [f25 22 (by omega)])))]
    have w60 : ∀ k : Nat, k < 160 → 0 ≤ (σ48 23 k).toInt ∧ (σ48 23 k).toInt ≤ 30000 := (by rw [f50 23 (by omega)]; exact w38)
    have I61 : jI22 σ48 := ⟨(by omega), w60⟩
    have z62 : (σ48 31 8).toInt = (σ 31 8).toInt := by rw [(show σ48 31 8 = (σ 31 8) from (by rw [f50 31 (by omega)]; exact (by rw [f25 31 (by omega)])))]
    have w63 : ∀ k : Nat, k < 1400 → (-1) ≤ (σ48 33 k).toInt ∧ (σ48 33 k).toInt ≤ 350 := (by rw [f50 33 (by omega)]; exact w41)
    have w64 : ∀ k : Nat, k < 1024 → 0 ≤ (σ48 36 k).toInt ∧ (σ48 36 k).toInt ≤ 349 := (by rw [f50 36 (by omega)]; exact w42)
    have I65 : jI31 σ48 := ⟨(by omega), w63, w64⟩
    have z66 : (σ48 38 0).toInt = (σ 38 0).toInt := by rw [(show σ48 38 0 = (σ 38 0) from (by rw [f50 38 (by omega)]; exact (by rw [f25 38 (by omega)])))]
    have z67 : (σ48 38 1).toInt = (σ 38 1).toInt := by rw [(show σ48 38 1 = (σ 38 1) from (by rw [f50 38 (by omega)]; exact (by rw [f25 38 (by omega)])))]
    have w68 : ∀ k : Nat, k < 20 → 0 ≤ (σ48 39 k).toInt ∧ (σ48 39 k).toInt ≤ 6 := (by rw [f50 39 (by omega)]; exact w46)
    have I69 : jI38 σ48 := ⟨(by omega), (by omega), w68⟩
    refine jcallV (As := [.int a1, .int 1, .int a3, .int r27]) (rest := []) ⟨hx, hb, hml, hown, hts⟩ hK hP hA hS hZ (c_X3_meanFrom_1 l D cI cL ad zz hJ σ48 τ a1 (A1) t1 a3 (A3) t3 r27 (r27.toInt) rfl I55 I58 I61 I65 I69) cw_RX3_133 (jc_43 cI cL ad σ48 τ) rfl ⟨Nat.le_of_ble_eq_true rfl, Nat.le_of_ble_eq_true rfl⟩ rfl rfl rfl hl.1 rfl (Nat.le_of_ble_eq_true rfl) dX3_meanFrom_65 ⟨Nat.zero_le _, Nat.zero_le _⟩ (fun r71 σ70 τ70 H locs h70 hP hS => ?_)
    obtain ⟨rfl, f72, h70⟩ := h70
    refine lv_istore (lv' := [(8, .int r71), (7, .int r49), (6, .int r27), (5, .int r24), (0, .ref (ad 43)), (1, .int a1), (2, .int 0), (3, .int a3), (4, .int a4)]) hx hb dX3_meanFrom_68 hl (by decide) rfl (fun ls hl => ?_)
    refine lv_aload_n hx hb dX3_meanFrom_70 rfl (lv_at hl 4 rfl) ?_
    refine va_get (D := D) hx hb hts inlX3 hown hK hP 43 (jc_43 cI cL ad σ70 τ) rfl 3 (by decide) (hts _ kw_6_5) (fun _ h9 => h9) rfl dX3_meanFrom_71 ?_
    refine lv_aload_n hx hb dX3_meanFrom_74 rfl (lv_at hl 4 rfl) ?_
    refine lv_iload hx hb dX3_meanFrom_75 (lv_at hl 3 rfl) ?_
    refine lv_iload_n hx hb dX3_meanFrom_77 rfl (lv_at hl 7 rfl) ?_
    refine lv_iload hx hb dX3_meanFrom_78 (lv_at hl 8 rfl) ?_
    have z73 : (σ70 16 0).toInt = (σ 16 0).toInt := by rw [(show σ70 16 0 = (σ 16 0) from (by rw [f72 16 (by omega)]; exact (by rw [f50 16 (by omega)]; exact (by rw [f25 16 (by omega)]))))]
    have z74 : (σ70 16 1).toInt = (σ 16 1).toInt := by rw [(show σ70 16 1 = (σ 16 1) from (by rw [f72 16 (by omega)]; exact (by rw [f50 16 (by omega)]; exact (by rw [f25 16 (by omega)]))))]
    have z75 : (σ70 16 2).toInt = (σ 16 2).toInt := by rw [(show σ70 16 2 = (σ 16 2) from (by rw [f72 16 (by omega)]; exact (by rw [f50 16 (by omega)]; exact (by rw [f25 16 (by omega)]))))]
    have w76 : ∀ k : Nat, k < 8 → 0 ≤ (σ70 17 k).toInt ∧ (σ70 17 k).toInt ≤ 3 := (by rw [f72 17 (by omega)]; exact w54)
    have I77 : jI16 σ70 := ⟨(by omega), (by omega), (by omega), w76⟩
    refine jcallV (As := [.int r24, .int a3, .int a4]) (rest := [.ref (ad 16)]) ⟨hx, hb, hml, hown, hts⟩ hK hP hA hS hZ (c_X3_runsBy_43 l D cI cL ad zz hJ σ70 τ r24 (r24.toInt) rfl a3 (A3) t3 a4 (A4) t4 I77) cw_RX3_136 (jc_43 cI cL ad σ70 τ) rfl ⟨Nat.le_of_ble_eq_true rfl, Nat.le_of_ble_eq_true rfl⟩ rfl rfl rfl hl.1 rfl (Nat.le_of_ble_eq_true rfl) dX3_meanFrom_80 ⟨Nat.zero_le _, Nat.zero_le _⟩ (fun r79 σ78 τ78 H locs h78 hP hS => ?_)
    obtain ⟨⟨rfl, rfl⟩, h78⟩ := h78
    refine lv_aload_n hx hb dX3_meanFrom_83 rfl (lv_at hl 4 rfl) ?_
    refine lv_iload hx hb dX3_meanFrom_84 (lv_at hl 3 rfl) ?_
    refine lv_iload_n hx hb dX3_meanFrom_86 rfl (lv_at hl 6 rfl) ?_
    refine lv_iload_n hx hb dX3_meanFrom_87 rfl (lv_at hl 7 rfl) ?_
    refine lv_iload hx hb dX3_meanFrom_88 (lv_at hl 8 rfl) ?_
    have z80 : (σ70 22 0).toInt = (σ 22 0).toInt := by rw [(show σ70 22 0 = (σ 22 0) from (by rw [f72 22 (by omega)]; exact (by rw [f50 22 (by omega)]; exact (by rw [f25 22 (by omega)]))))]
    have w81 : ∀ k : Nat, k < 160 → 0 ≤ (σ70 23 k).toInt ∧ (σ70 23 k).toInt ≤ 30000 := (by rw [f72 23 (by omega)]; exact w60)
    have I82 : jI22 σ70 := ⟨(by omega), w81⟩
    refine jcallV (As := [.int r24, .int 0, .int a3, .int a4]) (rest := [.int r79, .ref (ad 16)]) ⟨hx, hb, hml, hown, hts⟩ hK hP hA hS hZ (c_X3_outBy_43 l D cI cL ad zz hJ σ70 τ r24 (r24.toInt) rfl 0 (0) jz_0 a3 (A3) t3 a4 (A4) t4 I77 I82) cw_RX3_139 (jc_43 cI cL ad σ70 τ) rfl ⟨Nat.le_of_ble_eq_true rfl, Nat.le_of_ble_eq_true rfl⟩ rfl rfl rfl hl.1 rfl (Nat.le_of_ble_eq_true rfl) dX3_meanFrom_90 ⟨Nat.zero_le _, Nat.zero_le _⟩ (fun r84 σ83 τ83 H locs h83 hP hS => ?_)
    obtain ⟨rfl, f85, h83⟩ := h83
    refine lv_iload hx hb dX3_meanFrom_93 (lv_at hl 1 rfl) ?_
    refine lv_iload hx hb dX3_meanFrom_95 (lv_at hl 0 rfl) ?_
    refine jcallV (As := [.int r79, .int r84, .int r49, .int r71]) (rest := []) ⟨hx, hb, hml, hown, hts⟩ hK hP hA hS hZ (c_X6_meanOf_16 l D cI cL ad zz hJ σ83 τ r79 (r79.toInt) rfl r84 (r84.toInt) rfl r49 (r49.toInt) rfl r71 (r71.toInt) rfl) cw_RX3_142 (jc_16 cI cL ad σ83 τ) rfl ⟨Nat.le_of_ble_eq_true rfl, Nat.le_of_ble_eq_true rfl⟩ rfl rfl rfl hl.1 rfl (Nat.le_of_ble_eq_true rfl) dX3_meanFrom_97 ⟨Nat.zero_le _, Nat.zero_le _⟩ (fun r87 σ86 τ86 H locs h86 hP hS => ?_)
    obtain ⟨⟨rfl, rfl⟩, h86⟩ := h86
    exact hret r87 σ83 τ _ _ _ _ rfl ⟨rfl, (fun i hi => by rw [f85 i (by omega), f72 i (by omega), f50 i (by omega), f25 i (by omega)]), trivial⟩ hP hS dX3_meanFrom_100
  · have kc17 := jne c17 rfl jz_0
    refine lv_iconst (v := 0) hx hb dX3_meanFrom_20 (by decide) ?_
    exact hret 0 σ τ _ _ _ _ rfl ⟨rfl, (fun _ _ => rfl), trivial⟩ hP hS dX3_meanFrom_21
set_option maxHeartbeats 4000000 in
set_option maxRecDepth 100000 in
theorem c_X3_likelyFrom_8 (l : Launch) (D : va_G) (cI cL : ClassId) (ad zz : Nat → Nat) (hJ : jD ad) (σ : Nat → Nat → Int32) (τ : Nat → Nat → Int64) (a1 : Int32) (A1 : Int) (t1 : a1.toInt = A1) (a3 : Int32) (A3 : Int) (t3 : a3.toInt = A3) (a4 : Int32) (A4 : Int) (t4 : a4.toInt = A4) (a5 : Int32) (A5 : Int) (t5 : a5.toInt = A5) (hI16 : jI16 σ) (hI18 : jI18 σ) (hI22 : jI22 σ) (hI31 : jI31 σ) (hI38 : jI38 σ) : jM l yX3_likelyFrom cX3_likelyFrom 14 (some .int) ({ frames := 0, cells := 0, slots := 0, locals := 0 }) D cI cL ad zz [.ref (ad 43), .int a1, .int 8, .int a3, .int a4, .int a5] σ τ (fun r σ' τ' => τ = τ' ∧ (∀ i : Nat, (i < 20 ∨ 21 < i) ∧ (i < 24 ∨ 25 < i) ∧ (i < 29 ∨ 30 < i) → σ' i = σ i) ∧ True) := by
  refine jM.of hJ (by decide +kernel) (nt := .int) rfl (Nat.le_of_ble_eq_true rfl) ?_
  intro p e s m args below meth c Q ls hC hret hl hP
  obtain ⟨hx, hb, hr, hml, hown, hts, hK, -, hlocks, hZ⟩ := hC
  have hown : s.vm.findClass RX3 = some m.cls := hown
  have hS : va_S (jA ad) s.heap s.heap [] := va_S.rf
  have hA : ∀ q, jA ad q → jA ad q := fun _ h => h
  have hl : lv_has ls 14 [(0, .ref (ad 43)), (1, .int a1), (2, .int 8), (3, .int a3), (4, .int a4), (5, .int a5)] := hl
  have g1 := jrg t1
  have g3 := jrg t3
  have g4 := jrg t4
  have g5 := jrg t5
  obtain ⟨i1, i2, i3, w4⟩ : (1 ≤ (σ 16 0).toInt ∧ (σ 16 0).toInt ≤ 8) ∧ (1 ≤ (σ 16 1).toInt ∧ (σ 16 1).toInt ≤ 12) ∧ (0 ≤ (σ 16 2).toInt ∧ (σ 16 2).toInt ≤ 999) ∧ (∀ k : Nat, k < 8 → 0 ≤ (σ 17 k).toInt ∧ (σ 17 k).toInt ≤ 3) := id hI16
  obtain ⟨i5, w6⟩ : (0 ≤ (σ 18 0).toInt ∧ (σ 18 0).toInt ≤ 160) ∧ (∀ k : Nat, k < 160 → 0 ≤ (σ 19 k).toInt ∧ (σ 19 k).toInt ≤ 30000) := id hI18
  obtain ⟨i7, w8⟩ : (0 ≤ (σ 22 0).toInt ∧ (σ 22 0).toInt ≤ 160) ∧ (∀ k : Nat, k < 160 → 0 ≤ (σ 23 k).toInt ∧ (σ 23 k).toInt ≤ 30000) := id hI22
  obtain ⟨i9, w10, w11⟩ : (0 ≤ (σ 31 8).toInt ∧ (σ 31 8).toInt ≤ 350) ∧ (∀ k : Nat, k < 1400 → (-1) ≤ (σ 33 k).toInt ∧ (σ 33 k).toInt ≤ 350) ∧ (∀ k : Nat, k < 1024 → 0 ≤ (σ 36 k).toInt ∧ (σ 36 k).toInt ≤ 349) := id hI31
  obtain ⟨i12, i13, w14⟩ : (0 ≤ (σ 38 0).toInt ∧ (σ 38 0).toInt ≤ 20) ∧ (0 ≤ (σ 38 1).toInt ∧ (σ 38 1).toInt ≤ 1000) ∧ (∀ k : Nat, k < 20 → 0 ≤ (σ 39 k).toInt ∧ (σ 39 k).toInt ≤ 6) := id hI38
  refine lv_iload_n hx hb dX3_likelyFrom_0 rfl (lv_at hl 2 rfl) ?_
  refine lv_bipush (v := 8) hx hb dX3_likelyFrom_1 (by decide) ?_
  refine lv_icmp_ge (tgt := 20) hx hb dX3_likelyFrom_3 (by decide) (fun _ => ?_) (fun c => absurd (by decide) c)
  refine lv_iload hx hb dX3_likelyFrom_20 (lv_at hl 5 rfl) ?_
  refine lv_if_le (tgt := 30) hx hb dX3_likelyFrom_22 (by decide) (fun c15 => ?_) (fun c15 => ?_)
  · have kc15 := jle c15 t5 jz_0
    refine lv_iconst (v := 0) hx hb dX3_likelyFrom_30 (by decide) ?_
    exact hret 0 σ τ _ _ _ _ rfl ⟨rfl, (fun _ _ => rfl), trivial⟩ hP hS dX3_likelyFrom_31
  · have kc15 := jnle c15 t5 jz_0
    refine lv_ldc (v := 1000000) hx hb hown (hts _ kw_37_1) dX3_likelyFrom_25 ?_
    refine lv_goto (tgt := 31) hx hb dX3_likelyFrom_27 (by decide) ?_
    exact hret 1000000 σ τ _ _ _ _ rfl ⟨rfl, (fun _ _ => rfl), trivial⟩ hP hS dX3_likelyFrom_31
set_option maxHeartbeats 4000000 in
set_option maxRecDepth 100000 in
theorem c_X3_likelyFrom_7 (l : Launch) (D : va_G) (cI cL : ClassId) (ad zz : Nat → Nat) (hJ : jD ad) (σ : Nat → Nat → Int32) (τ : Nat → Nat → Int64) (a1 : Int32) (A1 : Int) (t1 : a1.toInt = A1) (a3 : Int32) (A3 : Int) (t3 : a3.toInt = A3) (a4 : Int32) (A4 : Int) (t4 : a4.toInt = A4) (a5 : Int32) (A5 : Int) (t5 : a5.toInt = A5) (hI16 : jI16 σ) (hI18 : jI18 σ) (hI22 : jI22 σ) (hI31 : jI31 σ) (hI38 : jI38 σ) : jM l yX3_likelyFrom cX3_likelyFrom 14 (some .int) ({ frames := 6, cells := 0, slots := 0, locals := 157 }) D cI cL ad zz [.ref (ad 43), .int a1, .int 7, .int a3, .int a4, .int a5] σ τ (fun r σ' τ' => τ = τ' ∧ (∀ i : Nat, (i < 20 ∨ 21 < i) ∧ (i < 24 ∨ 25 < i) ∧ (i < 29 ∨ 30 < i) → σ' i = σ i) ∧ True) := by
  refine jM.of hJ (by decide +kernel) (nt := .int) rfl (Nat.le_of_ble_eq_true rfl) ?_
  intro p e s m args below meth c Q ls hC hret hl hP
  obtain ⟨hx, hb, hr, hml, hown, hts, hK, -, hlocks, hZ⟩ := hC
  have hown : s.vm.findClass RX3 = some m.cls := hown
  have hS : va_S (jA ad) s.heap s.heap [] := va_S.rf
  have hA : ∀ q, jA ad q → jA ad q := fun _ h => h
  have hl : lv_has ls 14 [(0, .ref (ad 43)), (1, .int a1), (2, .int 7), (3, .int a3), (4, .int a4), (5, .int a5)] := hl
  have g1 := jrg t1
  have g3 := jrg t3
  have g4 := jrg t4
  have g5 := jrg t5
  obtain ⟨i1, i2, i3, w4⟩ : (1 ≤ (σ 16 0).toInt ∧ (σ 16 0).toInt ≤ 8) ∧ (1 ≤ (σ 16 1).toInt ∧ (σ 16 1).toInt ≤ 12) ∧ (0 ≤ (σ 16 2).toInt ∧ (σ 16 2).toInt ≤ 999) ∧ (∀ k : Nat, k < 8 → 0 ≤ (σ 17 k).toInt ∧ (σ 17 k).toInt ≤ 3) := id hI16
  obtain ⟨i5, w6⟩ : (0 ≤ (σ 18 0).toInt ∧ (σ 18 0).toInt ≤ 160) ∧ (∀ k : Nat, k < 160 → 0 ≤ (σ 19 k).toInt ∧ (σ 19 k).toInt ≤ 30000) := id hI18
  obtain ⟨i7, w8⟩ : (0 ≤ (σ 22 0).toInt ∧ (σ 22 0).toInt ≤ 160) ∧ (∀ k : Nat, k < 160 → 0 ≤ (σ 23 k).toInt ∧ (σ 23 k).toInt ≤ 30000) := id hI22
  obtain ⟨i9, w10, w11⟩ : (0 ≤ (σ 31 8).toInt ∧ (σ 31 8).toInt ≤ 350) ∧ (∀ k : Nat, k < 1400 → (-1) ≤ (σ 33 k).toInt ∧ (σ 33 k).toInt ≤ 350) ∧ (∀ k : Nat, k < 1024 → 0 ≤ (σ 36 k).toInt ∧ (σ 36 k).toInt ≤ 349) := id hI31
  obtain ⟨i12, i13, w14⟩ : (0 ≤ (σ 38 0).toInt ∧ (σ 38 0).toInt ≤ 20) ∧ (0 ≤ (σ 38 1).toInt ∧ (σ 38 1).toInt ≤ 1000) ∧ (∀ k : Nat, k < 20 → 0 ≤ (σ 39 k).toInt ∧ (σ 39 k).toInt ≤ 6) := id hI38
  refine lv_iload_n hx hb dX3_likelyFrom_0 rfl (lv_at hl 2 rfl) ?_
  refine lv_bipush (v := 8) hx hb dX3_likelyFrom_1 (by decide) ?_
  refine lv_icmp_ge (tgt := 20) hx hb dX3_likelyFrom_3 (by decide) (fun c => absurd c (by decide)) (fun _ => ?_)
  refine lv_aload_n hx hb dX3_likelyFrom_6 rfl (lv_at hl 0 rfl) ?_
  refine va_get (D := D) hx hb hts inlX3 hown hK hP 43 (jc_43 cI cL ad σ τ) rfl 3 (by decide) (hts _ kw_6_5) (fun _ h9 => h9) rfl dX3_likelyFrom_7 ?_
  refine lv_iload_n hx hb dX3_likelyFrom_10 rfl (lv_at hl 2 rfl) ?_
  refine lv_iload_n hx hb dX3_likelyFrom_11 rfl (lv_at hl 3 rfl) ?_
  refine lv_iload hx hb dX3_likelyFrom_12 (lv_at hl 4 rfl) ?_
  refine jcallV (As := [.int 7, .int a3, .int a4]) (rest := []) ⟨hx, hb, hml, hown, hts⟩ hK hP hA hS hZ (c_X6_ended_16 l D cI cL ad zz hJ σ τ 7 (7) jz_7 a3 (A3) t3 a4 (A4) t4) cw_RX3_123 (jc_16 cI cL ad σ τ) rfl ⟨Nat.le_of_ble_eq_true rfl, Nat.le_of_ble_eq_true rfl⟩ rfl rfl rfl hl.1 rfl (Nat.le_of_ble_eq_true rfl) dX3_likelyFrom_14 ⟨Nat.zero_le _, Nat.zero_le _⟩ (fun r16 σ15 τ15 H locs h15 hP hS => ?_)
  obtain ⟨⟨rfl, rfl⟩, h15⟩ := h15
  refine lv_if_eq (tgt := 32) hx hb dX3_likelyFrom_17 (by decide) (fun c17 => ?_) (fun c17 => ?_)
  · have kc17 := jeq c17 rfl jz_0
    refine lv_aload_n hx hb dX3_likelyFrom_32 rfl (lv_at hl 0 rfl) ?_
    refine lv_iload_n hx hb dX3_likelyFrom_33 rfl (lv_at hl 1 rfl) ?_
    refine lv_iload_n hx hb dX3_likelyFrom_34 rfl (lv_at hl 2 rfl) ?_
    refine lv_iload_n hx hb dX3_likelyFrom_35 rfl (lv_at hl 3 rfl) ?_
    refine lv_iload hx hb dX3_likelyFrom_36 (lv_at hl 4 rfl) ?_
    have I18 : jI16 σ := ⟨(by omega), (by omega), (by omega), w4⟩
    have I19 : jI18 σ := ⟨(by omega), w6⟩
    have I20 : jI22 σ := ⟨(by omega), w8⟩
    have I21 : jI31 σ := ⟨(by omega), w10, w11⟩
    have I22 : jI38 σ := ⟨(by omega), (by omega), w14⟩
    refine jcallV (As := [.int a1, .int 7, .int a3, .int a4]) (rest := []) ⟨hx, hb, hml, hown, hts⟩ hK hP hA hS hZ (c_X3_putOn_43 l D cI cL ad zz hJ σ τ a1 (A1) t1 7 (7) jz_7 a3 (A3) t3 a4 (A4) t4 I18 I19 I20 I21 I22) cw_RX3_127 (jc_43 cI cL ad σ τ) rfl ⟨Nat.le_of_ble_eq_true rfl, Nat.le_of_ble_eq_true rfl⟩ rfl rfl rfl hl.1 rfl (Nat.le_of_ble_eq_true rfl) dX3_likelyFrom_38 ⟨Nat.zero_le _, Nat.zero_le _⟩ (fun r24 σ23 τ23 H locs h23 hP hS => ?_)
    obtain ⟨rfl, f25, h23⟩ := h23
    refine lv_istore (lv' := [(6, .int r24), (0, .ref (ad 43)), (1, .int a1), (2, .int 7), (3, .int a3), (4, .int a4), (5, .int a5)]) hx hb dX3_likelyFrom_41 hl (by decide) rfl (fun ls hl => ?_)
    refine lv_iload hx hb dX3_likelyFrom_43 (lv_at hl 5 rfl) ?_
    refine lv_iload hx hb dX3_likelyFrom_45 (lv_at hl 0 rfl) ?_
    refine jcallS (As := [.int a4, .int r24]) (rest := []) ⟨hx, hb, hml, hown, hts⟩ hK hP hA hS hZ (c_X0_after l D cI cL ad zz hJ σ23 τ a4 (A4) t4 r24 (r24.toInt) rfl) cw_RX3_130 ⟨Nat.le_of_ble_eq_true rfl, Nat.le_of_ble_eq_true rfl⟩ rfl rfl rfl hl.1 rfl (Nat.le_of_ble_eq_true rfl) dX3_likelyFrom_47 ⟨Nat.zero_le _, Nat.zero_le _⟩ (fun r27 σ26 τ26 H locs h26 hP hS => ?_)
    obtain ⟨⟨rfl, rfl⟩, h26⟩ := h26
    refine lv_istore (lv' := [(7, .int r27), (6, .int r24), (0, .ref (ad 43)), (1, .int a1), (2, .int 7), (3, .int a3), (4, .int a4), (5, .int a5)]) hx hb dX3_likelyFrom_50 hl (by decide) rfl (fun ls hl => ?_)
    refine lv_aload_n hx hb dX3_likelyFrom_52 rfl (lv_at hl 2 rfl) ?_
    refine lv_iload hx hb dX3_likelyFrom_53 (lv_at hl 1 rfl) ?_
    refine lv_iload_n hx hb dX3_likelyFrom_55 rfl (lv_at hl 4 rfl) ?_
    refine lv_iload_n hx hb dX3_likelyFrom_56 rfl (lv_at hl 5 rfl) ?_
    refine lv_iload hx hb dX3_likelyFrom_57 (lv_at hl 6 rfl) ?_
    have z28 : (σ23 16 0).toInt = (σ 16 0).toInt := by rw [(show σ23 16 0 = (σ 16 0) from (by rw [f25 16 (by omega)]))]
    have z29 : (σ23 16 1).toInt = (σ 16 1).toInt := by rw [(show σ23 16 1 = (σ 16 1) from (by rw [f25 16 (by omega)]))]
    have z30 : (σ23 16 2).toInt = (σ 16 2).toInt := by rw [(show σ23 16 2 = (σ 16 2) from (by rw [f25 16 (by omega)]))]
    have w31 : ∀ k : Nat, k < 8 → 0 ≤ (σ23 17 k).toInt ∧ (σ23 17 k).toInt ≤ 3 := (by rw [f25 17 (by omega)]; exact w4)
    have I32 : jI16 σ23 := ⟨(by omega), (by omega), (by omega), w31⟩
    have z33 : (σ23 22 0).toInt = (σ 22 0).toInt := by rw [(show σ23 22 0 = (σ 22 0) from (by rw [f25 22 (by omega)]))]
    have w34 : ∀ k : Nat, k < 160 → 0 ≤ (σ23 23 k).toInt ∧ (σ23 23 k).toInt ≤ 30000 := (by rw [f25 23 (by omega)]; exact w8)
    have I35 : jI22 σ23 := ⟨(by omega), w34⟩
    refine jcallV (As := [.int r24, .int 7, .int a3, .int a4]) (rest := []) ⟨hx, hb, hml, hown, hts⟩ hK hP hA hS hZ (c_X3_outBy_43 l D cI cL ad zz hJ σ23 τ r24 (r24.toInt) rfl 7 (7) jz_7 a3 (A3) t3 a4 (A4) t4 I32 I35) cw_RX3_139 (jc_43 cI cL ad σ23 τ) rfl ⟨Nat.le_of_ble_eq_true rfl, Nat.le_of_ble_eq_true rfl⟩ rfl rfl rfl hl.1 rfl (Nat.le_of_ble_eq_true rfl) dX3_likelyFrom_59 ⟨Nat.zero_le _, Nat.zero_le _⟩ (fun r37 σ36 τ36 H locs h36 hP hS => ?_)
    obtain ⟨rfl, f38, h36⟩ := h36
    refine lv_istore (lv' := [(8, .int r37), (7, .int r27), (6, .int r24), (0, .ref (ad 43)), (1, .int a1), (2, .int 7), (3, .int a3), (4, .int a4), (5, .int a5)]) hx hb dX3_likelyFrom_62 hl (by decide) rfl (fun ls hl => ?_)
    refine lv_iload hx hb dX3_likelyFrom_64 (lv_at hl 8 rfl) ?_
    refine lv_aload_n hx hb dX3_likelyFrom_66 rfl (lv_at hl 3 rfl) ?_
    refine lv_iload hx hb dX3_likelyFrom_67 (lv_at hl 2 rfl) ?_
    refine lv_iload_n hx hb dX3_likelyFrom_69 rfl (lv_at hl 6 rfl) ?_
    refine lv_iload hx hb dX3_likelyFrom_70 (lv_at hl 7 rfl) ?_
    have z39 : (σ36 16 0).toInt = (σ 16 0).toInt := by rw [(show σ36 16 0 = (σ 16 0) from (by rw [f38 16 (by omega)]; exact (by rw [f25 16 (by omega)])))]
    have z40 : (σ36 16 1).toInt = (σ 16 1).toInt := by rw [(show σ36 16 1 = (σ 16 1) from (by rw [f38 16 (by omega)]; exact (by rw [f25 16 (by omega)])))]
    have z41 : (σ36 16 2).toInt = (σ 16 2).toInt := by rw [(show σ36 16 2 = (σ 16 2) from (by rw [f38 16 (by omega)]; exact (by rw [f25 16 (by omega)])))]
    have w42 : ∀ k : Nat, k < 8 → 0 ≤ (σ36 17 k).toInt ∧ (σ36 17 k).toInt ≤ 3 := (by rw [f38 17 (by omega)]; exact w31)
    have I43 : jI16 σ36 := ⟨(by omega), (by omega), (by omega), w42⟩
    refine jcallV (As := [.int r24, .int a3, .int a4]) (rest := [.int a5]) ⟨hx, hb, hml, hown, hts⟩ hK hP hA hS hZ (c_X3_runsBy_43 l D cI cL ad zz hJ σ36 τ r24 (r24.toInt) rfl a3 (A3) t3 a4 (A4) t4 I43) cw_RX3_136 (jc_43 cI cL ad σ36 τ) rfl ⟨Nat.le_of_ble_eq_true rfl, Nat.le_of_ble_eq_true rfl⟩ rfl rfl rfl hl.1 rfl (Nat.le_of_ble_eq_true rfl) dX3_likelyFrom_72 ⟨Nat.zero_le _, Nat.zero_le _⟩ (fun r45 σ44 τ44 H locs h44 hP hS => ?_)
    obtain ⟨⟨rfl, rfl⟩, h44⟩ := h44
    have g46 := jrg (rfl : r45.toInt = r45.toInt)
    refine lv_isub hx hb dX3_likelyFrom_75 ?_
    refine lv_topi (fun x47 ex47 => ?_)
    have gx47 := jrg (rfl : x47.toInt = x47.toInt)
    refine lv_istore (lv' := [(9, .int x47), (8, .int r37), (7, .int r27), (6, .int r24), (0, .ref (ad 43)), (1, .int a1), (2, .int 7), (3, .int a3), (4, .int a4), (5, .int a5)]) hx hb dX3_likelyFrom_76 hl (by decide) rfl (fun ls hl => ?_)
    refine lv_aload_n hx hb dX3_likelyFrom_78 rfl (lv_at hl 4 rfl) ?_
    refine lv_iload_n hx hb dX3_likelyFrom_79 rfl (lv_at hl 5 rfl) ?_
    refine lv_iload_n hx hb dX3_likelyFrom_80 rfl (lv_at hl 6 rfl) ?_
    refine lv_iconst (v := 1) hx hb dX3_likelyFrom_81 (by decide) ?_
    refine lv_iadd hx hb dX3_likelyFrom_82 ?_
    refine jtopr (y := 8) (by decide) ?_
    refine lv_iload_n hx hb dX3_likelyFrom_83 rfl (lv_at hl 7 rfl) ?_
    refine lv_iconst (v := 1) hx hb dX3_likelyFrom_84 (by decide) ?_
    refine lv_iadd hx hb dX3_likelyFrom_85 ?_
    refine lv_topi (fun x48 ex48 => ?_)
    have gx48 := jrg (rfl : x48.toInt = x48.toInt)
    refine lv_iload hx hb dX3_likelyFrom_86 (lv_at hl 2 rfl) ?_
    refine lv_iload hx hb dX3_likelyFrom_88 (lv_at hl 0 rfl) ?_
    have z49 : (σ36 18 0).toInt = (σ 18 0).toInt := by rw [(show σ36 18 0 = (σ 18 0) from (by rw [f38 18 (by omega)]; exact (by rw [f25 18 (by omega)])))]
    have w50 : ∀ k : Nat, k < 160 → 0 ≤ (σ36 19 k).toInt ∧ (σ36 19 k).toInt ≤ 30000 := (by rw [f38 19 (by omega)]; exact (by rw [f25 19 (by omega)]; exact w6))
    have I51 : jI18 σ36 := ⟨(by omega), w50⟩
    have z52 : (σ36 22 0).toInt = (σ 22 0).toInt := by rw [(show σ36 22 0 = (σ 22 0) from (by rw [f38 22 (by omega)]; exact (by rw [f25 22 (by omega)])))]
    have w53 : ∀ k : Nat, k < 160 → 0 ≤ (σ36 23 k).toInt ∧ (σ36 23 k).toInt ≤ 30000 := (by rw [f38 23 (by omega)]; exact w34)
    have I54 : jI22 σ36 := ⟨(by omega), w53⟩
    have z55 : (σ36 31 8).toInt = (σ 31 8).toInt := by rw [(show σ36 31 8 = (σ 31 8) from (by rw [f38 31 (by omega)]; exact (by rw [f25 31 (by omega)])))]
    have w56 : ∀ k : Nat, k < 1400 → (-1) ≤ (σ36 33 k).toInt ∧ (σ36 33 k).toInt ≤ 350 := (by rw [f38 33 (by omega)]; exact (by rw [f25 33 (by omega)]; exact w10))
    have w57 : ∀ k : Nat, k < 1024 → 0 ≤ (σ36 36 k).toInt ∧ (σ36 36 k).toInt ≤ 349 := (by rw [f38 36 (by omega)]; exact (by rw [f25 36 (by omega)]; exact w11))
    have I58 : jI31 σ36 := ⟨(by omega), w56, w57⟩
    have z59 : (σ36 38 0).toInt = (σ 38 0).toInt := by rw [(show σ36 38 0 = (σ 38 0) from (by rw [f38 38 (by omega)]; exact (by rw [f25 38 (by omega)])))]
    have z60 : (σ36 38 1).toInt = (σ 38 1).toInt := by rw [(show σ36 38 1 = (σ 38 1) from (by rw [f38 38 (by omega)]; exact (by rw [f25 38 (by omega)])))]
    have w61 : ∀ k : Nat, k < 20 → 0 ≤ (σ36 39 k).toInt ∧ (σ36 39 k).toInt ≤ 6 := (by rw [f38 39 (by omega)]; exact (by rw [f25 39 (by omega)]; exact w14))
    have I62 : jI38 σ36 := ⟨(by omega), (by omega), w61⟩
    refine jcallV (As := [.int a1, .int 8, .int x48, .int r27, .int x47]) (rest := []) ⟨hx, hb, hml, hown, hts⟩ hK hP hA hS hZ (c_X3_likelyFrom_8 l D cI cL ad zz hJ σ36 τ a1 (A1) t1 x48 (x48.toInt) rfl r27 (r27.toInt) rfl x47 (x47.toInt) rfl I43 I51 I54 I58 I62) cw_RX3_146 (jc_43 cI cL ad σ36 τ) rfl ⟨Nat.le_of_ble_eq_true rfl, Nat.le_of_ble_eq_true rfl⟩ rfl rfl rfl hl.1 rfl (Nat.le_of_ble_eq_true rfl) dX3_likelyFrom_90 ⟨Nat.zero_le _, Nat.zero_le _⟩ (fun r64 σ63 τ63 H locs h63 hP hS => ?_)
    obtain ⟨rfl, f65, h63⟩ := h63
    refine lv_istore (lv' := [(10, .int r64), (9, .int x47), (8, .int r37), (7, .int r27), (6, .int r24), (0, .ref (ad 43)), (1, .int a1), (2, .int 7), (3, .int a3), (4, .int a4), (5, .int a5)]) hx hb dX3_likelyFrom_93 hl (by decide) rfl (fun ls hl => ?_)
    refine lv_aload_n hx hb dX3_likelyFrom_95 rfl (lv_at hl 5 rfl) ?_
    refine lv_iload_n hx hb dX3_likelyFrom_96 rfl (lv_at hl 6 rfl) ?_
    refine lv_iload_n hx hb dX3_likelyFrom_97 rfl (lv_at hl 7 rfl) ?_
    refine lv_iconst (v := 1) hx hb dX3_likelyFrom_98 (by decide) ?_
    refine lv_iadd hx hb dX3_likelyFrom_99 ?_
    refine jtopr (y := 8) (by decide) ?_
    refine lv_iload_n hx hb dX3_likelyFrom_100 rfl (lv_at hl 8 rfl) ?_
    refine lv_iload hx hb dX3_likelyFrom_101 (lv_at hl 3 rfl) ?_
    refine lv_iload hx hb dX3_likelyFrom_103 (lv_at hl 1 rfl) ?_
    have z66 : (σ63 16 0).toInt = (σ 16 0).toInt := by rw [(show σ63 16 0 = (σ 16 0) from (by rw [f65 16 (by omega)]; exact (by rw [f38 16 (by omega)]; exact (by rw [f25 16 (by omega)]))))]
    have z67 : (σ63 16 1).toInt = (σ 16 1).toInt := by rw [(show σ63 16 1 = (σ 16 1) from (by rw [f65 16 (by omega)]; exact (by rw [f38 16 (by omega)]; exact (by rw [f25 16 (by omega)]))))]
    have z68 : (σ63 16 2).toInt = (σ 16 2).toInt := by rw [(show σ63 16 2 = (σ 16 2) from (by rw [f65 16 (by omega)]; exact (by rw [f38 16 (by omega)]; exact (by rw [f25 16 (by omega)]))))]
    have w69 : ∀ k : Nat, k < 8 → 0 ≤ (σ63 17 k).toInt ∧ (σ63 17 k).toInt ≤ 3 := (by rw [f65 17 (by omega)]; exact w42)
    have I70 : jI16 σ63 := ⟨(by omega), (by omega), (by omega), w69⟩
    have z71 : (σ63 18 0).toInt = (σ 18 0).toInt := by rw [(show σ63 18 0 = (σ 18 0) from (by rw [f65 18 (by omega)]; exact (by rw [f38 18 (by omega)]; exact (by rw [f25 18 (by omega)]))))]
    have w72 : ∀ k : Nat, k < 160 → 0 ≤ (σ63 19 k).toInt ∧ (σ63 19 k).toInt ≤ 30000 := (by rw [f65 19 (by omega)]; exact w50)
    have I73 : jI18 σ63 := ⟨(by omega), w72⟩
    have z74 : (σ63 22 0).toInt = (σ 22 0).toInt := by rw [(show σ63 22 0 = (σ 22 0) from (by rw [f65 22 (by omega)]; exact (by rw [f38 22 (by omega)]; exact (by rw [f25 22 (by omega)]))))]
    have w75 : ∀ k : Nat, k < 160 → 0 ≤ (σ63 23 k).toInt ∧ (σ63 23 k).toInt ≤ 30000 := (by rw [f65 23 (by omega)]; exact w53)
    have I76 : jI22 σ63 := ⟨(by omega), w75⟩
    have z77 : (σ63 31 8).toInt = (σ 31 8).toInt := by rw [(show σ63 31 8 = (σ 31 8) from (by rw [f65 31 (by omega)]; exact (by rw [f38 31 (by omega)]; exact (by rw [f25 31 (by omega)]))))]
    have w78 : ∀ k : Nat, k < 1400 → (-1) ≤ (σ63 33 k).toInt ∧ (σ63 33 k).toInt ≤ 350 := (by rw [f65 33 (by omega)]; exact w56)
    have w79 : ∀ k : Nat, k < 1024 → 0 ≤ (σ63 36 k).toInt ∧ (σ63 36 k).toInt ≤ 349 := (by rw [f65 36 (by omega)]; exact w57)
    have I80 : jI31 σ63 := ⟨(by omega), w78, w79⟩
    have z81 : (σ63 38 0).toInt = (σ 38 0).toInt := by rw [(show σ63 38 0 = (σ 38 0) from (by rw [f65 38 (by omega)]; exact (by rw [f38 38 (by omega)]; exact (by rw [f25 38 (by omega)]))))]
    have z82 : (σ63 38 1).toInt = (σ 38 1).toInt := by rw [(show σ63 38 1 = (σ 38 1) from (by rw [f65 38 (by omega)]; exact (by rw [f38 38 (by omega)]; exact (by rw [f25 38 (by omega)]))))]
    have w83 : ∀ k : Nat, k < 20 → 0 ≤ (σ63 39 k).toInt ∧ (σ63 39 k).toInt ≤ 6 := (by rw [f65 39 (by omega)]; exact w61)
    have I84 : jI38 σ63 := ⟨(by omega), (by omega), w83⟩
    refine jcallV (As := [.int a1, .int 8, .int a3, .int r27, .int x47]) (rest := []) ⟨hx, hb, hml, hown, hts⟩ hK hP hA hS hZ (c_X3_likelyFrom_8 l D cI cL ad zz hJ σ63 τ a1 (A1) t1 a3 (A3) t3 r27 (r27.toInt) rfl x47 (x47.toInt) rfl I70 I73 I76 I80 I84) cw_RX3_146 (jc_43 cI cL ad σ63 τ) rfl ⟨Nat.le_of_ble_eq_true rfl, Nat.le_of_ble_eq_true rfl⟩ rfl rfl rfl hl.1 rfl (Nat.le_of_ble_eq_true rfl) dX3_likelyFrom_105 ⟨Nat.zero_le _, Nat.zero_le _⟩ (fun r86 σ85 τ85 H locs h85 hP hS => ?_)
    obtain ⟨rfl, f87, h85⟩ := h85
    refine lv_istore (lv' := [(11, .int r86), (10, .int r64), (9, .int x47), (8, .int r37), (7, .int r27), (6, .int r24), (0, .ref (ad 43)), (1, .int a1), (2, .int 7), (3, .int a3), (4, .int a4), (5, .int a5)]) hx hb dX3_likelyFrom_108 hl (by decide) rfl (fun ls hl => ?_)
    refine lv_iload hx hb dX3_likelyFrom_110 (lv_at hl 3 rfl) ?_
    refine lv_iload hx hb dX3_likelyFrom_112 (lv_at hl 1 rfl) ?_
    have g88 := jrg (rfl : r37.toInt = r37.toInt)
    have g89 := jrg (rfl : r64.toInt = r64.toInt)
    refine lv_imul hx hb dX3_likelyFrom_114 ?_
    refine lv_topi (fun x90 ex90 => ?_)
    have gx90 := jrg (rfl : x90.toInt = x90.toInt)
    refine lv_sipush (v := 1000) hx hb dX3_likelyFrom_115 (by decide) ?_
    refine lv_iload hx hb dX3_likelyFrom_118 (lv_at hl 3 rfl) ?_
    refine lv_isub hx hb dX3_likelyFrom_120 ?_
    refine lv_topi (fun x91 ex91 => ?_)
    have gx91 := jrg (rfl : x91.toInt = x91.toInt)
    refine lv_iload hx hb dX3_likelyFrom_121 (lv_at hl 0 rfl) ?_
    have g92 := jrg (rfl : x91.toInt = x91.toInt)
    have g93 := jrg (rfl : r86.toInt = r86.toInt)
    refine lv_imul hx hb dX3_likelyFrom_123 ?_
    refine lv_topi (fun x94 ex94 => ?_)
    have gx94 := jrg (rfl : x94.toInt = x94.toInt)
    have g95 := jrg (rfl : x90.toInt = x90.toInt)
    have g96 := jrg (rfl : x94.toInt = x94.toInt)
    refine lv_iadd hx hb dX3_likelyFrom_124 ?_
    refine lv_topi (fun x97 ex97 => ?_)
    have gx97 := jrg (rfl : x97.toInt = x97.toInt)
    refine lv_sipush (v := 1000) hx hb dX3_likelyFrom_125 (by decide) ?_
    refine lv_idiv hx hb dX3_likelyFrom_128 (by decide) ?_
    refine lv_topi (fun x98 ex98 => ?_)
    have gx98 := jrg (rfl : x98.toInt = x98.toInt)
    refine lv_istore (lv' := [(12, .int x98), (11, .int r86), (10, .int r64), (9, .int x47), (8, .int r37), (7, .int r27), (6, .int r24), (0, .ref (ad 43)), (1, .int a1), (2, .int 7), (3, .int a3), (4, .int a4), (5, .int a5)]) hx hb dX3_likelyFrom_129 hl (by decide) rfl (fun ls hl => ?_)
    refine lv_iload hx hb dX3_likelyFrom_131 (lv_at hl 3 rfl) ?_
    refine lv_if_le (tgt := 141) hx hb dX3_likelyFrom_133 (by decide) (fun c99 => ?_) (fun c99 => ?_)
    · have kc99 := jle c99 rfl jz_0
      refine lv_iconst (v := 0) hx hb dX3_likelyFrom_141 (by decide) ?_
      refine lv_istore (lv' := [(13, .int 0), (12, .int x98), (11, .int r86), (10, .int r64), (9, .int x47), (8, .int r37), (7, .int r27), (6, .int r24), (0, .ref (ad 43)), (1, .int a1), (2, .int 7), (3, .int a3), (4, .int a4), (5, .int a5)]) hx hb dX3_likelyFrom_142 hl (by decide) rfl (fun ls hl => ?_)
      refine lv_aload_n hx hb dX3_likelyFrom_144 rfl (lv_at hl 8 rfl) ?_
      refine va_get (D := D) hx hb hts inlX3 hown hK hP 43 (jc_43 cI cL ad σ85 τ) rfl 3 (by decide) (hts _ kw_6_5) (fun _ h9 => h9) rfl dX3_likelyFrom_145 ?_
      refine va_get (D := D) hx hb hts inlX6 hown hK hP 16 (jc_16 cI cL ad σ85 τ) rfl 2 (by decide) (hts _ kw_37_2) (fun _ h9 => h9) rfl dX3_likelyFrom_148 ?_
      have m100 : σ85 16 2 = (σ 16 2) := (by rw [f87 16 (by omega)]; exact (by rw [f65 16 (by omega)]; exact (by rw [f38 16 (by omega)]; exact (by rw [f25 16 (by omega)]))))
      refine jtopr m100 ?_
      refine lv_iload hx hb dX3_likelyFrom_151 (lv_at hl 0 rfl) ?_
      refine lv_imul hx hb dX3_likelyFrom_153 ?_
      refine lv_topi (fun x101 ex101 => ?_)
      have tx101 : x101.toInt = 0 := (jmul ex101 rfl jz_0 (by omega) (by omega)).trans (by omega)
      refine lv_sipush (v := 1000) hx hb dX3_likelyFrom_154 (by decide) ?_
      refine lv_aload_n hx hb dX3_likelyFrom_157 rfl (lv_at hl 8 rfl) ?_
      refine va_get (D := D) hx hb hts inlX3 hown hK hP 43 (jc_43 cI cL ad σ85 τ) rfl 3 (by decide) (hts _ kw_6_5) (fun _ h9 => h9) rfl dX3_likelyFrom_158 ?_
      refine va_get (D := D) hx hb hts inlX6 hown hK hP 16 (jc_16 cI cL ad σ85 τ) rfl 2 (by decide) (hts _ kw_37_2) (fun _ h9 => h9) rfl dX3_likelyFrom_161 ?_
      refine jtopr m100 ?_
      have g102 := jrg (rfl : (σ 16 2).toInt = (σ 16 2).toInt)
      refine lv_isub hx hb dX3_likelyFrom_164 ?_
      refine lv_topi (fun x103 ex103 => ?_)
      have tx103 : x103.toInt = -(σ 16 2).toInt + 1000 := (jsub ex103 jz_1000 rfl (by omega) (by omega)).trans (by omega)
      refine lv_iload hx hb dX3_likelyFrom_165 (lv_at hl 1 rfl) ?_
      have g104 := jrg (rfl : x98.toInt = x98.toInt)
      refine lv_imul hx hb dX3_likelyFrom_167 ?_
      refine lv_topi (fun x105 ex105 => ?_)
      have gx105 := jrg (rfl : x105.toInt = x105.toInt)
      have g106 := jrg (rfl : x105.toInt = x105.toInt)
      refine lv_iadd hx hb dX3_likelyFrom_168 ?_
      refine lv_topi (fun x107 ex107 => ?_)
      have tx107 : x107.toInt = x105.toInt := (jadd ex107 tx101 rfl (by omega) (by omega)).trans (by omega)
      refine lv_sipush (v := 1000) hx hb dX3_likelyFrom_169 (by decide) ?_
      refine lv_idiv hx hb dX3_likelyFrom_172 (by decide) ?_
      refine lv_topi (fun x108 ex108 => ?_)
      have gx108 := jrg (rfl : x108.toInt = x108.toInt)
      exact hret x108 σ85 τ _ _ _ _ rfl ⟨rfl, (fun i hi => by rw [f87 i (by omega), f65 i (by omega), f38 i (by omega), f25 i (by omega)]), trivial⟩ hP hS dX3_likelyFrom_173
    · have kc99 := jnle c99 rfl jz_0
      refine lv_ldc (v := 1000000) hx hb hown (hts _ kw_37_1) dX3_likelyFrom_136 ?_
      refine lv_goto (tgt := 142) hx hb dX3_likelyFrom_138 (by decide) ?_
      refine lv_istore (lv' := [(13, .int 1000000), (12, .int x98), (11, .int r86), (10, .int r64), (9, .int x47), (8, .int r37), (7, .int r27), (6, .int r24), (0, .ref (ad 43)), (1, .int a1), (2, .int 7), (3, .int a3), (4, .int a4), (5, .int a5)]) hx hb dX3_likelyFrom_142 hl (by decide) rfl (fun ls hl => ?_)
      refine lv_aload_n hx hb dX3_likelyFrom_144 rfl (lv_at hl 8 rfl) ?_
      refine va_get (D := D) hx hb hts inlX3 hown hK hP 43 (jc_43 cI cL ad σ85 τ) rfl 3 (by decide) (hts _ kw_6_5) (fun _ h9 => h9) rfl dX3_likelyFrom_145 ?_
      refine va_get (D := D) hx hb hts inlX6 hown hK hP 16 (jc_16 cI cL ad σ85 τ) rfl 2 (by decide) (hts _ kw_37_2) (fun _ h9 => h9) rfl dX3_likelyFrom_148 ?_
      have m109 : σ85 16 2 = (σ 16 2) := (by rw [f87 16 (by omega)]; exact (by rw [f65 16 (by omega)]; exact (by rw [f38 16 (by omega)]; exact (by rw [f25 16 (by omega)]))))
      refine jtopr m109 ?_
      refine lv_iload hx hb dX3_likelyFrom_151 (lv_at hl 0 rfl) ?_
      have g110 := jrg (rfl : (σ 16 2).toInt = (σ 16 2).toInt)
      refine lv_imul hx hb dX3_likelyFrom_153 ?_
      refine lv_topi (fun x111 ex111 => ?_)
      have tx111 : x111.toInt = 1000000 * (σ 16 2).toInt := (jmul ex111 rfl jz_1000000 (by omega) (by omega)).trans (by omega)
      refine lv_sipush (v := 1000) hx hb dX3_likelyFrom_154 (by decide) ?_
      refine lv_aload_n hx hb dX3_likelyFrom_157 rfl (lv_at hl 8 rfl) ?_
      refine va_get (D := D) hx hb hts inlX3 hown hK hP 43 (jc_43 cI cL ad σ85 τ) rfl 3 (by decide) (hts _ kw_6_5) (fun _ h9 => h9) rfl dX3_likelyFrom_158 ?_
      refine va_get (D := D) hx hb hts inlX6 hown hK hP 16 (jc_16 cI cL ad σ85 τ) rfl 2 (by decide) (hts _ kw_37_2) (fun _ h9 => h9) rfl dX3_likelyFrom_161 ?_
      refine jtopr m109 ?_
      refine lv_isub hx hb dX3_likelyFrom_164 ?_
      refine lv_topi (fun x112 ex112 => ?_)
      have tx112 : x112.toInt = -(σ 16 2).toInt + 1000 := (jsub ex112 jz_1000 rfl (by omega) (by omega)).trans (by omega)
      refine lv_iload hx hb dX3_likelyFrom_165 (lv_at hl 1 rfl) ?_
      have g113 := jrg (rfl : x98.toInt = x98.toInt)
      refine lv_imul hx hb dX3_likelyFrom_167 ?_
      refine lv_topi (fun x114 ex114 => ?_)
      have gx114 := jrg (rfl : x114.toInt = x114.toInt)
      have g115 := jrg (rfl : x114.toInt = x114.toInt)
      refine lv_iadd hx hb dX3_likelyFrom_168 ?_
      refine lv_topi (fun x116 ex116 => ?_)
      have gx116 := jrg (rfl : x116.toInt = x116.toInt)
      refine lv_sipush (v := 1000) hx hb dX3_likelyFrom_169 (by decide) ?_
      refine lv_idiv hx hb dX3_likelyFrom_172 (by decide) ?_
      refine lv_topi (fun x117 ex117 => ?_)
      have gx117 := jrg (rfl : x117.toInt = x117.toInt)
      exact hret x117 σ85 τ _ _ _ _ rfl ⟨rfl, (fun i hi => by rw [f87 i (by omega), f65 i (by omega), f38 i (by omega), f25 i (by omega)]), trivial⟩ hP hS dX3_likelyFrom_173
  · have kc17 := jne c17 rfl jz_0
    refine lv_iload hx hb dX3_likelyFrom_20 (lv_at hl 5 rfl) ?_
    refine lv_if_le (tgt := 30) hx hb dX3_likelyFrom_22 (by decide) (fun c118 => ?_) (fun c118 => ?_)
    · have kc118 := jle c118 t5 jz_0
      refine lv_iconst (v := 0) hx hb dX3_likelyFrom_30 (by decide) ?_
      exact hret 0 σ τ _ _ _ _ rfl ⟨rfl, (fun _ _ => rfl), trivial⟩ hP hS dX3_likelyFrom_31
    · have kc118 := jnle c118 t5 jz_0
      refine lv_ldc (v := 1000000) hx hb hown (hts _ kw_37_1) dX3_likelyFrom_25 ?_
      refine lv_goto (tgt := 31) hx hb dX3_likelyFrom_27 (by decide) ?_
      exact hret 1000000 σ τ _ _ _ _ rfl ⟨rfl, (fun _ _ => rfl), trivial⟩ hP hS dX3_likelyFrom_31
set_option maxHeartbeats 4000000 in
set_option maxRecDepth 100000 in
theorem c_X3_likelyFrom_6 (l : Launch) (D : va_G) (cI cL : ClassId) (ad zz : Nat → Nat) (hJ : jD ad) (σ : Nat → Nat → Int32) (τ : Nat → Nat → Int64) (a1 : Int32) (A1 : Int) (t1 : a1.toInt = A1) (a3 : Int32) (A3 : Int) (t3 : a3.toInt = A3) (a4 : Int32) (A4 : Int) (t4 : a4.toInt = A4) (a5 : Int32) (A5 : Int) (t5 : a5.toInt = A5) (hI16 : jI16 σ) (hI18 : jI18 σ) (hI22 : jI22 σ) (hI31 : jI31 σ) (hI38 : jI38 σ) : jM l yX3_likelyFrom cX3_likelyFrom 14 (some .int) ({ frames := 7, cells := 0, slots := 0, locals := 190 }) D cI cL ad zz [.ref (ad 43), .int a1, .int 6, .int a3, .int a4, .int a5] σ τ (fun r σ' τ' => τ = τ' ∧ (∀ i : Nat, (i < 20 ∨ 21 < i) ∧ (i < 24 ∨ 25 < i) ∧ (i < 29 ∨ 30 < i) → σ' i = σ i) ∧ True) := by
  refine jM.of hJ (by decide +kernel) (nt := .int) rfl (Nat.le_of_ble_eq_true rfl) ?_
  intro p e s m args below meth c Q ls hC hret hl hP
  obtain ⟨hx, hb, hr, hml, hown, hts, hK, -, hlocks, hZ⟩ := hC
  have hown : s.vm.findClass RX3 = some m.cls := hown
  have hS : va_S (jA ad) s.heap s.heap [] := va_S.rf
  have hA : ∀ q, jA ad q → jA ad q := fun _ h => h
  have hl : lv_has ls 14 [(0, .ref (ad 43)), (1, .int a1), (2, .int 6), (3, .int a3), (4, .int a4), (5, .int a5)] := hl
  have g1 := jrg t1
  have g3 := jrg t3
  have g4 := jrg t4
  have g5 := jrg t5
  obtain ⟨i1, i2, i3, w4⟩ : (1 ≤ (σ 16 0).toInt ∧ (σ 16 0).toInt ≤ 8) ∧ (1 ≤ (σ 16 1).toInt ∧ (σ 16 1).toInt ≤ 12) ∧ (0 ≤ (σ 16 2).toInt ∧ (σ 16 2).toInt ≤ 999) ∧ (∀ k : Nat, k < 8 → 0 ≤ (σ 17 k).toInt ∧ (σ 17 k).toInt ≤ 3) := id hI16
  obtain ⟨i5, w6⟩ : (0 ≤ (σ 18 0).toInt ∧ (σ 18 0).toInt ≤ 160) ∧ (∀ k : Nat, k < 160 → 0 ≤ (σ 19 k).toInt ∧ (σ 19 k).toInt ≤ 30000) := id hI18
  obtain ⟨i7, w8⟩ : (0 ≤ (σ 22 0).toInt ∧ (σ 22 0).toInt ≤ 160) ∧ (∀ k : Nat, k < 160 → 0 ≤ (σ 23 k).toInt ∧ (σ 23 k).toInt ≤ 30000) := id hI22
  obtain ⟨i9, w10, w11⟩ : (0 ≤ (σ 31 8).toInt ∧ (σ 31 8).toInt ≤ 350) ∧ (∀ k : Nat, k < 1400 → (-1) ≤ (σ 33 k).toInt ∧ (σ 33 k).toInt ≤ 350) ∧ (∀ k : Nat, k < 1024 → 0 ≤ (σ 36 k).toInt ∧ (σ 36 k).toInt ≤ 349) := id hI31
  obtain ⟨i12, i13, w14⟩ : (0 ≤ (σ 38 0).toInt ∧ (σ 38 0).toInt ≤ 20) ∧ (0 ≤ (σ 38 1).toInt ∧ (σ 38 1).toInt ≤ 1000) ∧ (∀ k : Nat, k < 20 → 0 ≤ (σ 39 k).toInt ∧ (σ 39 k).toInt ≤ 6) := id hI38
  refine lv_iload_n hx hb dX3_likelyFrom_0 rfl (lv_at hl 2 rfl) ?_
  refine lv_bipush (v := 8) hx hb dX3_likelyFrom_1 (by decide) ?_
  refine lv_icmp_ge (tgt := 20) hx hb dX3_likelyFrom_3 (by decide) (fun c => absurd c (by decide)) (fun _ => ?_)
  refine lv_aload_n hx hb dX3_likelyFrom_6 rfl (lv_at hl 0 rfl) ?_
  refine va_get (D := D) hx hb hts inlX3 hown hK hP 43 (jc_43 cI cL ad σ τ) rfl 3 (by decide) (hts _ kw_6_5) (fun _ h9 => h9) rfl dX3_likelyFrom_7 ?_
  refine lv_iload_n hx hb dX3_likelyFrom_10 rfl (lv_at hl 2 rfl) ?_
  refine lv_iload_n hx hb dX3_likelyFrom_11 rfl (lv_at hl 3 rfl) ?_
  refine lv_iload hx hb dX3_likelyFrom_12 (lv_at hl 4 rfl) ?_
  refine jcallV (As := [.int 6, .int a3, .int a4]) (rest := []) ⟨hx, hb, hml, hown, hts⟩ hK hP hA hS hZ (c_X6_ended_16 l D cI cL ad zz hJ σ τ 6 (6) jz_6 a3 (A3) t3 a4 (A4) t4) cw_RX3_123 (jc_16 cI cL ad σ τ) rfl ⟨Nat.le_of_ble_eq_true rfl, Nat.le_of_ble_eq_true rfl⟩ rfl rfl rfl hl.1 rfl (Nat.le_of_ble_eq_true rfl) dX3_likelyFrom_14 ⟨Nat.zero_le _, Nat.zero_le _⟩ (fun r16 σ15 τ15 H locs h15 hP hS => ?_)
  obtain ⟨⟨rfl, rfl⟩, h15⟩ := h15
  refine lv_if_eq (tgt := 32) hx hb dX3_likelyFrom_17 (by decide) (fun c17 => ?_) (fun c17 => ?_)
  · have kc17 := jeq c17 rfl jz_0
    refine lv_aload_n hx hb dX3_likelyFrom_32 rfl (lv_at hl 0 rfl) ?_
    refine lv_iload_n hx hb dX3_likelyFrom_33 rfl (lv_at hl 1 rfl) ?_
    refine lv_iload_n hx hb dX3_likelyFrom_34 rfl (lv_at hl 2 rfl) ?_
    refine lv_iload_n hx hb dX3_likelyFrom_35 rfl (lv_at hl 3 rfl) ?_
    refine lv_iload hx hb dX3_likelyFrom_36 (lv_at hl 4 rfl) ?_
    have I18 : jI16 σ := ⟨(by omega), (by omega), (by omega), w4⟩
    have I19 : jI18 σ := ⟨(by omega), w6⟩
    have I20 : jI22 σ := ⟨(by omega), w8⟩
    have I21 : jI31 σ := ⟨(by omega), w10, w11⟩
    have I22 : jI38 σ := ⟨(by omega), (by omega), w14⟩
    refine jcallV (As := [.int a1, .int 6, .int a3, .int a4]) (rest := []) ⟨hx, hb, hml, hown, hts⟩ hK hP hA hS hZ (c_X3_putOn_43 l D cI cL ad zz hJ σ τ a1 (A1) t1 6 (6) jz_6 a3 (A3) t3 a4 (A4) t4 I18 I19 I20 I21 I22) cw_RX3_127 (jc_43 cI cL ad σ τ) rfl ⟨Nat.le_of_ble_eq_true rfl, Nat.le_of_ble_eq_true rfl⟩ rfl rfl rfl hl.1 rfl (Nat.le_of_ble_eq_true rfl) dX3_likelyFrom_38 ⟨Nat.zero_le _, Nat.zero_le _⟩ (fun r24 σ23 τ23 H locs h23 hP hS => ?_)
    obtain ⟨rfl, f25, h23⟩ := h23
    refine lv_istore (lv' := [(6, .int r24), (0, .ref (ad 43)), (1, .int a1), (2, .int 6), (3, .int a3), (4, .int a4), (5, .int a5)]) hx hb dX3_likelyFrom_41 hl (by decide) rfl (fun ls hl => ?_)
    refine lv_iload hx hb dX3_likelyFrom_43 (lv_at hl 5 rfl) ?_
    refine lv_iload hx hb dX3_likelyFrom_45 (lv_at hl 0 rfl) ?_
    refine jcallS (As := [.int a4, .int r24]) (rest := []) ⟨hx, hb, hml, hown, hts⟩ hK hP hA hS hZ (c_X0_after l D cI cL ad zz hJ σ23 τ a4 (A4) t4 r24 (r24.toInt) rfl) cw_RX3_130 ⟨Nat.le_of_ble_eq_true rfl, Nat.le_of_ble_eq_true rfl⟩ rfl rfl rfl hl.1 rfl (Nat.le_of_ble_eq_true rfl) dX3_likelyFrom_47 ⟨Nat.zero_le _, Nat.zero_le _⟩ (fun r27 σ26 τ26 H locs h26 hP hS => ?_)
    obtain ⟨⟨rfl, rfl⟩, h26⟩ := h26
    refine lv_istore (lv' := [(7, .int r27), (6, .int r24), (0, .ref (ad 43)), (1, .int a1), (2, .int 6), (3, .int a3), (4, .int a4), (5, .int a5)]) hx hb dX3_likelyFrom_50 hl (by decide) rfl (fun ls hl => ?_)
    refine lv_aload_n hx hb dX3_likelyFrom_52 rfl (lv_at hl 2 rfl) ?_
    refine lv_iload hx hb dX3_likelyFrom_53 (lv_at hl 1 rfl) ?_
    refine lv_iload_n hx hb dX3_likelyFrom_55 rfl (lv_at hl 4 rfl) ?_
    refine lv_iload_n hx hb dX3_likelyFrom_56 rfl (lv_at hl 5 rfl) ?_
    refine lv_iload hx hb dX3_likelyFrom_57 (lv_at hl 6 rfl) ?_
    have z28 : (σ23 16 0).toInt = (σ 16 0).toInt := by rw [(show σ23 16 0 = (σ 16 0) from (by rw [f25 16 (by omega)]))]
    have z29 : (σ23 16 1).toInt = (σ 16 1).toInt := by rw [(show σ23 16 1 = (σ 16 1) from (by rw [f25 16 (by omega)]))]
    have z30 : (σ23 16 2).toInt = (σ 16 2).toInt := by rw [(show σ23 16 2 = (σ 16 2) from (by rw [f25 16 (by omega)]))]
    have w31 : ∀ k : Nat, k < 8 → 0 ≤ (σ23 17 k).toInt ∧ (σ23 17 k).toInt ≤ 3 := (by rw [f25 17 (by omega)]; exact w4)
    have I32 : jI16 σ23 := ⟨(by omega), (by omega), (by omega), w31⟩
    have z33 : (σ23 22 0).toInt = (σ 22 0).toInt := by rw [(show σ23 22 0 = (σ 22 0) from (by rw [f25 22 (by omega)]))]
    have w34 : ∀ k : Nat, k < 160 → 0 ≤ (σ23 23 k).toInt ∧ (σ23 23 k).toInt ≤ 30000 := (by rw [f25 23 (by omega)]; exact w8)
    have I35 : jI22 σ23 := ⟨(by omega), w34⟩
    refine jcallV (As := [.int r24, .int 6, .int a3, .int a4]) (rest := []) ⟨hx, hb, hml, hown, hts⟩ hK hP hA hS hZ (c_X3_outBy_43 l D cI cL ad zz hJ σ23 τ r24 (r24.toInt) rfl 6 (6) jz_6 a3 (A3) t3 a4 (A4) t4 I32 I35) cw_RX3_139 (jc_43 cI cL ad σ23 τ) rfl ⟨Nat.le_of_ble_eq_true rfl, Nat.le_of_ble_eq_true rfl⟩ rfl rfl rfl hl.1 rfl (Nat.le_of_ble_eq_true rfl) dX3_likelyFrom_59 ⟨Nat.zero_le _, Nat.zero_le _⟩ (fun r37 σ36 τ36 H locs h36 hP hS => ?_)
    obtain ⟨rfl, f38, h36⟩ := h36
    refine lv_istore (lv' := [(8, .int r37), (7, .int r27), (6, .int r24), (0, .ref (ad 43)), (1, .int a1), (2, .int 6), (3, .int a3), (4, .int a4), (5, .int a5)]) hx hb dX3_likelyFrom_62 hl (by decide) rfl (fun ls hl => ?_)
    refine lv_iload hx hb dX3_likelyFrom_64 (lv_at hl 8 rfl) ?_
    refine lv_aload_n hx hb dX3_likelyFrom_66 rfl (lv_at hl 3 rfl) ?_
    refine lv_iload hx hb dX3_likelyFrom_67 (lv_at hl 2 rfl) ?_
    refine lv_iload_n hx hb dX3_likelyFrom_69 rfl (lv_at hl 6 rfl) ?_
    refine lv_iload hx hb dX3_likelyFrom_70 (lv_at hl 7 rfl) ?_
    have z39 : (σ36 16 0).toInt = (σ 16 0).toInt := by rw [(show σ36 16 0 = (σ 16 0) from (by rw [f38 16 (by omega)]; exact (by rw [f25 16 (by omega)])))]
    have z40 : (σ36 16 1).toInt = (σ 16 1).toInt := by rw [(show σ36 16 1 = (σ 16 1) from (by rw [f38 16 (by omega)]; exact (by rw [f25 16 (by omega)])))]
    have z41 : (σ36 16 2).toInt = (σ 16 2).toInt := by rw [(show σ36 16 2 = (σ 16 2) from (by rw [f38 16 (by omega)]; exact (by rw [f25 16 (by omega)])))]
    have w42 : ∀ k : Nat, k < 8 → 0 ≤ (σ36 17 k).toInt ∧ (σ36 17 k).toInt ≤ 3 := (by rw [f38 17 (by omega)]; exact w31)
    have I43 : jI16 σ36 := ⟨(by omega), (by omega), (by omega), w42⟩
    refine jcallV (As := [.int r24, .int a3, .int a4]) (rest := [.int a5]) ⟨hx, hb, hml, hown, hts⟩ hK hP hA hS hZ (c_X3_runsBy_43 l D cI cL ad zz hJ σ36 τ r24 (r24.toInt) rfl a3 (A3) t3 a4 (A4) t4 I43) cw_RX3_136 (jc_43 cI cL ad σ36 τ) rfl ⟨Nat.le_of_ble_eq_true rfl, Nat.le_of_ble_eq_true rfl⟩ rfl rfl rfl hl.1 rfl (Nat.le_of_ble_eq_true rfl) dX3_likelyFrom_72 ⟨Nat.zero_le _, Nat.zero_le _⟩ (fun r45 σ44 τ44 H locs h44 hP hS => ?_)
    obtain ⟨⟨rfl, rfl⟩, h44⟩ := h44
    have g46 := jrg (rfl : r45.toInt = r45.toInt)
    refine lv_isub hx hb dX3_likelyFrom_75 ?_
    refine lv_topi (fun x47 ex47 => ?_)
    have gx47 := jrg (rfl : x47.toInt = x47.toInt)
    refine lv_istore (lv' := [(9, .int x47), (8, .int r37), (7, .int r27), (6, .int r24), (0, .ref (ad 43)), (1, .int a1), (2, .int 6), (3, .int a3), (4, .int a4), (5, .int a5)]) hx hb dX3_likelyFrom_76 hl (by decide) rfl (fun ls hl => ?_)
    refine lv_aload_n hx hb dX3_likelyFrom_78 rfl (lv_at hl 4 rfl) ?_
    refine lv_iload_n hx hb dX3_likelyFrom_79 rfl (lv_at hl 5 rfl) ?_
    refine lv_iload_n hx hb dX3_likelyFrom_80 rfl (lv_at hl 6 rfl) ?_
    refine lv_iconst (v := 1) hx hb dX3_likelyFrom_81 (by decide) ?_
    refine lv_iadd hx hb dX3_likelyFrom_82 ?_
    refine jtopr (y := 7) (by decide) ?_
    refine lv_iload_n hx hb dX3_likelyFrom_83 rfl (lv_at hl 7 rfl) ?_
    refine lv_iconst (v := 1) hx hb dX3_likelyFrom_84 (by decide) ?_
    refine lv_iadd hx hb dX3_likelyFrom_85 ?_
    refine lv_topi (fun x48 ex48 => ?_)
    have gx48 := jrg (rfl : x48.toInt = x48.toInt)
    refine lv_iload hx hb dX3_likelyFrom_86 (lv_at hl 2 rfl) ?_
    refine lv_iload hx hb dX3_likelyFrom_88 (lv_at hl 0 rfl) ?_
    have z49 : (σ36 18 0).toInt = (σ 18 0).toInt := by rw [(show σ36 18 0 = (σ 18 0) from (by rw [f38 18 (by omega)]; exact (by rw [f25 18 (by omega)])))]
    have w50 : ∀ k : Nat, k < 160 → 0 ≤ (σ36 19 k).toInt ∧ (σ36 19 k).toInt ≤ 30000 := (by rw [f38 19 (by omega)]; exact (by rw [f25 19 (by omega)]; exact w6))
    have I51 : jI18 σ36 := ⟨(by omega), w50⟩
    have z52 : (σ36 22 0).toInt = (σ 22 0).toInt := by rw [(show σ36 22 0 = (σ 22 0) from (by rw [f38 22 (by omega)]; exact (by rw [f25 22 (by omega)])))]
    have w53 : ∀ k : Nat, k < 160 → 0 ≤ (σ36 23 k).toInt ∧ (σ36 23 k).toInt ≤ 30000 := (by rw [f38 23 (by omega)]; exact w34)
    have I54 : jI22 σ36 := ⟨(by omega), w53⟩
    have z55 : (σ36 31 8).toInt = (σ 31 8).toInt := by rw [(show σ36 31 8 = (σ 31 8) from (by rw [f38 31 (by omega)]; exact (by rw [f25 31 (by omega)])))]
    have w56 : ∀ k : Nat, k < 1400 → (-1) ≤ (σ36 33 k).toInt ∧ (σ36 33 k).toInt ≤ 350 := (by rw [f38 33 (by omega)]; exact (by rw [f25 33 (by omega)]; exact w10))
    have w57 : ∀ k : Nat, k < 1024 → 0 ≤ (σ36 36 k).toInt ∧ (σ36 36 k).toInt ≤ 349 := (by rw [f38 36 (by omega)]; exact (by rw [f25 36 (by omega)]; exact w11))
    have I58 : jI31 σ36 := ⟨(by omega), w56, w57⟩
    have z59 : (σ36 38 0).toInt = (σ 38 0).toInt := by rw [(show σ36 38 0 = (σ 38 0) from (by rw [f38 38 (by omega)]; exact (by rw [f25 38 (by omega)])))]
    have z60 : (σ36 38 1).toInt = (σ 38 1).toInt := by rw [(show σ36 38 1 = (σ 38 1) from (by rw [f38 38 (by omega)]; exact (by rw [f25 38 (by omega)])))]
    have w61 : ∀ k : Nat, k < 20 → 0 ≤ (σ36 39 k).toInt ∧ (σ36 39 k).toInt ≤ 6 := (by rw [f38 39 (by omega)]; exact (by rw [f25 39 (by omega)]; exact w14))
    have I62 : jI38 σ36 := ⟨(by omega), (by omega), w61⟩
    refine jcallV (As := [.int a1, .int 7, .int x48, .int r27, .int x47]) (rest := []) ⟨hx, hb, hml, hown, hts⟩ hK hP hA hS hZ (c_X3_likelyFrom_7 l D cI cL ad zz hJ σ36 τ a1 (A1) t1 x48 (x48.toInt) rfl r27 (r27.toInt) rfl x47 (x47.toInt) rfl I43 I51 I54 I58 I62) cw_RX3_146 (jc_43 cI cL ad σ36 τ) rfl ⟨Nat.le_of_ble_eq_true rfl, Nat.le_of_ble_eq_true rfl⟩ rfl rfl rfl hl.1 rfl (Nat.le_of_ble_eq_true rfl) dX3_likelyFrom_90 ⟨Nat.zero_le _, Nat.zero_le _⟩ (fun r64 σ63 τ63 H locs h63 hP hS => ?_)
    obtain ⟨rfl, f65, h63⟩ := h63
    refine lv_istore (lv' := [(10, .int r64), (9, .int x47), (8, .int r37), (7, .int r27), (6, .int r24), (0, .ref (ad 43)), (1, .int a1), (2, .int 6), (3, .int a3), (4, .int a4), (5, .int a5)]) hx hb dX3_likelyFrom_93 hl (by decide) rfl (fun ls hl => ?_)
    refine lv_aload_n hx hb dX3_likelyFrom_95 rfl (lv_at hl 5 rfl) ?_
    refine lv_iload_n hx hb dX3_likelyFrom_96 rfl (lv_at hl 6 rfl) ?_
    refine lv_iload_n hx hb dX3_likelyFrom_97 rfl (lv_at hl 7 rfl) ?_
    refine lv_iconst (v := 1) hx hb dX3_likelyFrom_98 (by decide) ?_
    refine lv_iadd hx hb dX3_likelyFrom_99 ?_
    refine jtopr (y := 7) (by decide) ?_
    refine lv_iload_n hx hb dX3_likelyFrom_100 rfl (lv_at hl 8 rfl) ?_
    refine lv_iload hx hb dX3_likelyFrom_101 (lv_at hl 3 rfl) ?_
    refine lv_iload hx hb dX3_likelyFrom_103 (lv_at hl 1 rfl) ?_
    have z66 : (σ63 16 0).toInt = (σ 16 0).toInt := by rw [(show σ63 16 0 = (σ 16 0) from (by rw [f65 16 (by omega)]; exact (by rw [f38 16 (by omega)]; exact (by rw [f25 16 (by omega)]))))]
    have z67 : (σ63 16 1).toInt = (σ 16 1).toInt := by rw [(show σ63 16 1 = (σ 16 1) from (by rw [f65 16 (by omega)]; exact (by rw [f38 16 (by omega)]; exact (by rw [f25 16 (by omega)]))))]
    have z68 : (σ63 16 2).toInt = (σ 16 2).toInt := by rw [(show σ63 16 2 = (σ 16 2) from (by rw [f65 16 (by omega)]; exact (by rw [f38 16 (by omega)]; exact (by rw [f25 16 (by omega)]))))]
    have w69 : ∀ k : Nat, k < 8 → 0 ≤ (σ63 17 k).toInt ∧ (σ63 17 k).toInt ≤ 3 := (by rw [f65 17 (by omega)]; exact w42)
    have I70 : jI16 σ63 := ⟨(by omega), (by omega), (by omega), w69⟩
    have z71 : (σ63 18 0).toInt = (σ 18 0).toInt := by rw [(show σ63 18 0 = (σ 18 0) from (by rw [f65 18 (by omega)]; exact (by rw [f38 18 (by omega)]; exact (by rw [f25 18 (by omega)]))))]
    have w72 : ∀ k : Nat, k < 160 → 0 ≤ (σ63 19 k).toInt ∧ (σ63 19 k).toInt ≤ 30000 := (by rw [f65 19 (by omega)]; exact w50)
    have I73 : jI18 σ63 := ⟨(by omega), w72⟩
    have z74 : (σ63 22 0).toInt = (σ 22 0).toInt := by rw [(show σ63 22 0 = (σ 22 0) from (by rw [f65 22 (by omega)]; exact (by rw [f38 22 (by omega)]; exact (by rw [f25 22 (by omega)]))))]
    have w75 : ∀ k : Nat, k < 160 → 0 ≤ (σ63 23 k).toInt ∧ (σ63 23 k).toInt ≤ 30000 := (by rw [f65 23 (by omega)]; exact w53)
    have I76 : jI22 σ63 := ⟨(by omega), w75⟩
    have z77 : (σ63 31 8).toInt = (σ 31 8).toInt := by rw [(show σ63 31 8 = (σ 31 8) from (by rw [f65 31 (by omega)]; exact (by rw [f38 31 (by omega)]; exact (by rw [f25 31 (by omega)]))))]
    have w78 : ∀ k : Nat, k < 1400 → (-1) ≤ (σ63 33 k).toInt ∧ (σ63 33 k).toInt ≤ 350 := (by rw [f65 33 (by omega)]; exact w56)
    have w79 : ∀ k : Nat, k < 1024 → 0 ≤ (σ63 36 k).toInt ∧ (σ63 36 k).toInt ≤ 349 := (by rw [f65 36 (by omega)]; exact w57)
    have I80 : jI31 σ63 := ⟨(by omega), w78, w79⟩
    have z81 : (σ63 38 0).toInt = (σ 38 0).toInt := by rw [(show σ63 38 0 = (σ 38 0) from (by rw [f65 38 (by omega)]; exact (by rw [f38 38 (by omega)]; exact (by rw [f25 38 (by omega)]))))]
    have z82 : (σ63 38 1).toInt = (σ 38 1).toInt := by rw [(show σ63 38 1 = (σ 38 1) from (by rw [f65 38 (by omega)]; exact (by rw [f38 38 (by omega)]; exact (by rw [f25 38 (by omega)]))))]
    have w83 : ∀ k : Nat, k < 20 → 0 ≤ (σ63 39 k).toInt ∧ (σ63 39 k).toInt ≤ 6 := (by rw [f65 39 (by omega)]; exact w61)
    have I84 : jI38 σ63 := ⟨(by omega), (by omega), w83⟩
    refine jcallV (As := [.int a1, .int 7, .int a3, .int r27, .int x47]) (rest := []) ⟨hx, hb, hml, hown, hts⟩ hK hP hA hS hZ (c_X3_likelyFrom_7 l D cI cL ad zz hJ σ63 τ a1 (A1) t1 a3 (A3) t3 r27 (r27.toInt) rfl x47 (x47.toInt) rfl I70 I73 I76 I80 I84) cw_RX3_146 (jc_43 cI cL ad σ63 τ) rfl ⟨Nat.le_of_ble_eq_true rfl, Nat.le_of_ble_eq_true rfl⟩ rfl rfl rfl hl.1 rfl (Nat.le_of_ble_eq_true rfl) dX3_likelyFrom_105 ⟨Nat.zero_le _, Nat.zero_le _⟩ (fun r86 σ85 τ85 H locs h85 hP hS => ?_)
    obtain ⟨rfl, f87, h85⟩ := h85
    refine lv_istore (lv' := [(11, .int r86), (10, .int r64), (9, .int x47), (8, .int r37), (7, .int r27), (6, .int r24), (0, .ref (ad 43)), (1, .int a1), (2, .int 6), (3, .int a3), (4, .int a4), (5, .int a5)]) hx hb dX3_likelyFrom_108 hl (by decide) rfl (fun ls hl => ?_)
    refine lv_iload hx hb dX3_likelyFrom_110 (lv_at hl 3 rfl) ?_
    refine lv_iload hx hb dX3_likelyFrom_112 (lv_at hl 1 rfl) ?_
    have g88 := jrg (rfl : r37.toInt = r37.toInt)
    have g89 := jrg (rfl : r64.toInt = r64.toInt)
    refine lv_imul hx hb dX3_likelyFrom_114 ?_
    refine lv_topi (fun x90 ex90 => ?_)
    have gx90 := jrg (rfl : x90.toInt = x90.toInt)
    refine lv_sipush (v := 1000) hx hb dX3_likelyFrom_115 (by decide) ?_
    refine lv_iload hx hb dX3_likelyFrom_118 (lv_at hl 3 rfl) ?_
    refine lv_isub hx hb dX3_likelyFrom_120 ?_
    refine lv_topi (fun x91 ex91 => ?_)
    have gx91 := jrg (rfl : x91.toInt = x91.toInt)
    refine lv_iload hx hb dX3_likelyFrom_121 (lv_at hl 0 rfl) ?_
    have g92 := jrg (rfl : x91.toInt = x91.toInt)
    have g93 := jrg (rfl : r86.toInt = r86.toInt)
    refine lv_imul hx hb dX3_likelyFrom_123 ?_
    refine lv_topi (fun x94 ex94 => ?_)
    have gx94 := jrg (rfl : x94.toInt = x94.toInt)
    have g95 := jrg (rfl : x90.toInt = x90.toInt)
    have g96 := jrg (rfl : x94.toInt = x94.toInt)
    refine lv_iadd hx hb dX3_likelyFrom_124 ?_
    refine lv_topi (fun x97 ex97 => ?_)
    have gx97 := jrg (rfl : x97.toInt = x97.toInt)
    refine lv_sipush (v := 1000) hx hb dX3_likelyFrom_125 (by decide) ?_
    refine lv_idiv hx hb dX3_likelyFrom_128 (by decide) ?_
    refine lv_topi (fun x98 ex98 => ?_)
    have gx98 := jrg (rfl : x98.toInt = x98.toInt)
    refine lv_istore (lv' := [(12, .int x98), (11, .int r86), (10, .int r64), (9, .int x47), (8, .int r37), (7, .int r27), (6, .int r24), (0, .ref (ad 43)), (1, .int a1), (2, .int 6), (3, .int a3), (4, .int a4), (5, .int a5)]) hx hb dX3_likelyFrom_129 hl (by decide) rfl (fun ls hl => ?_)
    refine lv_iload hx hb dX3_likelyFrom_131 (lv_at hl 3 rfl) ?_
    refine lv_if_le (tgt := 141) hx hb dX3_likelyFrom_133 (by decide) (fun c99 => ?_) (fun c99 => ?_)
    · have kc99 := jle c99 rfl jz_0
      refine lv_iconst (v := 0) hx hb dX3_likelyFrom_141 (by decide) ?_
      refine lv_istore (lv' := [(13, .int 0), (12, .int x98), (11, .int r86), (10, .int r64), (9, .int x47), (8, .int r37), (7, .int r27), (6, .int r24), (0, .ref (ad 43)), (1, .int a1), (2, .int 6), (3, .int a3), (4, .int a4), (5, .int a5)]) hx hb dX3_likelyFrom_142 hl (by decide) rfl (fun ls hl => ?_)
      refine lv_aload_n hx hb dX3_likelyFrom_144 rfl (lv_at hl 8 rfl) ?_
      refine va_get (D := D) hx hb hts inlX3 hown hK hP 43 (jc_43 cI cL ad σ85 τ) rfl 3 (by decide) (hts _ kw_6_5) (fun _ h9 => h9) rfl dX3_likelyFrom_145 ?_
      refine va_get (D := D) hx hb hts inlX6 hown hK hP 16 (jc_16 cI cL ad σ85 τ) rfl 2 (by decide) (hts _ kw_37_2) (fun _ h9 => h9) rfl dX3_likelyFrom_148 ?_
      have m100 : σ85 16 2 = (σ 16 2) := (by rw [f87 16 (by omega)]; exact (by rw [f65 16 (by omega)]; exact (by rw [f38 16 (by omega)]; exact (by rw [f25 16 (by omega)]))))
      refine jtopr m100 ?_
      refine lv_iload hx hb dX3_likelyFrom_151 (lv_at hl 0 rfl) ?_
      refine lv_imul hx hb dX3_likelyFrom_153 ?_
      refine lv_topi (fun x101 ex101 => ?_)
      have tx101 : x101.toInt = 0 := (jmul ex101 rfl jz_0 (by omega) (by omega)).trans (by omega)
      refine lv_sipush (v := 1000) hx hb dX3_likelyFrom_154 (by decide) ?_
      refine lv_aload_n hx hb dX3_likelyFrom_157 rfl (lv_at hl 8 rfl) ?_
      refine va_get (D := D) hx hb hts inlX3 hown hK hP 43 (jc_43 cI cL ad σ85 τ) rfl 3 (by decide) (hts _ kw_6_5) (fun _ h9 => h9) rfl dX3_likelyFrom_158 ?_
      refine va_get (D := D) hx hb hts inlX6 hown hK hP 16 (jc_16 cI cL ad σ85 τ) rfl 2 (by decide) (hts _ kw_37_2) (fun _ h9 => h9) rfl dX3_likelyFrom_161 ?_
      refine jtopr m100 ?_
      have g102 := jrg (rfl : (σ 16 2).toInt = (σ 16 2).toInt)
      refine lv_isub hx hb dX3_likelyFrom_164 ?_
      refine lv_topi (fun x103 ex103 => ?_)
      have tx103 : x103.toInt = -(σ 16 2).toInt + 1000 := (jsub ex103 jz_1000 rfl (by omega) (by omega)).trans (by omega)
      refine lv_iload hx hb dX3_likelyFrom_165 (lv_at hl 1 rfl) ?_
      have g104 := jrg (rfl : x98.toInt = x98.toInt)
      refine lv_imul hx hb dX3_likelyFrom_167 ?_
      refine lv_topi (fun x105 ex105 => ?_)
      have gx105 := jrg (rfl : x105.toInt = x105.toInt)
      have g106 := jrg (rfl : x105.toInt = x105.toInt)
      refine lv_iadd hx hb dX3_likelyFrom_168 ?_
      refine lv_topi (fun x107 ex107 => ?_)
      have tx107 : x107.toInt = x105.toInt := (jadd ex107 tx101 rfl (by omega) (by omega)).trans (by omega)
      refine lv_sipush (v := 1000) hx hb dX3_likelyFrom_169 (by decide) ?_
      refine lv_idiv hx hb dX3_likelyFrom_172 (by decide) ?_
      refine lv_topi (fun x108 ex108 => ?_)
      have gx108 := jrg (rfl : x108.toInt = x108.toInt)
      exact hret x108 σ85 τ _ _ _ _ rfl ⟨rfl, (fun i hi => by rw [f87 i (by omega), f65 i (by omega), f38 i (by omega), f25 i (by omega)]), trivial⟩ hP hS dX3_likelyFrom_173
    · have kc99 := jnle c99 rfl jz_0
      refine lv_ldc (v := 1000000) hx hb hown (hts _ kw_37_1) dX3_likelyFrom_136 ?_
      refine lv_goto (tgt := 142) hx hb dX3_likelyFrom_138 (by decide) ?_
      refine lv_istore (lv' := [(13, .int 1000000), (12, .int x98), (11, .int r86), (10, .int r64), (9, .int x47), (8, .int r37), (7, .int r27), (6, .int r24), (0, .ref (ad 43)), (1, .int a1), (2, .int 6), (3, .int a3), (4, .int a4), (5, .int a5)]) hx hb dX3_likelyFrom_142 hl (by decide) rfl (fun ls hl => ?_)
      refine lv_aload_n hx hb dX3_likelyFrom_144 rfl (lv_at hl 8 rfl) ?_
      refine va_get (D := D) hx hb hts inlX3 hown hK hP 43 (jc_43 cI cL ad σ85 τ) rfl 3 (by decide) (hts _ kw_6_5) (fun _ h9 => h9) rfl dX3_likelyFrom_145 ?_
      refine va_get (D := D) hx hb hts inlX6 hown hK hP 16 (jc_16 cI cL ad σ85 τ) rfl 2 (by decide) (hts _ kw_37_2) (fun _ h9 => h9) rfl dX3_likelyFrom_148 ?_
      have m109 : σ85 16 2 = (σ 16 2) := (by rw [f87 16 (by omega)]; exact (by rw [f65 16 (by omega)]; exact (by rw [f38 16 (by omega)]; exact (by rw [f25 16 (by omega)]))))
      refine jtopr m109 ?_
      refine lv_iload hx hb dX3_likelyFrom_151 (lv_at hl 0 rfl) ?_
      have g110 := jrg (rfl : (σ 16 2).toInt = (σ 16 2).toInt)
      refine lv_imul hx hb dX3_likelyFrom_153 ?_
      refine lv_topi (fun x111 ex111 => ?_)
      have tx111 : x111.toInt = 1000000 * (σ 16 2).toInt := (jmul ex111 rfl jz_1000000 (by omega) (by omega)).trans (by omega)
      refine lv_sipush (v := 1000) hx hb dX3_likelyFrom_154 (by decide) ?_
      refine lv_aload_n hx hb dX3_likelyFrom_157 rfl (lv_at hl 8 rfl) ?_
      refine va_get (D := D) hx hb hts inlX3 hown hK hP 43 (jc_43 cI cL ad σ85 τ) rfl 3 (by decide) (hts _ kw_6_5) (fun _ h9 => h9) rfl dX3_likelyFrom_158 ?_
      refine va_get (D := D) hx hb hts inlX6 hown hK hP 16 (jc_16 cI cL ad σ85 τ) rfl 2 (by decide) (hts _ kw_37_2) (fun _ h9 => h9) rfl dX3_likelyFrom_161 ?_
      refine jtopr m109 ?_
      refine lv_isub hx hb dX3_likelyFrom_164 ?_
      refine lv_topi (fun x112 ex112 => ?_)
      have tx112 : x112.toInt = -(σ 16 2).toInt + 1000 := (jsub ex112 jz_1000 rfl (by omega) (by omega)).trans (by omega)
      refine lv_iload hx hb dX3_likelyFrom_165 (lv_at hl 1 rfl) ?_
      have g113 := jrg (rfl : x98.toInt = x98.toInt)
      refine lv_imul hx hb dX3_likelyFrom_167 ?_
      refine lv_topi (fun x114 ex114 => ?_)
      have gx114 := jrg (rfl : x114.toInt = x114.toInt)
      have g115 := jrg (rfl : x114.toInt = x114.toInt)
      refine lv_iadd hx hb dX3_likelyFrom_168 ?_
      refine lv_topi (fun x116 ex116 => ?_)
      have gx116 := jrg (rfl : x116.toInt = x116.toInt)
      refine lv_sipush (v := 1000) hx hb dX3_likelyFrom_169 (by decide) ?_
      refine lv_idiv hx hb dX3_likelyFrom_172 (by decide) ?_
      refine lv_topi (fun x117 ex117 => ?_)
      have gx117 := jrg (rfl : x117.toInt = x117.toInt)
      exact hret x117 σ85 τ _ _ _ _ rfl ⟨rfl, (fun i hi => by rw [f87 i (by omega), f65 i (by omega), f38 i (by omega), f25 i (by omega)]), trivial⟩ hP hS dX3_likelyFrom_173
  · have kc17 := jne c17 rfl jz_0
    refine lv_iload hx hb dX3_likelyFrom_20 (lv_at hl 5 rfl) ?_
    refine lv_if_le (tgt := 30) hx hb dX3_likelyFrom_22 (by decide) (fun c118 => ?_) (fun c118 => ?_)
    · have kc118 := jle c118 t5 jz_0
      refine lv_iconst (v := 0) hx hb dX3_likelyFrom_30 (by decide) ?_
      exact hret 0 σ τ _ _ _ _ rfl ⟨rfl, (fun _ _ => rfl), trivial⟩ hP hS dX3_likelyFrom_31
    · have kc118 := jnle c118 t5 jz_0
      refine lv_ldc (v := 1000000) hx hb hown (hts _ kw_37_1) dX3_likelyFrom_25 ?_
      refine lv_goto (tgt := 31) hx hb dX3_likelyFrom_27 (by decide) ?_
      exact hret 1000000 σ τ _ _ _ _ rfl ⟨rfl, (fun _ _ => rfl), trivial⟩ hP hS dX3_likelyFrom_31
set_option maxHeartbeats 4000000 in
set_option maxRecDepth 100000 in
theorem c_X3_likelyFrom_5 (l : Launch) (D : va_G) (cI cL : ClassId) (ad zz : Nat → Nat) (hJ : jD ad) (σ : Nat → Nat → Int32) (τ : Nat → Nat → Int64) (a1 : Int32) (A1 : Int) (t1 : a1.toInt = A1) (a3 : Int32) (A3 : Int) (t3 : a3.toInt = A3) (a4 : Int32) (A4 : Int) (t4 : a4.toInt = A4) (a5 : Int32) (A5 : Int) (t5 : a5.toInt = A5) (hI16 : jI16 σ) (hI18 : jI18 σ) (hI22 : jI22 σ) (hI31 : jI31 σ) (hI38 : jI38 σ) : jM l yX3_likelyFrom cX3_likelyFrom 14 (some .int) ({ frames := 8, cells := 0, slots := 0, locals := 223 }) D cI cL ad zz [.ref (ad 43), .int a1, .int 5, .int a3, .int a4, .int a5] σ τ (fun r σ' τ' => τ = τ' ∧ (∀ i : Nat, (i < 20 ∨ 21 < i) ∧ (i < 24 ∨ 25 < i) ∧ (i < 29 ∨ 30 < i) → σ' i = σ i) ∧ True) := by
  refine jM.of hJ (by decide +kernel) (nt := .int) rfl (Nat.le_of_ble_eq_true rfl) ?_
  intro p e s m args below meth c Q ls hC hret hl hP
  obtain ⟨hx, hb, hr, hml, hown, hts, hK, -, hlocks, hZ⟩ := hC
  have hown : s.vm.findClass RX3 = some m.cls := hown
  have hS : va_S (jA ad) s.heap s.heap [] := va_S.rf
  have hA : ∀ q, jA ad q → jA ad q := fun _ h => h
  have hl : lv_has ls 14 [(0, .ref (ad 43)), (1, .int a1), (2, .int 5), (3, .int a3), (4, .int a4), (5, .int a5)] := hl
  have g1 := jrg t1
  have g3 := jrg t3
  have g4 := jrg t4
  have g5 := jrg t5
  obtain ⟨i1, i2, i3, w4⟩ : (1 ≤ (σ 16 0).toInt ∧ (σ 16 0).toInt ≤ 8) ∧ (1 ≤ (σ 16 1).toInt ∧ (σ 16 1).toInt ≤ 12) ∧ (0 ≤ (σ 16 2).toInt ∧ (σ 16 2).toInt ≤ 999) ∧ (∀ k : Nat, k < 8 → 0 ≤ (σ 17 k).toInt ∧ (σ 17 k).toInt ≤ 3) := id hI16
  obtain ⟨i5, w6⟩ : (0 ≤ (σ 18 0).toInt ∧ (σ 18 0).toInt ≤ 160) ∧ (∀ k : Nat, k < 160 → 0 ≤ (σ 19 k).toInt ∧ (σ 19 k).toInt ≤ 30000) := id hI18
  obtain ⟨i7, w8⟩ : (0 ≤ (σ 22 0).toInt ∧ (σ 22 0).toInt ≤ 160) ∧ (∀ k : Nat, k < 160 → 0 ≤ (σ 23 k).toInt ∧ (σ 23 k).toInt ≤ 30000) := id hI22
  obtain ⟨i9, w10, w11⟩ : (0 ≤ (σ 31 8).toInt ∧ (σ 31 8).toInt ≤ 350) ∧ (∀ k : Nat, k < 1400 → (-1) ≤ (σ 33 k).toInt ∧ (σ 33 k).toInt ≤ 350) ∧ (∀ k : Nat, k < 1024 → 0 ≤ (σ 36 k).toInt ∧ (σ 36 k).toInt ≤ 349) := id hI31
  obtain ⟨i12, i13, w14⟩ : (0 ≤ (σ 38 0).toInt ∧ (σ 38 0).toInt ≤ 20) ∧ (0 ≤ (σ 38 1).toInt ∧ (σ 38 1).toInt ≤ 1000) ∧ (∀ k : Nat, k < 20 → 0 ≤ (σ 39 k).toInt ∧ (σ 39 k).toInt ≤ 6) := id hI38
  refine lv_iload_n hx hb dX3_likelyFrom_0 rfl (lv_at hl 2 rfl) ?_
  refine lv_bipush (v := 8) hx hb dX3_likelyFrom_1 (by decide) ?_
  refine lv_icmp_ge (tgt := 20) hx hb dX3_likelyFrom_3 (by decide) (fun c => absurd c (by decide)) (fun _ => ?_)
  refine lv_aload_n hx hb dX3_likelyFrom_6 rfl (lv_at hl 0 rfl) ?_
  refine va_get (D := D) hx hb hts inlX3 hown hK hP 43 (jc_43 cI cL ad σ τ) rfl 3 (by decide) (hts _ kw_6_5) (fun _ h9 => h9) rfl dX3_likelyFrom_7 ?_
  refine lv_iload_n hx hb dX3_likelyFrom_10 rfl (lv_at hl 2 rfl) ?_
  refine lv_iload_n hx hb dX3_likelyFrom_11 rfl (lv_at hl 3 rfl) ?_
  refine lv_iload hx hb dX3_likelyFrom_12 (lv_at hl 4 rfl) ?_
  refine jcallV (As := [.int 5, .int a3, .int a4]) (rest := []) ⟨hx, hb, hml, hown, hts⟩ hK hP hA hS hZ (c_X6_ended_16 l D cI cL ad zz hJ σ τ 5 (5) jz_5 a3 (A3) t3 a4 (A4) t4) cw_RX3_123 (jc_16 cI cL ad σ τ) rfl ⟨Nat.le_of_ble_eq_true rfl, Nat.le_of_ble_eq_true rfl⟩ rfl rfl rfl hl.1 rfl (Nat.le_of_ble_eq_true rfl) dX3_likelyFrom_14 ⟨Nat.zero_le _, Nat.zero_le _⟩ (fun r16 σ15 τ15 H locs h15 hP hS => ?_)
  obtain ⟨⟨rfl, rfl⟩, h15⟩ := h15
  refine lv_if_eq (tgt := 32) hx hb dX3_likelyFrom_17 (by decide) (fun c17 => ?_) (fun c17 => ?_)
  · have kc17 := jeq c17 rfl jz_0
    refine lv_aload_n hx hb dX3_likelyFrom_32 rfl (lv_at hl 0 rfl) ?_
    refine lv_iload_n hx hb dX3_likelyFrom_33 rfl (lv_at hl 1 rfl) ?_
    refine lv_iload_n hx hb dX3_likelyFrom_34 rfl (lv_at hl 2 rfl) ?_
    refine lv_iload_n hx hb dX3_likelyFrom_35 rfl (lv_at hl 3 rfl) ?_
    refine lv_iload hx hb dX3_likelyFrom_36 (lv_at hl 4 rfl) ?_
    have I18 : jI16 σ := ⟨(by omega), (by omega), (by omega), w4⟩
    have I19 : jI18 σ := ⟨(by omega), w6⟩
    have I20 : jI22 σ := ⟨(by omega), w8⟩
    have I21 : jI31 σ := ⟨(by omega), w10, w11⟩
    have I22 : jI38 σ := ⟨(by omega), (by omega), w14⟩
    refine jcallV (As := [.int a1, .int 5, .int a3, .int a4]) (rest := []) ⟨hx, hb, hml, hown, hts⟩ hK hP hA hS hZ (c_X3_putOn_43 l D cI cL ad zz hJ σ τ a1 (A1) t1 5 (5) jz_5 a3 (A3) t3 a4 (A4) t4 I18 I19 I20 I21 I22) cw_RX3_127 (jc_43 cI cL ad σ τ) rfl ⟨Nat.le_of_ble_eq_true rfl, Nat.le_of_ble_eq_true rfl⟩ rfl rfl rfl hl.1 rfl (Nat.le_of_ble_eq_true rfl) dX3_likelyFrom_38 ⟨Nat.zero_le _, Nat.zero_le _⟩ (fun r24 σ23 τ23 H locs h23 hP hS => ?_)
    obtain ⟨rfl, f25, h23⟩ := h23
    refine lv_istore (lv' := [(6, .int r24), (0, .ref (ad 43)), (1, .int a1), (2, .int 5), (3, .int a3), (4, .int a4), (5, .int a5)]) hx hb dX3_likelyFrom_41 hl (by decide) rfl (fun ls hl => ?_)
    refine lv_iload hx hb dX3_likelyFrom_43 (lv_at hl 5 rfl) ?_
    refine lv_iload hx hb dX3_likelyFrom_45 (lv_at hl 0 rfl) ?_
    refine jcallS (As := [.int a4, .int r24]) (rest := []) ⟨hx, hb, hml, hown, hts⟩ hK hP hA hS hZ (c_X0_after l D cI cL ad zz hJ σ23 τ a4 (A4) t4 r24 (r24.toInt) rfl) cw_RX3_130 ⟨Nat.le_of_ble_eq_true rfl, Nat.le_of_ble_eq_true rfl⟩ rfl rfl rfl hl.1 rfl (Nat.le_of_ble_eq_true rfl) dX3_likelyFrom_47 ⟨Nat.zero_le _, Nat.zero_le _⟩ (fun r27 σ26 τ26 H locs h26 hP hS => ?_)
    obtain ⟨⟨rfl, rfl⟩, h26⟩ := h26
    refine lv_istore (lv' := [(7, .int r27), (6, .int r24), (0, .ref (ad 43)), (1, .int a1), (2, .int 5), (3, .int a3), (4, .int a4), (5, .int a5)]) hx hb dX3_likelyFrom_50 hl (by decide) rfl (fun ls hl => ?_)
    refine lv_aload_n hx hb dX3_likelyFrom_52 rfl (lv_at hl 2 rfl) ?_
    refine lv_iload hx hb dX3_likelyFrom_53 (lv_at hl 1 rfl) ?_
    refine lv_iload_n hx hb dX3_likelyFrom_55 rfl (lv_at hl 4 rfl) ?_
    refine lv_iload_n hx hb dX3_likelyFrom_56 rfl (lv_at hl 5 rfl) ?_
    refine lv_iload hx hb dX3_likelyFrom_57 (lv_at hl 6 rfl) ?_
    have z28 : (σ23 16 0).toInt = (σ 16 0).toInt := by rw [(show σ23 16 0 = (σ 16 0) from (by rw [f25 16 (by omega)]))]
    have z29 : (σ23 16 1).toInt = (σ 16 1).toInt := by rw [(show σ23 16 1 = (σ 16 1) from (by rw [f25 16 (by omega)]))]
    have z30 : (σ23 16 2).toInt = (σ 16 2).toInt := by rw [(show σ23 16 2 = (σ 16 2) from (by rw [f25 16 (by omega)]))]
    have w31 : ∀ k : Nat, k < 8 → 0 ≤ (σ23 17 k).toInt ∧ (σ23 17 k).toInt ≤ 3 := (by rw [f25 17 (by omega)]; exact w4)
    have I32 : jI16 σ23 := ⟨(by omega), (by omega), (by omega), w31⟩
    have z33 : (σ23 22 0).toInt = (σ 22 0).toInt := by rw [(show σ23 22 0 = (σ 22 0) from (by rw [f25 22 (by omega)]))]
    have w34 : ∀ k : Nat, k < 160 → 0 ≤ (σ23 23 k).toInt ∧ (σ23 23 k).toInt ≤ 30000 := (by rw [f25 23 (by omega)]; exact w8)
    have I35 : jI22 σ23 := ⟨(by omega), w34⟩
    refine jcallV (As := [.int r24, .int 5, .int a3, .int a4]) (rest := []) ⟨hx, hb, hml, hown, hts⟩ hK hP hA hS hZ (c_X3_outBy_43 l D cI cL ad zz hJ σ23 τ r24 (r24.toInt) rfl 5 (5) jz_5 a3 (A3) t3 a4 (A4) t4 I32 I35) cw_RX3_139 (jc_43 cI cL ad σ23 τ) rfl ⟨Nat.le_of_ble_eq_true rfl, Nat.le_of_ble_eq_true rfl⟩ rfl rfl rfl hl.1 rfl (Nat.le_of_ble_eq_true rfl) dX3_likelyFrom_59 ⟨Nat.zero_le _, Nat.zero_le _⟩ (fun r37 σ36 τ36 H locs h36 hP hS => ?_)
    obtain ⟨rfl, f38, h36⟩ := h36
    refine lv_istore (lv' := [(8, .int r37), (7, .int r27), (6, .int r24), (0, .ref (ad 43)), (1, .int a1), (2, .int 5), (3, .int a3), (4, .int a4), (5, .int a5)]) hx hb dX3_likelyFrom_62 hl (by decide) rfl (fun ls hl => ?_)
    refine lv_iload hx hb dX3_likelyFrom_64 (lv_at hl 8 rfl) ?_
    refine lv_aload_n hx hb dX3_likelyFrom_66 rfl (lv_at hl 3 rfl) ?_
    refine lv_iload hx hb dX3_likelyFrom_67 (lv_at hl 2 rfl) ?_
    refine lv_iload_n hx hb dX3_likelyFrom_69 rfl (lv_at hl 6 rfl) ?_
    refine lv_iload hx hb dX3_likelyFrom_70 (lv_at hl 7 rfl) ?_
    have z39 : (σ36 16 0).toInt = (σ 16 0).toInt := by rw [(show σ36 16 0 = (σ 16 0) from (by rw [f38 16 (by omega)]; exact (by rw [f25 16 (by omega)])))]
    have z40 : (σ36 16 1).toInt = (σ 16 1).toInt := by rw [(show σ36 16 1 = (σ 16 1) from (by rw [f38 16 (by omega)]; exact (by rw [f25 16 (by omega)])))]
    have z41 : (σ36 16 2).toInt = (σ 16 2).toInt := by rw [(show σ36 16 2 = (σ 16 2) from (by rw [f38 16 (by omega)]; exact (by rw [f25 16 (by omega)])))]
    have w42 : ∀ k : Nat, k < 8 → 0 ≤ (σ36 17 k).toInt ∧ (σ36 17 k).toInt ≤ 3 := (by rw [f38 17 (by omega)]; exact w31)
    have I43 : jI16 σ36 := ⟨(by omega), (by omega), (by omega), w42⟩
    refine jcallV (As := [.int r24, .int a3, .int a4]) (rest := [.int a5]) ⟨hx, hb, hml, hown, hts⟩ hK hP hA hS hZ (c_X3_runsBy_43 l D cI cL ad zz hJ σ36 τ r24 (r24.toInt) rfl a3 (A3) t3 a4 (A4) t4 I43) cw_RX3_136 (jc_43 cI cL ad σ36 τ) rfl ⟨Nat.le_of_ble_eq_true rfl, Nat.le_of_ble_eq_true rfl⟩ rfl rfl rfl hl.1 rfl (Nat.le_of_ble_eq_true rfl) dX3_likelyFrom_72 ⟨Nat.zero_le _, Nat.zero_le _⟩ (fun r45 σ44 τ44 H locs h44 hP hS => ?_)
    obtain ⟨⟨rfl, rfl⟩, h44⟩ := h44
    have g46 := jrg (rfl : r45.toInt = r45.toInt)
    refine lv_isub hx hb dX3_likelyFrom_75 ?_
    refine lv_topi (fun x47 ex47 => ?_)
    have gx47 := jrg (rfl : x47.toInt = x47.toInt)
    refine lv_istore (lv' := [(9, .int x47), (8, .int r37), (7, .int r27), (6, .int r24), (0, .ref (ad 43)), (1, .int a1), (2, .int 5), (3, .int a3), (4, .int a4), (5, .int a5)]) hx hb dX3_likelyFrom_76 hl (by decide) rfl (fun ls hl => ?_)
    refine lv_aload_n hx hb dX3_likelyFrom_78 rfl (lv_at hl 4 rfl) ?_
    refine lv_iload_n hx hb dX3_likelyFrom_79 rfl (lv_at hl 5 rfl) ?_
    refine lv_iload_n hx hb dX3_likelyFrom_80 rfl (lv_at hl 6 rfl) ?_
    refine lv_iconst (v := 1) hx hb dX3_likelyFrom_81 (by decide) ?_
    refine lv_iadd hx hb dX3_likelyFrom_82 ?_
    refine jtopr (y := 6) (by decide) ?_
    refine lv_iload_n hx hb dX3_likelyFrom_83 rfl (lv_at hl 7 rfl) ?_
    refine lv_iconst (v := 1) hx hb dX3_likelyFrom_84 (by decide) ?_
    refine lv_iadd hx hb dX3_likelyFrom_85 ?_
    refine lv_topi (fun x48 ex48 => ?_)
    have gx48 := jrg (rfl : x48.toInt = x48.toInt)
    refine lv_iload hx hb dX3_likelyFrom_86 (lv_at hl 2 rfl) ?_
    refine lv_iload hx hb dX3_likelyFrom_88 (lv_at hl 0 rfl) ?_
    have z49 : (σ36 18 0).toInt = (σ 18 0).toInt := by rw [(show σ36 18 0 = (σ 18 0) from (by rw [f38 18 (by omega)]; exact (by rw [f25 18 (by omega)])))]
    have w50 : ∀ k : Nat, k < 160 → 0 ≤ (σ36 19 k).toInt ∧ (σ36 19 k).toInt ≤ 30000 := (by rw [f38 19 (by omega)]; exact (by rw [f25 19 (by omega)]; exact w6))
    have I51 : jI18 σ36 := ⟨(by omega), w50⟩
    have z52 : (σ36 22 0).toInt = (σ 22 0).toInt := by rw [(show σ36 22 0 = (σ 22 0) from (by rw [f38 22 (by omega)]; exact (by rw [f25 22 (by omega)])))]
    have w53 : ∀ k : Nat, k < 160 → 0 ≤ (σ36 23 k).toInt ∧ (σ36 23 k).toInt ≤ 30000 := (by rw [f38 23 (by omega)]; exact w34)
    have I54 : jI22 σ36 := ⟨(by omega), w53⟩
    have z55 : (σ36 31 8).toInt = (σ 31 8).toInt := by rw [(show σ36 31 8 = (σ 31 8) from (by rw [f38 31 (by omega)]; exact (by rw [f25 31 (by omega)])))]
    have w56 : ∀ k : Nat, k < 1400 → (-1) ≤ (σ36 33 k).toInt ∧ (σ36 33 k).toInt ≤ 350 := (by rw [f38 33 (by omega)]; exact (by rw [f25 33 (by omega)]; exact w10))
    have w57 : ∀ k : Nat, k < 1024 → 0 ≤ (σ36 36 k).toInt ∧ (σ36 36 k).toInt ≤ 349 := (by rw [f38 36 (by omega)]; exact (by rw [f25 36 (by omega)]; exact w11))
    have I58 : jI31 σ36 := ⟨(by omega), w56, w57⟩
    have z59 : (σ36 38 0).toInt = (σ 38 0).toInt := by rw [(show σ36 38 0 = (σ 38 0) from (by rw [f38 38 (by omega)]; exact (by rw [f25 38 (by omega)])))]
    have z60 : (σ36 38 1).toInt = (σ 38 1).toInt := by rw [(show σ36 38 1 = (σ 38 1) from (by rw [f38 38 (by omega)]; exact (by rw [f25 38 (by omega)])))]
    have w61 : ∀ k : Nat, k < 20 → 0 ≤ (σ36 39 k).toInt ∧ (σ36 39 k).toInt ≤ 6 := (by rw [f38 39 (by omega)]; exact (by rw [f25 39 (by omega)]; exact w14))
    have I62 : jI38 σ36 := ⟨(by omega), (by omega), w61⟩
    refine jcallV (As := [.int a1, .int 6, .int x48, .int r27, .int x47]) (rest := []) ⟨hx, hb, hml, hown, hts⟩ hK hP hA hS hZ (c_X3_likelyFrom_6 l D cI cL ad zz hJ σ36 τ a1 (A1) t1 x48 (x48.toInt) rfl r27 (r27.toInt) rfl x47 (x47.toInt) rfl I43 I51 I54 I58 I62) cw_RX3_146 (jc_43 cI cL ad σ36 τ) rfl ⟨Nat.le_of_ble_eq_true rfl, Nat.le_of_ble_eq_true rfl⟩ rfl rfl rfl hl.1 rfl (Nat.le_of_ble_eq_true rfl) dX3_likelyFrom_90 ⟨Nat.zero_le _, Nat.zero_le _⟩ (fun r64 σ63 τ63 H locs h63 hP hS => ?_)
    obtain ⟨rfl, f65, h63⟩ := h63
    refine lv_istore (lv' := [(10, .int r64), (9, .int x47), (8, .int r37), (7, .int r27), (6, .int r24), (0, .ref (ad 43)), (1, .int a1), (2, .int 5), (3, .int a3), (4, .int a4), (5, .int a5)]) hx hb dX3_likelyFrom_93 hl (by decide) rfl (fun ls hl => ?_)
    refine lv_aload_n hx hb dX3_likelyFrom_95 rfl (lv_at hl 5 rfl) ?_
    refine lv_iload_n hx hb dX3_likelyFrom_96 rfl (lv_at hl 6 rfl) ?_
    refine lv_iload_n hx hb dX3_likelyFrom_97 rfl (lv_at hl 7 rfl) ?_
    refine lv_iconst (v := 1) hx hb dX3_likelyFrom_98 (by decide) ?_
    refine lv_iadd hx hb dX3_likelyFrom_99 ?_
    refine jtopr (y := 6) (by decide) ?_
    refine lv_iload_n hx hb dX3_likelyFrom_100 rfl (lv_at hl 8 rfl) ?_
    refine lv_iload hx hb dX3_likelyFrom_101 (lv_at hl 3 rfl) ?_
    refine lv_iload hx hb dX3_likelyFrom_103 (lv_at hl 1 rfl) ?_
    have z66 : (σ63 16 0).toInt = (σ 16 0).toInt := by rw [(show σ63 16 0 = (σ 16 0) from (by rw [f65 16 (by omega)]; exact (by rw [f38 16 (by omega)]; exact (by rw [f25 16 (by omega)]))))]
    have z67 : (σ63 16 1).toInt = (σ 16 1).toInt := by rw [(show σ63 16 1 = (σ 16 1) from (by rw [f65 16 (by omega)]; exact (by rw [f38 16 (by omega)]; exact (by rw [f25 16 (by omega)]))))]
    have z68 : (σ63 16 2).toInt = (σ 16 2).toInt := by rw [(show σ63 16 2 = (σ 16 2) from (by rw [f65 16 (by omega)]; exact (by rw [f38 16 (by omega)]; exact (by rw [f25 16 (by omega)]))))]
    have w69 : ∀ k : Nat, k < 8 → 0 ≤ (σ63 17 k).toInt ∧ (σ63 17 k).toInt ≤ 3 := (by rw [f65 17 (by omega)]; exact w42)
    have I70 : jI16 σ63 := ⟨(by omega), (by omega), (by omega), w69⟩
    have z71 : (σ63 18 0).toInt = (σ 18 0).toInt := by rw [(show σ63 18 0 = (σ 18 0) from (by rw [f65 18 (by omega)]; exact (by rw [f38 18 (by omega)]; exact (by rw [f25 18 (by omega)]))))]
    have w72 : ∀ k : Nat, k < 160 → 0 ≤ (σ63 19 k).toInt ∧ (σ63 19 k).toInt ≤ 30000 := (by rw [f65 19 (by omega)]; exact w50)
    have I73 : jI18 σ63 := ⟨(by omega), w72⟩
    have z74 : (σ63 22 0).toInt = (σ 22 0).toInt := by rw [(show σ63 22 0 = (σ 22 0) from (by rw [f65 22 (by omega)]; exact (by rw [f38 22 (by omega)]; exact (by rw [f25 22 (by omega)]))))]
    have w75 : ∀ k : Nat, k < 160 → 0 ≤ (σ63 23 k).toInt ∧ (σ63 23 k).toInt ≤ 30000 := (by rw [f65 23 (by omega)]; exact w53)
    have I76 : jI22 σ63 := ⟨(by omega), w75⟩
    have z77 : (σ63 31 8).toInt = (σ 31 8).toInt := by rw [(show σ63 31 8 = (σ 31 8) from (by rw [f65 31 (by omega)]; exact (by rw [f38 31 (by omega)]; exact (by rw [f25 31 (by omega)]))))]
    have w78 : ∀ k : Nat, k < 1400 → (-1) ≤ (σ63 33 k).toInt ∧ (σ63 33 k).toInt ≤ 350 := (by rw [f65 33 (by omega)]; exact w56)
    have w79 : ∀ k : Nat, k < 1024 → 0 ≤ (σ63 36 k).toInt ∧ (σ63 36 k).toInt ≤ 349 := (by rw [f65 36 (by omega)]; exact w57)
    have I80 : jI31 σ63 := ⟨(by omega), w78, w79⟩
    have z81 : (σ63 38 0).toInt = (σ 38 0).toInt := by rw [(show σ63 38 0 = (σ 38 0) from (by rw [f65 38 (by omega)]; exact (by rw [f38 38 (by omega)]; exact (by rw [f25 38 (by omega)]))))]
    have z82 : (σ63 38 1).toInt = (σ 38 1).toInt := by rw [(show σ63 38 1 = (σ 38 1) from (by rw [f65 38 (by omega)]; exact (by rw [f38 38 (by omega)]; exact (by rw [f25 38 (by omega)]))))]
    have w83 : ∀ k : Nat, k < 20 → 0 ≤ (σ63 39 k).toInt ∧ (σ63 39 k).toInt ≤ 6 := (by rw [f65 39 (by omega)]; exact w61)
    have I84 : jI38 σ63 := ⟨(by omega), (by omega), w83⟩
    refine jcallV (As := [.int a1, .int 6, .int a3, .int r27, .int x47]) (rest := []) ⟨hx, hb, hml, hown, hts⟩ hK hP hA hS hZ (c_X3_likelyFrom_6 l D cI cL ad zz hJ σ63 τ a1 (A1) t1 a3 (A3) t3 r27 (r27.toInt) rfl x47 (x47.toInt) rfl I70 I73 I76 I80 I84) cw_RX3_146 (jc_43 cI cL ad σ63 τ) rfl ⟨Nat.le_of_ble_eq_true rfl, Nat.le_of_ble_eq_true rfl⟩ rfl rfl rfl hl.1 rfl (Nat.le_of_ble_eq_true rfl) dX3_likelyFrom_105 ⟨Nat.zero_le _, Nat.zero_le _⟩ (fun r86 σ85 τ85 H locs h85 hP hS => ?_)
    obtain ⟨rfl, f87, h85⟩ := h85
    refine lv_istore (lv' := [(11, .int r86), (10, .int r64), (9, .int x47), (8, .int r37), (7, .int r27), (6, .int r24), (0, .ref (ad 43)), (1, .int a1), (2, .int 5), (3, .int a3), (4, .int a4), (5, .int a5)]) hx hb dX3_likelyFrom_108 hl (by decide) rfl (fun ls hl => ?_)
    refine lv_iload hx hb dX3_likelyFrom_110 (lv_at hl 3 rfl) ?_
    refine lv_iload hx hb dX3_likelyFrom_112 (lv_at hl 1 rfl) ?_
    have g88 := jrg (rfl : r37.toInt = r37.toInt)
    have g89 := jrg (rfl : r64.toInt = r64.toInt)
    refine lv_imul hx hb dX3_likelyFrom_114 ?_
    refine lv_topi (fun x90 ex90 => ?_)
    have gx90 := jrg (rfl : x90.toInt = x90.toInt)
    refine lv_sipush (v := 1000) hx hb dX3_likelyFrom_115 (by decide) ?_
    refine lv_iload hx hb dX3_likelyFrom_118 (lv_at hl 3 rfl) ?_
    refine lv_isub hx hb dX3_likelyFrom_120 ?_
    refine lv_topi (fun x91 ex91 => ?_)
    have gx91 := jrg (rfl : x91.toInt = x91.toInt)
    refine lv_iload hx hb dX3_likelyFrom_121 (lv_at hl 0 rfl) ?_
    have g92 := jrg (rfl : x91.toInt = x91.toInt)
    have g93 := jrg (rfl : r86.toInt = r86.toInt)
    refine lv_imul hx hb dX3_likelyFrom_123 ?_
    refine lv_topi (fun x94 ex94 => ?_)
    have gx94 := jrg (rfl : x94.toInt = x94.toInt)
    have g95 := jrg (rfl : x90.toInt = x90.toInt)
    have g96 := jrg (rfl : x94.toInt = x94.toInt)
    refine lv_iadd hx hb dX3_likelyFrom_124 ?_
    refine lv_topi (fun x97 ex97 => ?_)
    have gx97 := jrg (rfl : x97.toInt = x97.toInt)
    refine lv_sipush (v := 1000) hx hb dX3_likelyFrom_125 (by decide) ?_
    refine lv_idiv hx hb dX3_likelyFrom_128 (by decide) ?_
    refine lv_topi (fun x98 ex98 => ?_)
    have gx98 := jrg (rfl : x98.toInt = x98.toInt)
    refine lv_istore (lv' := [(12, .int x98), (11, .int r86), (10, .int r64), (9, .int x47), (8, .int r37), (7, .int r27), (6, .int r24), (0, .ref (ad 43)), (1, .int a1), (2, .int 5), (3, .int a3), (4, .int a4), (5, .int a5)]) hx hb dX3_likelyFrom_129 hl (by decide) rfl (fun ls hl => ?_)
    refine lv_iload hx hb dX3_likelyFrom_131 (lv_at hl 3 rfl) ?_
    refine lv_if_le (tgt := 141) hx hb dX3_likelyFrom_133 (by decide) (fun c99 => ?_) (fun c99 => ?_)
    · have kc99 := jle c99 rfl jz_0
      refine lv_iconst (v := 0) hx hb dX3_likelyFrom_141 (by decide) ?_
      refine lv_istore (lv' := [(13, .int 0), (12, .int x98), (11, .int r86), (10, .int r64), (9, .int x47), (8, .int r37), (7, .int r27), (6, .int r24), (0, .ref (ad 43)), (1, .int a1), (2, .int 5), (3, .int a3), (4, .int a4), (5, .int a5)]) hx hb dX3_likelyFrom_142 hl (by decide) rfl (fun ls hl => ?_)
      refine lv_aload_n hx hb dX3_likelyFrom_144 rfl (lv_at hl 8 rfl) ?_
      refine va_get (D := D) hx hb hts inlX3 hown hK hP 43 (jc_43 cI cL ad σ85 τ) rfl 3 (by decide) (hts _ kw_6_5) (fun _ h9 => h9) rfl dX3_likelyFrom_145 ?_
      refine va_get (D := D) hx hb hts inlX6 hown hK hP 16 (jc_16 cI cL ad σ85 τ) rfl 2 (by decide) (hts _ kw_37_2) (fun _ h9 => h9) rfl dX3_likelyFrom_148 ?_
      have m100 : σ85 16 2 = (σ 16 2) := (by rw [f87 16 (by omega)]; exact (by rw [f65 16 (by omega)]; exact (by rw [f38 16 (by omega)]; exact (by rw [f25 16 (by omega)]))))
      refine jtopr m100 ?_
      refine lv_iload hx hb dX3_likelyFrom_151 (lv_at hl 0 rfl) ?_
      refine lv_imul hx hb dX3_likelyFrom_153 ?_
      refine lv_topi (fun x101 ex101 => ?_)
      have tx101 : x101.toInt = 0 := (jmul ex101 rfl jz_0 (by omega) (by omega)).trans (by omega)
      refine lv_sipush (v := 1000) hx hb dX3_likelyFrom_154 (by decide) ?_
      refine lv_aload_n hx hb dX3_likelyFrom_157 rfl (lv_at hl 8 rfl) ?_
      refine va_get (D := D) hx hb hts inlX3 hown hK hP 43 (jc_43 cI cL ad σ85 τ) rfl 3 (by decide) (hts _ kw_6_5) (fun _ h9 => h9) rfl dX3_likelyFrom_158 ?_
      refine va_get (D := D) hx hb hts inlX6 hown hK hP 16 (jc_16 cI cL ad σ85 τ) rfl 2 (by decide) (hts _ kw_37_2) (fun _ h9 => h9) rfl dX3_likelyFrom_161 ?_
      refine jtopr m100 ?_
      have g102 := jrg (rfl : (σ 16 2).toInt = (σ 16 2).toInt)
      refine lv_isub hx hb dX3_likelyFrom_164 ?_
      refine lv_topi (fun x103 ex103 => ?_)
      have tx103 : x103.toInt = -(σ 16 2).toInt + 1000 := (jsub ex103 jz_1000 rfl (by omega) (by omega)).trans (by omega)
      refine lv_iload hx hb dX3_likelyFrom_165 (lv_at hl 1 rfl) ?_
      have g104 := jrg (rfl : x98.toInt = x98.toInt)
      refine lv_imul hx hb dX3_likelyFrom_167 ?_
      refine lv_topi (fun x105 ex105 => ?_)
      have gx105 := jrg (rfl : x105.toInt = x105.toInt)
      have g106 := jrg (rfl : x105.toInt = x105.toInt)
      refine lv_iadd hx hb dX3_likelyFrom_168 ?_
      refine lv_topi (fun x107 ex107 => ?_)
      have tx107 : x107.toInt = x105.toInt := (jadd ex107 tx101 rfl (by omega) (by omega)).trans (by omega)
      refine lv_sipush (v := 1000) hx hb dX3_likelyFrom_169 (by decide) ?_
      refine lv_idiv hx hb dX3_likelyFrom_172 (by decide) ?_
      refine lv_topi (fun x108 ex108 => ?_)
      have gx108 := jrg (rfl : x108.toInt = x108.toInt)
      exact hret x108 σ85 τ _ _ _ _ rfl ⟨rfl, (fun i hi => by rw [f87 i (by omega), f65 i (by omega), f38 i (by omega), f25 i (by omega)]), trivial⟩ hP hS dX3_likelyFrom_173
    · have kc99 := jnle c99 rfl jz_0
      refine lv_ldc (v := 1000000) hx hb hown (hts _ kw_37_1) dX3_likelyFrom_136 ?_
      refine lv_goto (tgt := 142) hx hb dX3_likelyFrom_138 (by decide) ?_
      refine lv_istore (lv' := [(13, .int 1000000), (12, .int x98), (11, .int r86), (10, .int r64), (9, .int x47), (8, .int r37), (7, .int r27), (6, .int r24), (0, .ref (ad 43)), (1, .int a1), (2, .int 5), (3, .int a3), (4, .int a4), (5, .int a5)]) hx hb dX3_likelyFrom_142 hl (by decide) rfl (fun ls hl => ?_)
      refine lv_aload_n hx hb dX3_likelyFrom_144 rfl (lv_at hl 8 rfl) ?_
      refine va_get (D := D) hx hb hts inlX3 hown hK hP 43 (jc_43 cI cL ad σ85 τ) rfl 3 (by decide) (hts _ kw_6_5) (fun _ h9 => h9) rfl dX3_likelyFrom_145 ?_
      refine va_get (D := D) hx hb hts inlX6 hown hK hP 16 (jc_16 cI cL ad σ85 τ) rfl 2 (by decide) (hts _ kw_37_2) (fun _ h9 => h9) rfl dX3_likelyFrom_148 ?_
      have m109 : σ85 16 2 = (σ 16 2) := (by rw [f87 16 (by omega)]; exact (by rw [f65 16 (by omega)]; exact (by rw [f38 16 (by omega)]; exact (by rw [f25 16 (by omega)]))))
      refine jtopr m109 ?_
      refine lv_iload hx hb dX3_likelyFrom_151 (lv_at hl 0 rfl) ?_
      have g110 := jrg (rfl : (σ 16 2).toInt = (σ 16 2).toInt)
      refine lv_imul hx hb dX3_likelyFrom_153 ?_
      refine lv_topi (fun x111 ex111 => ?_)
      have tx111 : x111.toInt = 1000000 * (σ 16 2).toInt := (jmul ex111 rfl jz_1000000 (by omega) (by omega)).trans (by omega)
      refine lv_sipush (v := 1000) hx hb dX3_likelyFrom_154 (by decide) ?_
      refine lv_aload_n hx hb dX3_likelyFrom_157 rfl (lv_at hl 8 rfl) ?_
      refine va_get (D := D) hx hb hts inlX3 hown hK hP 43 (jc_43 cI cL ad σ85 τ) rfl 3 (by decide) (hts _ kw_6_5) (fun _ h9 => h9) rfl dX3_likelyFrom_158 ?_
      refine va_get (D := D) hx hb hts inlX6 hown hK hP 16 (jc_16 cI cL ad σ85 τ) rfl 2 (by decide) (hts _ kw_37_2) (fun _ h9 => h9) rfl dX3_likelyFrom_161 ?_
      refine jtopr m109 ?_
      refine lv_isub hx hb dX3_likelyFrom_164 ?_
      refine lv_topi (fun x112 ex112 => ?_)
      have tx112 : x112.toInt = -(σ 16 2).toInt + 1000 := (jsub ex112 jz_1000 rfl (by omega) (by omega)).trans (by omega)
      refine lv_iload hx hb dX3_likelyFrom_165 (lv_at hl 1 rfl) ?_
      have g113 := jrg (rfl : x98.toInt = x98.toInt)
      refine lv_imul hx hb dX3_likelyFrom_167 ?_
      refine lv_topi (fun x114 ex114 => ?_)
      have gx114 := jrg (rfl : x114.toInt = x114.toInt)
      have g115 := jrg (rfl : x114.toInt = x114.toInt)
      refine lv_iadd hx hb dX3_likelyFrom_168 ?_
      refine lv_topi (fun x116 ex116 => ?_)
      have gx116 := jrg (rfl : x116.toInt = x116.toInt)
      refine lv_sipush (v := 1000) hx hb dX3_likelyFrom_169 (by decide) ?_
      refine lv_idiv hx hb dX3_likelyFrom_172 (by decide) ?_
      refine lv_topi (fun x117 ex117 => ?_)
      have gx117 := jrg (rfl : x117.toInt = x117.toInt)
      exact hret x117 σ85 τ _ _ _ _ rfl ⟨rfl, (fun i hi => by rw [f87 i (by omega), f65 i (by omega), f38 i (by omega), f25 i (by omega)]), trivial⟩ hP hS dX3_likelyFrom_173
  · have kc17 := jne c17 rfl jz_0
    refine lv_iload hx hb dX3_likelyFrom_20 (lv_at hl 5 rfl) ?_
    refine lv_if_le (tgt := 30) hx hb dX3_likelyFrom_22 (by decide) (fun c118 => ?_) (fun c118 => ?_)
    · have kc118 := jle c118 t5 jz_0
      refine lv_iconst (v := 0) hx hb dX3_likelyFrom_30 (by decide) ?_
      exact hret 0 σ τ _ _ _ _ rfl ⟨rfl, (fun _ _ => rfl), trivial⟩ hP hS dX3_likelyFrom_31
    · have kc118 := jnle c118 t5 jz_0
      refine lv_ldc (v := 1000000) hx hb hown (hts _ kw_37_1) dX3_likelyFrom_25 ?_
      refine lv_goto (tgt := 31) hx hb dX3_likelyFrom_27 (by decide) ?_
      exact hret 1000000 σ τ _ _ _ _ rfl ⟨rfl, (fun _ _ => rfl), trivial⟩ hP hS dX3_likelyFrom_31
set_option maxHeartbeats 4000000 in
set_option maxRecDepth 100000 in
theorem c_X3_likelyFrom_4 (l : Launch) (D : va_G) (cI cL : ClassId) (ad zz : Nat → Nat) (hJ : jD ad) (σ : Nat → Nat → Int32) (τ : Nat → Nat → Int64) (a1 : Int32) (A1 : Int) (t1 : a1.toInt = A1) (a3 : Int32) (A3 : Int) (t3 : a3.toInt = A3) (a4 : Int32) (A4 : Int) (t4 : a4.toInt = A4) (a5 : Int32) (A5 : Int) (t5 : a5.toInt = A5) (hI16 : jI16 σ) (hI18 : jI18 σ) (hI22 : jI22 σ) (hI31 : jI31 σ) (hI38 : jI38 σ) : jM l yX3_likelyFrom cX3_likelyFrom 14 (some .int) ({ frames := 9, cells := 0, slots := 0, locals := 256 }) D cI cL ad zz [.ref (ad 43), .int a1, .int 4, .int a3, .int a4, .int a5] σ τ (fun r σ' τ' => τ = τ' ∧ (∀ i : Nat, (i < 20 ∨ 21 < i) ∧ (i < 24 ∨ 25 < i) ∧ (i < 29 ∨ 30 < i) → σ' i = σ i) ∧ True) := by
  refine jM.of hJ (by decide +kernel) (nt := .int) rfl (Nat.le_of_ble_eq_true rfl) ?_
  intro p e s m args below meth c Q ls hC hret hl hP
  obtain ⟨hx, hb, hr, hml, hown, hts, hK, -, hlocks, hZ⟩ := hC
  have hown : s.vm.findClass RX3 = some m.cls := hown
  have hS : va_S (jA ad) s.heap s.heap [] := va_S.rf
  have hA : ∀ q, jA ad q → jA ad q := fun _ h => h
  have hl : lv_has ls 14 [(0, .ref (ad 43)), (1, .int a1), (2, .int 4), (3, .int a3), (4, .int a4), (5, .int a5)] := hl
  have g1 := jrg t1
  have g3 := jrg t3
  have g4 := jrg t4
  have g5 := jrg t5
  obtain ⟨i1, i2, i3, w4⟩ : (1 ≤ (σ 16 0).toInt ∧ (σ 16 0).toInt ≤ 8) ∧ (1 ≤ (σ 16 1).toInt ∧ (σ 16 1).toInt ≤ 12) ∧ (0 ≤ (σ 16 2).toInt ∧ (σ 16 2).toInt ≤ 999) ∧ (∀ k : Nat, k < 8 → 0 ≤ (σ 17 k).toInt ∧ (σ 17 k).toInt ≤ 3) := id hI16
  obtain ⟨i5, w6⟩ : (0 ≤ (σ 18 0).toInt ∧ (σ 18 0).toInt ≤ 160) ∧ (∀ k : Nat, k < 160 → 0 ≤ (σ 19 k).toInt ∧ (σ 19 k).toInt ≤ 30000) := id hI18
  obtain ⟨i7, w8⟩ : (0 ≤ (σ 22 0).toInt ∧ (σ 22 0).toInt ≤ 160) ∧ (∀ k : Nat, k < 160 → 0 ≤ (σ 23 k).toInt ∧ (σ 23 k).toInt ≤ 30000) := id hI22
  obtain ⟨i9, w10, w11⟩ : (0 ≤ (σ 31 8).toInt ∧ (σ 31 8).toInt ≤ 350) ∧ (∀ k : Nat, k < 1400 → (-1) ≤ (σ 33 k).toInt ∧ (σ 33 k).toInt ≤ 350) ∧ (∀ k : Nat, k < 1024 → 0 ≤ (σ 36 k).toInt ∧ (σ 36 k).toInt ≤ 349) := id hI31
  obtain ⟨i12, i13, w14⟩ : (0 ≤ (σ 38 0).toInt ∧ (σ 38 0).toInt ≤ 20) ∧ (0 ≤ (σ 38 1).toInt ∧ (σ 38 1).toInt ≤ 1000) ∧ (∀ k : Nat, k < 20 → 0 ≤ (σ 39 k).toInt ∧ (σ 39 k).toInt ≤ 6) := id hI38
  refine lv_iload_n hx hb dX3_likelyFrom_0 rfl (lv_at hl 2 rfl) ?_
  refine lv_bipush (v := 8) hx hb dX3_likelyFrom_1 (by decide) ?_
  refine lv_icmp_ge (tgt := 20) hx hb dX3_likelyFrom_3 (by decide) (fun c => absurd c (by decide)) (fun _ => ?_)
  refine lv_aload_n hx hb dX3_likelyFrom_6 rfl (lv_at hl 0 rfl) ?_
  refine va_get (D := D) hx hb hts inlX3 hown hK hP 43 (jc_43 cI cL ad σ τ) rfl 3 (by decide) (hts _ kw_6_5) (fun _ h9 => h9) rfl dX3_likelyFrom_7 ?_
  refine lv_iload_n hx hb dX3_likelyFrom_10 rfl (lv_at hl 2 rfl) ?_
  refine lv_iload_n hx hb dX3_likelyFrom_11 rfl (lv_at hl 3 rfl) ?_
  refine lv_iload hx hb dX3_likelyFrom_12 (lv_at hl 4 rfl) ?_
  refine jcallV (As := [.int 4, .int a3, .int a4]) (rest := []) ⟨hx, hb, hml, hown, hts⟩ hK hP hA hS hZ (c_X6_ended_16 l D cI cL ad zz hJ σ τ 4 (4) jz_4 a3 (A3) t3 a4 (A4) t4) cw_RX3_123 (jc_16 cI cL ad σ τ) rfl ⟨Nat.le_of_ble_eq_true rfl, Nat.le_of_ble_eq_true rfl⟩ rfl rfl rfl hl.1 rfl (Nat.le_of_ble_eq_true rfl) dX3_likelyFrom_14 ⟨Nat.zero_le _, Nat.zero_le _⟩ (fun r16 σ15 τ15 H locs h15 hP hS => ?_)
  obtain ⟨⟨rfl, rfl⟩, h15⟩ := h15
  refine lv_if_eq (tgt := 32) hx hb dX3_likelyFrom_17 (by decide) (fun c17 => ?_) (fun c17 => ?_)
  · have kc17 := jeq c17 rfl jz_0
    refine lv_aload_n hx hb dX3_likelyFrom_32 rfl (lv_at hl 0 rfl) ?_
    refine lv_iload_n hx hb dX3_likelyFrom_33 rfl (lv_at hl 1 rfl) ?_
    refine lv_iload_n hx hb dX3_likelyFrom_34 rfl (lv_at hl 2 rfl) ?_
    refine lv_iload_n hx hb dX3_likelyFrom_35 rfl (lv_at hl 3 rfl) ?_
    refine lv_iload hx hb dX3_likelyFrom_36 (lv_at hl 4 rfl) ?_
    have I18 : jI16 σ := ⟨(by omega), (by omega), (by omega), w4⟩
    have I19 : jI18 σ := ⟨(by omega), w6⟩
    have I20 : jI22 σ := ⟨(by omega), w8⟩
    have I21 : jI31 σ := ⟨(by omega), w10, w11⟩
    have I22 : jI38 σ := ⟨(by omega), (by omega), w14⟩
    refine jcallV (As := [.int a1, .int 4, .int a3, .int a4]) (rest := []) ⟨hx, hb, hml, hown, hts⟩ hK hP hA hS hZ (c_X3_putOn_43 l D cI cL ad zz hJ σ τ a1 (A1) t1 4 (4) jz_4 a3 (A3) t3 a4 (A4) t4 I18 I19 I20 I21 I22) cw_RX3_127 (jc_43 cI cL ad σ τ) rfl ⟨Nat.le_of_ble_eq_true rfl, Nat.le_of_ble_eq_true rfl⟩ rfl rfl rfl hl.1 rfl (Nat.le_of_ble_eq_true rfl) dX3_likelyFrom_38 ⟨Nat.zero_le _, Nat.zero_le _⟩ (fun r24 σ23 τ23 H locs h23 hP hS => ?_)
    obtain ⟨rfl, f25, h23⟩ := h23
    refine lv_istore (lv' := [(6, .int r24), (0, .ref (ad 43)), (1, .int a1), (2, .int 4), (3, .int a3), (4, .int a4), (5, .int a5)]) hx hb dX3_likelyFrom_41 hl (by decide) rfl (fun ls hl => ?_)
    refine lv_iload hx hb dX3_likelyFrom_43 (lv_at hl 5 rfl) ?_
    refine lv_iload hx hb dX3_likelyFrom_45 (lv_at hl 0 rfl) ?_
    refine jcallS (As := [.int a4, .int r24]) (rest := []) ⟨hx, hb, hml, hown, hts⟩ hK hP hA hS hZ (c_X0_after l D cI cL ad zz hJ σ23 τ a4 (A4) t4 r24 (r24.toInt) rfl) cw_RX3_130 ⟨Nat.le_of_ble_eq_true rfl, Nat.le_of_ble_eq_true rfl⟩ rfl rfl rfl hl.1 rfl (Nat.le_of_ble_eq_true rfl) dX3_likelyFrom_47 ⟨Nat.zero_le _, Nat.zero_le _⟩ (fun r27 σ26 τ26 H locs h26 hP hS => ?_)
    obtain ⟨⟨rfl, rfl⟩, h26⟩ := h26
    refine lv_istore (lv' := [(7, .int r27), (6, .int r24), (0, .ref (ad 43)), (1, .int a1), (2, .int 4), (3, .int a3), (4, .int a4), (5, .int a5)]) hx hb dX3_likelyFrom_50 hl (by decide) rfl (fun ls hl => ?_)
    refine lv_aload_n hx hb dX3_likelyFrom_52 rfl (lv_at hl 2 rfl) ?_
    refine lv_iload hx hb dX3_likelyFrom_53 (lv_at hl 1 rfl) ?_
    refine lv_iload_n hx hb dX3_likelyFrom_55 rfl (lv_at hl 4 rfl) ?_
    refine lv_iload_n hx hb dX3_likelyFrom_56 rfl (lv_at hl 5 rfl) ?_
    refine lv_iload hx hb dX3_likelyFrom_57 (lv_at hl 6 rfl) ?_
    have z28 : (σ23 16 0).toInt = (σ 16 0).toInt := by rw [(show σ23 16 0 = (σ 16 0) from (by rw [f25 16 (by omega)]))]
    have z29 : (σ23 16 1).toInt = (σ 16 1).toInt := by rw [(show σ23 16 1 = (σ 16 1) from (by rw [f25 16 (by omega)]))]
    have z30 : (σ23 16 2).toInt = (σ 16 2).toInt := by rw [(show σ23 16 2 = (σ 16 2) from (by rw [f25 16 (by omega)]))]
    have w31 : ∀ k : Nat, k < 8 → 0 ≤ (σ23 17 k).toInt ∧ (σ23 17 k).toInt ≤ 3 := (by rw [f25 17 (by omega)]; exact w4)
    have I32 : jI16 σ23 := ⟨(by omega), (by omega), (by omega), w31⟩
    have z33 : (σ23 22 0).toInt = (σ 22 0).toInt := by rw [(show σ23 22 0 = (σ 22 0) from (by rw [f25 22 (by omega)]))]
    have w34 : ∀ k : Nat, k < 160 → 0 ≤ (σ23 23 k).toInt ∧ (σ23 23 k).toInt ≤ 30000 := (by rw [f25 23 (by omega)]; exact w8)
    have I35 : jI22 σ23 := ⟨(by omega), w34⟩
    refine jcallV (As := [.int r24, .int 4, .int a3, .int a4]) (rest := []) ⟨hx, hb, hml, hown, hts⟩ hK hP hA hS hZ (c_X3_outBy_43 l D cI cL ad zz hJ σ23 τ r24 (r24.toInt) rfl 4 (4) jz_4 a3 (A3) t3 a4 (A4) t4 I32 I35) cw_RX3_139 (jc_43 cI cL ad σ23 τ) rfl ⟨Nat.le_of_ble_eq_true rfl, Nat.le_of_ble_eq_true rfl⟩ rfl rfl rfl hl.1 rfl (Nat.le_of_ble_eq_true rfl) dX3_likelyFrom_59 ⟨Nat.zero_le _, Nat.zero_le _⟩ (fun r37 σ36 τ36 H locs h36 hP hS => ?_)
    obtain ⟨rfl, f38, h36⟩ := h36
    refine lv_istore (lv' := [(8, .int r37), (7, .int r27), (6, .int r24), (0, .ref (ad 43)), (1, .int a1), (2, .int 4), (3, .int a3), (4, .int a4), (5, .int a5)]) hx hb dX3_likelyFrom_62 hl (by decide) rfl (fun ls hl => ?_)
    refine lv_iload hx hb dX3_likelyFrom_64 (lv_at hl 8 rfl) ?_
    refine lv_aload_n hx hb dX3_likelyFrom_66 rfl (lv_at hl 3 rfl) ?_
    refine lv_iload hx hb dX3_likelyFrom_67 (lv_at hl 2 rfl) ?_
    refine lv_iload_n hx hb dX3_likelyFrom_69 rfl (lv_at hl 6 rfl) ?_
    refine lv_iload hx hb dX3_likelyFrom_70 (lv_at hl 7 rfl) ?_
    have z39 : (σ36 16 0).toInt = (σ 16 0).toInt := by rw [(show σ36 16 0 = (σ 16 0) from (by rw [f38 16 (by omega)]; exact (by rw [f25 16 (by omega)])))]
    have z40 : (σ36 16 1).toInt = (σ 16 1).toInt := by rw [(show σ36 16 1 = (σ 16 1) from (by rw [f38 16 (by omega)]; exact (by rw [f25 16 (by omega)])))]
    have z41 : (σ36 16 2).toInt = (σ 16 2).toInt := by rw [(show σ36 16 2 = (σ 16 2) from (by rw [f38 16 (by omega)]; exact (by rw [f25 16 (by omega)])))]
    have w42 : ∀ k : Nat, k < 8 → 0 ≤ (σ36 17 k).toInt ∧ (σ36 17 k).toInt ≤ 3 := (by rw [f38 17 (by omega)]; exact w31)
    have I43 : jI16 σ36 := ⟨(by omega), (by omega), (by omega), w42⟩
    refine jcallV (As := [.int r24, .int a3, .int a4]) (rest := [.int a5]) ⟨hx, hb, hml, hown, hts⟩ hK hP hA hS hZ (c_X3_runsBy_43 l D cI cL ad zz hJ σ36 τ r24 (r24.toInt) rfl a3 (A3) t3 a4 (A4) t4 I43) cw_RX3_136 (jc_43 cI cL ad σ36 τ) rfl ⟨Nat.le_of_ble_eq_true rfl, Nat.le_of_ble_eq_true rfl⟩ rfl rfl rfl hl.1 rfl (Nat.le_of_ble_eq_true rfl) dX3_likelyFrom_72 ⟨Nat.zero_le _, Nat.zero_le _⟩ (fun r45 σ44 τ44 H locs h44 hP hS => ?_)
    obtain ⟨⟨rfl, rfl⟩, h44⟩ := h44
    have g46 := jrg (rfl : r45.toInt = r45.toInt)
    refine lv_isub hx hb dX3_likelyFrom_75 ?_
    refine lv_topi (fun x47 ex47 => ?_)
    have gx47 := jrg (rfl : x47.toInt = x47.toInt)
    refine lv_istore (lv' := [(9, .int x47), (8, .int r37), (7, .int r27), (6, .int r24), (0, .ref (ad 43)), (1, .int a1), (2, .int 4), (3, .int a3), (4, .int a4), (5, .int a5)]) hx hb dX3_likelyFrom_76 hl (by decide) rfl (fun ls hl => ?_)
    refine lv_aload_n hx hb dX3_likelyFrom_78 rfl (lv_at hl 4 rfl) ?_
    refine lv_iload_n hx hb dX3_likelyFrom_79 rfl (lv_at hl 5 rfl) ?_
    refine lv_iload_n hx hb dX3_likelyFrom_80 rfl (lv_at hl 6 rfl) ?_
    refine lv_iconst (v := 1) hx hb dX3_likelyFrom_81 (by decide) ?_
    refine lv_iadd hx hb dX3_likelyFrom_82 ?_
    refine jtopr (y := 5) (by decide) ?_
    refine lv_iload_n hx hb dX3_likelyFrom_83 rfl (lv_at hl 7 rfl) ?_
    refine lv_iconst (v := 1) hx hb dX3_likelyFrom_84 (by decide) ?_
    refine lv_iadd hx hb dX3_likelyFrom_85 ?_
    refine lv_topi (fun x48 ex48 => ?_)
    have gx48 := jrg (rfl : x48.toInt = x48.toInt)
    refine lv_iload hx hb dX3_likelyFrom_86 (lv_at hl 2 rfl) ?_
    refine lv_iload hx hb dX3_likelyFrom_88 (lv_at hl 0 rfl) ?_
    have z49 : (σ36 18 0).toInt = (σ 18 0).toInt := by rw [(show σ36 18 0 = (σ 18 0) from (by rw [f38 18 (by omega)]; exact (by rw [f25 18 (by omega)])))]
    have w50 : ∀ k : Nat, k < 160 → 0 ≤ (σ36 19 k).toInt ∧ (σ36 19 k).toInt ≤ 30000 := (by rw [f38 19 (by omega)]; exact (by rw [f25 19 (by omega)]; exact w6))
    have I51 : jI18 σ36 := ⟨(by omega), w50⟩
    have z52 : (σ36 22 0).toInt = (σ 22 0).toInt := by rw [(show σ36 22 0 = (σ 22 0) from (by rw [f38 22 (by omega)]; exact (by rw [f25 22 (by omega)])))]
    have w53 : ∀ k : Nat, k < 160 → 0 ≤ (σ36 23 k).toInt ∧ (σ36 23 k).toInt ≤ 30000 := (by rw [f38 23 (by omega)]; exact w34)
    have I54 : jI22 σ36 := ⟨(by omega), w53⟩
    have z55 : (σ36 31 8).toInt = (σ 31 8).toInt := by rw [(show σ36 31 8 = (σ 31 8) from (by rw [f38 31 (by omega)]; exact (by rw [f25 31 (by omega)])))]
    have w56 : ∀ k : Nat, k < 1400 → (-1) ≤ (σ36 33 k).toInt ∧ (σ36 33 k).toInt ≤ 350 := (by rw [f38 33 (by omega)]; exact (by rw [f25 33 (by omega)]; exact w10))
    have w57 : ∀ k : Nat, k < 1024 → 0 ≤ (σ36 36 k).toInt ∧ (σ36 36 k).toInt ≤ 349 := (by rw [f38 36 (by omega)]; exact (by rw [f25 36 (by omega)]; exact w11))
    have I58 : jI31 σ36 := ⟨(by omega), w56, w57⟩
    have z59 : (σ36 38 0).toInt = (σ 38 0).toInt := by rw [(show σ36 38 0 = (σ 38 0) from (by rw [f38 38 (by omega)]; exact (by rw [f25 38 (by omega)])))]
    have z60 : (σ36 38 1).toInt = (σ 38 1).toInt := by rw [(show σ36 38 1 = (σ 38 1) from (by rw [f38 38 (by omega)]; exact (by rw [f25 38 (by omega)])))]
    have w61 : ∀ k : Nat, k < 20 → 0 ≤ (σ36 39 k).toInt ∧ (σ36 39 k).toInt ≤ 6 := (by rw [f38 39 (by omega)]; exact (by rw [f25 39 (by omega)]; exact w14))
    have I62 : jI38 σ36 := ⟨(by omega), (by omega), w61⟩
    refine jcallV (As := [.int a1, .int 5, .int x48, .int r27, .int x47]) (rest := []) ⟨hx, hb, hml, hown, hts⟩ hK hP hA hS hZ (c_X3_likelyFrom_5 l D cI cL ad zz hJ σ36 τ a1 (A1) t1 x48 (x48.toInt) rfl r27 (r27.toInt) rfl x47 (x47.toInt) rfl I43 I51 I54 I58 I62) cw_RX3_146 (jc_43 cI cL ad σ36 τ) rfl ⟨Nat.le_of_ble_eq_true rfl, Nat.le_of_ble_eq_true rfl⟩ rfl rfl rfl hl.1 rfl (Nat.le_of_ble_eq_true rfl) dX3_likelyFrom_90 ⟨Nat.zero_le _, Nat.zero_le _⟩ (fun r64 σ63 τ63 H locs h63 hP hS => ?_)
    obtain ⟨rfl, f65, h63⟩ := h63
    refine lv_istore (lv' := [(10, .int r64), (9, .int x47), (8, .int r37), (7, .int r27), (6, .int r24), (0, .ref (ad 43)), (1, .int a1), (2, .int 4), (3, .int a3), (4, .int a4), (5, .int a5)]) hx hb dX3_likelyFrom_93 hl (by decide) rfl (fun ls hl => ?_)
    refine lv_aload_n hx hb dX3_likelyFrom_95 rfl (lv_at hl 5 rfl) ?_
    refine lv_iload_n hx hb dX3_likelyFrom_96 rfl (lv_at hl 6 rfl) ?_
    refine lv_iload_n hx hb dX3_likelyFrom_97 rfl (lv_at hl 7 rfl) ?_
    refine lv_iconst (v := 1) hx hb dX3_likelyFrom_98 (by decide) ?_
    refine lv_iadd hx hb dX3_likelyFrom_99 ?_
    refine jtopr (y := 5) (by decide) ?_
    refine lv_iload_n hx hb dX3_likelyFrom_100 rfl (lv_at hl 8 rfl) ?_
    refine lv_iload hx hb dX3_likelyFrom_101 (lv_at hl 3 rfl) ?_
    refine lv_iload hx hb dX3_likelyFrom_103 (lv_at hl 1 rfl) ?_
    have z66 : (σ63 16 0).toInt = (σ 16 0).toInt := by rw [(show σ63 16 0 = (σ 16 0) from (by rw [f65 16 (by omega)]; exact (by rw [f38 16 (by omega)]; exact (by rw [f25 16 (by omega)]))))]
    have z67 : (σ63 16 1).toInt = (σ 16 1).toInt := by rw [(show σ63 16 1 = (σ 16 1) from (by rw [f65 16 (by omega)]; exact (by rw [f38 16 (by omega)]; exact (by rw [f25 16 (by omega)]))))]
    have z68 : (σ63 16 2).toInt = (σ 16 2).toInt := by rw [(show σ63 16 2 = (σ 16 2) from (by rw [f65 16 (by omega)]; exact (by rw [f38 16 (by omega)]; exact (by rw [f25 16 (by omega)]))))]
    have w69 : ∀ k : Nat, k < 8 → 0 ≤ (σ63 17 k).toInt ∧ (σ63 17 k).toInt ≤ 3 := (by rw [f65 17 (by omega)]; exact w42)
    have I70 : jI16 σ63 := ⟨(by omega), (by omega), (by omega), w69⟩
    have z71 : (σ63 18 0).toInt = (σ 18 0).toInt := by rw [(show σ63 18 0 = (σ 18 0) from (by rw [f65 18 (by omega)]; exact (by rw [f38 18 (by omega)]; exact (by rw [f25 18 (by omega)]))))]
    have w72 : ∀ k : Nat, k < 160 → 0 ≤ (σ63 19 k).toInt ∧ (σ63 19 k).toInt ≤ 30000 := (by rw [f65 19 (by omega)]; exact w50)
    have I73 : jI18 σ63 := ⟨(by omega), w72⟩
    have z74 : (σ63 22 0).toInt = (σ 22 0).toInt := by rw [(show σ63 22 0 = (σ 22 0) from (by rw [f65 22 (by omega)]; exact (by rw [f38 22 (by omega)]; exact (by rw [f25 22 (by omega)]))))]
    have w75 : ∀ k : Nat, k < 160 → 0 ≤ (σ63 23 k).toInt ∧ (σ63 23 k).toInt ≤ 30000 := (by rw [f65 23 (by omega)]; exact w53)
    have I76 : jI22 σ63 := ⟨(by omega), w75⟩
    have z77 : (σ63 31 8).toInt = (σ 31 8).toInt := by rw [(show σ63 31 8 = (σ 31 8) from (by rw [f65 31 (by omega)]; exact (by rw [f38 31 (by omega)]; exact (by rw [f25 31 (by omega)]))))]
    have w78 : ∀ k : Nat, k < 1400 → (-1) ≤ (σ63 33 k).toInt ∧ (σ63 33 k).toInt ≤ 350 := (by rw [f65 33 (by omega)]; exact w56)
    have w79 : ∀ k : Nat, k < 1024 → 0 ≤ (σ63 36 k).toInt ∧ (σ63 36 k).toInt ≤ 349 := (by rw [f65 36 (by omega)]; exact w57)
    have I80 : jI31 σ63 := ⟨(by omega), w78, w79⟩
    have z81 : (σ63 38 0).toInt = (σ 38 0).toInt := by rw [(show σ63 38 0 = (σ 38 0) from (by rw [f65 38 (by omega)]; exact (by rw [f38 38 (by omega)]; exact (by rw [f25 38 (by omega)]))))]
    have z82 : (σ63 38 1).toInt = (σ 38 1).toInt := by rw [(show σ63 38 1 = (σ 38 1) from (by rw [f65 38 (by omega)]; exact (by rw [f38 38 (by omega)]; exact (by rw [f25 38 (by omega)]))))]
    have w83 : ∀ k : Nat, k < 20 → 0 ≤ (σ63 39 k).toInt ∧ (σ63 39 k).toInt ≤ 6 := (by rw [f65 39 (by omega)]; exact w61)
    have I84 : jI38 σ63 := ⟨(by omega), (by omega), w83⟩
    refine jcallV (As := [.int a1, .int 5, .int a3, .int r27, .int x47]) (rest := []) ⟨hx, hb, hml, hown, hts⟩ hK hP hA hS hZ (c_X3_likelyFrom_5 l D cI cL ad zz hJ σ63 τ a1 (A1) t1 a3 (A3) t3 r27 (r27.toInt) rfl x47 (x47.toInt) rfl I70 I73 I76 I80 I84) cw_RX3_146 (jc_43 cI cL ad σ63 τ) rfl ⟨Nat.le_of_ble_eq_true rfl, Nat.le_of_ble_eq_true rfl⟩ rfl rfl rfl hl.1 rfl (Nat.le_of_ble_eq_true rfl) dX3_likelyFrom_105 ⟨Nat.zero_le _, Nat.zero_le _⟩ (fun r86 σ85 τ85 H locs h85 hP hS => ?_)
    obtain ⟨rfl, f87, h85⟩ := h85
    refine lv_istore (lv' := [(11, .int r86), (10, .int r64), (9, .int x47), (8, .int r37), (7, .int r27), (6, .int r24), (0, .ref (ad 43)), (1, .int a1), (2, .int 4), (3, .int a3), (4, .int a4), (5, .int a5)]) hx hb dX3_likelyFrom_108 hl (by decide) rfl (fun ls hl => ?_)
    refine lv_iload hx hb dX3_likelyFrom_110 (lv_at hl 3 rfl) ?_
    refine lv_iload hx hb dX3_likelyFrom_112 (lv_at hl 1 rfl) ?_
    have g88 := jrg (rfl : r37.toInt = r37.toInt)
    have g89 := jrg (rfl : r64.toInt = r64.toInt)
    refine lv_imul hx hb dX3_likelyFrom_114 ?_
    refine lv_topi (fun x90 ex90 => ?_)
    have gx90 := jrg (rfl : x90.toInt = x90.toInt)
    refine lv_sipush (v := 1000) hx hb dX3_likelyFrom_115 (by decide) ?_
    refine lv_iload hx hb dX3_likelyFrom_118 (lv_at hl 3 rfl) ?_
    refine lv_isub hx hb dX3_likelyFrom_120 ?_
    refine lv_topi (fun x91 ex91 => ?_)
    have gx91 := jrg (rfl : x91.toInt = x91.toInt)
    refine lv_iload hx hb dX3_likelyFrom_121 (lv_at hl 0 rfl) ?_
    have g92 := jrg (rfl : x91.toInt = x91.toInt)
    have g93 := jrg (rfl : r86.toInt = r86.toInt)
    refine lv_imul hx hb dX3_likelyFrom_123 ?_
    refine lv_topi (fun x94 ex94 => ?_)
    have gx94 := jrg (rfl : x94.toInt = x94.toInt)
    have g95 := jrg (rfl : x90.toInt = x90.toInt)
    have g96 := jrg (rfl : x94.toInt = x94.toInt)
    refine lv_iadd hx hb dX3_likelyFrom_124 ?_
    refine lv_topi (fun x97 ex97 => ?_)
    have gx97 := jrg (rfl : x97.toInt = x97.toInt)
    refine lv_sipush (v := 1000) hx hb dX3_likelyFrom_125 (by decide) ?_
    refine lv_idiv hx hb dX3_likelyFrom_128 (by decide) ?_
    refine lv_topi (fun x98 ex98 => ?_)
    have gx98 := jrg (rfl : x98.toInt = x98.toInt)
    refine lv_istore (lv' := [(12, .int x98), (11, .int r86), (10, .int r64), (9, .int x47), (8, .int r37), (7, .int r27), (6, .int r24), (0, .ref (ad 43)), (1, .int a1), (2, .int 4), (3, .int a3), (4, .int a4), (5, .int a5)]) hx hb dX3_likelyFrom_129 hl (by decide) rfl (fun ls hl => ?_)
    refine lv_iload hx hb dX3_likelyFrom_131 (lv_at hl 3 rfl) ?_
    refine lv_if_le (tgt := 141) hx hb dX3_likelyFrom_133 (by decide) (fun c99 => ?_) (fun c99 => ?_)
    · have kc99 := jle c99 rfl jz_0
      refine lv_iconst (v := 0) hx hb dX3_likelyFrom_141 (by decide) ?_
      refine lv_istore (lv' := [(13, .int 0), (12, .int x98), (11, .int r86), (10, .int r64), (9, .int x47), (8, .int r37), (7, .int r27), (6, .int r24), (0, .ref (ad 43)), (1, .int a1), (2, .int 4), (3, .int a3), (4, .int a4), (5, .int a5)]) hx hb dX3_likelyFrom_142 hl (by decide) rfl (fun ls hl => ?_)
      refine lv_aload_n hx hb dX3_likelyFrom_144 rfl (lv_at hl 8 rfl) ?_
      refine va_get (D := D) hx hb hts inlX3 hown hK hP 43 (jc_43 cI cL ad σ85 τ) rfl 3 (by decide) (hts _ kw_6_5) (fun _ h9 => h9) rfl dX3_likelyFrom_145 ?_
      refine va_get (D := D) hx hb hts inlX6 hown hK hP 16 (jc_16 cI cL ad σ85 τ) rfl 2 (by decide) (hts _ kw_37_2) (fun _ h9 => h9) rfl dX3_likelyFrom_148 ?_
      have m100 : σ85 16 2 = (σ 16 2) := (by rw [f87 16 (by omega)]; exact (by rw [f65 16 (by omega)]; exact (by rw [f38 16 (by omega)]; exact (by rw [f25 16 (by omega)]))))
      refine jtopr m100 ?_
      refine lv_iload hx hb dX3_likelyFrom_151 (lv_at hl 0 rfl) ?_
      refine lv_imul hx hb dX3_likelyFrom_153 ?_
      refine lv_topi (fun x101 ex101 => ?_)
      have tx101 : x101.toInt = 0 := (jmul ex101 rfl jz_0 (by omega) (by omega)).trans (by omega)
      refine lv_sipush (v := 1000) hx hb dX3_likelyFrom_154 (by decide) ?_
      refine lv_aload_n hx hb dX3_likelyFrom_157 rfl (lv_at hl 8 rfl) ?_
      refine va_get (D := D) hx hb hts inlX3 hown hK hP 43 (jc_43 cI cL ad σ85 τ) rfl 3 (by decide) (hts _ kw_6_5) (fun _ h9 => h9) rfl dX3_likelyFrom_158 ?_
      refine va_get (D := D) hx hb hts inlX6 hown hK hP 16 (jc_16 cI cL ad σ85 τ) rfl 2 (by decide) (hts _ kw_37_2) (fun _ h9 => h9) rfl dX3_likelyFrom_161 ?_
      refine jtopr m100 ?_
      have g102 := jrg (rfl : (σ 16 2).toInt = (σ 16 2).toInt)
      refine lv_isub hx hb dX3_likelyFrom_164 ?_
      refine lv_topi (fun x103 ex103 => ?_)
      have tx103 : x103.toInt = -(σ 16 2).toInt + 1000 := (jsub ex103 jz_1000 rfl (by omega) (by omega)).trans (by omega)
      refine lv_iload hx hb dX3_likelyFrom_165 (lv_at hl 1 rfl) ?_
      have g104 := jrg (rfl : x98.toInt = x98.toInt)
      refine lv_imul hx hb dX3_likelyFrom_167 ?_
      refine lv_topi (fun x105 ex105 => ?_)
      have gx105 := jrg (rfl : x105.toInt = x105.toInt)
      have g106 := jrg (rfl : x105.toInt = x105.toInt)
      refine lv_iadd hx hb dX3_likelyFrom_168 ?_
      refine lv_topi (fun x107 ex107 => ?_)
      have tx107 : x107.toInt = x105.toInt := (jadd ex107 tx101 rfl (by omega) (by omega)).trans (by omega)
      refine lv_sipush (v := 1000) hx hb dX3_likelyFrom_169 (by decide) ?_
      refine lv_idiv hx hb dX3_likelyFrom_172 (by decide) ?_
      refine lv_topi (fun x108 ex108 => ?_)
      have gx108 := jrg (rfl : x108.toInt = x108.toInt)
      exact hret x108 σ85 τ _ _ _ _ rfl ⟨rfl, (fun i hi => by rw [f87 i (by omega), f65 i (by omega), f38 i (by omega), f25 i (by omega)]), trivial⟩ hP hS dX3_likelyFrom_173
    · have kc99 := jnle c99 rfl jz_0
      refine lv_ldc (v := 1000000) hx hb hown (hts _ kw_37_1) dX3_likelyFrom_136 ?_
      refine lv_goto (tgt := 142) hx hb dX3_likelyFrom_138 (by decide) ?_
      refine lv_istore (lv' := [(13, .int 1000000), (12, .int x98), (11, .int r86), (10, .int r64), (9, .int x47), (8, .int r37), (7, .int r27), (6, .int r24), (0, .ref (ad 43)), (1, .int a1), (2, .int 4), (3, .int a3), (4, .int a4), (5, .int a5)]) hx hb dX3_likelyFrom_142 hl (by decide) rfl (fun ls hl => ?_)
      refine lv_aload_n hx hb dX3_likelyFrom_144 rfl (lv_at hl 8 rfl) ?_
      refine va_get (D := D) hx hb hts inlX3 hown hK hP 43 (jc_43 cI cL ad σ85 τ) rfl 3 (by decide) (hts _ kw_6_5) (fun _ h9 => h9) rfl dX3_likelyFrom_145 ?_
      refine va_get (D := D) hx hb hts inlX6 hown hK hP 16 (jc_16 cI cL ad σ85 τ) rfl 2 (by decide) (hts _ kw_37_2) (fun _ h9 => h9) rfl dX3_likelyFrom_148 ?_
      have m109 : σ85 16 2 = (σ 16 2) := (by rw [f87 16 (by omega)]; exact (by rw [f65 16 (by omega)]; exact (by rw [f38 16 (by omega)]; exact (by rw [f25 16 (by omega)]))))
      refine jtopr m109 ?_
      refine lv_iload hx hb dX3_likelyFrom_151 (lv_at hl 0 rfl) ?_
      have g110 := jrg (rfl : (σ 16 2).toInt = (σ 16 2).toInt)
      refine lv_imul hx hb dX3_likelyFrom_153 ?_
      refine lv_topi (fun x111 ex111 => ?_)
      have tx111 : x111.toInt = 1000000 * (σ 16 2).toInt := (jmul ex111 rfl jz_1000000 (by omega) (by omega)).trans (by omega)
      refine lv_sipush (v := 1000) hx hb dX3_likelyFrom_154 (by decide) ?_
      refine lv_aload_n hx hb dX3_likelyFrom_157 rfl (lv_at hl 8 rfl) ?_
      refine va_get (D := D) hx hb hts inlX3 hown hK hP 43 (jc_43 cI cL ad σ85 τ) rfl 3 (by decide) (hts _ kw_6_5) (fun _ h9 => h9) rfl dX3_likelyFrom_158 ?_
      refine va_get (D := D) hx hb hts inlX6 hown hK hP 16 (jc_16 cI cL ad σ85 τ) rfl 2 (by decide) (hts _ kw_37_2) (fun _ h9 => h9) rfl dX3_likelyFrom_161 ?_
      refine jtopr m109 ?_
      refine lv_isub hx hb dX3_likelyFrom_164 ?_
      refine lv_topi (fun x112 ex112 => ?_)
      have tx112 : x112.toInt = -(σ 16 2).toInt + 1000 := (jsub ex112 jz_1000 rfl (by omega) (by omega)).trans (by omega)
      refine lv_iload hx hb dX3_likelyFrom_165 (lv_at hl 1 rfl) ?_
      have g113 := jrg (rfl : x98.toInt = x98.toInt)
      refine lv_imul hx hb dX3_likelyFrom_167 ?_
      refine lv_topi (fun x114 ex114 => ?_)
      have gx114 := jrg (rfl : x114.toInt = x114.toInt)
      have g115 := jrg (rfl : x114.toInt = x114.toInt)
      refine lv_iadd hx hb dX3_likelyFrom_168 ?_
      refine lv_topi (fun x116 ex116 => ?_)
      have gx116 := jrg (rfl : x116.toInt = x116.toInt)
      refine lv_sipush (v := 1000) hx hb dX3_likelyFrom_169 (by decide) ?_
      refine lv_idiv hx hb dX3_likelyFrom_172 (by decide) ?_
      refine lv_topi (fun x117 ex117 => ?_)
      have gx117 := jrg (rfl : x117.toInt = x117.toInt)
      exact hret x117 σ85 τ _ _ _ _ rfl ⟨rfl, (fun i hi => by rw [f87 i (by omega), f65 i (by omega), f38 i (by omega), f25 i (by omega)]), trivial⟩ hP hS dX3_likelyFrom_173
  · have kc17 := jne c17 rfl jz_0
    refine lv_iload hx hb dX3_likelyFrom_20 (lv_at hl 5 rfl) ?_
    refine lv_if_le (tgt := 30) hx hb dX3_likelyFrom_22 (by decide) (fun c118 => ?_) (fun c118 => ?_)
    · have kc118 := jle c118 t5 jz_0
      refine lv_iconst (v := 0) hx hb dX3_likelyFrom_30 (by decide) ?_
      exact hret 0 σ τ _ _ _ _ rfl ⟨rfl, (fun _ _ => rfl), trivial⟩ hP hS dX3_likelyFrom_31
    · have kc118 := jnle c118 t5 jz_0
      refine lv_ldc (v := 1000000) hx hb hown (hts _ kw_37_1) dX3_likelyFrom_25 ?_
      refine lv_goto (tgt := 31) hx hb dX3_likelyFrom_27 (by decide) ?_
      exact hret 1000000 σ τ _ _ _ _ rfl ⟨rfl, (fun _ _ => rfl), trivial⟩ hP hS dX3_likelyFrom_31
set_option maxHeartbeats 4000000 in
set_option maxRecDepth 100000 in
theorem c_X3_likelyFrom_3 (l : Launch) (D : va_G) (cI cL : ClassId) (ad zz : Nat → Nat) (hJ : jD ad) (σ : Nat → Nat → Int32) (τ : Nat → Nat → Int64) (a1 : Int32) (A1 : Int) (t1 : a1.toInt = A1) (a3 : Int32) (A3 : Int) (t3 : a3.toInt = A3) (a4 : Int32) (A4 : Int) (t4 : a4.toInt = A4) (a5 : Int32) (A5 : Int) (t5 : a5.toInt = A5) (hI16 : jI16 σ) (hI18 : jI18 σ) (hI22 : jI22 σ) (hI31 : jI31 σ) (hI38 : jI38 σ) : jM l yX3_likelyFrom cX3_likelyFrom 14 (some .int) ({ frames := 10, cells := 0, slots := 0, locals := 289 }) D cI cL ad zz [.ref (ad 43), .int a1, .int 3, .int a3, .int a4, .int a5] σ τ (fun r σ' τ' => τ = τ' ∧ (∀ i : Nat, (i < 20 ∨ 21 < i) ∧ (i < 24 ∨ 25 < i) ∧ (i < 29 ∨ 30 < i) → σ' i = σ i) ∧ True) := by
  refine jM.of hJ (by decide +kernel) (nt := .int) rfl (Nat.le_of_ble_eq_true rfl) ?_
  intro p e s m args below meth c Q ls hC hret hl hP
  obtain ⟨hx, hb, hr, hml, hown, hts, hK, -, hlocks, hZ⟩ := hC
  have hown : s.vm.findClass RX3 = some m.cls := hown
  have hS : va_S (jA ad) s.heap s.heap [] := va_S.rf
  have hA : ∀ q, jA ad q → jA ad q := fun _ h => h
  have hl : lv_has ls 14 [(0, .ref (ad 43)), (1, .int a1), (2, .int 3), (3, .int a3), (4, .int a4), (5, .int a5)] := hl
  have g1 := jrg t1
  have g3 := jrg t3
  have g4 := jrg t4
  have g5 := jrg t5
  obtain ⟨i1, i2, i3, w4⟩ : (1 ≤ (σ 16 0).toInt ∧ (σ 16 0).toInt ≤ 8) ∧ (1 ≤ (σ 16 1).toInt ∧ (σ 16 1).toInt ≤ 12) ∧ (0 ≤ (σ 16 2).toInt ∧ (σ 16 2).toInt ≤ 999) ∧ (∀ k : Nat, k < 8 → 0 ≤ (σ 17 k).toInt ∧ (σ 17 k).toInt ≤ 3) := id hI16
  obtain ⟨i5, w6⟩ : (0 ≤ (σ 18 0).toInt ∧ (σ 18 0).toInt ≤ 160) ∧ (∀ k : Nat, k < 160 → 0 ≤ (σ 19 k).toInt ∧ (σ 19 k).toInt ≤ 30000) := id hI18
  obtain ⟨i7, w8⟩ : (0 ≤ (σ 22 0).toInt ∧ (σ 22 0).toInt ≤ 160) ∧ (∀ k : Nat, k < 160 → 0 ≤ (σ 23 k).toInt ∧ (σ 23 k).toInt ≤ 30000) := id hI22
  obtain ⟨i9, w10, w11⟩ : (0 ≤ (σ 31 8).toInt ∧ (σ 31 8).toInt ≤ 350) ∧ (∀ k : Nat, k < 1400 → (-1) ≤ (σ 33 k).toInt ∧ (σ 33 k).toInt ≤ 350) ∧ (∀ k : Nat, k < 1024 → 0 ≤ (σ 36 k).toInt ∧ (σ 36 k).toInt ≤ 349) := id hI31
  obtain ⟨i12, i13, w14⟩ : (0 ≤ (σ 38 0).toInt ∧ (σ 38 0).toInt ≤ 20) ∧ (0 ≤ (σ 38 1).toInt ∧ (σ 38 1).toInt ≤ 1000) ∧ (∀ k : Nat, k < 20 → 0 ≤ (σ 39 k).toInt ∧ (σ 39 k).toInt ≤ 6) := id hI38
  refine lv_iload_n hx hb dX3_likelyFrom_0 rfl (lv_at hl 2 rfl) ?_
  refine lv_bipush (v := 8) hx hb dX3_likelyFrom_1 (by decide) ?_
  refine lv_icmp_ge (tgt := 20) hx hb dX3_likelyFrom_3 (by decide) (fun c => absurd c (by decide)) (fun _ => ?_)
  refine lv_aload_n hx hb dX3_likelyFrom_6 rfl (lv_at hl 0 rfl) ?_
  refine va_get (D := D) hx hb hts inlX3 hown hK hP 43 (jc_43 cI cL ad σ τ) rfl 3 (by decide) (hts _ kw_6_5) (fun _ h9 => h9) rfl dX3_likelyFrom_7 ?_
  refine lv_iload_n hx hb dX3_likelyFrom_10 rfl (lv_at hl 2 rfl) ?_
  refine lv_iload_n hx hb dX3_likelyFrom_11 rfl (lv_at hl 3 rfl) ?_
  refine lv_iload hx hb dX3_likelyFrom_12 (lv_at hl 4 rfl) ?_
  refine jcallV (As := [.int 3, .int a3, .int a4]) (rest := []) ⟨hx, hb, hml, hown, hts⟩ hK hP hA hS hZ (c_X6_ended_16 l D cI cL ad zz hJ σ τ 3 (3) jz_3 a3 (A3) t3 a4 (A4) t4) cw_RX3_123 (jc_16 cI cL ad σ τ) rfl ⟨Nat.le_of_ble_eq_true rfl, Nat.le_of_ble_eq_true rfl⟩ rfl rfl rfl hl.1 rfl (Nat.le_of_ble_eq_true rfl) dX3_likelyFrom_14 ⟨Nat.zero_le _, Nat.zero_le _⟩ (fun r16 σ15 τ15 H locs h15 hP hS => ?_)
  obtain ⟨⟨rfl, rfl⟩, h15⟩ := h15
  refine lv_if_eq (tgt := 32) hx hb dX3_likelyFrom_17 (by decide) (fun c17 => ?_) (fun c17 => ?_)
  · have kc17 := jeq c17 rfl jz_0
    refine lv_aload_n hx hb dX3_likelyFrom_32 rfl (lv_at hl 0 rfl) ?_
    refine lv_iload_n hx hb dX3_likelyFrom_33 rfl (lv_at hl 1 rfl) ?_
    refine lv_iload_n hx hb dX3_likelyFrom_34 rfl (lv_at hl 2 rfl) ?_
    refine lv_iload_n hx hb dX3_likelyFrom_35 rfl (lv_at hl 3 rfl) ?_
    refine lv_iload hx hb dX3_likelyFrom_36 (lv_at hl 4 rfl) ?_
    have I18 : jI16 σ := ⟨(by omega), (by omega), (by omega), w4⟩
    have I19 : jI18 σ := ⟨(by omega), w6⟩
    have I20 : jI22 σ := ⟨(by omega), w8⟩
    have I21 : jI31 σ := ⟨(by omega), w10, w11⟩
    have I22 : jI38 σ := ⟨(by omega), (by omega), w14⟩
    refine jcallV (As := [.int a1, .int 3, .int a3, .int a4]) (rest := []) ⟨hx, hb, hml, hown, hts⟩ hK hP hA hS hZ (c_X3_putOn_43 l D cI cL ad zz hJ σ τ a1 (A1) t1 3 (3) jz_3 a3 (A3) t3 a4 (A4) t4 I18 I19 I20 I21 I22) cw_RX3_127 (jc_43 cI cL ad σ τ) rfl ⟨Nat.le_of_ble_eq_true rfl, Nat.le_of_ble_eq_true rfl⟩ rfl rfl rfl hl.1 rfl (Nat.le_of_ble_eq_true rfl) dX3_likelyFrom_38 ⟨Nat.zero_le _, Nat.zero_le _⟩ (fun r24 σ23 τ23 H locs h23 hP hS => ?_)
    obtain ⟨rfl, f25, h23⟩ := h23
    refine lv_istore (lv' := [(6, .int r24), (0, .ref (ad 43)), (1, .int a1), (2, .int 3), (3, .int a3), (4, .int a4), (5, .int a5)]) hx hb dX3_likelyFrom_41 hl (by decide) rfl (fun ls hl => ?_)
    refine lv_iload hx hb dX3_likelyFrom_43 (lv_at hl 5 rfl) ?_
    refine lv_iload hx hb dX3_likelyFrom_45 (lv_at hl 0 rfl) ?_
    refine jcallS (As := [.int a4, .int r24]) (rest := []) ⟨hx, hb, hml, hown, hts⟩ hK hP hA hS hZ (c_X0_after l D cI cL ad zz hJ σ23 τ a4 (A4) t4 r24 (r24.toInt) rfl) cw_RX3_130 ⟨Nat.le_of_ble_eq_true rfl, Nat.le_of_ble_eq_true rfl⟩ rfl rfl rfl hl.1 rfl (Nat.le_of_ble_eq_true rfl) dX3_likelyFrom_47 ⟨Nat.zero_le _, Nat.zero_le _⟩ (fun r27 σ26 τ26 H locs h26 hP hS => ?_)
    obtain ⟨⟨rfl, rfl⟩, h26⟩ := h26
    refine lv_istore (lv' := [(7, .int r27), (6, .int r24), (0, .ref (ad 43)), (1, .int a1), (2, .int 3), (3, .int a3), (4, .int a4), (5, .int a5)]) hx hb dX3_likelyFrom_50 hl (by decide) rfl (fun ls hl => ?_)
    refine lv_aload_n hx hb dX3_likelyFrom_52 rfl (lv_at hl 2 rfl) ?_
    refine lv_iload hx hb dX3_likelyFrom_53 (lv_at hl 1 rfl) ?_
    refine lv_iload_n hx hb dX3_likelyFrom_55 rfl (lv_at hl 4 rfl) ?_
    refine lv_iload_n hx hb dX3_likelyFrom_56 rfl (lv_at hl 5 rfl) ?_
    refine lv_iload hx hb dX3_likelyFrom_57 (lv_at hl 6 rfl) ?_
    have z28 : (σ23 16 0).toInt = (σ 16 0).toInt := by rw [(show σ23 16 0 = (σ 16 0) from (by rw [f25 16 (by omega)]))]
    have z29 : (σ23 16 1).toInt = (σ 16 1).toInt := by rw [(show σ23 16 1 = (σ 16 1) from (by rw [f25 16 (by omega)]))]
    have z30 : (σ23 16 2).toInt = (σ 16 2).toInt := by rw [(show σ23 16 2 = (σ 16 2) from (by rw [f25 16 (by omega)]))]
    have w31 : ∀ k : Nat, k < 8 → 0 ≤ (σ23 17 k).toInt ∧ (σ23 17 k).toInt ≤ 3 := (by rw [f25 17 (by omega)]; exact w4)
    have I32 : jI16 σ23 := ⟨(by omega), (by omega), (by omega), w31⟩
    have z33 : (σ23 22 0).toInt = (σ 22 0).toInt := by rw [(show σ23 22 0 = (σ 22 0) from (by rw [f25 22 (by omega)]))]
    have w34 : ∀ k : Nat, k < 160 → 0 ≤ (σ23 23 k).toInt ∧ (σ23 23 k).toInt ≤ 30000 := (by rw [f25 23 (by omega)]; exact w8)
    have I35 : jI22 σ23 := ⟨(by omega), w34⟩
    refine jcallV (As := [.int r24, .int 3, .int a3, .int a4]) (rest := []) ⟨hx, hb, hml, hown, hts⟩ hK hP hA hS hZ (c_X3_outBy_43 l D cI cL ad zz hJ σ23 τ r24 (r24.toInt) rfl 3 (3) jz_3 a3 (A3) t3 a4 (A4) t4 I32 I35) cw_RX3_139 (jc_43 cI cL ad σ23 τ) rfl ⟨Nat.le_of_ble_eq_true rfl, Nat.le_of_ble_eq_true rfl⟩ rfl rfl rfl hl.1 rfl (Nat.le_of_ble_eq_true rfl) dX3_likelyFrom_59 ⟨Nat.zero_le _, Nat.zero_le _⟩ (fun r37 σ36 τ36 H locs h36 hP hS => ?_)
    obtain ⟨rfl, f38, h36⟩ := h36
    refine lv_istore (lv' := [(8, .int r37), (7, .int r27), (6, .int r24), (0, .ref (ad 43)), (1, .int a1), (2, .int 3), (3, .int a3), (4, .int a4), (5, .int a5)]) hx hb dX3_likelyFrom_62 hl (by decide) rfl (fun ls hl => ?_)
    refine lv_iload hx hb dX3_likelyFrom_64 (lv_at hl 8 rfl) ?_
    refine lv_aload_n hx hb dX3_likelyFrom_66 rfl (lv_at hl 3 rfl) ?_
    refine lv_iload hx hb dX3_likelyFrom_67 (lv_at hl 2 rfl) ?_
    refine lv_iload_n hx hb dX3_likelyFrom_69 rfl (lv_at hl 6 rfl) ?_
    refine lv_iload hx hb dX3_likelyFrom_70 (lv_at hl 7 rfl) ?_
    have z39 : (σ36 16 0).toInt = (σ 16 0).toInt := by rw [(show σ36 16 0 = (σ 16 0) from (by rw [f38 16 (by omega)]; exact (by rw [f25 16 (by omega)])))]
    have z40 : (σ36 16 1).toInt = (σ 16 1).toInt := by rw [(show σ36 16 1 = (σ 16 1) from (by rw [f38 16 (by omega)]; exact (by rw [f25 16 (by omega)])))]
    have z41 : (σ36 16 2).toInt = (σ 16 2).toInt := by rw [(show σ36 16 2 = (σ 16 2) from (by rw [f38 16 (by omega)]; exact (by rw [f25 16 (by omega)])))]
    have w42 : ∀ k : Nat, k < 8 → 0 ≤ (σ36 17 k).toInt ∧ (σ36 17 k).toInt ≤ 3 := (by rw [f38 17 (by omega)]; exact w31)
    have I43 : jI16 σ36 := ⟨(by omega), (by omega), (by omega), w42⟩
    refine jcallV (As := [.int r24, .int a3, .int a4]) (rest := [.int a5]) ⟨hx, hb, hml, hown, hts⟩ hK hP hA hS hZ (c_X3_runsBy_43 l D cI cL ad zz hJ σ36 τ r24 (r24.toInt) rfl a3 (A3) t3 a4 (A4) t4 I43) cw_RX3_136 (jc_43 cI cL ad σ36 τ) rfl ⟨Nat.le_of_ble_eq_true rfl, Nat.le_of_ble_eq_true rfl⟩ rfl rfl rfl hl.1 rfl (Nat.le_of_ble_eq_true rfl) dX3_likelyFrom_72 ⟨Nat.zero_le _, Nat.zero_le _⟩ (fun r45 σ44 τ44 H locs h44 hP hS => ?_)
    obtain ⟨⟨rfl, rfl⟩, h44⟩ := h44
    have g46 := jrg (rfl : r45.toInt = r45.toInt)
    refine lv_isub hx hb dX3_likelyFrom_75 ?_
    refine lv_topi (fun x47 ex47 => ?_)
    have gx47 := jrg (rfl : x47.toInt = x47.toInt)
    refine lv_istore (lv' := [(9, .int x47), (8, .int r37), (7, .int r27), (6, .int r24), (0, .ref (ad 43)), (1, .int a1), (2, .int 3), (3, .int a3), (4, .int a4), (5, .int a5)]) hx hb dX3_likelyFrom_76 hl (by decide) rfl (fun ls hl => ?_)
    refine lv_aload_n hx hb dX3_likelyFrom_78 rfl (lv_at hl 4 rfl) ?_
    refine lv_iload_n hx hb dX3_likelyFrom_79 rfl (lv_at hl 5 rfl) ?_
    refine lv_iload_n hx hb dX3_likelyFrom_80 rfl (lv_at hl 6 rfl) ?_
    refine lv_iconst (v := 1) hx hb dX3_likelyFrom_81 (by decide) ?_
    refine lv_iadd hx hb dX3_likelyFrom_82 ?_
    refine jtopr (y := 4) (by decide) ?_
    refine lv_iload_n hx hb dX3_likelyFrom_83 rfl (lv_at hl 7 rfl) ?_
    refine lv_iconst (v := 1) hx hb dX3_likelyFrom_84 (by decide) ?_
    refine lv_iadd hx hb dX3_likelyFrom_85 ?_
    refine lv_topi (fun x48 ex48 => ?_)
    have gx48 := jrg (rfl : x48.toInt = x48.toInt)
    refine lv_iload hx hb dX3_likelyFrom_86 (lv_at hl 2 rfl) ?_
    refine lv_iload hx hb dX3_likelyFrom_88 (lv_at hl 0 rfl) ?_
    have z49 : (σ36 18 0).toInt = (σ 18 0).toInt := by rw [(show σ36 18 0 = (σ 18 0) from (by rw [f38 18 (by omega)]; exact (by rw [f25 18 (by omega)])))]
    have w50 : ∀ k : Nat, k < 160 → 0 ≤ (σ36 19 k).toInt ∧ (σ36 19 k).toInt ≤ 30000 := (by rw [f38 19 (by omega)]; exact (by rw [f25 19 (by omega)]; exact w6))
    have I51 : jI18 σ36 := ⟨(by omega), w50⟩
    have z52 : (σ36 22 0).toInt = (σ 22 0).toInt := by rw [(show σ36 22 0 = (σ 22 0) from (by rw [f38 22 (by omega)]; exact (by rw [f25 22 (by omega)])))]
    have w53 : ∀ k : Nat, k < 160 → 0 ≤ (σ36 23 k).toInt ∧ (σ36 23 k).toInt ≤ 30000 := (by rw [f38 23 (by omega)]; exact w34)
    have I54 : jI22 σ36 := ⟨(by omega), w53⟩
    have z55 : (σ36 31 8).toInt = (σ 31 8).toInt := by rw [(show σ36 31 8 = (σ 31 8) from (by rw [f38 31 (by omega)]; exact (by rw [f25 31 (by omega)])))]
    have w56 : ∀ k : Nat, k < 1400 → (-1) ≤ (σ36 33 k).toInt ∧ (σ36 33 k).toInt ≤ 350 := (by rw [f38 33 (by omega)]; exact (by rw [f25 33 (by omega)]; exact w10))
    have w57 : ∀ k : Nat, k < 1024 → 0 ≤ (σ36 36 k).toInt ∧ (σ36 36 k).toInt ≤ 349 := (by rw [f38 36 (by omega)]; exact (by rw [f25 36 (by omega)]; exact w11))
    have I58 : jI31 σ36 := ⟨(by omega), w56, w57⟩
    have z59 : (σ36 38 0).toInt = (σ 38 0).toInt := by rw [(show σ36 38 0 = (σ 38 0) from (by rw [f38 38 (by omega)]; exact (by rw [f25 38 (by omega)])))]
    have z60 : (σ36 38 1).toInt = (σ 38 1).toInt := by rw [(show σ36 38 1 = (σ 38 1) from (by rw [f38 38 (by omega)]; exact (by rw [f25 38 (by omega)])))]
    have w61 : ∀ k : Nat, k < 20 → 0 ≤ (σ36 39 k).toInt ∧ (σ36 39 k).toInt ≤ 6 := (by rw [f38 39 (by omega)]; exact (by rw [f25 39 (by omega)]; exact w14))
    have I62 : jI38 σ36 := ⟨(by omega), (by omega), w61⟩
    refine jcallV (As := [.int a1, .int 4, .int x48, .int r27, .int x47]) (rest := []) ⟨hx, hb, hml, hown, hts⟩ hK hP hA hS hZ (c_X3_likelyFrom_4 l D cI cL ad zz hJ σ36 τ a1 (A1) t1 x48 (x48.toInt) rfl r27 (r27.toInt) rfl x47 (x47.toInt) rfl I43 I51 I54 I58 I62) cw_RX3_146 (jc_43 cI cL ad σ36 τ) rfl ⟨Nat.le_of_ble_eq_true rfl, Nat.le_of_ble_eq_true rfl⟩ rfl rfl rfl hl.1 rfl (Nat.le_of_ble_eq_true rfl) dX3_likelyFrom_90 ⟨Nat.zero_le _, Nat.zero_le _⟩ (fun r64 σ63 τ63 H locs h63 hP hS => ?_)
    obtain ⟨rfl, f65, h63⟩ := h63
    refine lv_istore (lv' := [(10, .int r64), (9, .int x47), (8, .int r37), (7, .int r27), (6, .int r24), (0, .ref (ad 43)), (1, .int a1), (2, .int 3), (3, .int a3), (4, .int a4), (5, .int a5)]) hx hb dX3_likelyFrom_93 hl (by decide) rfl (fun ls hl => ?_)
    refine lv_aload_n hx hb dX3_likelyFrom_95 rfl (lv_at hl 5 rfl) ?_
    refine lv_iload_n hx hb dX3_likelyFrom_96 rfl (lv_at hl 6 rfl) ?_
    refine lv_iload_n hx hb dX3_likelyFrom_97 rfl (lv_at hl 7 rfl) ?_
    refine lv_iconst (v := 1) hx hb dX3_likelyFrom_98 (by decide) ?_
    refine lv_iadd hx hb dX3_likelyFrom_99 ?_
    refine jtopr (y := 4) (by decide) ?_
    refine lv_iload_n hx hb dX3_likelyFrom_100 rfl (lv_at hl 8 rfl) ?_
    refine lv_iload hx hb dX3_likelyFrom_101 (lv_at hl 3 rfl) ?_
    refine lv_iload hx hb dX3_likelyFrom_103 (lv_at hl 1 rfl) ?_
    have z66 : (σ63 16 0).toInt = (σ 16 0).toInt := by rw [(show σ63 16 0 = (σ 16 0) from (by rw [f65 16 (by omega)]; exact (by rw [f38 16 (by omega)]; exact (by rw [f25 16 (by omega)]))))]
    have z67 : (σ63 16 1).toInt = (σ 16 1).toInt := by rw [(show σ63 16 1 = (σ 16 1) from (by rw [f65 16 (by omega)]; exact (by rw [f38 16 (by omega)]; exact (by rw [f25 16 (by omega)]))))]
    have z68 : (σ63 16 2).toInt = (σ 16 2).toInt := by rw [(show σ63 16 2 = (σ 16 2) from (by rw [f65 16 (by omega)]; exact (by rw [f38 16 (by omega)]; exact (by rw [f25 16 (by omega)]))))]
    have w69 : ∀ k : Nat, k < 8 → 0 ≤ (σ63 17 k).toInt ∧ (σ63 17 k).toInt ≤ 3 := (by rw [f65 17 (by omega)]; exact w42)
    have I70 : jI16 σ63 := ⟨(by omega), (by omega), (by omega), w69⟩
    have z71 : (σ63 18 0).toInt = (σ 18 0).toInt := by rw [(show σ63 18 0 = (σ 18 0) from (by rw [f65 18 (by omega)]; exact (by rw [f38 18 (by omega)]; exact (by rw [f25 18 (by omega)]))))]
    have w72 : ∀ k : Nat, k < 160 → 0 ≤ (σ63 19 k).toInt ∧ (σ63 19 k).toInt ≤ 30000 := (by rw [f65 19 (by omega)]; exact w50)
    have I73 : jI18 σ63 := ⟨(by omega), w72⟩
    have z74 : (σ63 22 0).toInt = (σ 22 0).toInt := by rw [(show σ63 22 0 = (σ 22 0) from (by rw [f65 22 (by omega)]; exact (by rw [f38 22 (by omega)]; exact (by rw [f25 22 (by omega)]))))]
    have w75 : ∀ k : Nat, k < 160 → 0 ≤ (σ63 23 k).toInt ∧ (σ63 23 k).toInt ≤ 30000 := (by rw [f65 23 (by omega)]; exact w53)
    have I76 : jI22 σ63 := ⟨(by omega), w75⟩
    have z77 : (σ63 31 8).toInt = (σ 31 8).toInt := by rw [(show σ63 31 8 = (σ 31 8) from (by rw [f65 31 (by omega)]; exact (by rw [f38 31 (by omega)]; exact (by rw [f25 31 (by omega)]))))]
    have w78 : ∀ k : Nat, k < 1400 → (-1) ≤ (σ63 33 k).toInt ∧ (σ63 33 k).toInt ≤ 350 := (by rw [f65 33 (by omega)]; exact w56)
    have w79 : ∀ k : Nat, k < 1024 → 0 ≤ (σ63 36 k).toInt ∧ (σ63 36 k).toInt ≤ 349 := (by rw [f65 36 (by omega)]; exact w57)
    have I80 : jI31 σ63 := ⟨(by omega), w78, w79⟩
    have z81 : (σ63 38 0).toInt = (σ 38 0).toInt := by rw [(show σ63 38 0 = (σ 38 0) from (by rw [f65 38 (by omega)]; exact (by rw [f38 38 (by omega)]; exact (by rw [f25 38 (by omega)]))))]
    have z82 : (σ63 38 1).toInt = (σ 38 1).toInt := by rw [(show σ63 38 1 = (σ 38 1) from (by rw [f65 38 (by omega)]; exact (by rw [f38 38 (by omega)]; exact (by rw [f25 38 (by omega)]))))]
    have w83 : ∀ k : Nat, k < 20 → 0 ≤ (σ63 39 k).toInt ∧ (σ63 39 k).toInt ≤ 6 := (by rw [f65 39 (by omega)]; exact w61)
    have I84 : jI38 σ63 := ⟨(by omega), (by omega), w83⟩
    refine jcallV (As := [.int a1, .int 4, .int a3, .int r27, .int x47]) (rest := []) ⟨hx, hb, hml, hown, hts⟩ hK hP hA hS hZ (c_X3_likelyFrom_4 l D cI cL ad zz hJ σ63 τ a1 (A1) t1 a3 (A3) t3 r27 (r27.toInt) rfl x47 (x47.toInt) rfl I70 I73 I76 I80 I84) cw_RX3_146 (jc_43 cI cL ad σ63 τ) rfl ⟨Nat.le_of_ble_eq_true rfl, Nat.le_of_ble_eq_true rfl⟩ rfl rfl rfl hl.1 rfl (Nat.le_of_ble_eq_true rfl) dX3_likelyFrom_105 ⟨Nat.zero_le _, Nat.zero_le _⟩ (fun r86 σ85 τ85 H locs h85 hP hS => ?_)
    obtain ⟨rfl, f87, h85⟩ := h85
    refine lv_istore (lv' := [(11, .int r86), (10, .int r64), (9, .int x47), (8, .int r37), (7, .int r27), (6, .int r24), (0, .ref (ad 43)), (1, .int a1), (2, .int 3), (3, .int a3), (4, .int a4), (5, .int a5)]) hx hb dX3_likelyFrom_108 hl (by decide) rfl (fun ls hl => ?_)
    refine lv_iload hx hb dX3_likelyFrom_110 (lv_at hl 3 rfl) ?_
    refine lv_iload hx hb dX3_likelyFrom_112 (lv_at hl 1 rfl) ?_
    have g88 := jrg (rfl : r37.toInt = r37.toInt)
    have g89 := jrg (rfl : r64.toInt = r64.toInt)
    refine lv_imul hx hb dX3_likelyFrom_114 ?_
    refine lv_topi (fun x90 ex90 => ?_)
    have gx90 := jrg (rfl : x90.toInt = x90.toInt)
    refine lv_sipush (v := 1000) hx hb dX3_likelyFrom_115 (by decide) ?_
    refine lv_iload hx hb dX3_likelyFrom_118 (lv_at hl 3 rfl) ?_
    refine lv_isub hx hb dX3_likelyFrom_120 ?_
    refine lv_topi (fun x91 ex91 => ?_)
    have gx91 := jrg (rfl : x91.toInt = x91.toInt)
    refine lv_iload hx hb dX3_likelyFrom_121 (lv_at hl 0 rfl) ?_
    have g92 := jrg (rfl : x91.toInt = x91.toInt)
    have g93 := jrg (rfl : r86.toInt = r86.toInt)
    refine lv_imul hx hb dX3_likelyFrom_123 ?_
    refine lv_topi (fun x94 ex94 => ?_)
    have gx94 := jrg (rfl : x94.toInt = x94.toInt)
    have g95 := jrg (rfl : x90.toInt = x90.toInt)
    have g96 := jrg (rfl : x94.toInt = x94.toInt)
    refine lv_iadd hx hb dX3_likelyFrom_124 ?_
    refine lv_topi (fun x97 ex97 => ?_)
    have gx97 := jrg (rfl : x97.toInt = x97.toInt)
    refine lv_sipush (v := 1000) hx hb dX3_likelyFrom_125 (by decide) ?_
    refine lv_idiv hx hb dX3_likelyFrom_128 (by decide) ?_
    refine lv_topi (fun x98 ex98 => ?_)
    have gx98 := jrg (rfl : x98.toInt = x98.toInt)
    refine lv_istore (lv' := [(12, .int x98), (11, .int r86), (10, .int r64), (9, .int x47), (8, .int r37), (7, .int r27), (6, .int r24), (0, .ref (ad 43)), (1, .int a1), (2, .int 3), (3, .int a3), (4, .int a4), (5, .int a5)]) hx hb dX3_likelyFrom_129 hl (by decide) rfl (fun ls hl => ?_)
    refine lv_iload hx hb dX3_likelyFrom_131 (lv_at hl 3 rfl) ?_
    refine lv_if_le (tgt := 141) hx hb dX3_likelyFrom_133 (by decide) (fun c99 => ?_) (fun c99 => ?_)
    · have kc99 := jle c99 rfl jz_0
      refine lv_iconst (v := 0) hx hb dX3_likelyFrom_141 (by decide) ?_
      refine lv_istore (lv' := [(13, .int 0), (12, .int x98), (11, .int r86), (10, .int r64), (9, .int x47), (8, .int r37), (7, .int r27), (6, .int r24), (0, .ref (ad 43)), (1, .int a1), (2, .int 3), (3, .int a3), (4, .int a4), (5, .int a5)]) hx hb dX3_likelyFrom_142 hl (by decide) rfl (fun ls hl => ?_)
      refine lv_aload_n hx hb dX3_likelyFrom_144 rfl (lv_at hl 8 rfl) ?_
      refine va_get (D := D) hx hb hts inlX3 hown hK hP 43 (jc_43 cI cL ad σ85 τ) rfl 3 (by decide) (hts _ kw_6_5) (fun _ h9 => h9) rfl dX3_likelyFrom_145 ?_
      refine va_get (D := D) hx hb hts inlX6 hown hK hP 16 (jc_16 cI cL ad σ85 τ) rfl 2 (by decide) (hts _ kw_37_2) (fun _ h9 => h9) rfl dX3_likelyFrom_148 ?_
      have m100 : σ85 16 2 = (σ 16 2) := (by rw [f87 16 (by omega)]; exact (by rw [f65 16 (by omega)]; exact (by rw [f38 16 (by omega)]; exact (by rw [f25 16 (by omega)]))))
      refine jtopr m100 ?_
      refine lv_iload hx hb dX3_likelyFrom_151 (lv_at hl 0 rfl) ?_
      refine lv_imul hx hb dX3_likelyFrom_153 ?_
      refine lv_topi (fun x101 ex101 => ?_)
      have tx101 : x101.toInt = 0 := (jmul ex101 rfl jz_0 (by omega) (by omega)).trans (by omega)
      refine lv_sipush (v := 1000) hx hb dX3_likelyFrom_154 (by decide) ?_
      refine lv_aload_n hx hb dX3_likelyFrom_157 rfl (lv_at hl 8 rfl) ?_
      refine va_get (D := D) hx hb hts inlX3 hown hK hP 43 (jc_43 cI cL ad σ85 τ) rfl 3 (by decide) (hts _ kw_6_5) (fun _ h9 => h9) rfl dX3_likelyFrom_158 ?_
      refine va_get (D := D) hx hb hts inlX6 hown hK hP 16 (jc_16 cI cL ad σ85 τ) rfl 2 (by decide) (hts _ kw_37_2) (fun _ h9 => h9) rfl dX3_likelyFrom_161 ?_
      refine jtopr m100 ?_
      have g102 := jrg (rfl : (σ 16 2).toInt = (σ 16 2).toInt)
      refine lv_isub hx hb dX3_likelyFrom_164 ?_
      refine lv_topi (fun x103 ex103 => ?_)
      have tx103 : x103.toInt = -(σ 16 2).toInt + 1000 := (jsub ex103 jz_1000 rfl (by omega) (by omega)).trans (by omega)
      refine lv_iload hx hb dX3_likelyFrom_165 (lv_at hl 1 rfl) ?_
      have g104 := jrg (rfl : x98.toInt = x98.toInt)
      refine lv_imul hx hb dX3_likelyFrom_167 ?_
      refine lv_topi (fun x105 ex105 => ?_)
      have gx105 := jrg (rfl : x105.toInt = x105.toInt)
      have g106 := jrg (rfl : x105.toInt = x105.toInt)
      refine lv_iadd hx hb dX3_likelyFrom_168 ?_
      refine lv_topi (fun x107 ex107 => ?_)
      have tx107 : x107.toInt = x105.toInt := (jadd ex107 tx101 rfl (by omega) (by omega)).trans (by omega)
      refine lv_sipush (v := 1000) hx hb dX3_likelyFrom_169 (by decide) ?_
      refine lv_idiv hx hb dX3_likelyFrom_172 (by decide) ?_
      refine lv_topi (fun x108 ex108 => ?_)
      have gx108 := jrg (rfl : x108.toInt = x108.toInt)
      exact hret x108 σ85 τ _ _ _ _ rfl ⟨rfl, (fun i hi => by rw [f87 i (by omega), f65 i (by omega), f38 i (by omega), f25 i (by omega)]), trivial⟩ hP hS dX3_likelyFrom_173
    · have kc99 := jnle c99 rfl jz_0
      refine lv_ldc (v := 1000000) hx hb hown (hts _ kw_37_1) dX3_likelyFrom_136 ?_
      refine lv_goto (tgt := 142) hx hb dX3_likelyFrom_138 (by decide) ?_
      refine lv_istore (lv' := [(13, .int 1000000), (12, .int x98), (11, .int r86), (10, .int r64), (9, .int x47), (8, .int r37), (7, .int r27), (6, .int r24), (0, .ref (ad 43)), (1, .int a1), (2, .int 3), (3, .int a3), (4, .int a4), (5, .int a5)]) hx hb dX3_likelyFrom_142 hl (by decide) rfl (fun ls hl => ?_)
      refine lv_aload_n hx hb dX3_likelyFrom_144 rfl (lv_at hl 8 rfl) ?_
      refine va_get (D := D) hx hb hts inlX3 hown hK hP 43 (jc_43 cI cL ad σ85 τ) rfl 3 (by decide) (hts _ kw_6_5) (fun _ h9 => h9) rfl dX3_likelyFrom_145 ?_
      refine va_get (D := D) hx hb hts inlX6 hown hK hP 16 (jc_16 cI cL ad σ85 τ) rfl 2 (by decide) (hts _ kw_37_2) (fun _ h9 => h9) rfl dX3_likelyFrom_148 ?_
      have m109 : σ85 16 2 = (σ 16 2) := (by rw [f87 16 (by omega)]; exact (by rw [f65 16 (by omega)]; exact (by rw [f38 16 (by omega)]; exact (by rw [f25 16 (by omega)]))))
      refine jtopr m109 ?_
      refine lv_iload hx hb dX3_likelyFrom_151 (lv_at hl 0 rfl) ?_
      have g110 := jrg (rfl : (σ 16 2).toInt = (σ 16 2).toInt)
      refine lv_imul hx hb dX3_likelyFrom_153 ?_
      refine lv_topi (fun x111 ex111 => ?_)
      have tx111 : x111.toInt = 1000000 * (σ 16 2).toInt := (jmul ex111 rfl jz_1000000 (by omega) (by omega)).trans (by omega)
      refine lv_sipush (v := 1000) hx hb dX3_likelyFrom_154 (by decide) ?_
      refine lv_aload_n hx hb dX3_likelyFrom_157 rfl (lv_at hl 8 rfl) ?_
      refine va_get (D := D) hx hb hts inlX3 hown hK hP 43 (jc_43 cI cL ad σ85 τ) rfl 3 (by decide) (hts _ kw_6_5) (fun _ h9 => h9) rfl dX3_likelyFrom_158 ?_
      refine va_get (D := D) hx hb hts inlX6 hown hK hP 16 (jc_16 cI cL ad σ85 τ) rfl 2 (by decide) (hts _ kw_37_2) (fun _ h9 => h9) rfl dX3_likelyFrom_161 ?_
      refine jtopr m109 ?_
      refine lv_isub hx hb dX3_likelyFrom_164 ?_
      refine lv_topi (fun x112 ex112 => ?_)
      have tx112 : x112.toInt = -(σ 16 2).toInt + 1000 := (jsub ex112 jz_1000 rfl (by omega) (by omega)).trans (by omega)
      refine lv_iload hx hb dX3_likelyFrom_165 (lv_at hl 1 rfl) ?_
      have g113 := jrg (rfl : x98.toInt = x98.toInt)
      refine lv_imul hx hb dX3_likelyFrom_167 ?_
      refine lv_topi (fun x114 ex114 => ?_)
      have gx114 := jrg (rfl : x114.toInt = x114.toInt)
      have g115 := jrg (rfl : x114.toInt = x114.toInt)
      refine lv_iadd hx hb dX3_likelyFrom_168 ?_
      refine lv_topi (fun x116 ex116 => ?_)
      have gx116 := jrg (rfl : x116.toInt = x116.toInt)
      refine lv_sipush (v := 1000) hx hb dX3_likelyFrom_169 (by decide) ?_
      refine lv_idiv hx hb dX3_likelyFrom_172 (by decide) ?_
      refine lv_topi (fun x117 ex117 => ?_)
      have gx117 := jrg (rfl : x117.toInt = x117.toInt)
      exact hret x117 σ85 τ _ _ _ _ rfl ⟨rfl, (fun i hi => by rw [f87 i (by omega), f65 i (by omega), f38 i (by omega), f25 i (by omega)]), trivial⟩ hP hS dX3_likelyFrom_173
  · have kc17 := jne c17 rfl jz_0
    refine lv_iload hx hb dX3_likelyFrom_20 (lv_at hl 5 rfl) ?_
    refine lv_if_le (tgt := 30) hx hb dX3_likelyFrom_22 (by decide) (fun c118 => ?_) (fun c118 => ?_)
    · have kc118 := jle c118 t5 jz_0
      refine lv_iconst (v := 0) hx hb dX3_likelyFrom_30 (by decide) ?_
      exact hret 0 σ τ _ _ _ _ rfl ⟨rfl, (fun _ _ => rfl), trivial⟩ hP hS dX3_likelyFrom_31
    · have kc118 := jnle c118 t5 jz_0
      refine lv_ldc (v := 1000000) hx hb hown (hts _ kw_37_1) dX3_likelyFrom_25 ?_
      refine lv_goto (tgt := 31) hx hb dX3_likelyFrom_27 (by decide) ?_
      exact hret 1000000 σ τ _ _ _ _ rfl ⟨rfl, (fun _ _ => rfl), trivial⟩ hP hS dX3_likelyFrom_31
set_option maxHeartbeats 4000000 in
set_option maxRecDepth 100000 in
theorem c_X3_likelyFrom_2 (l : Launch) (D : va_G) (cI cL : ClassId) (ad zz : Nat → Nat) (hJ : jD ad) (σ : Nat → Nat → Int32) (τ : Nat → Nat → Int64) (a1 : Int32) (A1 : Int) (t1 : a1.toInt = A1) (a3 : Int32) (A3 : Int) (t3 : a3.toInt = A3) (a4 : Int32) (A4 : Int) (t4 : a4.toInt = A4) (a5 : Int32) (A5 : Int) (t5 : a5.toInt = A5) (hI16 : jI16 σ) (hI18 : jI18 σ) (hI22 : jI22 σ) (hI31 : jI31 σ) (hI38 : jI38 σ) : jM l yX3_likelyFrom cX3_likelyFrom 14 (some .int) ({ frames := 11, cells := 0, slots := 0, locals := 322 }) D cI cL ad zz [.ref (ad 43), .int a1, .int 2, .int a3, .int a4, .int a5] σ τ (fun r σ' τ' => τ = τ' ∧ (∀ i : Nat, (i < 20 ∨ 21 < i) ∧ (i < 24 ∨ 25 < i) ∧ (i < 29 ∨ 30 < i) → σ' i = σ i) ∧ True) := by
  refine jM.of hJ (by decide +kernel) (nt := .int) rfl (Nat.le_of_ble_eq_true rfl) ?_
  intro p e s m args below meth c Q ls hC hret hl hP
  obtain ⟨hx, hb, hr, hml, hown, hts, hK, -, hlocks, hZ⟩ := hC
  have hown : s.vm.findClass RX3 = some m.cls := hown
  have hS : va_S (jA ad) s.heap s.heap [] := va_S.rf
  have hA : ∀ q, jA ad q → jA ad q := fun _ h => h
  have hl : lv_has ls 14 [(0, .ref (ad 43)), (1, .int a1), (2, .int 2), (3, .int a3), (4, .int a4), (5, .int a5)] := hl
  have g1 := jrg t1
  have g3 := jrg t3
  have g4 := jrg t4
  have g5 := jrg t5
  obtain ⟨i1, i2, i3, w4⟩ : (1 ≤ (σ 16 0).toInt ∧ (σ 16 0).toInt ≤ 8) ∧ (1 ≤ (σ 16 1).toInt ∧ (σ 16 1).toInt ≤ 12) ∧ (0 ≤ (σ 16 2).toInt ∧ (σ 16 2).toInt ≤ 999) ∧ (∀ k : Nat, k < 8 → 0 ≤ (σ 17 k).toInt ∧ (σ 17 k).toInt ≤ 3) := id hI16
  obtain ⟨i5, w6⟩ : (0 ≤ (σ 18 0).toInt ∧ (σ 18 0).toInt ≤ 160) ∧ (∀ k : Nat, k < 160 → 0 ≤ (σ 19 k).toInt ∧ (σ 19 k).toInt ≤ 30000) := id hI18
  obtain ⟨i7, w8⟩ : (0 ≤ (σ 22 0).toInt ∧ (σ 22 0).toInt ≤ 160) ∧ (∀ k : Nat, k < 160 → 0 ≤ (σ 23 k).toInt ∧ (σ 23 k).toInt ≤ 30000) := id hI22
  obtain ⟨i9, w10, w11⟩ : (0 ≤ (σ 31 8).toInt ∧ (σ 31 8).toInt ≤ 350) ∧ (∀ k : Nat, k < 1400 → (-1) ≤ (σ 33 k).toInt ∧ (σ 33 k).toInt ≤ 350) ∧ (∀ k : Nat, k < 1024 → 0 ≤ (σ 36 k).toInt ∧ (σ 36 k).toInt ≤ 349) := id hI31
  obtain ⟨i12, i13, w14⟩ : (0 ≤ (σ 38 0).toInt ∧ (σ 38 0).toInt ≤ 20) ∧ (0 ≤ (σ 38 1).toInt ∧ (σ 38 1).toInt ≤ 1000) ∧ (∀ k : Nat, k < 20 → 0 ≤ (σ 39 k).toInt ∧ (σ 39 k).toInt ≤ 6) := id hI38
  refine lv_iload_n hx hb dX3_likelyFrom_0 rfl (lv_at hl 2 rfl) ?_
  refine lv_bipush (v := 8) hx hb dX3_likelyFrom_1 (by decide) ?_
  refine lv_icmp_ge (tgt := 20) hx hb dX3_likelyFrom_3 (by decide) (fun c => absurd c (by decide)) (fun _ => ?_)
  refine lv_aload_n hx hb dX3_likelyFrom_6 rfl (lv_at hl 0 rfl) ?_
  refine va_get (D := D) hx hb hts inlX3 hown hK hP 43 (jc_43 cI cL ad σ τ) rfl 3 (by decide) (hts _ kw_6_5) (fun _ h9 => h9) rfl dX3_likelyFrom_7 ?_
  refine lv_iload_n hx hb dX3_likelyFrom_10 rfl (lv_at hl 2 rfl) ?_
  refine lv_iload_n hx hb dX3_likelyFrom_11 rfl (lv_at hl 3 rfl) ?_
  refine lv_iload hx hb dX3_likelyFrom_12 (lv_at hl 4 rfl) ?_
  refine jcallV (As := [.int 2, .int a3, .int a4]) (rest := []) ⟨hx, hb, hml, hown, hts⟩ hK hP hA hS hZ (c_X6_ended_16 l D cI cL ad zz hJ σ τ 2 (2) jz_2 a3 (A3) t3 a4 (A4) t4) cw_RX3_123 (jc_16 cI cL ad σ τ) rfl ⟨Nat.le_of_ble_eq_true rfl, Nat.le_of_ble_eq_true rfl⟩ rfl rfl rfl hl.1 rfl (Nat.le_of_ble_eq_true rfl) dX3_likelyFrom_14 ⟨Nat.zero_le _, Nat.zero_le _⟩ (fun r16 σ15 τ15 H locs h15 hP hS => ?_)
  obtain ⟨⟨rfl, rfl⟩, h15⟩ := h15
  refine lv_if_eq (tgt := 32) hx hb dX3_likelyFrom_17 (by decide) (fun c17 => ?_) (fun c17 => ?_)
  · have kc17 := jeq c17 rfl jz_0
    refine lv_aload_n hx hb dX3_likelyFrom_32 rfl (lv_at hl 0 rfl) ?_
    refine lv_iload_n hx hb dX3_likelyFrom_33 rfl (lv_at hl 1 rfl) ?_
    refine lv_iload_n hx hb dX3_likelyFrom_34 rfl (lv_at hl 2 rfl) ?_
    refine lv_iload_n hx hb dX3_likelyFrom_35 rfl (lv_at hl 3 rfl) ?_
    refine lv_iload hx hb dX3_likelyFrom_36 (lv_at hl 4 rfl) ?_
    have I18 : jI16 σ := ⟨(by omega), (by omega), (by omega), w4⟩
    have I19 : jI18 σ := ⟨(by omega), w6⟩
    have I20 : jI22 σ := ⟨(by omega), w8⟩
    have I21 : jI31 σ := ⟨(by omega), w10, w11⟩
    have I22 : jI38 σ := ⟨(by omega), (by omega), w14⟩
    refine jcallV (As := [.int a1, .int 2, .int a3, .int a4]) (rest := []) ⟨hx, hb, hml, hown, hts⟩ hK hP hA hS hZ (c_X3_putOn_43 l D cI cL ad zz hJ σ τ a1 (A1) t1 2 (2) jz_2 a3 (A3) t3 a4 (A4) t4 I18 I19 I20 I21 I22) cw_RX3_127 (jc_43 cI cL ad σ τ) rfl ⟨Nat.le_of_ble_eq_true rfl, Nat.le_of_ble_eq_true rfl⟩ rfl rfl rfl hl.1 rfl (Nat.le_of_ble_eq_true rfl) dX3_likelyFrom_38 ⟨Nat.zero_le _, Nat.zero_le _⟩ (fun r24 σ23 τ23 H locs h23 hP hS => ?_)
    obtain ⟨rfl, f25, h23⟩ := h23
    refine lv_istore (lv' := [(6, .int r24), (0, .ref (ad 43)), (1, .int a1), (2, .int 2), (3, .int a3), (4, .int a4), (5, .int a5)]) hx hb dX3_likelyFrom_41 hl (by decide) rfl (fun ls hl => ?_)
    refine lv_iload hx hb dX3_likelyFrom_43 (lv_at hl 5 rfl) ?_
    refine lv_iload hx hb dX3_likelyFrom_45 (lv_at hl 0 rfl) ?_
    refine jcallS (As := [.int a4, .int r24]) (rest := []) ⟨hx, hb, hml, hown, hts⟩ hK hP hA hS hZ (c_X0_after l D cI cL ad zz hJ σ23 τ a4 (A4) t4 r24 (r24.toInt) rfl) cw_RX3_130 ⟨Nat.le_of_ble_eq_true rfl, Nat.le_of_ble_eq_true rfl⟩ rfl rfl rfl hl.1 rfl (Nat.le_of_ble_eq_true rfl) dX3_likelyFrom_47 ⟨Nat.zero_le _, Nat.zero_le _⟩ (fun r27 σ26 τ26 H locs h26 hP hS => ?_)
    obtain ⟨⟨rfl, rfl⟩, h26⟩ := h26
    refine lv_istore (lv' := [(7, .int r27), (6, .int r24), (0, .ref (ad 43)), (1, .int a1), (2, .int 2), (3, .int a3), (4, .int a4), (5, .int a5)]) hx hb dX3_likelyFrom_50 hl (by decide) rfl (fun ls hl => ?_)
    refine lv_aload_n hx hb dX3_likelyFrom_52 rfl (lv_at hl 2 rfl) ?_
    refine lv_iload hx hb dX3_likelyFrom_53 (lv_at hl 1 rfl) ?_
    refine lv_iload_n hx hb dX3_likelyFrom_55 rfl (lv_at hl 4 rfl) ?_
    refine lv_iload_n hx hb dX3_likelyFrom_56 rfl (lv_at hl 5 rfl) ?_
    refine lv_iload hx hb dX3_likelyFrom_57 (lv_at hl 6 rfl) ?_
    have z28 : (σ23 16 0).toInt = (σ 16 0).toInt := by rw [(show σ23 16 0 = (σ 16 0) from (by rw [f25 16 (by omega)]))]
    have z29 : (σ23 16 1).toInt = (σ 16 1).toInt := by rw [(show σ23 16 1 = (σ 16 1) from (by rw [f25 16 (by omega)]))]
    have z30 : (σ23 16 2).toInt = (σ 16 2).toInt := by rw [(show σ23 16 2 = (σ 16 2) from (by rw [f25 16 (by omega)]))]
    have w31 : ∀ k : Nat, k < 8 → 0 ≤ (σ23 17 k).toInt ∧ (σ23 17 k).toInt ≤ 3 := (by rw [f25 17 (by omega)]; exact w4)
    have I32 : jI16 σ23 := ⟨(by omega), (by omega), (by omega), w31⟩
    have z33 : (σ23 22 0).toInt = (σ 22 0).toInt := by rw [(show σ23 22 0 = (σ 22 0) from (by rw [f25 22 (by omega)]))]
    have w34 : ∀ k : Nat, k < 160 → 0 ≤ (σ23 23 k).toInt ∧ (σ23 23 k).toInt ≤ 30000 := (by rw [f25 23 (by omega)]; exact w8)
    have I35 : jI22 σ23 := ⟨(by omega), w34⟩
    refine jcallV (As := [.int r24, .int 2, .int a3, .int a4]) (rest := []) ⟨hx, hb, hml, hown, hts⟩ hK hP hA hS hZ (c_X3_outBy_43 l D cI cL ad zz hJ σ23 τ r24 (r24.toInt) rfl 2 (2) jz_2 a3 (A3) t3 a4 (A4) t4 I32 I35) cw_RX3_139 (jc_43 cI cL ad σ23 τ) rfl ⟨Nat.le_of_ble_eq_true rfl, Nat.le_of_ble_eq_true rfl⟩ rfl rfl rfl hl.1 rfl (Nat.le_of_ble_eq_true rfl) dX3_likelyFrom_59 ⟨Nat.zero_le _, Nat.zero_le _⟩ (fun r37 σ36 τ36 H locs h36 hP hS => ?_)
    obtain ⟨rfl, f38, h36⟩ := h36
    refine lv_istore (lv' := [(8, .int r37), (7, .int r27), (6, .int r24), (0, .ref (ad 43)), (1, .int a1), (2, .int 2), (3, .int a3), (4, .int a4), (5, .int a5)]) hx hb dX3_likelyFrom_62 hl (by decide) rfl (fun ls hl => ?_)
    refine lv_iload hx hb dX3_likelyFrom_64 (lv_at hl 8 rfl) ?_
    refine lv_aload_n hx hb dX3_likelyFrom_66 rfl (lv_at hl 3 rfl) ?_
    refine lv_iload hx hb dX3_likelyFrom_67 (lv_at hl 2 rfl) ?_
    refine lv_iload_n hx hb dX3_likelyFrom_69 rfl (lv_at hl 6 rfl) ?_
    refine lv_iload hx hb dX3_likelyFrom_70 (lv_at hl 7 rfl) ?_
    have z39 : (σ36 16 0).toInt = (σ 16 0).toInt := by rw [(show σ36 16 0 = (σ 16 0) from (by rw [f38 16 (by omega)]; exact (by rw [f25 16 (by omega)])))]
    have z40 : (σ36 16 1).toInt = (σ 16 1).toInt := by rw [(show σ36 16 1 = (σ 16 1) from (by rw [f38 16 (by omega)]; exact (by rw [f25 16 (by omega)])))]
    have z41 : (σ36 16 2).toInt = (σ 16 2).toInt := by rw [(show σ36 16 2 = (σ 16 2) from (by rw [f38 16 (by omega)]; exact (by rw [f25 16 (by omega)])))]
    have w42 : ∀ k : Nat, k < 8 → 0 ≤ (σ36 17 k).toInt ∧ (σ36 17 k).toInt ≤ 3 := (by rw [f38 17 (by omega)]; exact w31)
    have I43 : jI16 σ36 := ⟨(by omega), (by omega), (by omega), w42⟩
    refine jcallV (As := [.int r24, .int a3, .int a4]) (rest := [.int a5]) ⟨hx, hb, hml, hown, hts⟩ hK hP hA hS hZ (c_X3_runsBy_43 l D cI cL ad zz hJ σ36 τ r24 (r24.toInt) rfl a3 (A3) t3 a4 (A4) t4 I43) cw_RX3_136 (jc_43 cI cL ad σ36 τ) rfl ⟨Nat.le_of_ble_eq_true rfl, Nat.le_of_ble_eq_true rfl⟩ rfl rfl rfl hl.1 rfl (Nat.le_of_ble_eq_true rfl) dX3_likelyFrom_72 ⟨Nat.zero_le _, Nat.zero_le _⟩ (fun r45 σ44 τ44 H locs h44 hP hS => ?_)
    obtain ⟨⟨rfl, rfl⟩, h44⟩ := h44
    have g46 := jrg (rfl : r45.toInt = r45.toInt)
    refine lv_isub hx hb dX3_likelyFrom_75 ?_
    refine lv_topi (fun x47 ex47 => ?_)
    have gx47 := jrg (rfl : x47.toInt = x47.toInt)
    refine lv_istore (lv' := [(9, .int x47), (8, .int r37), (7, .int r27), (6, .int r24), (0, .ref (ad 43)), (1, .int a1), (2, .int 2), (3, .int a3), (4, .int a4), (5, .int a5)]) hx hb dX3_likelyFrom_76 hl (by decide) rfl (fun ls hl => ?_)
    refine lv_aload_n hx hb dX3_likelyFrom_78 rfl (lv_at hl 4 rfl) ?_
    refine lv_iload_n hx hb dX3_likelyFrom_79 rfl (lv_at hl 5 rfl) ?_
    refine lv_iload_n hx hb dX3_likelyFrom_80 rfl (lv_at hl 6 rfl) ?_
    refine lv_iconst (v := 1) hx hb dX3_likelyFrom_81 (by decide) ?_
    refine lv_iadd hx hb dX3_likelyFrom_82 ?_
    refine jtopr (y := 3) (by decide) ?_
    refine lv_iload_n hx hb dX3_likelyFrom_83 rfl (lv_at hl 7 rfl) ?_
    refine lv_iconst (v := 1) hx hb dX3_likelyFrom_84 (by decide) ?_
    refine lv_iadd hx hb dX3_likelyFrom_85 ?_
    refine lv_topi (fun x48 ex48 => ?_)
    have gx48 := jrg (rfl : x48.toInt = x48.toInt)
    refine lv_iload hx hb dX3_likelyFrom_86 (lv_at hl 2 rfl) ?_
    refine lv_iload hx hb dX3_likelyFrom_88 (lv_at hl 0 rfl) ?_
    have z49 : (σ36 18 0).toInt = (σ 18 0).toInt := by rw [(show σ36 18 0 = (σ 18 0) from (by rw [f38 18 (by omega)]; exact (by rw [f25 18 (by omega)])))]
    have w50 : ∀ k : Nat, k < 160 → 0 ≤ (σ36 19 k).toInt ∧ (σ36 19 k).toInt ≤ 30000 := (by rw [f38 19 (by omega)]; exact (by rw [f25 19 (by omega)]; exact w6))
    have I51 : jI18 σ36 := ⟨(by omega), w50⟩
    have z52 : (σ36 22 0).toInt = (σ 22 0).toInt := by rw [(show σ36 22 0 = (σ 22 0) from (by rw [f38 22 (by omega)]; exact (by rw [f25 22 (by omega)])))]
    have w53 : ∀ k : Nat, k < 160 → 0 ≤ (σ36 23 k).toInt ∧ (σ36 23 k).toInt ≤ 30000 := (by rw [f38 23 (by omega)]; exact w34)
    have I54 : jI22 σ36 := ⟨(by omega), w53⟩
    have z55 : (σ36 31 8).toInt = (σ 31 8).toInt := by rw [(show σ36 31 8 = (σ 31 8) from (by rw [f38 31 (by omega)]; exact (by rw [f25 31 (by omega)])))]
    have w56 : ∀ k : Nat, k < 1400 → (-1) ≤ (σ36 33 k).toInt ∧ (σ36 33 k).toInt ≤ 350 := (by rw [f38 33 (by omega)]; exact (by rw [f25 33 (by omega)]; exact w10))
    have w57 : ∀ k : Nat, k < 1024 → 0 ≤ (σ36 36 k).toInt ∧ (σ36 36 k).toInt ≤ 349 := (by rw [f38 36 (by omega)]; exact (by rw [f25 36 (by omega)]; exact w11))
    have I58 : jI31 σ36 := ⟨(by omega), w56, w57⟩
    have z59 : (σ36 38 0).toInt = (σ 38 0).toInt := by rw [(show σ36 38 0 = (σ 38 0) from (by rw [f38 38 (by omega)]; exact (by rw [f25 38 (by omega)])))]
    have z60 : (σ36 38 1).toInt = (σ 38 1).toInt := by rw [(show σ36 38 1 = (σ 38 1) from (by rw [f38 38 (by omega)]; exact (by rw [f25 38 (by omega)])))]
    have w61 : ∀ k : Nat, k < 20 → 0 ≤ (σ36 39 k).toInt ∧ (σ36 39 k).toInt ≤ 6 := (by rw [f38 39 (by omega)]; exact (by rw [f25 39 (by omega)]; exact w14))
    have I62 : jI38 σ36 := ⟨(by omega), (by omega), w61⟩
    refine jcallV (As := [.int a1, .int 3, .int x48, .int r27, .int x47]) (rest := []) ⟨hx, hb, hml, hown, hts⟩ hK hP hA hS hZ (c_X3_likelyFrom_3 l D cI cL ad zz hJ σ36 τ a1 (A1) t1 x48 (x48.toInt) rfl r27 (r27.toInt) rfl x47 (x47.toInt) rfl I43 I51 I54 I58 I62) cw_RX3_146 (jc_43 cI cL ad σ36 τ) rfl ⟨Nat.le_of_ble_eq_true rfl, Nat.le_of_ble_eq_true rfl⟩ rfl rfl rfl hl.1 rfl (Nat.le_of_ble_eq_true rfl) dX3_likelyFrom_90 ⟨Nat.zero_le _, Nat.zero_le _⟩ (fun r64 σ63 τ63 H locs h63 hP hS => ?_)
    obtain ⟨rfl, f65, h63⟩ := h63
    refine lv_istore (lv' := [(10, .int r64), (9, .int x47), (8, .int r37), (7, .int r27), (6, .int r24), (0, .ref (ad 43)), (1, .int a1), (2, .int 2), (3, .int a3), (4, .int a4), (5, .int a5)]) hx hb dX3_likelyFrom_93 hl (by decide) rfl (fun ls hl => ?_)
    refine lv_aload_n hx hb dX3_likelyFrom_95 rfl (lv_at hl 5 rfl) ?_
    refine lv_iload_n hx hb dX3_likelyFrom_96 rfl (lv_at hl 6 rfl) ?_
    refine lv_iload_n hx hb dX3_likelyFrom_97 rfl (lv_at hl 7 rfl) ?_
    refine lv_iconst (v := 1) hx hb dX3_likelyFrom_98 (by decide) ?_
    refine lv_iadd hx hb dX3_likelyFrom_99 ?_
    refine jtopr (y := 3) (by decide) ?_
    refine lv_iload_n hx hb dX3_likelyFrom_100 rfl (lv_at hl 8 rfl) ?_
    refine lv_iload hx hb dX3_likelyFrom_101 (lv_at hl 3 rfl) ?_
    refine lv_iload hx hb dX3_likelyFrom_103 (lv_at hl 1 rfl) ?_
    have z66 : (σ63 16 0).toInt = (σ 16 0).toInt := by rw [(show σ63 16 0 = (σ 16 0) from (by rw [f65 16 (by omega)]; exact (by rw [f38 16 (by omega)]; exact (by rw [f25 16 (by omega)]))))]
    have z67 : (σ63 16 1).toInt = (σ 16 1).toInt := by rw [(show σ63 16 1 = (σ 16 1) from (by rw [f65 16 (by omega)]; exact (by rw [f38 16 (by omega)]; exact (by rw [f25 16 (by omega)]))))]
    have z68 : (σ63 16 2).toInt = (σ 16 2).toInt := by rw [(show σ63 16 2 = (σ 16 2) from (by rw [f65 16 (by omega)]; exact (by rw [f38 16 (by omega)]; exact (by rw [f25 16 (by omega)]))))]
    have w69 : ∀ k : Nat, k < 8 → 0 ≤ (σ63 17 k).toInt ∧ (σ63 17 k).toInt ≤ 3 := (by rw [f65 17 (by omega)]; exact w42)
    have I70 : jI16 σ63 := ⟨(by omega), (by omega), (by omega), w69⟩
    have z71 : (σ63 18 0).toInt = (σ 18 0).toInt := by rw [(show σ63 18 0 = (σ 18 0) from (by rw [f65 18 (by omega)]; exact (by rw [f38 18 (by omega)]; exact (by rw [f25 18 (by omega)]))))]
    have w72 : ∀ k : Nat, k < 160 → 0 ≤ (σ63 19 k).toInt ∧ (σ63 19 k).toInt ≤ 30000 := (by rw [f65 19 (by omega)]; exact w50)
    have I73 : jI18 σ63 := ⟨(by omega), w72⟩
    have z74 : (σ63 22 0).toInt = (σ 22 0).toInt := by rw [(show σ63 22 0 = (σ 22 0) from (by rw [f65 22 (by omega)]; exact (by rw [f38 22 (by omega)]; exact (by rw [f25 22 (by omega)]))))]
    have w75 : ∀ k : Nat, k < 160 → 0 ≤ (σ63 23 k).toInt ∧ (σ63 23 k).toInt ≤ 30000 := (by rw [f65 23 (by omega)]; exact w53)
    have I76 : jI22 σ63 := ⟨(by omega), w75⟩
    have z77 : (σ63 31 8).toInt = (σ 31 8).toInt := by rw [(show σ63 31 8 = (σ 31 8) from (by rw [f65 31 (by omega)]; exact (by rw [f38 31 (by omega)]; exact (by rw [f25 31 (by omega)]))))]
    have w78 : ∀ k : Nat, k < 1400 → (-1) ≤ (σ63 33 k).toInt ∧ (σ63 33 k).toInt ≤ 350 := (by rw [f65 33 (by omega)]; exact w56)
    have w79 : ∀ k : Nat, k < 1024 → 0 ≤ (σ63 36 k).toInt ∧ (σ63 36 k).toInt ≤ 349 := (by rw [f65 36 (by omega)]; exact w57)
    have I80 : jI31 σ63 := ⟨(by omega), w78, w79⟩
    have z81 : (σ63 38 0).toInt = (σ 38 0).toInt := by rw [(show σ63 38 0 = (σ 38 0) from (by rw [f65 38 (by omega)]; exact (by rw [f38 38 (by omega)]; exact (by rw [f25 38 (by omega)]))))]
    have z82 : (σ63 38 1).toInt = (σ 38 1).toInt := by rw [(show σ63 38 1 = (σ 38 1) from (by rw [f65 38 (by omega)]; exact (by rw [f38 38 (by omega)]; exact (by rw [f25 38 (by omega)]))))]
    have w83 : ∀ k : Nat, k < 20 → 0 ≤ (σ63 39 k).toInt ∧ (σ63 39 k).toInt ≤ 6 := (by rw [f65 39 (by omega)]; exact w61)
    have I84 : jI38 σ63 := ⟨(by omega), (by omega), w83⟩
    refine jcallV (As := [.int a1, .int 3, .int a3, .int r27, .int x47]) (rest := []) ⟨hx, hb, hml, hown, hts⟩ hK hP hA hS hZ (c_X3_likelyFrom_3 l D cI cL ad zz hJ σ63 τ a1 (A1) t1 a3 (A3) t3 r27 (r27.toInt) rfl x47 (x47.toInt) rfl I70 I73 I76 I80 I84) cw_RX3_146 (jc_43 cI cL ad σ63 τ) rfl ⟨Nat.le_of_ble_eq_true rfl, Nat.le_of_ble_eq_true rfl⟩ rfl rfl rfl hl.1 rfl (Nat.le_of_ble_eq_true rfl) dX3_likelyFrom_105 ⟨Nat.zero_le _, Nat.zero_le _⟩ (fun r86 σ85 τ85 H locs h85 hP hS => ?_)
    obtain ⟨rfl, f87, h85⟩ := h85
    refine lv_istore (lv' := [(11, .int r86), (10, .int r64), (9, .int x47), (8, .int r37), (7, .int r27), (6, .int r24), (0, .ref (ad 43)), (1, .int a1), (2, .int 2), (3, .int a3), (4, .int a4), (5, .int a5)]) hx hb dX3_likelyFrom_108 hl (by decide) rfl (fun ls hl => ?_)
    refine lv_iload hx hb dX3_likelyFrom_110 (lv_at hl 3 rfl) ?_
    refine lv_iload hx hb dX3_likelyFrom_112 (lv_at hl 1 rfl) ?_
    have g88 := jrg (rfl : r37.toInt = r37.toInt)
    have g89 := jrg (rfl : r64.toInt = r64.toInt)
    refine lv_imul hx hb dX3_likelyFrom_114 ?_
    refine lv_topi (fun x90 ex90 => ?_)
    have gx90 := jrg (rfl : x90.toInt = x90.toInt)
    refine lv_sipush (v := 1000) hx hb dX3_likelyFrom_115 (by decide) ?_
    refine lv_iload hx hb dX3_likelyFrom_118 (lv_at hl 3 rfl) ?_
    refine lv_isub hx hb dX3_likelyFrom_120 ?_
    refine lv_topi (fun x91 ex91 => ?_)
    have gx91 := jrg (rfl : x91.toInt = x91.toInt)
    refine lv_iload hx hb dX3_likelyFrom_121 (lv_at hl 0 rfl) ?_
    have g92 := jrg (rfl : x91.toInt = x91.toInt)
    have g93 := jrg (rfl : r86.toInt = r86.toInt)
    refine lv_imul hx hb dX3_likelyFrom_123 ?_
    refine lv_topi (fun x94 ex94 => ?_)
    have gx94 := jrg (rfl : x94.toInt = x94.toInt)
    have g95 := jrg (rfl : x90.toInt = x90.toInt)
    have g96 := jrg (rfl : x94.toInt = x94.toInt)
    refine lv_iadd hx hb dX3_likelyFrom_124 ?_
    refine lv_topi (fun x97 ex97 => ?_)
    have gx97 := jrg (rfl : x97.toInt = x97.toInt)
    refine lv_sipush (v := 1000) hx hb dX3_likelyFrom_125 (by decide) ?_
    refine lv_idiv hx hb dX3_likelyFrom_128 (by decide) ?_
    refine lv_topi (fun x98 ex98 => ?_)
    have gx98 := jrg (rfl : x98.toInt = x98.toInt)
    refine lv_istore (lv' := [(12, .int x98), (11, .int r86), (10, .int r64), (9, .int x47), (8, .int r37), (7, .int r27), (6, .int r24), (0, .ref (ad 43)), (1, .int a1), (2, .int 2), (3, .int a3), (4, .int a4), (5, .int a5)]) hx hb dX3_likelyFrom_129 hl (by decide) rfl (fun ls hl => ?_)
    refine lv_iload hx hb dX3_likelyFrom_131 (lv_at hl 3 rfl) ?_
    refine lv_if_le (tgt := 141) hx hb dX3_likelyFrom_133 (by decide) (fun c99 => ?_) (fun c99 => ?_)
    · have kc99 := jle c99 rfl jz_0
      refine lv_iconst (v := 0) hx hb dX3_likelyFrom_141 (by decide) ?_
      refine lv_istore (lv' := [(13, .int 0), (12, .int x98), (11, .int r86), (10, .int r64), (9, .int x47), (8, .int r37), (7, .int r27), (6, .int r24), (0, .ref (ad 43)), (1, .int a1), (2, .int 2), (3, .int a3), (4, .int a4), (5, .int a5)]) hx hb dX3_likelyFrom_142 hl (by decide) rfl (fun ls hl => ?_)
      refine lv_aload_n hx hb dX3_likelyFrom_144 rfl (lv_at hl 8 rfl) ?_
      refine va_get (D := D) hx hb hts inlX3 hown hK hP 43 (jc_43 cI cL ad σ85 τ) rfl 3 (by decide) (hts _ kw_6_5) (fun _ h9 => h9) rfl dX3_likelyFrom_145 ?_
      refine va_get (D := D) hx hb hts inlX6 hown hK hP 16 (jc_16 cI cL ad σ85 τ) rfl 2 (by decide) (hts _ kw_37_2) (fun _ h9 => h9) rfl dX3_likelyFrom_148 ?_
      have m100 : σ85 16 2 = (σ 16 2) := (by rw [f87 16 (by omega)]; exact (by rw [f65 16 (by omega)]; exact (by rw [f38 16 (by omega)]; exact (by rw [f25 16 (by omega)]))))
      refine jtopr m100 ?_
      refine lv_iload hx hb dX3_likelyFrom_151 (lv_at hl 0 rfl) ?_
      refine lv_imul hx hb dX3_likelyFrom_153 ?_
      refine lv_topi (fun x101 ex101 => ?_)
      have tx101 : x101.toInt = 0 := (jmul ex101 rfl jz_0 (by omega) (by omega)).trans (by omega)
      refine lv_sipush (v := 1000) hx hb dX3_likelyFrom_154 (by decide) ?_
      refine lv_aload_n hx hb dX3_likelyFrom_157 rfl (lv_at hl 8 rfl) ?_
      refine va_get (D := D) hx hb hts inlX3 hown hK hP 43 (jc_43 cI cL ad σ85 τ) rfl 3 (by decide) (hts _ kw_6_5) (fun _ h9 => h9) rfl dX3_likelyFrom_158 ?_
      refine va_get (D := D) hx hb hts inlX6 hown hK hP 16 (jc_16 cI cL ad σ85 τ) rfl 2 (by decide) (hts _ kw_37_2) (fun _ h9 => h9) rfl dX3_likelyFrom_161 ?_
      refine jtopr m100 ?_
      have g102 := jrg (rfl : (σ 16 2).toInt = (σ 16 2).toInt)
      refine lv_isub hx hb dX3_likelyFrom_164 ?_
      refine lv_topi (fun x103 ex103 => ?_)
      have tx103 : x103.toInt = -(σ 16 2).toInt + 1000 := (jsub ex103 jz_1000 rfl (by omega) (by omega)).trans (by omega)
      refine lv_iload hx hb dX3_likelyFrom_165 (lv_at hl 1 rfl) ?_
      have g104 := jrg (rfl : x98.toInt = x98.toInt)
      refine lv_imul hx hb dX3_likelyFrom_167 ?_
      refine lv_topi (fun x105 ex105 => ?_)
      have gx105 := jrg (rfl : x105.toInt = x105.toInt)
      have g106 := jrg (rfl : x105.toInt = x105.toInt)
      refine lv_iadd hx hb dX3_likelyFrom_168 ?_
      refine lv_topi (fun x107 ex107 => ?_)
      have tx107 : x107.toInt = x105.toInt := (jadd ex107 tx101 rfl (by omega) (by omega)).trans (by omega)
      refine lv_sipush (v := 1000) hx hb dX3_likelyFrom_169 (by decide) ?_
      refine lv_idiv hx hb dX3_likelyFrom_172 (by decide) ?_
      refine lv_topi (fun x108 ex108 => ?_)
      have gx108 := jrg (rfl : x108.toInt = x108.toInt)
      exact hret x108 σ85 τ _ _ _ _ rfl ⟨rfl, (fun i hi => by rw [f87 i (by omega), f65 i (by omega), f38 i (by omega), f25 i (by omega)]), trivial⟩ hP hS dX3_likelyFrom_173
    · have kc99 := jnle c99 rfl jz_0
      refine lv_ldc (v := 1000000) hx hb hown (hts _ kw_37_1) dX3_likelyFrom_136 ?_
      refine lv_goto (tgt := 142) hx hb dX3_likelyFrom_138 (by decide) ?_
      refine lv_istore (lv' := [(13, .int 1000000), (12, .int x98), (11, .int r86), (10, .int r64), (9, .int x47), (8, .int r37), (7, .int r27), (6, .int r24), (0, .ref (ad 43)), (1, .int a1), (2, .int 2), (3, .int a3), (4, .int a4), (5, .int a5)]) hx hb dX3_likelyFrom_142 hl (by decide) rfl (fun ls hl => ?_)
      refine lv_aload_n hx hb dX3_likelyFrom_144 rfl (lv_at hl 8 rfl) ?_
      refine va_get (D := D) hx hb hts inlX3 hown hK hP 43 (jc_43 cI cL ad σ85 τ) rfl 3 (by decide) (hts _ kw_6_5) (fun _ h9 => h9) rfl dX3_likelyFrom_145 ?_
      refine va_get (D := D) hx hb hts inlX6 hown hK hP 16 (jc_16 cI cL ad σ85 τ) rfl 2 (by decide) (hts _ kw_37_2) (fun _ h9 => h9) rfl dX3_likelyFrom_148 ?_
      have m109 : σ85 16 2 = (σ 16 2) := (by rw [f87 16 (by omega)]; exact (by rw [f65 16 (by omega)]; exact (by rw [f38 16 (by omega)]; exact (by rw [f25 16 (by omega)]))))
      refine jtopr m109 ?_
      refine lv_iload hx hb dX3_likelyFrom_151 (lv_at hl 0 rfl) ?_
      have g110 := jrg (rfl : (σ 16 2).toInt = (σ 16 2).toInt)
      refine lv_imul hx hb dX3_likelyFrom_153 ?_
      refine lv_topi (fun x111 ex111 => ?_)
      have tx111 : x111.toInt = 1000000 * (σ 16 2).toInt := (jmul ex111 rfl jz_1000000 (by omega) (by omega)).trans (by omega)
      refine lv_sipush (v := 1000) hx hb dX3_likelyFrom_154 (by decide) ?_
      refine lv_aload_n hx hb dX3_likelyFrom_157 rfl (lv_at hl 8 rfl) ?_
      refine va_get (D := D) hx hb hts inlX3 hown hK hP 43 (jc_43 cI cL ad σ85 τ) rfl 3 (by decide) (hts _ kw_6_5) (fun _ h9 => h9) rfl dX3_likelyFrom_158 ?_
      refine va_get (D := D) hx hb hts inlX6 hown hK hP 16 (jc_16 cI cL ad σ85 τ) rfl 2 (by decide) (hts _ kw_37_2) (fun _ h9 => h9) rfl dX3_likelyFrom_161 ?_
      refine jtopr m109 ?_
      refine lv_isub hx hb dX3_likelyFrom_164 ?_
      refine lv_topi (fun x112 ex112 => ?_)
      have tx112 : x112.toInt = -(σ 16 2).toInt + 1000 := (jsub ex112 jz_1000 rfl (by omega) (by omega)).trans (by omega)
      refine lv_iload hx hb dX3_likelyFrom_165 (lv_at hl 1 rfl) ?_
      have g113 := jrg (rfl : x98.toInt = x98.toInt)
      refine lv_imul hx hb dX3_likelyFrom_167 ?_
      refine lv_topi (fun x114 ex114 => ?_)
      have gx114 := jrg (rfl : x114.toInt = x114.toInt)
      have g115 := jrg (rfl : x114.toInt = x114.toInt)
      refine lv_iadd hx hb dX3_likelyFrom_168 ?_
      refine lv_topi (fun x116 ex116 => ?_)
      have gx116 := jrg (rfl : x116.toInt = x116.toInt)
      refine lv_sipush (v := 1000) hx hb dX3_likelyFrom_169 (by decide) ?_
      refine lv_idiv hx hb dX3_likelyFrom_172 (by decide) ?_
      refine lv_topi (fun x117 ex117 => ?_)
      have gx117 := jrg (rfl : x117.toInt = x117.toInt)
      exact hret x117 σ85 τ _ _ _ _ rfl ⟨rfl, (fun i hi => by rw [f87 i (by omega), f65 i (by omega), f38 i (by omega), f25 i (by omega)]), trivial⟩ hP hS dX3_likelyFrom_173
  · have kc17 := jne c17 rfl jz_0
    refine lv_iload hx hb dX3_likelyFrom_20 (lv_at hl 5 rfl) ?_
    refine lv_if_le (tgt := 30) hx hb dX3_likelyFrom_22 (by decide) (fun c118 => ?_) (fun c118 => ?_)
    · have kc118 := jle c118 t5 jz_0
      refine lv_iconst (v := 0) hx hb dX3_likelyFrom_30 (by decide) ?_
      exact hret 0 σ τ _ _ _ _ rfl ⟨rfl, (fun _ _ => rfl), trivial⟩ hP hS dX3_likelyFrom_31
    · have kc118 := jnle c118 t5 jz_0
      refine lv_ldc (v := 1000000) hx hb hown (hts _ kw_37_1) dX3_likelyFrom_25 ?_
      refine lv_goto (tgt := 31) hx hb dX3_likelyFrom_27 (by decide) ?_
      exact hret 1000000 σ τ _ _ _ _ rfl ⟨rfl, (fun _ _ => rfl), trivial⟩ hP hS dX3_likelyFrom_31
set_option maxHeartbeats 4000000 in
set_option maxRecDepth 100000 in
theorem c_X3_likelyFrom_1 (l : Launch) (D : va_G) (cI cL : ClassId) (ad zz : Nat → Nat) (hJ : jD ad) (σ : Nat → Nat → Int32) (τ : Nat → Nat → Int64) (a1 : Int32) (A1 : Int) (t1 : a1.toInt = A1) (a3 : Int32) (A3 : Int) (t3 : a3.toInt = A3) (a4 : Int32) (A4 : Int) (t4 : a4.toInt = A4) (a5 : Int32) (A5 : Int) (t5 : a5.toInt = A5) (hI16 : jI16 σ) (hI18 : jI18 σ) (hI22 : jI22 σ) (hI31 : jI31 σ) (hI38 : jI38 σ) : jM l yX3_likelyFrom cX3_likelyFrom 14 (some .int) ({ frames := 12, cells := 0, slots := 0, locals := 355 }) D cI cL ad zz [.ref (ad 43), .int a1, .int 1, .int a3, .int a4, .int a5] σ τ (fun r σ' τ' => τ = τ' ∧ (∀ i : Nat, (i < 20 ∨ 21 < i) ∧ (i < 24 ∨ 25 < i) ∧ (i < 29 ∨ 30 < i) → σ' i = σ i) ∧ True) := by
  refine jM.of hJ (by decide +kernel) (nt := .int) rfl (Nat.le_of_ble_eq_true rfl) ?_
  intro p e s m args below meth c Q ls hC hret hl hP
  obtain ⟨hx, hb, hr, hml, hown, hts, hK, -, hlocks, hZ⟩ := hC
  have hown : s.vm.findClass RX3 = some m.cls := hown
  have hS : va_S (jA ad) s.heap s.heap [] := va_S.rf
  have hA : ∀ q, jA ad q → jA ad q := fun _ h => h
  have hl : lv_has ls 14 [(0, .ref (ad 43)), (1, .int a1), (2, .int 1), (3, .int a3), (4, .int a4), (5, .int a5)] := hl
  have g1 := jrg t1
  have g3 := jrg t3
  have g4 := jrg t4
  have g5 := jrg t5
  obtain ⟨i1, i2, i3, w4⟩ : (1 ≤ (σ 16 0).toInt ∧ (σ 16 0).toInt ≤ 8) ∧ (1 ≤ (σ 16 1).toInt ∧ (σ 16 1).toInt ≤ 12) ∧ (0 ≤ (σ 16 2).toInt ∧ (σ 16 2).toInt ≤ 999) ∧ (∀ k : Nat, k < 8 → 0 ≤ (σ 17 k).toInt ∧ (σ 17 k).toInt ≤ 3) := id hI16
  obtain ⟨i5, w6⟩ : (0 ≤ (σ 18 0).toInt ∧ (σ 18 0).toInt ≤ 160) ∧ (∀ k : Nat, k < 160 → 0 ≤ (σ 19 k).toInt ∧ (σ 19 k).toInt ≤ 30000) := id hI18
  obtain ⟨i7, w8⟩ : (0 ≤ (σ 22 0).toInt ∧ (σ 22 0).toInt ≤ 160) ∧ (∀ k : Nat, k < 160 → 0 ≤ (σ 23 k).toInt ∧ (σ 23 k).toInt ≤ 30000) := id hI22
  obtain ⟨i9, w10, w11⟩ : (0 ≤ (σ 31 8).toInt ∧ (σ 31 8).toInt ≤ 350) ∧ (∀ k : Nat, k < 1400 → (-1) ≤ (σ 33 k).toInt ∧ (σ 33 k).toInt ≤ 350) ∧ (∀ k : Nat, k < 1024 → 0 ≤ (σ 36 k).toInt ∧ (σ 36 k).toInt ≤ 349) := id hI31
  obtain ⟨i12, i13, w14⟩ : (0 ≤ (σ 38 0).toInt ∧ (σ 38 0).toInt ≤ 20) ∧ (0 ≤ (σ 38 1).toInt ∧ (σ 38 1).toInt ≤ 1000) ∧ (∀ k : Nat, k < 20 → 0 ≤ (σ 39 k).toInt ∧ (σ 39 k).toInt ≤ 6) := id hI38
  refine lv_iload_n hx hb dX3_likelyFrom_0 rfl (lv_at hl 2 rfl) ?_
  refine lv_bipush (v := 8) hx hb dX3_likelyFrom_1 (by decide) ?_
  refine lv_icmp_ge (tgt := 20) hx hb dX3_likelyFrom_3 (by decide) (fun c => absurd c (by decide)) (fun _ => ?_)
  refine lv_aload_n hx hb dX3_likelyFrom_6 rfl (lv_at hl 0 rfl) ?_
  refine va_get (D := D) hx hb hts inlX3 hown hK hP 43 (jc_43 cI cL ad σ τ) rfl 3 (by decide) (hts _ kw_6_5) (fun _ h9 => h9) rfl dX3_likelyFrom_7 ?_
  refine lv_iload_n hx hb dX3_likelyFrom_10 rfl (lv_at hl 2 rfl) ?_
  refine lv_iload_n hx hb dX3_likelyFrom_11 rfl (lv_at hl 3 rfl) ?_
  refine lv_iload hx hb dX3_likelyFrom_12 (lv_at hl 4 rfl) ?_
  refine jcallV (As := [.int 1, .int a3, .int a4]) (rest := []) ⟨hx, hb, hml, hown, hts⟩ hK hP hA hS hZ (c_X6_ended_16 l D cI cL ad zz hJ σ τ 1 (1) jz_1 a3 (A3) t3 a4 (A4) t4) cw_RX3_123 (jc_16 cI cL ad σ τ) rfl ⟨Nat.le_of_ble_eq_true rfl, Nat.le_of_ble_eq_true rfl⟩ rfl rfl rfl hl.1 rfl (Nat.le_of_ble_eq_true rfl) dX3_likelyFrom_14 ⟨Nat.zero_le _, Nat.zero_le _⟩ (fun r16 σ15 τ15 H locs h15 hP hS => ?_)
  obtain ⟨⟨rfl, rfl⟩, h15⟩ := h15
  refine lv_if_eq (tgt := 32) hx hb dX3_likelyFrom_17 (by decide) (fun c17 => ?_) (fun c17 => ?_)
  · have kc17 := jeq c17 rfl jz_0
    refine lv_aload_n hx hb dX3_likelyFrom_32 rfl (lv_at hl 0 rfl) ?_
    refine lv_iload_n hx hb dX3_likelyFrom_33 rfl (lv_at hl 1 rfl) ?_
    refine lv_iload_n hx hb dX3_likelyFrom_34 rfl (lv_at hl 2 rfl) ?_
    refine lv_iload_n hx hb dX3_likelyFrom_35 rfl (lv_at hl 3 rfl) ?_
    refine lv_iload hx hb dX3_likelyFrom_36 (lv_at hl 4 rfl) ?_
    have I18 : jI16 σ := ⟨(by omega), (by omega), (by omega), w4⟩
    have I19 : jI18 σ := ⟨(by omega), w6⟩
    have I20 : jI22 σ := ⟨(by omega), w8⟩
    have I21 : jI31 σ := ⟨(by omega), w10, w11⟩
    have I22 : jI38 σ := ⟨(by omega), (by omega), w14⟩
    refine jcallV (As := [.int a1, .int 1, .int a3, .int a4]) (rest := []) ⟨hx, hb, hml, hown, hts⟩ hK hP hA hS hZ (c_X3_putOn_43 l D cI cL ad zz hJ σ τ a1 (A1) t1 1 (1) jz_1 a3 (A3) t3 a4 (A4) t4 I18 I19 I20 I21 I22) cw_RX3_127 (jc_43 cI cL ad σ τ) rfl ⟨Nat.le_of_ble_eq_true rfl, Nat.le_of_ble_eq_true rfl⟩ rfl rfl rfl hl.1 rfl (Nat.le_of_ble_eq_true rfl) dX3_likelyFrom_38 ⟨Nat.zero_le _, Nat.zero_le _⟩ (fun r24 σ23 τ23 H locs h23 hP hS => ?_)
    obtain ⟨rfl, f25, h23⟩ := h23
    refine lv_istore (lv' := [(6, .int r24), (0, .ref (ad 43)), (1, .int a1), (2, .int 1), (3, .int a3), (4, .int a4), (5, .int a5)]) hx hb dX3_likelyFrom_41 hl (by decide) rfl (fun ls hl => ?_)
    refine lv_iload hx hb dX3_likelyFrom_43 (lv_at hl 5 rfl) ?_
    refine lv_iload hx hb dX3_likelyFrom_45 (lv_at hl 0 rfl) ?_
    refine jcallS (As := [.int a4, .int r24]) (rest := []) ⟨hx, hb, hml, hown, hts⟩ hK hP hA hS hZ (c_X0_after l D cI cL ad zz hJ σ23 τ a4 (A4) t4 r24 (r24.toInt) rfl) cw_RX3_130 ⟨Nat.le_of_ble_eq_true rfl, Nat.le_of_ble_eq_true rfl⟩ rfl rfl rfl hl.1 rfl (Nat.le_of_ble_eq_true rfl) dX3_likelyFrom_47 ⟨Nat.zero_le _, Nat.zero_le _⟩ (fun r27 σ26 τ26 H locs h26 hP hS => ?_)
    obtain ⟨⟨rfl, rfl⟩, h26⟩ := h26
    refine lv_istore (lv' := [(7, .int r27), (6, .int r24), (0, .ref (ad 43)), (1, .int a1), (2, .int 1), (3, .int a3), (4, .int a4), (5, .int a5)]) hx hb dX3_likelyFrom_50 hl (by decide) rfl (fun ls hl => ?_)
    refine lv_aload_n hx hb dX3_likelyFrom_52 rfl (lv_at hl 2 rfl) ?_
    refine lv_iload hx hb dX3_likelyFrom_53 (lv_at hl 1 rfl) ?_
    refine lv_iload_n hx hb dX3_likelyFrom_55 rfl (lv_at hl 4 rfl) ?_
    refine lv_iload_n hx hb dX3_likelyFrom_56 rfl (lv_at hl 5 rfl) ?_
    refine lv_iload hx hb dX3_likelyFrom_57 (lv_at hl 6 rfl) ?_
    have z28 : (σ23 16 0).toInt = (σ 16 0).toInt := by rw [(show σ23 16 0 = (σ 16 0) from (by rw [f25 16 (by omega)]))]
    have z29 : (σ23 16 1).toInt = (σ 16 1).toInt := by rw [(show σ23 16 1 = (σ 16 1) from (by rw [f25 16 (by omega)]))]
    have z30 : (σ23 16 2).toInt = (σ 16 2).toInt := by rw [(show σ23 16 2 = (σ 16 2) from (by rw [f25 16 (by omega)]))]
    have w31 : ∀ k : Nat, k < 8 → 0 ≤ (σ23 17 k).toInt ∧ (σ23 17 k).toInt ≤ 3 := (by rw [f25 17 (by omega)]; exact w4)
    have I32 : jI16 σ23 := ⟨(by omega), (by omega), (by omega), w31⟩
    have z33 : (σ23 22 0).toInt = (σ 22 0).toInt := by rw [(show σ23 22 0 = (σ 22 0) from (by rw [f25 22 (by omega)]))]
    have w34 : ∀ k : Nat, k < 160 → 0 ≤ (σ23 23 k).toInt ∧ (σ23 23 k).toInt ≤ 30000 := (by rw [f25 23 (by omega)]; exact w8)
    have I35 : jI22 σ23 := ⟨(by omega), w34⟩
    refine jcallV (As := [.int r24, .int 1, .int a3, .int a4]) (rest := []) ⟨hx, hb, hml, hown, hts⟩ hK hP hA hS hZ (c_X3_outBy_43 l D cI cL ad zz hJ σ23 τ r24 (r24.toInt) rfl 1 (1) jz_1 a3 (A3) t3 a4 (A4) t4 I32 I35) cw_RX3_139 (jc_43 cI cL ad σ23 τ) rfl ⟨Nat.le_of_ble_eq_true rfl, Nat.le_of_ble_eq_true rfl⟩ rfl rfl rfl hl.1 rfl (Nat.le_of_ble_eq_true rfl) dX3_likelyFrom_59 ⟨Nat.zero_le _, Nat.zero_le _⟩ (fun r37 σ36 τ36 H locs h36 hP hS => ?_)
    obtain ⟨rfl, f38, h36⟩ := h36
    refine lv_istore (lv' := [(8, .int r37), (7, .int r27), (6, .int r24), (0, .ref (ad 43)), (1, .int a1), (2, .int 1), (3, .int a3), (4, .int a4), (5, .int a5)]) hx hb dX3_likelyFrom_62 hl (by decide) rfl (fun ls hl => ?_)
    refine lv_iload hx hb dX3_likelyFrom_64 (lv_at hl 8 rfl) ?_
    refine lv_aload_n hx hb dX3_likelyFrom_66 rfl (lv_at hl 3 rfl) ?_
    refine lv_iload hx hb dX3_likelyFrom_67 (lv_at hl 2 rfl) ?_
    refine lv_iload_n hx hb dX3_likelyFrom_69 rfl (lv_at hl 6 rfl) ?_
    refine lv_iload hx hb dX3_likelyFrom_70 (lv_at hl 7 rfl) ?_
    have z39 : (σ36 16 0).toInt = (σ 16 0).toInt := by rw [(show σ36 16 0 = (σ 16 0) from (by rw [f38 16 (by omega)]; exact (by rw [f25 16 (by omega)])))]
    have z40 : (σ36 16 1).toInt = (σ 16 1).toInt := by rw [(show σ36 16 1 = (σ 16 1) from (by rw [f38 16 (by omega)]; exact (by rw [f25 16 (by omega)])))]
    have z41 : (σ36 16 2).toInt = (σ 16 2).toInt := by rw [(show σ36 16 2 = (σ 16 2) from (by rw [f38 16 (by omega)]; exact (by rw [f25 16 (by omega)])))]
    have w42 : ∀ k : Nat, k < 8 → 0 ≤ (σ36 17 k).toInt ∧ (σ36 17 k).toInt ≤ 3 := (by rw [f38 17 (by omega)]; exact w31)
    have I43 : jI16 σ36 := ⟨(by omega), (by omega), (by omega), w42⟩
    refine jcallV (As := [.int r24, .int a3, .int a4]) (rest := [.int a5]) ⟨hx, hb, hml, hown, hts⟩ hK hP hA hS hZ (c_X3_runsBy_43 l D cI cL ad zz hJ σ36 τ r24 (r24.toInt) rfl a3 (A3) t3 a4 (A4) t4 I43) cw_RX3_136 (jc_43 cI cL ad σ36 τ) rfl ⟨Nat.le_of_ble_eq_true rfl, Nat.le_of_ble_eq_true rfl⟩ rfl rfl rfl hl.1 rfl (Nat.le_of_ble_eq_true rfl) dX3_likelyFrom_72 ⟨Nat.zero_le _, Nat.zero_le _⟩ (fun r45 σ44 τ44 H locs h44 hP hS => ?_)
    obtain ⟨⟨rfl, rfl⟩, h44⟩ := h44
    have g46 := jrg (rfl : r45.toInt = r45.toInt)
    refine lv_isub hx hb dX3_likelyFrom_75 ?_
    refine lv_topi (fun x47 ex47 => ?_)
    have gx47 := jrg (rfl : x47.toInt = x47.toInt)
    refine lv_istore (lv' := [(9, .int x47), (8, .int r37), (7, .int r27), (6, .int r24), (0, .ref (ad 43)), (1, .int a1), (2, .int 1), (3, .int a3), (4, .int a4), (5, .int a5)]) hx hb dX3_likelyFrom_76 hl (by decide) rfl (fun ls hl => ?_)
    refine lv_aload_n hx hb dX3_likelyFrom_78 rfl (lv_at hl 4 rfl) ?_
    refine lv_iload_n hx hb dX3_likelyFrom_79 rfl (lv_at hl 5 rfl) ?_
    refine lv_iload_n hx hb dX3_likelyFrom_80 rfl (lv_at hl 6 rfl) ?_
    refine lv_iconst (v := 1) hx hb dX3_likelyFrom_81 (by decide) ?_
    refine lv_iadd hx hb dX3_likelyFrom_82 ?_
    refine jtopr (y := 2) (by decide) ?_
    refine lv_iload_n hx hb dX3_likelyFrom_83 rfl (lv_at hl 7 rfl) ?_
    refine lv_iconst (v := 1) hx hb dX3_likelyFrom_84 (by decide) ?_
    refine lv_iadd hx hb dX3_likelyFrom_85 ?_
    refine lv_topi (fun x48 ex48 => ?_)
    have gx48 := jrg (rfl : x48.toInt = x48.toInt)
    refine lv_iload hx hb dX3_likelyFrom_86 (lv_at hl 2 rfl) ?_
    refine lv_iload hx hb dX3_likelyFrom_88 (lv_at hl 0 rfl) ?_
    have z49 : (σ36 18 0).toInt = (σ 18 0).toInt := by rw [(show σ36 18 0 = (σ 18 0) from (by rw [f38 18 (by omega)]; exact (by rw [f25 18 (by omega)])))]
    have w50 : ∀ k : Nat, k < 160 → 0 ≤ (σ36 19 k).toInt ∧ (σ36 19 k).toInt ≤ 30000 := (by rw [f38 19 (by omega)]; exact (by rw [f25 19 (by omega)]; exact w6))
    have I51 : jI18 σ36 := ⟨(by omega), w50⟩
    have z52 : (σ36 22 0).toInt = (σ 22 0).toInt := by rw [(show σ36 22 0 = (σ 22 0) from (by rw [f38 22 (by omega)]; exact (by rw [f25 22 (by omega)])))]
    have w53 : ∀ k : Nat, k < 160 → 0 ≤ (σ36 23 k).toInt ∧ (σ36 23 k).toInt ≤ 30000 := (by rw [f38 23 (by omega)]; exact w34)
    have I54 : jI22 σ36 := ⟨(by omega), w53⟩
    have z55 : (σ36 31 8).toInt = (σ 31 8).toInt := by rw [(show σ36 31 8 = (σ 31 8) from (by rw [f38 31 (by omega)]; exact (by rw [f25 31 (by omega)])))]
    have w56 : ∀ k : Nat, k < 1400 → (-1) ≤ (σ36 33 k).toInt ∧ (σ36 33 k).toInt ≤ 350 := (by rw [f38 33 (by omega)]; exact (by rw [f25 33 (by omega)]; exact w10))
    have w57 : ∀ k : Nat, k < 1024 → 0 ≤ (σ36 36 k).toInt ∧ (σ36 36 k).toInt ≤ 349 := (by rw [f38 36 (by omega)]; exact (by rw [f25 36 (by omega)]; exact w11))
    have I58 : jI31 σ36 := ⟨(by omega), w56, w57⟩
    have z59 : (σ36 38 0).toInt = (σ 38 0).toInt := by rw [(show σ36 38 0 = (σ 38 0) from (by rw [f38 38 (by omega)]; exact (by rw [f25 38 (by omega)])))]
    have z60 : (σ36 38 1).toInt = (σ 38 1).toInt := by rw [(show σ36 38 1 = (σ 38 1) from (by rw [f38 38 (by omega)]; exact (by rw [f25 38 (by omega)])))]
    have w61 : ∀ k : Nat, k < 20 → 0 ≤ (σ36 39 k).toInt ∧ (σ36 39 k).toInt ≤ 6 := (by rw [f38 39 (by omega)]; exact (by rw [f25 39 (by omega)]; exact w14))
    have I62 : jI38 σ36 := ⟨(by omega), (by omega), w61⟩
    refine jcallV (As := [.int a1, .int 2, .int x48, .int r27, .int x47]) (rest := []) ⟨hx, hb, hml, hown, hts⟩ hK hP hA hS hZ (c_X3_likelyFrom_2 l D cI cL ad zz hJ σ36 τ a1 (A1) t1 x48 (x48.toInt) rfl r27 (r27.toInt) rfl x47 (x47.toInt) rfl I43 I51 I54 I58 I62) cw_RX3_146 (jc_43 cI cL ad σ36 τ) rfl ⟨Nat.le_of_ble_eq_true rfl, Nat.le_of_ble_eq_true rfl⟩ rfl rfl rfl hl.1 rfl (Nat.le_of_ble_eq_true rfl) dX3_likelyFrom_90 ⟨Nat.zero_le _, Nat.zero_le _⟩ (fun r64 σ63 τ63 H locs h63 hP hS => ?_)
    obtain ⟨rfl, f65, h63⟩ := h63
    refine lv_istore (lv' := [(10, .int r64), (9, .int x47), (8, .int r37), (7, .int r27), (6, .int r24), (0, .ref (ad 43)), (1, .int a1), (2, .int 1), (3, .int a3), (4, .int a4), (5, .int a5)]) hx hb dX3_likelyFrom_93 hl (by decide) rfl (fun ls hl => ?_)
    refine lv_aload_n hx hb dX3_likelyFrom_95 rfl (lv_at hl 5 rfl) ?_
    refine lv_iload_n hx hb dX3_likelyFrom_96 rfl (lv_at hl 6 rfl) ?_
    refine lv_iload_n hx hb dX3_likelyFrom_97 rfl (lv_at hl 7 rfl) ?_
    refine lv_iconst (v := 1) hx hb dX3_likelyFrom_98 (by decide) ?_
    refine lv_iadd hx hb dX3_likelyFrom_99 ?_
    refine jtopr (y := 2) (by decide) ?_
    refine lv_iload_n hx hb dX3_likelyFrom_100 rfl (lv_at hl 8 rfl) ?_
    refine lv_iload hx hb dX3_likelyFrom_101 (lv_at hl 3 rfl) ?_
    refine lv_iload hx hb dX3_likelyFrom_103 (lv_at hl 1 rfl) ?_
    have z66 : (σ63 16 0).toInt = (σ 16 0).toInt := by rw [(show σ63 16 0 = (σ 16 0) from (by rw [f65 16 (by omega)]; exact (by rw [f38 16 (by omega)]; exact (by rw [f25 16 (by omega)]))))]
    have z67 : (σ63 16 1).toInt = (σ 16 1).toInt := by rw [(show σ63 16 1 = (σ 16 1) from (by rw [f65 16 (by omega)]; exact (by rw [f38 16 (by omega)]; exact (by rw [f25 16 (by omega)]))))]
    have z68 : (σ63 16 2).toInt = (σ 16 2).toInt := by rw [(show σ63 16 2 = (σ 16 2) from (by rw [f65 16 (by omega)]; exact (by rw [f38 16 (by omega)]; exact (by rw [f25 16 (by omega)]))))]
    have w69 : ∀ k : Nat, k < 8 → 0 ≤ (σ63 17 k).toInt ∧ (σ63 17 k).toInt ≤ 3 := (by rw [f65 17 (by omega)]; exact w42)
    have I70 : jI16 σ63 := ⟨(by omega), (by omega), (by omega), w69⟩
    have z71 : (σ63 18 0).toInt = (σ 18 0).toInt := by rw [(show σ63 18 0 = (σ 18 0) from (by rw [f65 18 (by omega)]; exact (by rw [f38 18 (by omega)]; exact (by rw [f25 18 (by omega)]))))]
    have w72 : ∀ k : Nat, k < 160 → 0 ≤ (σ63 19 k).toInt ∧ (σ63 19 k).toInt ≤ 30000 := (by rw [f65 19 (by omega)]; exact w50)
    have I73 : jI18 σ63 := ⟨(by omega), w72⟩
    have z74 : (σ63 22 0).toInt = (σ 22 0).toInt := by rw [(show σ63 22 0 = (σ 22 0) from (by rw [f65 22 (by omega)]; exact (by rw [f38 22 (by omega)]; exact (by rw [f25 22 (by omega)]))))]
    have w75 : ∀ k : Nat, k < 160 → 0 ≤ (σ63 23 k).toInt ∧ (σ63 23 k).toInt ≤ 30000 := (by rw [f65 23 (by omega)]; exact w53)
    have I76 : jI22 σ63 := ⟨(by omega), w75⟩
    have z77 : (σ63 31 8).toInt = (σ 31 8).toInt := by rw [(show σ63 31 8 = (σ 31 8) from (by rw [f65 31 (by omega)]; exact (by rw [f38 31 (by omega)]; exact (by rw [f25 31 (by omega)]))))]
    have w78 : ∀ k : Nat, k < 1400 → (-1) ≤ (σ63 33 k).toInt ∧ (σ63 33 k).toInt ≤ 350 := (by rw [f65 33 (by omega)]; exact w56)
    have w79 : ∀ k : Nat, k < 1024 → 0 ≤ (σ63 36 k).toInt ∧ (σ63 36 k).toInt ≤ 349 := (by rw [f65 36 (by omega)]; exact w57)
    have I80 : jI31 σ63 := ⟨(by omega), w78, w79⟩
    have z81 : (σ63 38 0).toInt = (σ 38 0).toInt := by rw [(show σ63 38 0 = (σ 38 0) from (by rw [f65 38 (by omega)]; exact (by rw [f38 38 (by omega)]; exact (by rw [f25 38 (by omega)]))))]
    have z82 : (σ63 38 1).toInt = (σ 38 1).toInt := by rw [(show σ63 38 1 = (σ 38 1) from (by rw [f65 38 (by omega)]; exact (by rw [f38 38 (by omega)]; exact (by rw [f25 38 (by omega)]))))]
    have w83 : ∀ k : Nat, k < 20 → 0 ≤ (σ63 39 k).toInt ∧ (σ63 39 k).toInt ≤ 6 := (by rw [f65 39 (by omega)]; exact w61)
    have I84 : jI38 σ63 := ⟨(by omega), (by omega), w83⟩
    refine jcallV (As := [.int a1, .int 2, .int a3, .int r27, .int x47]) (rest := []) ⟨hx, hb, hml, hown, hts⟩ hK hP hA hS hZ (c_X3_likelyFrom_2 l D cI cL ad zz hJ σ63 τ a1 (A1) t1 a3 (A3) t3 r27 (r27.toInt) rfl x47 (x47.toInt) rfl I70 I73 I76 I80 I84) cw_RX3_146 (jc_43 cI cL ad σ63 τ) rfl ⟨Nat.le_of_ble_eq_true rfl, Nat.le_of_ble_eq_true rfl⟩ rfl rfl rfl hl.1 rfl (Nat.le_of_ble_eq_true rfl) dX3_likelyFrom_105 ⟨Nat.zero_le _, Nat.zero_le _⟩ (fun r86 σ85 τ85 H locs h85 hP hS => ?_)
    obtain ⟨rfl, f87, h85⟩ := h85
    refine lv_istore (lv' := [(11, .int r86), (10, .int r64), (9, .int x47), (8, .int r37), (7, .int r27), (6, .int r24), (0, .ref (ad 43)), (1, .int a1), (2, .int 1), (3, .int a3), (4, .int a4), (5, .int a5)]) hx hb dX3_likelyFrom_108 hl (by decide) rfl (fun ls hl => ?_)
    refine lv_iload hx hb dX3_likelyFrom_110 (lv_at hl 3 rfl) ?_
    refine lv_iload hx hb dX3_likelyFrom_112 (lv_at hl 1 rfl) ?_
    have g88 := jrg (rfl : r37.toInt = r37.toInt)
    have g89 := jrg (rfl : r64.toInt = r64.toInt)
    refine lv_imul hx hb dX3_likelyFrom_114 ?_
    refine lv_topi (fun x90 ex90 => ?_)
    have gx90 := jrg (rfl : x90.toInt = x90.toInt)
    refine lv_sipush (v := 1000) hx hb dX3_likelyFrom_115 (by decide) ?_
    refine lv_iload hx hb dX3_likelyFrom_118 (lv_at hl 3 rfl) ?_
    refine lv_isub hx hb dX3_likelyFrom_120 ?_
    refine lv_topi (fun x91 ex91 => ?_)
    have gx91 := jrg (rfl : x91.toInt = x91.toInt)
    refine lv_iload hx hb dX3_likelyFrom_121 (lv_at hl 0 rfl) ?_
    have g92 := jrg (rfl : x91.toInt = x91.toInt)
    have g93 := jrg (rfl : r86.toInt = r86.toInt)
    refine lv_imul hx hb dX3_likelyFrom_123 ?_
    refine lv_topi (fun x94 ex94 => ?_)
    have gx94 := jrg (rfl : x94.toInt = x94.toInt)
    have g95 := jrg (rfl : x90.toInt = x90.toInt)
    have g96 := jrg (rfl : x94.toInt = x94.toInt)
    refine lv_iadd hx hb dX3_likelyFrom_124 ?_
    refine lv_topi (fun x97 ex97 => ?_)
    have gx97 := jrg (rfl : x97.toInt = x97.toInt)
    refine lv_sipush (v := 1000) hx hb dX3_likelyFrom_125 (by decide) ?_
    refine lv_idiv hx hb dX3_likelyFrom_128 (by decide) ?_
    refine lv_topi (fun x98 ex98 => ?_)
    have gx98 := jrg (rfl : x98.toInt = x98.toInt)
    refine lv_istore (lv' := [(12, .int x98), (11, .int r86), (10, .int r64), (9, .int x47), (8, .int r37), (7, .int r27), (6, .int r24), (0, .ref (ad 43)), (1, .int a1), (2, .int 1), (3, .int a3), (4, .int a4), (5, .int a5)]) hx hb dX3_likelyFrom_129 hl (by decide) rfl (fun ls hl => ?_)
    refine lv_iload hx hb dX3_likelyFrom_131 (lv_at hl 3 rfl) ?_
    refine lv_if_le (tgt := 141) hx hb dX3_likelyFrom_133 (by decide) (fun c99 => ?_) (fun c99 => ?_)
    · have kc99 := jle c99 rfl jz_0
      refine lv_iconst (v := 0) hx hb dX3_likelyFrom_141 (by decide) ?_
      refine lv_istore (lv' := [(13, .int 0), (12, .int x98), (11, .int r86), (10, .int r64), (9, .int x47), (8, .int r37), (7, .int r27), (6, .int r24), (0, .ref (ad 43)), (1, .int a1), (2, .int 1), (3, .int a3), (4, .int a4), (5, .int a5)]) hx hb dX3_likelyFrom_142 hl (by decide) rfl (fun ls hl => ?_)
      refine lv_aload_n hx hb dX3_likelyFrom_144 rfl (lv_at hl 8 rfl) ?_
      refine va_get (D := D) hx hb hts inlX3 hown hK hP 43 (jc_43 cI cL ad σ85 τ) rfl 3 (by decide) (hts _ kw_6_5) (fun _ h9 => h9) rfl dX3_likelyFrom_145 ?_
      refine va_get (D := D) hx hb hts inlX6 hown hK hP 16 (jc_16 cI cL ad σ85 τ) rfl 2 (by decide) (hts _ kw_37_2) (fun _ h9 => h9) rfl dX3_likelyFrom_148 ?_
      have m100 : σ85 16 2 = (σ 16 2) := (by rw [f87 16 (by omega)]; exact (by rw [f65 16 (by omega)]; exact (by rw [f38 16 (by omega)]; exact (by rw [f25 16 (by omega)]))))
      refine jtopr m100 ?_
      refine lv_iload hx hb dX3_likelyFrom_151 (lv_at hl 0 rfl) ?_
      refine lv_imul hx hb dX3_likelyFrom_153 ?_
      refine lv_topi (fun x101 ex101 => ?_)
      have tx101 : x101.toInt = 0 := (jmul ex101 rfl jz_0 (by omega) (by omega)).trans (by omega)
      refine lv_sipush (v := 1000) hx hb dX3_likelyFrom_154 (by decide) ?_
      refine lv_aload_n hx hb dX3_likelyFrom_157 rfl (lv_at hl 8 rfl) ?_
      refine va_get (D := D) hx hb hts inlX3 hown hK hP 43 (jc_43 cI cL ad σ85 τ) rfl 3 (by decide) (hts _ kw_6_5) (fun _ h9 => h9) rfl dX3_likelyFrom_158 ?_
      refine va_get (D := D) hx hb hts inlX6 hown hK hP 16 (jc_16 cI cL ad σ85 τ) rfl 2 (by decide) (hts _ kw_37_2) (fun _ h9 => h9) rfl dX3_likelyFrom_161 ?_
      refine jtopr m100 ?_
      have g102 := jrg (rfl : (σ 16 2).toInt = (σ 16 2).toInt)
      refine lv_isub hx hb dX3_likelyFrom_164 ?_
      refine lv_topi (fun x103 ex103 => ?_)
      have tx103 : x103.toInt = -(σ 16 2).toInt + 1000 := (jsub ex103 jz_1000 rfl (by omega) (by omega)).trans (by omega)
      refine lv_iload hx hb dX3_likelyFrom_165 (lv_at hl 1 rfl) ?_
      have g104 := jrg (rfl : x98.toInt = x98.toInt)
      refine lv_imul hx hb dX3_likelyFrom_167 ?_
      refine lv_topi (fun x105 ex105 => ?_)
      have gx105 := jrg (rfl : x105.toInt = x105.toInt)
      have g106 := jrg (rfl : x105.toInt = x105.toInt)
      refine lv_iadd hx hb dX3_likelyFrom_168 ?_
      refine lv_topi (fun x107 ex107 => ?_)
      have tx107 : x107.toInt = x105.toInt := (jadd ex107 tx101 rfl (by omega) (by omega)).trans (by omega)
      refine lv_sipush (v := 1000) hx hb dX3_likelyFrom_169 (by decide) ?_
      refine lv_idiv hx hb dX3_likelyFrom_172 (by decide) ?_
      refine lv_topi (fun x108 ex108 => ?_)
      have gx108 := jrg (rfl : x108.toInt = x108.toInt)
      exact hret x108 σ85 τ _ _ _ _ rfl ⟨rfl, (fun i hi => by rw [f87 i (by omega), f65 i (by omega), f38 i (by omega), f25 i (by omega)]), trivial⟩ hP hS dX3_likelyFrom_173
    · have kc99 := jnle c99 rfl jz_0
      refine lv_ldc (v := 1000000) hx hb hown (hts _ kw_37_1) dX3_likelyFrom_136 ?_
      refine lv_goto (tgt := 142) hx hb dX3_likelyFrom_138 (by decide) ?_
      refine lv_istore (lv' := [(13, .int 1000000), (12, .int x98), (11, .int r86), (10, .int r64), (9, .int x47), (8, .int r37), (7, .int r27), (6, .int r24), (0, .ref (ad 43)), (1, .int a1), (2, .int 1), (3, .int a3), (4, .int a4), (5, .int a5)]) hx hb dX3_likelyFrom_142 hl (by decide) rfl (fun ls hl => ?_)
      refine lv_aload_n hx hb dX3_likelyFrom_144 rfl (lv_at hl 8 rfl) ?_
      refine va_get (D := D) hx hb hts inlX3 hown hK hP 43 (jc_43 cI cL ad σ85 τ) rfl 3 (by decide) (hts _ kw_6_5) (fun _ h9 => h9) rfl dX3_likelyFrom_145 ?_
      refine va_get (D := D) hx hb hts inlX6 hown hK hP 16 (jc_16 cI cL ad σ85 τ) rfl 2 (by decide) (hts _ kw_37_2) (fun _ h9 => h9) rfl dX3_likelyFrom_148 ?_
      have m109 : σ85 16 2 = (σ 16 2) := (by rw [f87 16 (by omega)]; exact (by rw [f65 16 (by omega)]; exact (by rw [f38 16 (by omega)]; exact (by rw [f25 16 (by omega)]))))
      refine jtopr m109 ?_
      refine lv_iload hx hb dX3_likelyFrom_151 (lv_at hl 0 rfl) ?_
      have g110 := jrg (rfl : (σ 16 2).toInt = (σ 16 2).toInt)
      refine lv_imul hx hb dX3_likelyFrom_153 ?_
      refine lv_topi (fun x111 ex111 => ?_)
      have tx111 : x111.toInt = 1000000 * (σ 16 2).toInt := (jmul ex111 rfl jz_1000000 (by omega) (by omega)).trans (by omega)
      refine lv_sipush (v := 1000) hx hb dX3_likelyFrom_154 (by decide) ?_
      refine lv_aload_n hx hb dX3_likelyFrom_157 rfl (lv_at hl 8 rfl) ?_
      refine va_get (D := D) hx hb hts inlX3 hown hK hP 43 (jc_43 cI cL ad σ85 τ) rfl 3 (by decide) (hts _ kw_6_5) (fun _ h9 => h9) rfl dX3_likelyFrom_158 ?_
      refine va_get (D := D) hx hb hts inlX6 hown hK hP 16 (jc_16 cI cL ad σ85 τ) rfl 2 (by decide) (hts _ kw_37_2) (fun _ h9 => h9) rfl dX3_likelyFrom_161 ?_
      refine jtopr m109 ?_
      refine lv_isub hx hb dX3_likelyFrom_164 ?_
      refine lv_topi (fun x112 ex112 => ?_)
      have tx112 : x112.toInt = -(σ 16 2).toInt + 1000 := (jsub ex112 jz_1000 rfl (by omega) (by omega)).trans (by omega)
      refine lv_iload hx hb dX3_likelyFrom_165 (lv_at hl 1 rfl) ?_
      have g113 := jrg (rfl : x98.toInt = x98.toInt)
      refine lv_imul hx hb dX3_likelyFrom_167 ?_
      refine lv_topi (fun x114 ex114 => ?_)
      have gx114 := jrg (rfl : x114.toInt = x114.toInt)
      have g115 := jrg (rfl : x114.toInt = x114.toInt)
      refine lv_iadd hx hb dX3_likelyFrom_168 ?_
      refine lv_topi (fun x116 ex116 => ?_)
      have gx116 := jrg (rfl : x116.toInt = x116.toInt)
      refine lv_sipush (v := 1000) hx hb dX3_likelyFrom_169 (by decide) ?_
      refine lv_idiv hx hb dX3_likelyFrom_172 (by decide) ?_
      refine lv_topi (fun x117 ex117 => ?_)
      have gx117 := jrg (rfl : x117.toInt = x117.toInt)
      exact hret x117 σ85 τ _ _ _ _ rfl ⟨rfl, (fun i hi => by rw [f87 i (by omega), f65 i (by omega), f38 i (by omega), f25 i (by omega)]), trivial⟩ hP hS dX3_likelyFrom_173
  · have kc17 := jne c17 rfl jz_0
    refine lv_iload hx hb dX3_likelyFrom_20 (lv_at hl 5 rfl) ?_
    refine lv_if_le (tgt := 30) hx hb dX3_likelyFrom_22 (by decide) (fun c118 => ?_) (fun c118 => ?_)
    · have kc118 := jle c118 t5 jz_0
      refine lv_iconst (v := 0) hx hb dX3_likelyFrom_30 (by decide) ?_
      exact hret 0 σ τ _ _ _ _ rfl ⟨rfl, (fun _ _ => rfl), trivial⟩ hP hS dX3_likelyFrom_31
    · have kc118 := jnle c118 t5 jz_0
      refine lv_ldc (v := 1000000) hx hb hown (hts _ kw_37_1) dX3_likelyFrom_25 ?_
      refine lv_goto (tgt := 31) hx hb dX3_likelyFrom_27 (by decide) ?_
      exact hret 1000000 σ τ _ _ _ _ rfl ⟨rfl, (fun _ _ => rfl), trivial⟩ hP hS dX3_likelyFrom_31
set_option maxHeartbeats 4000000 in
set_option maxRecDepth 100000 in
theorem c_X3_likelyFrom_0 (l : Launch) (D : va_G) (cI cL : ClassId) (ad zz : Nat → Nat) (hJ : jD ad) (σ : Nat → Nat → Int32) (τ : Nat → Nat → Int64) (a1 : Int32) (A1 : Int) (t1 : a1.toInt = A1) (a3 : Int32) (A3 : Int) (t3 : a3.toInt = A3) (a4 : Int32) (A4 : Int) (t4 : a4.toInt = A4) (a5 : Int32) (A5 : Int) (t5 : a5.toInt = A5) (hI16 : jI16 σ) (hI18 : jI18 σ) (hI22 : jI22 σ) (hI31 : jI31 σ) (hI38 : jI38 σ) : jM l yX3_likelyFrom cX3_likelyFrom 14 (some .int) ({ frames := 13, cells := 0, slots := 0, locals := 388 }) D cI cL ad zz [.ref (ad 43), .int a1, .int 0, .int a3, .int a4, .int a5] σ τ (fun r σ' τ' => τ = τ' ∧ (∀ i : Nat, (i < 20 ∨ 21 < i) ∧ (i < 24 ∨ 25 < i) ∧ (i < 29 ∨ 30 < i) → σ' i = σ i) ∧ True) := by
  refine jM.of hJ (by decide +kernel) (nt := .int) rfl (Nat.le_of_ble_eq_true rfl) ?_
  intro p e s m args below meth c Q ls hC hret hl hP
  obtain ⟨hx, hb, hr, hml, hown, hts, hK, -, hlocks, hZ⟩ := hC
  have hown : s.vm.findClass RX3 = some m.cls := hown
  have hS : va_S (jA ad) s.heap s.heap [] := va_S.rf
  have hA : ∀ q, jA ad q → jA ad q := fun _ h => h
  have hl : lv_has ls 14 [(0, .ref (ad 43)), (1, .int a1), (2, .int 0), (3, .int a3), (4, .int a4), (5, .int a5)] := hl
  have g1 := jrg t1
  have g3 := jrg t3
  have g4 := jrg t4
  have g5 := jrg t5
  obtain ⟨i1, i2, i3, w4⟩ : (1 ≤ (σ 16 0).toInt ∧ (σ 16 0).toInt ≤ 8) ∧ (1 ≤ (σ 16 1).toInt ∧ (σ 16 1).toInt ≤ 12) ∧ (0 ≤ (σ 16 2).toInt ∧ (σ 16 2).toInt ≤ 999) ∧ (∀ k : Nat, k < 8 → 0 ≤ (σ 17 k).toInt ∧ (σ 17 k).toInt ≤ 3) := id hI16
  obtain ⟨i5, w6⟩ : (0 ≤ (σ 18 0).toInt ∧ (σ 18 0).toInt ≤ 160) ∧ (∀ k : Nat, k < 160 → 0 ≤ (σ 19 k).toInt ∧ (σ 19 k).toInt ≤ 30000) := id hI18
  obtain ⟨i7, w8⟩ : (0 ≤ (σ 22 0).toInt ∧ (σ 22 0).toInt ≤ 160) ∧ (∀ k : Nat, k < 160 → 0 ≤ (σ 23 k).toInt ∧ (σ 23 k).toInt ≤ 30000) := id hI22
  obtain ⟨i9, w10, w11⟩ : (0 ≤ (σ 31 8).toInt ∧ (σ 31 8).toInt ≤ 350) ∧ (∀ k : Nat, k < 1400 → (-1) ≤ (σ 33 k).toInt ∧ (σ 33 k).toInt ≤ 350) ∧ (∀ k : Nat, k < 1024 → 0 ≤ (σ 36 k).toInt ∧ (σ 36 k).toInt ≤ 349) := id hI31
  obtain ⟨i12, i13, w14⟩ : (0 ≤ (σ 38 0).toInt ∧ (σ 38 0).toInt ≤ 20) ∧ (0 ≤ (σ 38 1).toInt ∧ (σ 38 1).toInt ≤ 1000) ∧ (∀ k : Nat, k < 20 → 0 ≤ (σ 39 k).toInt ∧ (σ 39 k).toInt ≤ 6) := id hI38
  refine lv_iload_n hx hb dX3_likelyFrom_0 rfl (lv_at hl 2 rfl) ?_
  refine lv_bipush (v := 8) hx hb dX3_likelyFrom_1 (by decide) ?_
  refine lv_icmp_ge (tgt := 20) hx hb dX3_likelyFrom_3 (by decide) (fun c => absurd c (by decide)) (fun _ => ?_)
  refine lv_aload_n hx hb dX3_likelyFrom_6 rfl (lv_at hl 0 rfl) ?_
  refine va_get (D := D) hx hb hts inlX3 hown hK hP 43 (jc_43 cI cL ad σ τ) rfl 3 (by decide) (hts _ kw_6_5) (fun _ h9 => h9) rfl dX3_likelyFrom_7 ?_
  refine lv_iload_n hx hb dX3_likelyFrom_10 rfl (lv_at hl 2 rfl) ?_
  refine lv_iload_n hx hb dX3_likelyFrom_11 rfl (lv_at hl 3 rfl) ?_
  refine lv_iload hx hb dX3_likelyFrom_12 (lv_at hl 4 rfl) ?_
  refine jcallV (As := [.int 0, .int a3, .int a4]) (rest := []) ⟨hx, hb, hml, hown, hts⟩ hK hP hA hS hZ (c_X6_ended_16 l D cI cL ad zz hJ σ τ 0 (0) jz_0 a3 (A3) t3 a4 (A4) t4) cw_RX3_123 (jc_16 cI cL ad σ τ) rfl ⟨Nat.le_of_ble_eq_true rfl, Nat.le_of_ble_eq_true rfl⟩ rfl rfl rfl hl.1 rfl (Nat.le_of_ble_eq_true rfl) dX3_likelyFrom_14 ⟨Nat.zero_le _, Nat.zero_le _⟩ (fun r16 σ15 τ15 H locs h15 hP hS => ?_)
  obtain ⟨⟨rfl, rfl⟩, h15⟩ := h15
  refine lv_if_eq (tgt := 32) hx hb dX3_likelyFrom_17 (by decide) (fun c17 => ?_) (fun c17 => ?_)
  · have kc17 := jeq c17 rfl jz_0
    refine lv_aload_n hx hb dX3_likelyFrom_32 rfl (lv_at hl 0 rfl) ?_
    refine lv_iload_n hx hb dX3_likelyFrom_33 rfl (lv_at hl 1 rfl) ?_
    refine lv_iload_n hx hb dX3_likelyFrom_34 rfl (lv_at hl 2 rfl) ?_
    refine lv_iload_n hx hb dX3_likelyFrom_35 rfl (lv_at hl 3 rfl) ?_
    refine lv_iload hx hb dX3_likelyFrom_36 (lv_at hl 4 rfl) ?_
    have I18 : jI16 σ := ⟨(by omega), (by omega), (by omega), w4⟩
    have I19 : jI18 σ := ⟨(by omega), w6⟩
    have I20 : jI22 σ := ⟨(by omega), w8⟩
    have I21 : jI31 σ := ⟨(by omega), w10, w11⟩
    have I22 : jI38 σ := ⟨(by omega), (by omega), w14⟩
    refine jcallV (As := [.int a1, .int 0, .int a3, .int a4]) (rest := []) ⟨hx, hb, hml, hown, hts⟩ hK hP hA hS hZ (c_X3_putOn_43 l D cI cL ad zz hJ σ τ a1 (A1) t1 0 (0) jz_0 a3 (A3) t3 a4 (A4) t4 I18 I19 I20 I21 I22) cw_RX3_127 (jc_43 cI cL ad σ τ) rfl ⟨Nat.le_of_ble_eq_true rfl, Nat.le_of_ble_eq_true rfl⟩ rfl rfl rfl hl.1 rfl (Nat.le_of_ble_eq_true rfl) dX3_likelyFrom_38 ⟨Nat.zero_le _, Nat.zero_le _⟩ (fun r24 σ23 τ23 H locs h23 hP hS => ?_)
    obtain ⟨rfl, f25, h23⟩ := h23
    refine lv_istore (lv' := [(6, .int r24), (0, .ref (ad 43)), (1, .int a1), (2, .int 0), (3, .int a3), (4, .int a4), (5, .int a5)]) hx hb dX3_likelyFrom_41 hl (by decide) rfl (fun ls hl => ?_)
    refine lv_iload hx hb dX3_likelyFrom_43 (lv_at hl 5 rfl) ?_
    refine lv_iload hx hb dX3_likelyFrom_45 (lv_at hl 0 rfl) ?_
    refine jcallS (As := [.int a4, .int r24]) (rest := []) ⟨hx, hb, hml, hown, hts⟩ hK hP hA hS hZ (c_X0_after l D cI cL ad zz hJ σ23 τ a4 (A4) t4 r24 (r24.toInt) rfl) cw_RX3_130 ⟨Nat.le_of_ble_eq_true rfl, Nat.le_of_ble_eq_true rfl⟩ rfl rfl rfl hl.1 rfl (Nat.le_of_ble_eq_true rfl) dX3_likelyFrom_47 ⟨Nat.zero_le _, Nat.zero_le _⟩ (fun r27 σ26 τ26 H locs h26 hP hS => ?_)
    obtain ⟨⟨rfl, rfl⟩, h26⟩ := h26
    refine lv_istore (lv' := [(7, .int r27), (6, .int r24), (0, .ref (ad 43)), (1, .int a1), (2, .int 0), (3, .int a3), (4, .int a4), (5, .int a5)]) hx hb dX3_likelyFrom_50 hl (by decide) rfl (fun ls hl => ?_)
    refine lv_aload_n hx hb dX3_likelyFrom_52 rfl (lv_at hl 2 rfl) ?_
    refine lv_iload hx hb dX3_likelyFrom_53 (lv_at hl 1 rfl) ?_
    refine lv_iload_n hx hb dX3_likelyFrom_55 rfl (lv_at hl 4 rfl) ?_
    refine lv_iload_n hx hb dX3_likelyFrom_56 rfl (lv_at hl 5 rfl) ?_
    refine lv_iload hx hb dX3_likelyFrom_57 (lv_at hl 6 rfl) ?_
    have z28 : (σ23 16 0).toInt = (σ 16 0).toInt := by rw [(show σ23 16 0 = (σ 16 0) from (by rw [f25 16 (by omega)]))]
    have z29 : (σ23 16 1).toInt = (σ 16 1).toInt := by rw [(show σ23 16 1 = (σ 16 1) from (by rw [f25 16 (by omega)]))]
    have z30 : (σ23 16 2).toInt = (σ 16 2).toInt := by rw [(show σ23 16 2 = (σ 16 2) from (by rw [f25 16 (by omega)]))]
    have w31 : ∀ k : Nat, k < 8 → 0 ≤ (σ23 17 k).toInt ∧ (σ23 17 k).toInt ≤ 3 := (by rw [f25 17 (by omega)]; exact w4)
    have I32 : jI16 σ23 := ⟨(by omega), (by omega), (by omega), w31⟩
    have z33 : (σ23 22 0).toInt = (σ 22 0).toInt := by rw [(show σ23 22 0 = (σ 22 0) from (by rw [f25 22 (by omega)]))]
    have w34 : ∀ k : Nat, k < 160 → 0 ≤ (σ23 23 k).toInt ∧ (σ23 23 k).toInt ≤ 30000 := (by rw [f25 23 (by omega)]; exact w8)
    have I35 : jI22 σ23 := ⟨(by omega), w34⟩
    refine jcallV (As := [.int r24, .int 0, .int a3, .int a4]) (rest := []) ⟨hx, hb, hml, hown, hts⟩ hK hP hA hS hZ (c_X3_outBy_43 l D cI cL ad zz hJ σ23 τ r24 (r24.toInt) rfl 0 (0) jz_0 a3 (A3) t3 a4 (A4) t4 I32 I35) cw_RX3_139 (jc_43 cI cL ad σ23 τ) rfl ⟨Nat.le_of_ble_eq_true rfl, Nat.le_of_ble_eq_true rfl⟩ rfl rfl rfl hl.1 rfl (Nat.le_of_ble_eq_true rfl) dX3_likelyFrom_59 ⟨Nat.zero_le _, Nat.zero_le _⟩ (fun r37 σ36 τ36 H locs h36 hP hS => ?_)
    obtain ⟨rfl, f38, h36⟩ := h36
    refine lv_istore (lv' := [(8, .int r37), (7, .int r27), (6, .int r24), (0, .ref (ad 43)), (1, .int a1), (2, .int 0), (3, .int a3), (4, .int a4), (5, .int a5)]) hx hb dX3_likelyFrom_62 hl (by decide) rfl (fun ls hl => ?_)
    refine lv_iload hx hb dX3_likelyFrom_64 (lv_at hl 8 rfl) ?_
    refine lv_aload_n hx hb dX3_likelyFrom_66 rfl (lv_at hl 3 rfl) ?_
    refine lv_iload hx hb dX3_likelyFrom_67 (lv_at hl 2 rfl) ?_
    refine lv_iload_n hx hb dX3_likelyFrom_69 rfl (lv_at hl 6 rfl) ?_
    refine lv_iload hx hb dX3_likelyFrom_70 (lv_at hl 7 rfl) ?_
    have z39 : (σ36 16 0).toInt = (σ 16 0).toInt := by rw [(show σ36 16 0 = (σ 16 0) from (by rw [f38 16 (by omega)]; exact (by rw [f25 16 (by omega)])))]
    have z40 : (σ36 16 1).toInt = (σ 16 1).toInt := by rw [(show σ36 16 1 = (σ 16 1) from (by rw [f38 16 (by omega)]; exact (by rw [f25 16 (by omega)])))]
    have z41 : (σ36 16 2).toInt = (σ 16 2).toInt := by rw [(show σ36 16 2 = (σ 16 2) from (by rw [f38 16 (by omega)]; exact (by rw [f25 16 (by omega)])))]
    have w42 : ∀ k : Nat, k < 8 → 0 ≤ (σ36 17 k).toInt ∧ (σ36 17 k).toInt ≤ 3 := (by rw [f38 17 (by omega)]; exact w31)
    have I43 : jI16 σ36 := ⟨(by omega), (by omega), (by omega), w42⟩
    refine jcallV (As := [.int r24, .int a3, .int a4]) (rest := [.int a5]) ⟨hx, hb, hml, hown, hts⟩ hK hP hA hS hZ (c_X3_runsBy_43 l D cI cL ad zz hJ σ36 τ r24 (r24.toInt) rfl a3 (A3) t3 a4 (A4) t4 I43) cw_RX3_136 (jc_43 cI cL ad σ36 τ) rfl ⟨Nat.le_of_ble_eq_true rfl, Nat.le_of_ble_eq_true rfl⟩ rfl rfl rfl hl.1 rfl (Nat.le_of_ble_eq_true rfl) dX3_likelyFrom_72 ⟨Nat.zero_le _, Nat.zero_le _⟩ (fun r45 σ44 τ44 H locs h44 hP hS => ?_)
    obtain ⟨⟨rfl, rfl⟩, h44⟩ := h44
    have g46 := jrg (rfl : r45.toInt = r45.toInt)
    refine lv_isub hx hb dX3_likelyFrom_75 ?_
    refine lv_topi (fun x47 ex47 => ?_)
    have gx47 := jrg (rfl : x47.toInt = x47.toInt)
    refine lv_istore (lv' := [(9, .int x47), (8, .int r37), (7, .int r27), (6, .int r24), (0, .ref (ad 43)), (1, .int a1), (2, .int 0), (3, .int a3), (4, .int a4), (5, .int a5)]) hx hb dX3_likelyFrom_76 hl (by decide) rfl (fun ls hl => ?_)
    refine lv_aload_n hx hb dX3_likelyFrom_78 rfl (lv_at hl 4 rfl) ?_
    refine lv_iload_n hx hb dX3_likelyFrom_79 rfl (lv_at hl 5 rfl) ?_
    refine lv_iload_n hx hb dX3_likelyFrom_80 rfl (lv_at hl 6 rfl) ?_
    refine lv_iconst (v := 1) hx hb dX3_likelyFrom_81 (by decide) ?_
    refine lv_iadd hx hb dX3_likelyFrom_82 ?_
    refine jtopr (y := 1) (by decide) ?_
    refine lv_iload_n hx hb dX3_likelyFrom_83 rfl (lv_at hl 7 rfl) ?_
    refine lv_iconst (v := 1) hx hb dX3_likelyFrom_84 (by decide) ?_
    refine lv_iadd hx hb dX3_likelyFrom_85 ?_
    refine lv_topi (fun x48 ex48 => ?_)
    have gx48 := jrg (rfl : x48.toInt = x48.toInt)
    refine lv_iload hx hb dX3_likelyFrom_86 (lv_at hl 2 rfl) ?_
    refine lv_iload hx hb dX3_likelyFrom_88 (lv_at hl 0 rfl) ?_
    have z49 : (σ36 18 0).toInt = (σ 18 0).toInt := by rw [(show σ36 18 0 = (σ 18 0) from (by rw [f38 18 (by omega)]; exact (by rw [f25 18 (by omega)])))]
    have w50 : ∀ k : Nat, k < 160 → 0 ≤ (σ36 19 k).toInt ∧ (σ36 19 k).toInt ≤ 30000 := (by rw [f38 19 (by omega)]; exact (by rw [f25 19 (by omega)]; exact w6))
    have I51 : jI18 σ36 := ⟨(by omega), w50⟩
    have z52 : (σ36 22 0).toInt = (σ 22 0).toInt := by rw [(show σ36 22 0 = (σ 22 0) from (by rw [f38 22 (by omega)]; exact (by rw [f25 22 (by omega)])))]
    have w53 : ∀ k : Nat, k < 160 → 0 ≤ (σ36 23 k).toInt ∧ (σ36 23 k).toInt ≤ 30000 := (by rw [f38 23 (by omega)]; exact w34)
    have I54 : jI22 σ36 := ⟨(by omega), w53⟩
    have z55 : (σ36 31 8).toInt = (σ 31 8).toInt := by rw [(show σ36 31 8 = (σ 31 8) from (by rw [f38 31 (by omega)]; exact (by rw [f25 31 (by omega)])))]
    have w56 : ∀ k : Nat, k < 1400 → (-1) ≤ (σ36 33 k).toInt ∧ (σ36 33 k).toInt ≤ 350 := (by rw [f38 33 (by omega)]; exact (by rw [f25 33 (by omega)]; exact w10))
    have w57 : ∀ k : Nat, k < 1024 → 0 ≤ (σ36 36 k).toInt ∧ (σ36 36 k).toInt ≤ 349 := (by rw [f38 36 (by omega)]; exact (by rw [f25 36 (by omega)]; exact w11))
    have I58 : jI31 σ36 := ⟨(by omega), w56, w57⟩
    have z59 : (σ36 38 0).toInt = (σ 38 0).toInt := by rw [(show σ36 38 0 = (σ 38 0) from (by rw [f38 38 (by omega)]; exact (by rw [f25 38 (by omega)])))]
    have z60 : (σ36 38 1).toInt = (σ 38 1).toInt := by rw [(show σ36 38 1 = (σ 38 1) from (by rw [f38 38 (by omega)]; exact (by rw [f25 38 (by omega)])))]
    have w61 : ∀ k : Nat, k < 20 → 0 ≤ (σ36 39 k).toInt ∧ (σ36 39 k).toInt ≤ 6 := (by rw [f38 39 (by omega)]; exact (by rw [f25 39 (by omega)]; exact w14))
    have I62 : jI38 σ36 := ⟨(by omega), (by omega), w61⟩
    refine jcallV (As := [.int a1, .int 1, .int x48, .int r27, .int x47]) (rest := []) ⟨hx, hb, hml, hown, hts⟩ hK hP hA hS hZ (c_X3_likelyFrom_1 l D cI cL ad zz hJ σ36 τ a1 (A1) t1 x48 (x48.toInt) rfl r27 (r27.toInt) rfl x47 (x47.toInt) rfl I43 I51 I54 I58 I62) cw_RX3_146 (jc_43 cI cL ad σ36 τ) rfl ⟨Nat.le_of_ble_eq_true rfl, Nat.le_of_ble_eq_true rfl⟩ rfl rfl rfl hl.1 rfl (Nat.le_of_ble_eq_true rfl) dX3_likelyFrom_90 ⟨Nat.zero_le _, Nat.zero_le _⟩ (fun r64 σ63 τ63 H locs h63 hP hS => ?_)
    obtain ⟨rfl, f65, h63⟩ := h63
    refine lv_istore (lv' := [(10, .int r64), (9, .int x47), (8, .int r37), (7, .int r27), (6, .int r24), (0, .ref (ad 43)), (1, .int a1), (2, .int 0), (3, .int a3), (4, .int a4), (5, .int a5)]) hx hb dX3_likelyFrom_93 hl (by decide) rfl (fun ls hl => ?_)
    refine lv_aload_n hx hb dX3_likelyFrom_95 rfl (lv_at hl 5 rfl) ?_
    refine lv_iload_n hx hb dX3_likelyFrom_96 rfl (lv_at hl 6 rfl) ?_
    refine lv_iload_n hx hb dX3_likelyFrom_97 rfl (lv_at hl 7 rfl) ?_
    refine lv_iconst (v := 1) hx hb dX3_likelyFrom_98 (by decide) ?_
    refine lv_iadd hx hb dX3_likelyFrom_99 ?_
    refine jtopr (y := 1) (by decide) ?_
    refine lv_iload_n hx hb dX3_likelyFrom_100 rfl (lv_at hl 8 rfl) ?_
    refine lv_iload hx hb dX3_likelyFrom_101 (lv_at hl 3 rfl) ?_
    refine lv_iload hx hb dX3_likelyFrom_103 (lv_at hl 1 rfl) ?_
    have z66 : (σ63 16 0).toInt = (σ 16 0).toInt := by rw [(show σ63 16 0 = (σ 16 0) from (by rw [f65 16 (by omega)]; exact (by rw [f38 16 (by omega)]; exact (by rw [f25 16 (by omega)]))))]
    have z67 : (σ63 16 1).toInt = (σ 16 1).toInt := by rw [(show σ63 16 1 = (σ 16 1) from (by rw [f65 16 (by omega)]; exact (by rw [f38 16 (by omega)]; exact (by rw [f25 16 (by omega)]))))]
    have z68 : (σ63 16 2).toInt = (σ 16 2).toInt := by rw [(show σ63 16 2 = (σ 16 2) from (by rw [f65 16 (by omega)]; exact (by rw [f38 16 (by omega)]; exact (by rw [f25 16 (by omega)]))))]
    have w69 : ∀ k : Nat, k < 8 → 0 ≤ (σ63 17 k).toInt ∧ (σ63 17 k).toInt ≤ 3 := (by rw [f65 17 (by omega)]; exact w42)
    have I70 : jI16 σ63 := ⟨(by omega), (by omega), (by omega), w69⟩
    have z71 : (σ63 18 0).toInt = (σ 18 0).toInt := by rw [(show σ63 18 0 = (σ 18 0) from (by rw [f65 18 (by omega)]; exact (by rw [f38 18 (by omega)]; exact (by rw [f25 18 (by omega)]))))]
    have w72 : ∀ k : Nat, k < 160 → 0 ≤ (σ63 19 k).toInt ∧ (σ63 19 k).toInt ≤ 30000 := (by rw [f65 19 (by omega)]; exact w50)
    have I73 : jI18 σ63 := ⟨(by omega), w72⟩
    have z74 : (σ63 22 0).toInt = (σ 22 0).toInt := by rw [(show σ63 22 0 = (σ 22 0) from (by rw [f65 22 (by omega)]; exact (by rw [f38 22 (by omega)]; exact (by rw [f25 22 (by omega)]))))]
    have w75 : ∀ k : Nat, k < 160 → 0 ≤ (σ63 23 k).toInt ∧ (σ63 23 k).toInt ≤ 30000 := (by rw [f65 23 (by omega)]; exact w53)
    have I76 : jI22 σ63 := ⟨(by omega), w75⟩
    have z77 : (σ63 31 8).toInt = (σ 31 8).toInt := by rw [(show σ63 31 8 = (σ 31 8) from (by rw [f65 31 (by omega)]; exact (by rw [f38 31 (by omega)]; exact (by rw [f25 31 (by omega)]))))]
    have w78 : ∀ k : Nat, k < 1400 → (-1) ≤ (σ63 33 k).toInt ∧ (σ63 33 k).toInt ≤ 350 := (by rw [f65 33 (by omega)]; exact w56)
    have w79 : ∀ k : Nat, k < 1024 → 0 ≤ (σ63 36 k).toInt ∧ (σ63 36 k).toInt ≤ 349 := (by rw [f65 36 (by omega)]; exact w57)
    have I80 : jI31 σ63 := ⟨(by omega), w78, w79⟩
    have z81 : (σ63 38 0).toInt = (σ 38 0).toInt := by rw [(show σ63 38 0 = (σ 38 0) from (by rw [f65 38 (by omega)]; exact (by rw [f38 38 (by omega)]; exact (by rw [f25 38 (by omega)]))))]
    have z82 : (σ63 38 1).toInt = (σ 38 1).toInt := by rw [(show σ63 38 1 = (σ 38 1) from (by rw [f65 38 (by omega)]; exact (by rw [f38 38 (by omega)]; exact (by rw [f25 38 (by omega)]))))]
    have w83 : ∀ k : Nat, k < 20 → 0 ≤ (σ63 39 k).toInt ∧ (σ63 39 k).toInt ≤ 6 := (by rw [f65 39 (by omega)]; exact w61)
    have I84 : jI38 σ63 := ⟨(by omega), (by omega), w83⟩
    refine jcallV (As := [.int a1, .int 1, .int a3, .int r27, .int x47]) (rest := []) ⟨hx, hb, hml, hown, hts⟩ hK hP hA hS hZ (c_X3_likelyFrom_1 l D cI cL ad zz hJ σ63 τ a1 (A1) t1 a3 (A3) t3 r27 (r27.toInt) rfl x47 (x47.toInt) rfl I70 I73 I76 I80 I84) cw_RX3_146 (jc_43 cI cL ad σ63 τ) rfl ⟨Nat.le_of_ble_eq_true rfl, Nat.le_of_ble_eq_true rfl⟩ rfl rfl rfl hl.1 rfl (Nat.le_of_ble_eq_true rfl) dX3_likelyFrom_105 ⟨Nat.zero_le _, Nat.zero_le _⟩ (fun r86 σ85 τ85 H locs h85 hP hS => ?_)
    obtain ⟨rfl, f87, h85⟩ := h85
    refine lv_istore (lv' := [(11, .int r86), (10, .int r64), (9, .int x47), (8, .int r37), (7, .int r27), (6, .int r24), (0, .ref (ad 43)), (1, .int a1), (2, .int 0), (3, .int a3), (4, .int a4), (5, .int a5)]) hx hb dX3_likelyFrom_108 hl (by decide) rfl (fun ls hl => ?_)
    refine lv_iload hx hb dX3_likelyFrom_110 (lv_at hl 3 rfl) ?_
    refine lv_iload hx hb dX3_likelyFrom_112 (lv_at hl 1 rfl) ?_
    have g88 := jrg (rfl : r37.toInt = r37.toInt)
    have g89 := jrg (rfl : r64.toInt = r64.toInt)
    refine lv_imul hx hb dX3_likelyFrom_114 ?_
    refine lv_topi (fun x90 ex90 => ?_)
    have gx90 := jrg (rfl : x90.toInt = x90.toInt)
    refine lv_sipush (v := 1000) hx hb dX3_likelyFrom_115 (by decide) ?_
    refine lv_iload hx hb dX3_likelyFrom_118 (lv_at hl 3 rfl) ?_
    refine lv_isub hx hb dX3_likelyFrom_120 ?_
    refine lv_topi (fun x91 ex91 => ?_)
    have gx91 := jrg (rfl : x91.toInt = x91.toInt)
    refine lv_iload hx hb dX3_likelyFrom_121 (lv_at hl 0 rfl) ?_
    have g92 := jrg (rfl : x91.toInt = x91.toInt)
    have g93 := jrg (rfl : r86.toInt = r86.toInt)
    refine lv_imul hx hb dX3_likelyFrom_123 ?_
    refine lv_topi (fun x94 ex94 => ?_)
    have gx94 := jrg (rfl : x94.toInt = x94.toInt)
    have g95 := jrg (rfl : x90.toInt = x90.toInt)
    have g96 := jrg (rfl : x94.toInt = x94.toInt)
    refine lv_iadd hx hb dX3_likelyFrom_124 ?_
    refine lv_topi (fun x97 ex97 => ?_)
    have gx97 := jrg (rfl : x97.toInt = x97.toInt)
    refine lv_sipush (v := 1000) hx hb dX3_likelyFrom_125 (by decide) ?_
    refine lv_idiv hx hb dX3_likelyFrom_128 (by decide) ?_
    refine lv_topi (fun x98 ex98 => ?_)
    have gx98 := jrg (rfl : x98.toInt = x98.toInt)
    refine lv_istore (lv' := [(12, .int x98), (11, .int r86), (10, .int r64), (9, .int x47), (8, .int r37), (7, .int r27), (6, .int r24), (0, .ref (ad 43)), (1, .int a1), (2, .int 0), (3, .int a3), (4, .int a4), (5, .int a5)]) hx hb dX3_likelyFrom_129 hl (by decide) rfl (fun ls hl => ?_)
    refine lv_iload hx hb dX3_likelyFrom_131 (lv_at hl 3 rfl) ?_
    refine lv_if_le (tgt := 141) hx hb dX3_likelyFrom_133 (by decide) (fun c99 => ?_) (fun c99 => ?_)
    · have kc99 := jle c99 rfl jz_0
      refine lv_iconst (v := 0) hx hb dX3_likelyFrom_141 (by decide) ?_
      refine lv_istore (lv' := [(13, .int 0), (12, .int x98), (11, .int r86), (10, .int r64), (9, .int x47), (8, .int r37), (7, .int r27), (6, .int r24), (0, .ref (ad 43)), (1, .int a1), (2, .int 0), (3, .int a3), (4, .int a4), (5, .int a5)]) hx hb dX3_likelyFrom_142 hl (by decide) rfl (fun ls hl => ?_)
      refine lv_aload_n hx hb dX3_likelyFrom_144 rfl (lv_at hl 8 rfl) ?_
      refine va_get (D := D) hx hb hts inlX3 hown hK hP 43 (jc_43 cI cL ad σ85 τ) rfl 3 (by decide) (hts _ kw_6_5) (fun _ h9 => h9) rfl dX3_likelyFrom_145 ?_
      refine va_get (D := D) hx hb hts inlX6 hown hK hP 16 (jc_16 cI cL ad σ85 τ) rfl 2 (by decide) (hts _ kw_37_2) (fun _ h9 => h9) rfl dX3_likelyFrom_148 ?_
      have m100 : σ85 16 2 = (σ 16 2) := (by rw [f87 16 (by omega)]; exact (by rw [f65 16 (by omega)]; exact (by rw [f38 16 (by omega)]; exact (by rw [f25 16 (by omega)]))))
      refine jtopr m100 ?_
      refine lv_iload hx hb dX3_likelyFrom_151 (lv_at hl 0 rfl) ?_
      refine lv_imul hx hb dX3_likelyFrom_153 ?_
      refine lv_topi (fun x101 ex101 => ?_)
      have tx101 : x101.toInt = 0 := (jmul ex101 rfl jz_0 (by omega) (by omega)).trans (by omega)
      refine lv_sipush (v := 1000) hx hb dX3_likelyFrom_154 (by decide) ?_
      refine lv_aload_n hx hb dX3_likelyFrom_157 rfl (lv_at hl 8 rfl) ?_
      refine va_get (D := D) hx hb hts inlX3 hown hK hP 43 (jc_43 cI cL ad σ85 τ) rfl 3 (by decide) (hts _ kw_6_5) (fun _ h9 => h9) rfl dX3_likelyFrom_158 ?_
      refine va_get (D := D) hx hb hts inlX6 hown hK hP 16 (jc_16 cI cL ad σ85 τ) rfl 2 (by decide) (hts _ kw_37_2) (fun _ h9 => h9) rfl dX3_likelyFrom_161 ?_
      refine jtopr m100 ?_
      have g102 := jrg (rfl : (σ 16 2).toInt = (σ 16 2).toInt)
      refine lv_isub hx hb dX3_likelyFrom_164 ?_
      refine lv_topi (fun x103 ex103 => ?_)
      have tx103 : x103.toInt = -(σ 16 2).toInt + 1000 := (jsub ex103 jz_1000 rfl (by omega) (by omega)).trans (by omega)
      refine lv_iload hx hb dX3_likelyFrom_165 (lv_at hl 1 rfl) ?_
      have g104 := jrg (rfl : x98.toInt = x98.toInt)
      refine lv_imul hx hb dX3_likelyFrom_167 ?_
      refine lv_topi (fun x105 ex105 => ?_)
      have gx105 := jrg (rfl : x105.toInt = x105.toInt)
      have g106 := jrg (rfl : x105.toInt = x105.toInt)
      refine lv_iadd hx hb dX3_likelyFrom_168 ?_
      refine lv_topi (fun x107 ex107 => ?_)
      have tx107 : x107.toInt = x105.toInt := (jadd ex107 tx101 rfl (by omega) (by omega)).trans (by omega)
      refine lv_sipush (v := 1000) hx hb dX3_likelyFrom_169 (by decide) ?_
      refine lv_idiv hx hb dX3_likelyFrom_172 (by decide) ?_
      refine lv_topi (fun x108 ex108 => ?_)
      have gx108 := jrg (rfl : x108.toInt = x108.toInt)
      exact hret x108 σ85 τ _ _ _ _ rfl ⟨rfl, (fun i hi => by rw [f87 i (by omega), f65 i (by omega), f38 i (by omega), f25 i (by omega)]), trivial⟩ hP hS dX3_likelyFrom_173
    · have kc99 := jnle c99 rfl jz_0
      refine lv_ldc (v := 1000000) hx hb hown (hts _ kw_37_1) dX3_likelyFrom_136 ?_
      refine lv_goto (tgt := 142) hx hb dX3_likelyFrom_138 (by decide) ?_
      refine lv_istore (lv' := [(13, .int 1000000), (12, .int x98), (11, .int r86), (10, .int r64), (9, .int x47), (8, .int r37), (7, .int r27), (6, .int r24), (0, .ref (ad 43)), (1, .int a1), (2, .int 0), (3, .int a3), (4, .int a4), (5, .int a5)]) hx hb dX3_likelyFrom_142 hl (by decide) rfl (fun ls hl => ?_)
      refine lv_aload_n hx hb dX3_likelyFrom_144 rfl (lv_at hl 8 rfl) ?_
      refine va_get (D := D) hx hb hts inlX3 hown hK hP 43 (jc_43 cI cL ad σ85 τ) rfl 3 (by decide) (hts _ kw_6_5) (fun _ h9 => h9) rfl dX3_likelyFrom_145 ?_
      refine va_get (D := D) hx hb hts inlX6 hown hK hP 16 (jc_16 cI cL ad σ85 τ) rfl 2 (by decide) (hts _ kw_37_2) (fun _ h9 => h9) rfl dX3_likelyFrom_148 ?_
      have m109 : σ85 16 2 = (σ 16 2) := (by rw [f87 16 (by omega)]; exact (by rw [f65 16 (by omega)]; exact (by rw [f38 16 (by omega)]; exact (by rw [f25 16 (by omega)]))))
      refine jtopr m109 ?_
      refine lv_iload hx hb dX3_likelyFrom_151 (lv_at hl 0 rfl) ?_
      have g110 := jrg (rfl : (σ 16 2).toInt = (σ 16 2).toInt)
      refine lv_imul hx hb dX3_likelyFrom_153 ?_
      refine lv_topi (fun x111 ex111 => ?_)
      have tx111 : x111.toInt = 1000000 * (σ 16 2).toInt := (jmul ex111 rfl jz_1000000 (by omega) (by omega)).trans (by omega)
      refine lv_sipush (v := 1000) hx hb dX3_likelyFrom_154 (by decide) ?_
      refine lv_aload_n hx hb dX3_likelyFrom_157 rfl (lv_at hl 8 rfl) ?_
      refine va_get (D := D) hx hb hts inlX3 hown hK hP 43 (jc_43 cI cL ad σ85 τ) rfl 3 (by decide) (hts _ kw_6_5) (fun _ h9 => h9) rfl dX3_likelyFrom_158 ?_
      refine va_get (D := D) hx hb hts inlX6 hown hK hP 16 (jc_16 cI cL ad σ85 τ) rfl 2 (by decide) (hts _ kw_37_2) (fun _ h9 => h9) rfl dX3_likelyFrom_161 ?_
      refine jtopr m109 ?_
      refine lv_isub hx hb dX3_likelyFrom_164 ?_
      refine lv_topi (fun x112 ex112 => ?_)
      have tx112 : x112.toInt = -(σ 16 2).toInt + 1000 := (jsub ex112 jz_1000 rfl (by omega) (by omega)).trans (by omega)
      refine lv_iload hx hb dX3_likelyFrom_165 (lv_at hl 1 rfl) ?_
      have g113 := jrg (rfl : x98.toInt = x98.toInt)
      refine lv_imul hx hb dX3_likelyFrom_167 ?_
      refine lv_topi (fun x114 ex114 => ?_)
      have gx114 := jrg (rfl : x114.toInt = x114.toInt)
      have g115 := jrg (rfl : x114.toInt = x114.toInt)
      refine lv_iadd hx hb dX3_likelyFrom_168 ?_
      refine lv_topi (fun x116 ex116 => ?_)
      have gx116 := jrg (rfl : x116.toInt = x116.toInt)
      refine lv_sipush (v := 1000) hx hb dX3_likelyFrom_169 (by decide) ?_
      refine lv_idiv hx hb dX3_likelyFrom_172 (by decide) ?_
      refine lv_topi (fun x117 ex117 => ?_)
      have gx117 := jrg (rfl : x117.toInt = x117.toInt)
      exact hret x117 σ85 τ _ _ _ _ rfl ⟨rfl, (fun i hi => by rw [f87 i (by omega), f65 i (by omega), f38 i (by omega), f25 i (by omega)]), trivial⟩ hP hS dX3_likelyFrom_173
  · have kc17 := jne c17 rfl jz_0
    refine lv_iload hx hb dX3_likelyFrom_20 (lv_at hl 5 rfl) ?_
    refine lv_if_le (tgt := 30) hx hb dX3_likelyFrom_22 (by decide) (fun c118 => ?_) (fun c118 => ?_)
    · have kc118 := jle c118 t5 jz_0
      refine lv_iconst (v := 0) hx hb dX3_likelyFrom_30 (by decide) ?_
      exact hret 0 σ τ _ _ _ _ rfl ⟨rfl, (fun _ _ => rfl), trivial⟩ hP hS dX3_likelyFrom_31
    · have kc118 := jnle c118 t5 jz_0
      refine lv_ldc (v := 1000000) hx hb hown (hts _ kw_37_1) dX3_likelyFrom_25 ?_
      refine lv_goto (tgt := 31) hx hb dX3_likelyFrom_27 (by decide) ?_
      exact hret 1000000 σ τ _ _ _ _ rfl ⟨rfl, (fun _ _ => rfl), trivial⟩ hP hS dX3_likelyFrom_31
set_option maxHeartbeats 4000000 in
set_option maxRecDepth 100000 in
theorem c_X3_drawn (l : Launch) (D : va_G) (cI cL : ClassId) (ad zz : Nat → Nat) (hJ : jD ad) (σ : Nat → Nat → Int32) (τ : Nat → Nat → Int64) (a1 : Int32) (A1 : Int) (t1 : a1.toInt = A1) : jM l yX3_drawn cX3_drawn 1 (some .int) ({ frames := 0, cells := 0, slots := 0, locals := 0 }) D cI cL ad zz [.int a1] σ τ (fun r σ' τ' => (σ = σ' ∧ τ = τ') ∧ True) := by
  refine jM.of hJ (by decide +kernel) (nt := .int) rfl (Nat.le_of_ble_eq_true rfl) ?_
  intro p e s m args below meth c Q ls hC hret hl hP
  obtain ⟨hx, hb, hr, hml, hown, hts, hK, -, hlocks, hZ⟩ := hC
  have hown : s.vm.findClass RX3 = some m.cls := hown
  have hS : va_S (jA ad) s.heap s.heap [] := va_S.rf
  have hA : ∀ q, jA ad q → jA ad q := fun _ h => h
  have hl : lv_has ls 1 [(0, .int a1)] := hl
  have g1 := jrg t1
  refine lv_iload_n hx hb dX3_drawn_0 rfl (lv_at hl 0 rfl) ?_
  refine lv_ldc (v := 1103515245) hx hb hown (hts _ kw_46_5) dX3_drawn_1 ?_
  refine lv_imul hx hb dX3_drawn_3 ?_
  refine lv_topi (fun x1 ex1 => ?_)
  have gx1 := jrg (rfl : x1.toInt = x1.toInt)
  refine lv_sipush (v := 12345) hx hb dX3_drawn_4 (by decide) ?_
  have g2 := jrg (rfl : x1.toInt = x1.toInt)
  refine lv_iadd hx hb dX3_drawn_7 ?_
  refine lv_topi (fun x3 ex3 => ?_)
  have gx3 := jrg (rfl : x3.toInt = x3.toInt)
  exact hret x3 σ τ _ _ _ _ rfl ⟨⟨rfl, rfl⟩, trivial⟩ hP hS dX3_drawn_8
set_option maxHeartbeats 4000000 in
set_option maxRecDepth 100000 in
theorem c_X3_lot (l : Launch) (D : va_G) (cI cL : ClassId) (ad zz : Nat → Nat) (hJ : jD ad) (σ : Nat → Nat → Int32) (τ : Nat → Nat → Int64) (a1 : Int32) (A1 : Int) (t1 : a1.toInt = A1) : jM l yX3_lot cX3_lot 1 (some .int) ({ frames := 0, cells := 0, slots := 0, locals := 0 }) D cI cL ad zz [.int a1] σ τ (fun r σ' τ' => (σ = σ' ∧ τ = τ') ∧ True) := by
  refine jM.of hJ (by decide +kernel) (nt := .int) rfl (Nat.le_of_ble_eq_true rfl) ?_
  intro p e s m args below meth c Q ls hC hret hl hP
  obtain ⟨hx, hb, hr, hml, hown, hts, hK, -, hlocks, hZ⟩ := hC
  have hown : s.vm.findClass RX3 = some m.cls := hown
  have hS : va_S (jA ad) s.heap s.heap [] := va_S.rf
  have hA : ∀ q, jA ad q → jA ad q := fun _ h => h
  have hl : lv_has ls 1 [(0, .int a1)] := hl
  have g1 := jrg t1
  refine lv_iload_n hx hb dX3_lot_0 rfl (lv_at hl 0 rfl) ?_
  refine lv_bipush (v := 8) hx hb dX3_lot_1 (by decide) ?_
  refine lv_iushr hx hb dX3_lot_3 rfl ?_
  refine lv_topi (fun x1 ex1 => ?_)
  have gx1 := jrg (rfl : x1.toInt = x1.toInt)
  have g2 : 0 ≤ x1.toInt ∧ x1.toInt ≤ 16777215 := jushr8 ex1
  refine lv_sipush (v := 1000) hx hb dX3_lot_4 (by decide) ?_
  refine lv_irem hx hb dX3_lot_7 (by decide) ?_
  refine lv_topi (fun x3 ex3 => ?_)
  have tx3 : x3.toInt = (x1.toInt % 1000) := jrem ex3 rfl jz_1000 (by omega)
  exact hret x3 σ τ _ _ _ _ rfl ⟨⟨rfl, rfl⟩, trivial⟩ hP hS dX3_lot_8
set_option maxHeartbeats 4000000 in
set_option maxRecDepth 100000 in
theorem c_X3_play_43 (l : Launch) (D : va_G) (cI cL : ClassId) (ad zz : Nat → Nat) (hJ : jD ad) (σ : Nat → Nat → Int32) (τ : Nat → Nat → Int64) (a1 : Int32) (A1 : Int) (t1 : a1.toInt = A1) (a2 : Int32) (A2 : Int) (t2 : a2.toInt = A2) (a3 : Int32) (A3 : Int) (t3 : a3.toInt = A3) (hI16 : jI16 σ) (hI18 : jI18 σ) (hI22 : jI22 σ) (hI31 : jI31 σ) (hI38 : jI38 σ) (hI43 : jI43 σ) : jM l yX3_play cX3_play 12 (some .int) ({ frames := 6, cells := 0, slots := 0, locals := 157 }) D cI cL ad zz [.ref (ad 43), .int a1, .int a2, .int a3] σ τ (fun r σ' τ' => τ = τ' ∧ (∀ i : Nat, (i < 20 ∨ 21 < i) ∧ (i < 24 ∨ 25 < i) ∧ (i < 29 ∨ 30 < i) ∧ (i < 43 ∨ 46 < i) → σ' i = σ i) ∧ (∀ k : Nat, (k < 8 ∨ 8 < k) → σ' 43 k = σ 43 k) ∧ (jI43 σ') ∧ True) := by
  refine jM.of hJ (by decide +kernel) (nt := .int) rfl (Nat.le_of_ble_eq_true rfl) ?_
  intro p e s m args below meth c Q ls hC hret hl hP
  obtain ⟨hx, hb, hr, hml, hown, hts, hK, -, hlocks, hZ⟩ := hC
  have hown : s.vm.findClass RX3 = some m.cls := hown
  have hS : va_S (jA ad) s.heap s.heap [] := va_S.rf
  have hA : ∀ q, jA ad q → jA ad q := fun _ h => h
  have hl : lv_has ls 12 [(0, .ref (ad 43)), (1, .int a1), (2, .int a2), (3, .int a3)] := hl
  have g1 := jrg t1
  have g2 := jrg t2
  have g3 := jrg t3
  obtain ⟨i1, i2, i3, w4⟩ : (1 ≤ (σ 16 0).toInt ∧ (σ 16 0).toInt ≤ 8) ∧ (1 ≤ (σ 16 1).toInt ∧ (σ 16 1).toInt ≤ 12) ∧ (0 ≤ (σ 16 2).toInt ∧ (σ 16 2).toInt ≤ 999) ∧ (∀ k : Nat, k < 8 → 0 ≤ (σ 17 k).toInt ∧ (σ 17 k).toInt ≤ 3) := id hI16
  obtain ⟨i5, w6⟩ : (0 ≤ (σ 18 0).toInt ∧ (σ 18 0).toInt ≤ 160) ∧ (∀ k : Nat, k < 160 → 0 ≤ (σ 19 k).toInt ∧ (σ 19 k).toInt ≤ 30000) := id hI18
  obtain ⟨i7, w8⟩ : (0 ≤ (σ 22 0).toInt ∧ (σ 22 0).toInt ≤ 160) ∧ (∀ k : Nat, k < 160 → 0 ≤ (σ 23 k).toInt ∧ (σ 23 k).toInt ≤ 30000) := id hI22
  obtain ⟨i9, w10, w11⟩ : (0 ≤ (σ 31 8).toInt ∧ (σ 31 8).toInt ≤ 350) ∧ (∀ k : Nat, k < 1400 → (-1) ≤ (σ 33 k).toInt ∧ (σ 33 k).toInt ≤ 350) ∧ (∀ k : Nat, k < 1024 → 0 ≤ (σ 36 k).toInt ∧ (σ 36 k).toInt ≤ 349) := id hI31
  obtain ⟨i12, i13, w14⟩ : (0 ≤ (σ 38 0).toInt ∧ (σ 38 0).toInt ≤ 20) ∧ (0 ≤ (σ 38 1).toInt ∧ (σ 38 1).toInt ≤ 1000) ∧ (∀ k : Nat, k < 20 → 0 ≤ (σ 39 k).toInt ∧ (σ 39 k).toInt ≤ 6) := id hI38
  have i15 : 0 ≤ (σ 43 8).toInt ∧ (σ 43 8).toInt ≤ 8 := hI43
  refine lv_iload_n hx hb dX3_play_0 rfl (lv_at hl 2 rfl) ?_
  refine lv_istore (lv' := [(4, .int a2), (0, .ref (ad 43)), (1, .int a1), (2, .int a2), (3, .int a3)]) hx hb dX3_play_1 hl (by decide) rfl (fun ls hl => ?_)
  refine lv_iconst (v := 0) hx hb dX3_play_3 (by decide) ?_
  refine lv_istore (lv' := [(5, .int 0), (4, .int a2), (0, .ref (ad 43)), (1, .int a1), (2, .int a2), (3, .int a3)]) hx hb dX3_play_4 hl (by decide) rfl (fun ls hl => ?_)
  refine lv_iload_n hx hb dX3_play_6 rfl (lv_at hl 5 rfl) ?_
  refine lv_istore (lv' := [(6, .int a3), (5, .int 0), (4, .int a2), (0, .ref (ad 43)), (1, .int a1), (2, .int a2), (3, .int a3)]) hx hb dX3_play_7 hl (by decide) rfl (fun ls hl => ?_)
  refine lv_iconst (v := 0) hx hb dX3_play_9 (by decide) ?_
  refine lv_istore (lv' := [(7, .int 0), (6, .int a3), (5, .int 0), (4, .int a2), (0, .ref (ad 43)), (1, .int a1), (2, .int a2), (3, .int a3)]) hx hb dX3_play_10 hl (by decide) rfl (fun ls hl => ?_)
  refine lv_aload_n hx hb dX3_play_12 rfl (lv_at hl 4 rfl) ?_
  refine lv_iconst (v := 0) hx hb dX3_play_13 (by decide) ?_
  refine jput (ty := .int) hx hb hts inlX3 tyX3 tyX3_ok nmX3 hown hK hP hJ hA hS (jc_43 cI cL ad σ τ) rfl (k := 8) (by decide) (Nat.le_of_ble_eq_true rfl) (jp_43_8 cI cL ad σ τ 0) (hts _ kw_46_1) (fun _ h9 => h9) rfl (by decide +kernel) rfl rfl dX3_play_14 (fun σ16 H locs eσ16 hP hS => ?_)
  refine lv_iconst (v := 0) hx hb dX3_play_17 (by decide) ?_
  refine lv_istore (lv' := [(8, .int 0), (7, .int 0), (6, .int a3), (5, .int 0), (4, .int a2), (0, .ref (ad 43)), (1, .int a1), (2, .int a2), (3, .int a3)]) hx hb dX3_play_18 hl (by decide) rfl (fun ls hl => ?_)
  have z28 : (σ16 43 8).toInt = 0 := by rw [(show σ16 43 8 = 0 from (by rw [eσ16]; exact jup_s))]; exact jz_0
  have lp17 : ∀ (n18 : Nat) (x19 : Int32) (x20 : Int32) (x21 : Int32) (x22 : Int32) (x23 : Int32) (σ27 : Nat → Nat → Int32) (H : Heap) (locs : List Loc) (ls : Array Slot), (-x23.toInt + 8 : Int) < n18 → 0 ≤ x23.toInt → x23.toInt ≤ 8 → 0 ≤ (σ27 43 8).toInt ∧ (σ27 43 8).toInt ≤ 8 → (∀ i : Nat, (i < 20 ∨ 21 < i) ∧ (i < 24 ∨ 25 < i) ∧ (i < 29 ∨ 30 < i) ∧ (i < 43 ∨ 46 < i) → σ27 i = σ16 i) → (∀ k : Nat, (k < 8 ∨ 8 < k) → σ27 43 k = σ16 43 k) → jH D cI cL ad σ27 τ H → va_S (jA ad) s.heap H locs → lv_has ls 12 [(8, .int x23), (7, .int x22), (6, .int x21), (5, .int x20), (4, .int x19), (0, .ref (ad 43)), (1, .int a1), (2, .int a2), (3, .int a3)] → W p l e ({ frames := 6, cells := 0, slots := 0, locals := 157 }) s m args below meth c H locs 0 0 Q (F0 m 20 ls []) := by
    intro n18
    induction n18 with
    | zero => intro x19 x20 x21 x22 x23 σ27 H locs ls h29 h30 h31 h32; have gx19 := jrg (rfl : x19.toInt = x19.toInt); have gx20 := jrg (rfl : x20.toInt = x20.toInt); have gx21 := jrg (rfl : x21.toInt = x21.toInt); have gx22 := jrg (rfl : x22.toInt = x22.toInt); exact absurd h29 (by omega)
    | succ n18 ihlp17 =>
      intro x19 x20 x21 x22 x23 σ27 H locs ls h29 h30 h31 h32 f33 f34 hP hS hl
      have gx19 := jrg (rfl : x19.toInt = x19.toInt); have gx20 := jrg (rfl : x20.toInt = x20.toInt); have gx21 := jrg (rfl : x21.toInt = x21.toInt); have gx22 := jrg (rfl : x22.toInt = x22.toInt)
      refine lv_iload hx hb dX3_play_20 (lv_at hl 0 rfl) ?_
      refine lv_bipush (v := 8) hx hb dX3_play_22 (by decide) ?_
      refine lv_icmp_ge (tgt := 200) hx hb dX3_play_24 (by decide) (fun c35 => ?_) (fun c35 => ?_)
      · have kc35 := jle c35 jz_8 rfl
        refine lv_iload hx hb dX3_play_200 (lv_at hl 1 rfl) ?_
        have I36 : jI43 σ27 := (show 0 ≤ (σ27 43 8).toInt ∧ (σ27 43 8).toInt ≤ 8 by omega)
        exact hret x22 σ27 τ _ _ _ _ rfl ⟨rfl, (fun i hi => by rw [f33 i (by omega), eσ16, jup_n (by omega)]), (fun k hk => by rw [f34 k (by omega), eσ16, jup_k (by omega)]), I36, trivial⟩ hP hS dX3_play_202
      · have kc35 := jnle c35 jz_8 rfl
        refine lv_aload_n hx hb dX3_play_27 rfl (lv_at hl 5 rfl) ?_
        refine va_get (D := D) hx hb hts inlX3 hown hK hP 43 (jc_43 cI cL ad σ27 τ) rfl 3 (by decide) (hts _ kw_6_5) (fun _ h9 => h9) rfl dX3_play_28 ?_
        refine lv_iload hx hb dX3_play_31 (lv_at hl 0 rfl) ?_
        refine lv_iload hx hb dX3_play_33 (lv_at hl 3 rfl) ?_
        refine lv_iload hx hb dX3_play_35 (lv_at hl 2 rfl) ?_
        refine jcallV (As := [.int x23, .int x20, .int x21]) (rest := []) ⟨hx, hb, hml, hown, hts⟩ hK hP hA hS hZ (c_X6_ended_16 l D cI cL ad zz hJ σ27 τ x23 (x23.toInt) rfl x20 (x20.toInt) rfl x21 (x21.toInt) rfl) cw_RX3_123 (jc_16 cI cL ad σ27 τ) rfl ⟨Nat.le_of_ble_eq_true rfl, Nat.le_of_ble_eq_true rfl⟩ rfl rfl rfl hl.1 rfl (Nat.le_of_ble_eq_true rfl) dX3_play_37 ⟨Nat.zero_le _, Nat.zero_le _⟩ (fun r38 σ37 τ37 H locs h37 hP hS => ?_)
        obtain ⟨⟨rfl, rfl⟩, h37⟩ := h37
        refine lv_if_ne (tgt := 200) hx hb dX3_play_40 (by decide) (fun c39 => ?_) (fun c39 => ?_)
        · have kc39 := jne c39 rfl jz_0
          refine lv_iload hx hb dX3_play_200 (lv_at hl 1 rfl) ?_
          have I40 : jI43 σ27 := (show 0 ≤ (σ27 43 8).toInt ∧ (σ27 43 8).toInt ≤ 8 by omega)
          exact hret x22 σ27 τ _ _ _ _ rfl ⟨rfl, (fun i hi => by rw [f33 i (by omega), eσ16, jup_n (by omega)]), (fun k hk => by rw [f34 k (by omega), eσ16, jup_k (by omega)]), I40, trivial⟩ hP hS dX3_play_202
        · have kc39 := jeq c39 rfl jz_0
          refine lv_aload_n hx hb dX3_play_43 rfl (lv_at hl 5 rfl) ?_
          refine lv_iload_n hx hb dX3_play_44 rfl (lv_at hl 6 rfl) ?_
          refine lv_iload hx hb dX3_play_45 (lv_at hl 0 rfl) ?_
          refine lv_iload hx hb dX3_play_47 (lv_at hl 3 rfl) ?_
          refine lv_iload hx hb dX3_play_49 (lv_at hl 2 rfl) ?_
          have z41 : (σ27 16 0).toInt = (σ 16 0).toInt := by rw [(show σ27 16 0 = (σ 16 0) from (by rw [f33 16 (by omega)]; exact (by rw [eσ16, jup_n (by decide)])))]
          have z42 : (σ27 16 1).toInt = (σ 16 1).toInt := by rw [(show σ27 16 1 = (σ 16 1) from (by rw [f33 16 (by omega)]; exact (by rw [eσ16, jup_n (by decide)])))]
          have z43 : (σ27 16 2).toInt = (σ 16 2).toInt := by rw [(show σ27 16 2 = (σ 16 2) from (by rw [f33 16 (by omega)]; exact (by rw [eσ16, jup_n (by decide)])))]
          have w44 : ∀ k : Nat, k < 8 → 0 ≤ (σ27 17 k).toInt ∧ (σ27 17 k).toInt ≤ 3 := (by rw [f33 17 (by omega)]; exact (by rw [eσ16, jup_n (by decide)]; exact w4))
          have I45 : jI16 σ27 := ⟨(by omega), (by omega), (by omega), w44⟩
          have z46 : (σ27 18 0).toInt = (σ 18 0).toInt := by rw [(show σ27 18 0 = (σ 18 0) from (by rw [f33 18 (by omega)]; exact (by rw [eσ16, jup_n (by decide)])))]
          have w47 : ∀ k : Nat, k < 160 → 0 ≤ (σ27 19 k).toInt ∧ (σ27 19 k).toInt ≤ 30000 := (by rw [f33 19 (by omega)]; exact (by rw [eσ16, jup_n (by decide)]; exact w6))
          have I48 : jI18 σ27 := ⟨(by omega), w47⟩
          have z49 : (σ27 22 0).toInt = (σ 22 0).toInt := by rw [(show σ27 22 0 = (σ 22 0) from (by rw [f33 22 (by omega)]; exact (by rw [eσ16, jup_n (by decide)])))]
          have w50 : ∀ k : Nat, k < 160 → 0 ≤ (σ27 23 k).toInt ∧ (σ27 23 k).toInt ≤ 30000 := (by rw [f33 23 (by omega)]; exact (by rw [eσ16, jup_n (by decide)]; exact w8))
          have I51 : jI22 σ27 := ⟨(by omega), w50⟩
          have z52 : (σ27 31 8).toInt = (σ 31 8).toInt := by rw [(show σ27 31 8 = (σ 31 8) from (by rw [f33 31 (by omega)]; exact (by rw [eσ16, jup_n (by decide)])))]
          have w53 : ∀ k : Nat, k < 1400 → (-1) ≤ (σ27 33 k).toInt ∧ (σ27 33 k).toInt ≤ 350 := (by rw [f33 33 (by omega)]; exact (by rw [eσ16, jup_n (by decide)]; exact w10))
          have w54 : ∀ k : Nat, k < 1024 → 0 ≤ (σ27 36 k).toInt ∧ (σ27 36 k).toInt ≤ 349 := (by rw [f33 36 (by omega)]; exact (by rw [eσ16, jup_n (by decide)]; exact w11))
          have I55 : jI31 σ27 := ⟨(by omega), w53, w54⟩
          have z56 : (σ27 38 0).toInt = (σ 38 0).toInt := by rw [(show σ27 38 0 = (σ 38 0) from (by rw [f33 38 (by omega)]; exact (by rw [eσ16, jup_n (by decide)])))]
          have z57 : (σ27 38 1).toInt = (σ 38 1).toInt := by rw [(show σ27 38 1 = (σ 38 1) from (by rw [f33 38 (by omega)]; exact (by rw [eσ16, jup_n (by decide)])))]
          have w58 : ∀ k : Nat, k < 20 → 0 ≤ (σ27 39 k).toInt ∧ (σ27 39 k).toInt ≤ 6 := (by rw [f33 39 (by omega)]; exact (by rw [eσ16, jup_n (by decide)]; exact w14))
          have I59 : jI38 σ27 := ⟨(by omega), (by omega), w58⟩
          refine jcallV (As := [.int a1, .int x23, .int x20, .int x21]) (rest := []) ⟨hx, hb, hml, hown, hts⟩ hK hP hA hS hZ (c_X3_putOn_43 l D cI cL ad zz hJ σ27 τ a1 (A1) t1 x23 (x23.toInt) rfl x20 (x20.toInt) rfl x21 (x21.toInt) rfl I45 I48 I51 I55 I59) cw_RX3_127 (jc_43 cI cL ad σ27 τ) rfl ⟨Nat.le_of_ble_eq_true rfl, Nat.le_of_ble_eq_true rfl⟩ rfl rfl rfl hl.1 rfl (Nat.le_of_ble_eq_true rfl) dX3_play_51 ⟨Nat.zero_le _, Nat.zero_le _⟩ (fun r61 σ60 τ60 H locs h60 hP hS => ?_)
          obtain ⟨rfl, f62, h60⟩ := h60
          refine lv_istore (lv' := [(9, .int r61), (8, .int x23), (7, .int x22), (6, .int x21), (5, .int x20), (4, .int x19), (0, .ref (ad 43)), (1, .int a1), (2, .int a2), (3, .int a3)]) hx hb dX3_play_54 hl (by decide) rfl (fun ls hl => ?_)
          refine lv_aload_n hx hb dX3_play_56 rfl (lv_at hl 6 rfl) ?_
          refine lv_iload hx hb dX3_play_57 (lv_at hl 0 rfl) ?_
          refine lv_iload hx hb dX3_play_59 (lv_at hl 4 rfl) ?_
          refine lv_iload hx hb dX3_play_61 (lv_at hl 3 rfl) ?_
          have z63 : (σ60 16 0).toInt = (σ 16 0).toInt := by rw [(show σ60 16 0 = (σ 16 0) from (by rw [f62 16 (by omega)]; exact (by rw [f33 16 (by omega)]; exact (by rw [eσ16, jup_n (by decide)]))))]
          have z64 : (σ60 16 1).toInt = (σ 16 1).toInt := by rw [(show σ60 16 1 = (σ 16 1) from (by rw [f62 16 (by omega)]; exact (by rw [f33 16 (by omega)]; exact (by rw [eσ16, jup_n (by decide)]))))]
          have z65 : (σ60 16 2).toInt = (σ 16 2).toInt := by rw [(show σ60 16 2 = (σ 16 2) from (by rw [f62 16 (by omega)]; exact (by rw [f33 16 (by omega)]; exact (by rw [eσ16, jup_n (by decide)]))))]
          have w66 : ∀ k : Nat, k < 8 → 0 ≤ (σ60 17 k).toInt ∧ (σ60 17 k).toInt ≤ 3 := (by rw [f62 17 (by omega)]; exact w44)
          have I67 : jI16 σ60 := ⟨(by omega), (by omega), (by omega), w66⟩
          refine jcallV (As := [.int r61, .int x20, .int x21]) (rest := []) ⟨hx, hb, hml, hown, hts⟩ hK hP hA hS hZ (c_X3_runsBy_43 l D cI cL ad zz hJ σ60 τ r61 (r61.toInt) rfl x20 (x20.toInt) rfl x21 (x21.toInt) rfl I67) cw_RX3_136 (jc_43 cI cL ad σ60 τ) rfl ⟨Nat.le_of_ble_eq_true rfl, Nat.le_of_ble_eq_true rfl⟩ rfl rfl rfl hl.1 rfl (Nat.le_of_ble_eq_true rfl) dX3_play_63 ⟨Nat.zero_le _, Nat.zero_le _⟩ (fun r69 σ68 τ68 H locs h68 hP hS => ?_)
          obtain ⟨⟨rfl, rfl⟩, h68⟩ := h68
          refine lv_istore (lv' := [(10, .int r69), (9, .int r61), (8, .int x23), (7, .int x22), (6, .int x21), (5, .int x20), (4, .int x19), (0, .ref (ad 43)), (1, .int a1), (2, .int a2), (3, .int a3)]) hx hb dX3_play_66 hl (by decide) rfl (fun ls hl => ?_)
          refine lv_iload hx hb dX3_play_68 (lv_at hl 6 rfl) ?_
          refine jcallS (As := [.int x19]) (rest := []) ⟨hx, hb, hml, hown, hts⟩ hK hP hA hS hZ (c_X3_drawn l D cI cL ad zz hJ σ60 τ x19 (x19.toInt) rfl) cw_RX3_156 ⟨Nat.le_of_ble_eq_true rfl, Nat.le_of_ble_eq_true rfl⟩ rfl rfl rfl hl.1 rfl (Nat.le_of_ble_eq_true rfl) dX3_play_70 ⟨Nat.zero_le _, Nat.zero_le _⟩ (fun r71 σ70 τ70 H locs h70 hP hS => ?_)
          obtain ⟨⟨rfl, rfl⟩, h70⟩ := h70
          refine lv_istore (lv' := [(4, .int r71), (10, .int r69), (9, .int r61), (8, .int x23), (7, .int x22), (6, .int x21), (5, .int x20), (0, .ref (ad 43)), (1, .int a1), (2, .int a2), (3, .int a3)]) hx hb dX3_play_73 hl (by decide) rfl (fun ls hl => ?_)
          refine lv_iload hx hb dX3_play_75 (lv_at hl 0 rfl) ?_
          refine jcallS (As := [.int r71]) (rest := []) ⟨hx, hb, hml, hown, hts⟩ hK hP hA hS hZ (c_X3_lot l D cI cL ad zz hJ σ60 τ r71 (r71.toInt) rfl) cw_RX3_159 ⟨Nat.le_of_ble_eq_true rfl, Nat.le_of_ble_eq_true rfl⟩ rfl rfl rfl hl.1 rfl (Nat.le_of_ble_eq_true rfl) dX3_play_77 ⟨Nat.zero_le _, Nat.zero_le _⟩ (fun r73 σ72 τ72 H locs h72 hP hS => ?_)
          obtain ⟨⟨rfl, rfl⟩, h72⟩ := h72
          refine lv_aload_n hx hb dX3_play_80 rfl (lv_at hl 7 rfl) ?_
          refine lv_iload hx hb dX3_play_81 (lv_at hl 2 rfl) ?_
          refine lv_iload hx hb dX3_play_83 (lv_at hl 3 rfl) ?_
          refine lv_iload hx hb dX3_play_85 (lv_at hl 6 rfl) ?_
          refine lv_iload hx hb dX3_play_87 (lv_at hl 5 rfl) ?_
          have z74 : (σ60 22 0).toInt = (σ 22 0).toInt := by rw [(show σ60 22 0 = (σ 22 0) from (by rw [f62 22 (by omega)]; exact (by rw [f33 22 (by omega)]; exact (by rw [eσ16, jup_n (by decide)]))))]
          have w75 : ∀ k : Nat, k < 160 → 0 ≤ (σ60 23 k).toInt ∧ (σ60 23 k).toInt ≤ 30000 := (by rw [f62 23 (by omega)]; exact w50)
          have I76 : jI22 σ60 := ⟨(by omega), w75⟩
          refine jcallV (As := [.int r61, .int x23, .int x20, .int x21]) (rest := [.int r73]) ⟨hx, hb, hml, hown, hts⟩ hK hP hA hS hZ (c_X3_outBy_43 l D cI cL ad zz hJ σ60 τ r61 (r61.toInt) rfl x23 (x23.toInt) rfl x20 (x20.toInt) rfl x21 (x21.toInt) rfl I67 I76) cw_RX3_139 (jc_43 cI cL ad σ60 τ) rfl ⟨Nat.le_of_ble_eq_true rfl, Nat.le_of_ble_eq_true rfl⟩ rfl rfl rfl hl.1 rfl (Nat.le_of_ble_eq_true rfl) dX3_play_89 ⟨Nat.zero_le _, Nat.zero_le _⟩ (fun r78 σ77 τ77 H locs h77 hP hS => ?_)
          obtain ⟨rfl, f79, h77⟩ := h77
          refine lv_icmp_ge (tgt := 99) hx hb dX3_play_92 (by decide) (fun c80 => ?_) (fun c80 => ?_)
          · have kc80 := jle c80 rfl rfl
            refine lv_iconst (v := 0) hx hb dX3_play_99 (by decide) ?_
            refine lv_istore (lv' := [(11, .int 0), (4, .int r71), (10, .int r69), (9, .int r61), (8, .int x23), (7, .int x22), (6, .int x21), (5, .int x20), (0, .ref (ad 43)), (1, .int a1), (2, .int a2), (3, .int a3)]) hx hb dX3_play_100 hl (by decide) rfl (fun ls hl => ?_)
            refine lv_aload_n hx hb dX3_play_102 rfl (lv_at hl 8 rfl) ?_
            refine va_get (D := D) hx hb hts inlX3 hown hK hP 43 (jc_43 cI cL ad σ77 τ) rfl 5 (by decide) (hts _ kw_5_23) (fun _ h9 => h9) rfl dX3_play_103 ?_
            refine lv_iload hx hb dX3_play_106 (lv_at hl 4 rfl) ?_
            refine lv_iload hx hb dX3_play_108 (lv_at hl 3 rfl) ?_
            refine jast hx hb hK hP hJ hA hS (jc_44 cI cL ad σ77 τ) (ja_44 cI cL ad σ77 τ _ _) (jin rfl (by omega) (by omega)) dX3_play_110 (fun σ81 H locs eσ81 hP hS => ?_)
            refine lv_aload_n hx hb dX3_play_111 rfl (lv_at hl 8 rfl) ?_
            refine va_get (D := D) hx hb hts inlX3 hown hK hP 43 (jc_43 cI cL ad σ81 τ) rfl 6 (by decide) (hts _ kw_6_0) (fun _ h9 => h9) rfl dX3_play_112 ?_
            refine lv_iload hx hb dX3_play_115 (lv_at hl 4 rfl) ?_
            refine lv_iload hx hb dX3_play_117 (lv_at hl 2 rfl) ?_
            refine jast hx hb hK hP hJ hA hS (jc_45 cI cL ad σ81 τ) (ja_45 cI cL ad σ81 τ _ _) (jin rfl (by omega) (by omega)) dX3_play_119 (fun σ82 H locs eσ82 hP hS => ?_)
            refine lv_aload_n hx hb dX3_play_120 rfl (lv_at hl 8 rfl) ?_
            refine va_get (D := D) hx hb hts inlX3 hown hK hP 43 (jc_43 cI cL ad σ82 τ) rfl 7 (by decide) (hts _ kw_6_1) (fun _ h9 => h9) rfl dX3_play_121 ?_
            refine lv_iload hx hb dX3_play_124 (lv_at hl 4 rfl) ?_
            refine lv_iload hx hb dX3_play_126 (lv_at hl 0 rfl) ?_
            refine lv_if_eq (tgt := 135) hx hb dX3_play_128 (by decide) (fun _ => ?_) (fun c => absurd (by decide) c)
            refine lv_iconst (v := 0) hx hb dX3_play_135 (by decide) ?_
            refine jast hx hb hK hP hJ hA hS (jc_46 cI cL ad σ82 τ) (ja_46 cI cL ad σ82 τ _ _) (jin rfl (by omega) (by omega)) dX3_play_136 (fun σ83 H locs eσ83 hP hS => ?_)
            refine lv_aload_n hx hb dX3_play_137 rfl (lv_at hl 8 rfl) ?_
            refine lv_iload hx hb dX3_play_138 (lv_at hl 4 rfl) ?_
            refine lv_iconst (v := 1) hx hb dX3_play_140 (by decide) ?_
            have g84 := jrg (rfl : x23.toInt = x23.toInt)
            refine lv_iadd hx hb dX3_play_141 ?_
            refine lv_topi (fun x85 ex85 => ?_)
            have tx85 : x85.toInt = x23.toInt + 1 := (jadd ex85 rfl jz_1 (by omega) (by omega)).trans (by omega)
            refine jput (ty := .int) hx hb hts inlX3 tyX3 tyX3_ok nmX3 hown hK hP hJ hA hS (jc_43 cI cL ad σ83 τ) rfl (k := 8) (by decide) (Nat.le_of_ble_eq_true rfl) (jp_43_8 cI cL ad σ83 τ x85) (hts _ kw_46_1) (fun _ h9 => h9) rfl (by decide +kernel) rfl rfl dX3_play_142 (fun σ86 H locs eσ86 hP hS => ?_)
            refine lv_iload hx hb dX3_play_145 (lv_at hl 5 rfl) ?_
            refine lv_iload hx hb dX3_play_147 (lv_at hl 2 rfl) ?_
            have g87 := jrg (rfl : x22.toInt = x22.toInt)
            have g88 := jrg (rfl : r69.toInt = r69.toInt)
            refine lv_iadd hx hb dX3_play_149 ?_
            refine lv_topi (fun x89 ex89 => ?_)
            have gx89 := jrg (rfl : x89.toInt = x89.toInt)
            refine lv_istore (lv' := [(7, .int x89), (11, .int 0), (4, .int r71), (10, .int r69), (9, .int r61), (8, .int x23), (6, .int x21), (5, .int x20), (0, .ref (ad 43)), (1, .int a1), (2, .int a2), (3, .int a3)]) hx hb dX3_play_150 hl (by decide) rfl (fun ls hl => ?_)
            refine lv_iload hx hb dX3_play_152 (lv_at hl 1 rfl) ?_
            refine lv_if_eq (tgt := 160) hx hb dX3_play_154 (by decide) (fun _ => ?_) (fun c => absurd (by decide) c)
            refine lv_iload hx hb dX3_play_160 (lv_at hl 6 rfl) ?_
            refine lv_iload hx hb dX3_play_162 (lv_at hl 4 rfl) ?_
            refine jcallS (As := [.int x21, .int r61]) (rest := []) ⟨hx, hb, hml, hown, hts⟩ hK hP hA hS hZ (c_X0_after l D cI cL ad zz hJ σ86 τ x21 (x21.toInt) rfl r61 (r61.toInt) rfl) cw_RX3_130 ⟨Nat.le_of_ble_eq_true rfl, Nat.le_of_ble_eq_true rfl⟩ rfl rfl rfl hl.1 rfl (Nat.le_of_ble_eq_true rfl) dX3_play_164 ⟨Nat.zero_le _, Nat.zero_le _⟩ (fun r91 σ90 τ90 H locs h90 hP hS => ?_)
            obtain ⟨⟨rfl, rfl⟩, h90⟩ := h90
            refine lv_istore (lv' := [(6, .int r91), (7, .int x89), (11, .int 0), (4, .int r71), (10, .int r69), (9, .int r61), (8, .int x23), (5, .int x20), (0, .ref (ad 43)), (1, .int a1), (2, .int a2), (3, .int a3)]) hx hb dX3_play_167 hl (by decide) rfl (fun ls hl => ?_)
            refine lv_iload hx hb dX3_play_169 (lv_at hl 3 rfl) ?_
            refine jcallS (As := [.int r71]) (rest := []) ⟨hx, hb, hml, hown, hts⟩ hK hP hA hS hZ (c_X3_drawn l D cI cL ad zz hJ σ86 τ r71 (r71.toInt) rfl) cw_RX3_156 ⟨Nat.le_of_ble_eq_true rfl, Nat.le_of_ble_eq_true rfl⟩ rfl rfl rfl hl.1 rfl (Nat.le_of_ble_eq_true rfl) dX3_play_171 ⟨Nat.zero_le _, Nat.zero_le _⟩ (fun r93 σ92 τ92 H locs h92 hP hS => ?_)
            obtain ⟨⟨rfl, rfl⟩, h92⟩ := h92
            refine lv_istore (lv' := [(4, .int r93), (6, .int r91), (7, .int x89), (11, .int 0), (10, .int r69), (9, .int r61), (8, .int x23), (5, .int x20), (0, .ref (ad 43)), (1, .int a1), (2, .int a2), (3, .int a3)]) hx hb dX3_play_174 hl (by decide) rfl (fun ls hl => ?_)
            refine lv_iload hx hb dX3_play_176 (lv_at hl 0 rfl) ?_
            refine jcallS (As := [.int r93]) (rest := []) ⟨hx, hb, hml, hown, hts⟩ hK hP hA hS hZ (c_X3_lot l D cI cL ad zz hJ σ86 τ r93 (r93.toInt) rfl) cw_RX3_159 ⟨Nat.le_of_ble_eq_true rfl, Nat.le_of_ble_eq_true rfl⟩ rfl rfl rfl hl.1 rfl (Nat.le_of_ble_eq_true rfl) dX3_play_178 ⟨Nat.zero_le _, Nat.zero_le _⟩ (fun r95 σ94 τ94 H locs h94 hP hS => ?_)
            obtain ⟨⟨rfl, rfl⟩, h94⟩ := h94
            refine lv_aload_n hx hb dX3_play_181 rfl (lv_at hl 8 rfl) ?_
            refine va_get (D := D) hx hb hts inlX3 hown hK hP 43 (jc_43 cI cL ad σ86 τ) rfl 3 (by decide) (hts _ kw_6_5) (fun _ h9 => h9) rfl dX3_play_182 ?_
            refine va_get (D := D) hx hb hts inlX6 hown hK hP 16 (jc_16 cI cL ad σ86 τ) rfl 2 (by decide) (hts _ kw_37_2) (fun _ h9 => h9) rfl dX3_play_185 ?_
            have m96 : σ86 16 2 = (σ 16 2) := (by rw [eσ86, jup_n (by decide)]; exact (by rw [eσ83, jup_n (by decide)]; exact (by rw [eσ82, jup_n (by decide)]; exact (by rw [eσ81, jup_n (by decide)]; exact (by rw [f79 16 (by omega)]; exact (by rw [f62 16 (by omega)]; exact (by rw [f33 16 (by omega)]; exact (by rw [eσ16, jup_n (by decide)]))))))))
            refine jtopr m96 ?_
            refine lv_icmp_ge (tgt := 194) hx hb dX3_play_188 (by decide) (fun c97 => ?_) (fun c97 => ?_)
            · have kc97 := jle c97 rfl rfl
              obtain ⟨x98, ex98⟩ : ∃ y : Int32, y = x23 + 1 := ⟨_, rfl⟩
              have tx98 : x98.toInt = x23.toInt + 1 := (jadd ex98 rfl jz_1 (by omega) (by omega)).trans (by omega)
              refine lv_iinc (v := x98) (lv' := [(8, .int x98), (4, .int r93), (6, .int r91), (7, .int x89), (11, .int 0), (10, .int r69), (9, .int r61), (5, .int x20), (0, .ref (ad 43)), (1, .int a1), (2, .int a2), (3, .int a3)]) hx hb dX3_play_194 hl (k := 6) rfl (by rw [ex98]; rfl) (by decide) rfl (fun ls hl => ?_)
              refine lv_goto (tgt := 20) hx hb dX3_play_197 (by decide) ?_
              have z99 : (σ86 43 8).toInt = x23.toInt + 1 := by rw [(show σ86 43 8 = x85 from (by rw [eσ86]; exact jup_s))]; exact tx85
              exact ihlp17 r93 x20 r91 x89 x98 σ86 _ _ ls (by have h94 := tx98; omega) (by have h94 := tx98; omega) (by have h94 := tx98; omega) (by have h94 := tx98; omega) (fun i hi => by rw [eσ86, jup_n (by omega), eσ83, jup_n (by omega), eσ82, jup_n (by omega), eσ81, jup_n (by omega), f79 i (by omega), f62 i (by omega), f33 i hi]) (fun k hk => by rw [eσ86, jup_k (by omega), eσ83, jup_n (by decide), eσ82, jup_n (by decide), eσ81, jup_n (by decide), f79 43 (by omega), f62 43 (by omega), f34 k hk])   hP hS (lv_sub hl [0, 3, 2, 7, 1, 8, 9, 10, 11] rfl)
            · have kc97 := jnle c97 rfl rfl
              refine lv_goto (tgt := 200) hx hb dX3_play_191 (by decide) ?_
              refine lv_iload hx hb dX3_play_200 (lv_at hl 2 rfl) ?_
              have z100 : (σ86 43 8).toInt = x23.toInt + 1 := by rw [(show σ86 43 8 = x85 from (by rw [eσ86]; exact jup_s))]; exact tx85
              have I101 : jI43 σ86 := (show 0 ≤ (σ86 43 8).toInt ∧ (σ86 43 8).toInt ≤ 8 by omega)
              exact hret x89 σ86 τ _ _ _ _ rfl ⟨rfl, (fun i hi => by rw [eσ86, jup_n (by omega), eσ83, jup_n (by omega), eσ82, jup_n (by omega), eσ81, jup_n (by omega), f79 i (by omega), f62 i (by omega), f33 i (by omega), eσ16, jup_n (by omega)]), (fun k hk => by rw [eσ86, jup_k (by omega), eσ83, jup_n (by decide), eσ82, jup_n (by decide), eσ81, jup_n (by decide), f79 43 (by omega), f62 43 (by omega), f34 k (by omega), eσ16, jup_k (by omega)]), I101, trivial⟩ hP hS dX3_play_202
          · have kc80 := jnle c80 rfl rfl
            refine lv_iconst (v := 1) hx hb dX3_play_95 (by decide) ?_
            refine lv_goto (tgt := 100) hx hb dX3_play_96 (by decide) ?_
            refine lv_istore (lv' := [(11, .int 1), (4, .int r71), (10, .int r69), (9, .int r61), (8, .int x23), (7, .int x22), (6, .int x21), (5, .int x20), (0, .ref (ad 43)), (1, .int a1), (2, .int a2), (3, .int a3)]) hx hb dX3_play_100 hl (by decide) rfl (fun ls hl => ?_)
            refine lv_aload_n hx hb dX3_play_102 rfl (lv_at hl 8 rfl) ?_
            refine va_get (D := D) hx hb hts inlX3 hown hK hP 43 (jc_43 cI cL ad σ77 τ) rfl 5 (by decide) (hts _ kw_5_23) (fun _ h9 => h9) rfl dX3_play_103 ?_
            refine lv_iload hx hb dX3_play_106 (lv_at hl 4 rfl) ?_
            refine lv_iload hx hb dX3_play_108 (lv_at hl 3 rfl) ?_
            refine jast hx hb hK hP hJ hA hS (jc_44 cI cL ad σ77 τ) (ja_44 cI cL ad σ77 τ _ _) (jin rfl (by omega) (by omega)) dX3_play_110 (fun σ102 H locs eσ102 hP hS => ?_)
            refine lv_aload_n hx hb dX3_play_111 rfl (lv_at hl 8 rfl) ?_
            refine va_get (D := D) hx hb hts inlX3 hown hK hP 43 (jc_43 cI cL ad σ102 τ) rfl 6 (by decide) (hts _ kw_6_0) (fun _ h9 => h9) rfl dX3_play_112 ?_
            refine lv_iload hx hb dX3_play_115 (lv_at hl 4 rfl) ?_
            refine lv_iload hx hb dX3_play_117 (lv_at hl 2 rfl) ?_
            refine jast hx hb hK hP hJ hA hS (jc_45 cI cL ad σ102 τ) (ja_45 cI cL ad σ102 τ _ _) (jin rfl (by omega) (by omega)) dX3_play_119 (fun σ103 H locs eσ103 hP hS => ?_)
            refine lv_aload_n hx hb dX3_play_120 rfl (lv_at hl 8 rfl) ?_
            refine va_get (D := D) hx hb hts inlX3 hown hK hP 43 (jc_43 cI cL ad σ103 τ) rfl 7 (by decide) (hts _ kw_6_1) (fun _ h9 => h9) rfl dX3_play_121 ?_
            refine lv_iload hx hb dX3_play_124 (lv_at hl 4 rfl) ?_
            refine lv_iload hx hb dX3_play_126 (lv_at hl 0 rfl) ?_
            refine lv_if_eq (tgt := 135) hx hb dX3_play_128 (by decide) (fun c => absurd c (by decide)) (fun _ => ?_)
            refine lv_iconst (v := 1) hx hb dX3_play_131 (by decide) ?_
            refine lv_goto (tgt := 136) hx hb dX3_play_132 (by decide) ?_
            refine jast hx hb hK hP hJ hA hS (jc_46 cI cL ad σ103 τ) (ja_46 cI cL ad σ103 τ _ _) (jin rfl (by omega) (by omega)) dX3_play_136 (fun σ104 H locs eσ104 hP hS => ?_)
            refine lv_aload_n hx hb dX3_play_137 rfl (lv_at hl 8 rfl) ?_
            refine lv_iload hx hb dX3_play_138 (lv_at hl 4 rfl) ?_
            refine lv_iconst (v := 1) hx hb dX3_play_140 (by decide) ?_
            have g105 := jrg (rfl : x23.toInt = x23.toInt)
            refine lv_iadd hx hb dX3_play_141 ?_
            refine lv_topi (fun x106 ex106 => ?_)
            have tx106 : x106.toInt = x23.toInt + 1 := (jadd ex106 rfl jz_1 (by omega) (by omega)).trans (by omega)
            refine jput (ty := .int) hx hb hts inlX3 tyX3 tyX3_ok nmX3 hown hK hP hJ hA hS (jc_43 cI cL ad σ104 τ) rfl (k := 8) (by decide) (Nat.le_of_ble_eq_true rfl) (jp_43_8 cI cL ad σ104 τ x106) (hts _ kw_46_1) (fun _ h9 => h9) rfl (by decide +kernel) rfl rfl dX3_play_142 (fun σ107 H locs eσ107 hP hS => ?_)
            refine lv_iload hx hb dX3_play_145 (lv_at hl 5 rfl) ?_
            refine lv_iload hx hb dX3_play_147 (lv_at hl 2 rfl) ?_
            have g108 := jrg (rfl : x22.toInt = x22.toInt)
            have g109 := jrg (rfl : r69.toInt = r69.toInt)
            refine lv_iadd hx hb dX3_play_149 ?_
            refine lv_topi (fun x110 ex110 => ?_)
            have gx110 := jrg (rfl : x110.toInt = x110.toInt)
            refine lv_istore (lv' := [(7, .int x110), (11, .int 1), (4, .int r71), (10, .int r69), (9, .int r61), (8, .int x23), (6, .int x21), (5, .int x20), (0, .ref (ad 43)), (1, .int a1), (2, .int a2), (3, .int a3)]) hx hb dX3_play_150 hl (by decide) rfl (fun ls hl => ?_)
            refine lv_iload hx hb dX3_play_152 (lv_at hl 1 rfl) ?_
            refine lv_if_eq (tgt := 160) hx hb dX3_play_154 (by decide) (fun c => absurd c (by decide)) (fun _ => ?_)
            obtain ⟨x111, ex111⟩ : ∃ y : Int32, y = x20 + 1 := ⟨_, rfl⟩
            refine lv_iinc (v := x111) (lv' := [(5, .int x111), (7, .int x110), (11, .int 1), (4, .int r71), (10, .int r69), (9, .int r61), (8, .int x23), (6, .int x21), (0, .ref (ad 43)), (1, .int a1), (2, .int a2), (3, .int a3)]) hx hb dX3_play_157 hl (k := 7) rfl (by rw [ex111]; rfl) (by decide) rfl (fun ls hl => ?_)
            refine lv_iload hx hb dX3_play_160 (lv_at hl 7 rfl) ?_
            refine lv_iload hx hb dX3_play_162 (lv_at hl 5 rfl) ?_
            refine jcallS (As := [.int x21, .int r61]) (rest := []) ⟨hx, hb, hml, hown, hts⟩ hK hP hA hS hZ (c_X0_after l D cI cL ad zz hJ σ107 τ x21 (x21.toInt) rfl r61 (r61.toInt) rfl) cw_RX3_130 ⟨Nat.le_of_ble_eq_true rfl, Nat.le_of_ble_eq_true rfl⟩ rfl rfl rfl hl.1 rfl (Nat.le_of_ble_eq_true rfl) dX3_play_164 ⟨Nat.zero_le _, Nat.zero_le _⟩ (fun r113 σ112 τ112 H locs h112 hP hS => ?_)
            obtain ⟨⟨rfl, rfl⟩, h112⟩ := h112
            refine lv_istore (lv' := [(6, .int r113), (5, .int x111), (7, .int x110), (11, .int 1), (4, .int r71), (10, .int r69), (9, .int r61), (8, .int x23), (0, .ref (ad 43)), (1, .int a1), (2, .int a2), (3, .int a3)]) hx hb dX3_play_167 hl (by decide) rfl (fun ls hl => ?_)
            refine lv_iload hx hb dX3_play_169 (lv_at hl 4 rfl) ?_
            refine jcallS (As := [.int r71]) (rest := []) ⟨hx, hb, hml, hown, hts⟩ hK hP hA hS hZ (c_X3_drawn l D cI cL ad zz hJ σ107 τ r71 (r71.toInt) rfl) cw_RX3_156 ⟨Nat.le_of_ble_eq_true rfl, Nat.le_of_ble_eq_true rfl⟩ rfl rfl rfl hl.1 rfl (Nat.le_of_ble_eq_true rfl) dX3_play_171 ⟨Nat.zero_le _, Nat.zero_le _⟩ (fun r115 σ114 τ114 H locs h114 hP hS => ?_)
            obtain ⟨⟨rfl, rfl⟩, h114⟩ := h114
            refine lv_istore (lv' := [(4, .int r115), (6, .int r113), (5, .int x111), (7, .int x110), (11, .int 1), (10, .int r69), (9, .int r61), (8, .int x23), (0, .ref (ad 43)), (1, .int a1), (2, .int a2), (3, .int a3)]) hx hb dX3_play_174 hl (by decide) rfl (fun ls hl => ?_)
            refine lv_iload hx hb dX3_play_176 (lv_at hl 0 rfl) ?_
            refine jcallS (As := [.int r115]) (rest := []) ⟨hx, hb, hml, hown, hts⟩ hK hP hA hS hZ (c_X3_lot l D cI cL ad zz hJ σ107 τ r115 (r115.toInt) rfl) cw_RX3_159 ⟨Nat.le_of_ble_eq_true rfl, Nat.le_of_ble_eq_true rfl⟩ rfl rfl rfl hl.1 rfl (Nat.le_of_ble_eq_true rfl) dX3_play_178 ⟨Nat.zero_le _, Nat.zero_le _⟩ (fun r117 σ116 τ116 H locs h116 hP hS => ?_)
            obtain ⟨⟨rfl, rfl⟩, h116⟩ := h116
            refine lv_aload_n hx hb dX3_play_181 rfl (lv_at hl 8 rfl) ?_
            refine va_get (D := D) hx hb hts inlX3 hown hK hP 43 (jc_43 cI cL ad σ107 τ) rfl 3 (by decide) (hts _ kw_6_5) (fun _ h9 => h9) rfl dX3_play_182 ?_
            refine va_get (D := D) hx hb hts inlX6 hown hK hP 16 (jc_16 cI cL ad σ107 τ) rfl 2 (by decide) (hts _ kw_37_2) (fun _ h9 => h9) rfl dX3_play_185 ?_
            have m118 : σ107 16 2 = (σ 16 2) := (by rw [eσ107, jup_n (by decide)]; exact (by rw [eσ104, jup_n (by decide)]; exact (by rw [eσ103, jup_n (by decide)]; exact (by rw [eσ102, jup_n (by decide)]; exact (by rw [f79 16 (by omega)]; exact (by rw [f62 16 (by omega)]; exact (by rw [f33 16 (by omega)]; exact (by rw [eσ16, jup_n (by decide)]))))))))
            refine jtopr m118 ?_
            refine lv_icmp_ge (tgt := 194) hx hb dX3_play_188 (by decide) (fun c119 => ?_) (fun c119 => ?_)
            · have kc119 := jle c119 rfl rfl
              obtain ⟨x120, ex120⟩ : ∃ y : Int32, y = x23 + 1 := ⟨_, rfl⟩
              have tx120 : x120.toInt = x23.toInt + 1 := (jadd ex120 rfl jz_1 (by omega) (by omega)).trans (by omega)
              refine lv_iinc (v := x120) (lv' := [(8, .int x120), (4, .int r115), (6, .int r113), (5, .int x111), (7, .int x110), (11, .int 1), (10, .int r69), (9, .int r61), (0, .ref (ad 43)), (1, .int a1), (2, .int a2), (3, .int a3)]) hx hb dX3_play_194 hl (k := 7) rfl (by rw [ex120]; rfl) (by decide) rfl (fun ls hl => ?_)
              refine lv_goto (tgt := 20) hx hb dX3_play_197 (by decide) ?_
              have z121 : (σ107 43 8).toInt = x23.toInt + 1 := by rw [(show σ107 43 8 = x106 from (by rw [eσ107]; exact jup_s))]; exact tx106
              exact ihlp17 r115 x111 r113 x110 x120 σ107 _ _ ls (by have h94 := tx120; omega) (by have h94 := tx120; omega) (by have h94 := tx120; omega) (by have h94 := tx120; omega) (fun i hi => by rw [eσ107, jup_n (by omega), eσ104, jup_n (by omega), eσ103, jup_n (by omega), eσ102, jup_n (by omega), f79 i (by omega), f62 i (by omega), f33 i hi]) (fun k hk => by rw [eσ107, jup_k (by omega), eσ104, jup_n (by decide), eσ103, jup_n (by decide), eσ102, jup_n (by decide), f79 43 (by omega), f62 43 (by omega), f34 k hk])   hP hS (lv_sub hl [0, 4, 2, 3, 1, 8, 9, 10, 11] rfl)
            · have kc119 := jnle c119 rfl rfl
              refine lv_goto (tgt := 200) hx hb dX3_play_191 (by decide) ?_
              refine lv_iload hx hb dX3_play_200 (lv_at hl 3 rfl) ?_
              have z122 : (σ107 43 8).toInt = x23.toInt + 1 := by rw [(show σ107 43 8 = x106 from (by rw [eσ107]; exact jup_s))]; exact tx106
              have I123 : jI43 σ107 := (show 0 ≤ (σ107 43 8).toInt ∧ (σ107 43 8).toInt ≤ 8 by omega)
              exact hret x110 σ107 τ _ _ _ _ rfl ⟨rfl, (fun i hi => by rw [eσ107, jup_n (by omega), eσ104, jup_n (by omega), eσ103, jup_n (by omega), eσ102, jup_n (by omega), f79 i (by omega), f62 i (by omega), f33 i (by omega), eσ16, jup_n (by omega)]), (fun k hk => by rw [eσ107, jup_k (by omega), eσ104, jup_n (by decide), eσ103, jup_n (by decide), eσ102, jup_n (by decide), f79 43 (by omega), f62 43 (by omega), f34 k (by omega), eσ16, jup_k (by omega)]), I123, trivial⟩ hP hS dX3_play_202
  exact lp17 1000000 a2 0 a3 0 0 σ16 _ _ ls (by have h90 := t2; have h91 := jz_0; have h92 := t3; have h93 := jz_0; have h94 := jz_0; omega) (by have h90 := t2; have h91 := jz_0; have h92 := t3; have h93 := jz_0; have h94 := jz_0; omega) (by have h90 := t2; have h91 := jz_0; have h92 := t3; have h93 := jz_0; have h94 := jz_0; omega) (by have h90 := t2; have h91 := jz_0; have h92 := t3; have h93 := jz_0; have h94 := jz_0; omega) (fun _ _ => rfl) (fun _ _ => rfl)   hP hS hl
set_option maxHeartbeats 4000000 in
set_option maxRecDepth 100000 in
theorem c_X3_ledAt_43 (l : Launch) (D : va_G) (cI cL : ClassId) (ad zz : Nat → Nat) (hJ : jD ad) (σ : Nat → Nat → Int32) (τ : Nat → Nat → Int64) (a1 : Int32) (A1 : Int) (t1 : a1.toInt = A1) (a2 : Int32) (A2 : Int) (t2 : a2.toInt = A2) : jM l yX3_ledAt cX3_ledAt 3 (some .int) ({ frames := 0, cells := 0, slots := 0, locals := 0 }) D cI cL ad zz [.ref (ad 43), .int a1, .int a2] σ τ (fun r σ' τ' => (σ = σ' ∧ τ = τ') ∧ True) := by
  refine jM.of hJ (by decide +kernel) (nt := .int) rfl (Nat.le_of_ble_eq_true rfl) ?_
  intro p e s m args below meth c Q ls hC hret hl hP
  obtain ⟨hx, hb, hr, hml, hown, hts, hK, -, hlocks, hZ⟩ := hC
  have hown : s.vm.findClass RX3 = some m.cls := hown
  have hS : va_S (jA ad) s.heap s.heap [] := va_S.rf
  have hA : ∀ q, jA ad q → jA ad q := fun _ h => h
  have hl : lv_has ls 3 [(0, .ref (ad 43)), (1, .int a1), (2, .int a2)] := hl
  have g1 := jrg t1
  have g2 := jrg t2
  refine lv_iload_n hx hb dX3_ledAt_0 rfl (lv_at hl 1 rfl) ?_
  refine lv_if_lt (tgt := 10) hx hb dX3_ledAt_1 (by decide) (fun c1 => ?_) (fun c1 => ?_)
  · have kc1 := jlt c1 t1 jz_0
    refine lv_iconst (v := (-1)) hx hb dX3_ledAt_10 (by decide) ?_
    exact hret (-1) σ τ _ _ _ _ rfl ⟨⟨rfl, rfl⟩, trivial⟩ hP hS dX3_ledAt_11
  · have kc1 := jnlt c1 t1 jz_0
    refine lv_iload_n hx hb dX3_ledAt_4 rfl (lv_at hl 1 rfl) ?_
    refine lv_bipush (v := 8) hx hb dX3_ledAt_5 (by decide) ?_
    refine lv_icmp_lt (tgt := 12) hx hb dX3_ledAt_7 (by decide) (fun c2 => ?_) (fun c2 => ?_)
    · have kc2 := jlt c2 t1 jz_8
      refine lv_iload_n hx hb dX3_ledAt_12 rfl (lv_at hl 2 rfl) ?_
      refine lv_if_ne (tgt := 23) hx hb dX3_ledAt_13 (by decide) (fun c3 => ?_) (fun c3 => ?_)
      · have kc3 := jne c3 t2 jz_0
        refine lv_iload_n hx hb dX3_ledAt_23 rfl (lv_at hl 2 rfl) ?_
        refine lv_iconst (v := 1) hx hb dX3_ledAt_24 (by decide) ?_
        refine lv_icmp_ne (tgt := 37) hx hb dX3_ledAt_25 (by decide) (fun c4 => ?_) (fun c4 => ?_)
        · have kc4 := jne c4 t2 jz_1
          refine lv_aload_n hx hb dX3_ledAt_37 rfl (lv_at hl 0 rfl) ?_
          refine va_get (D := D) hx hb hts inlX3 hown hK hP 43 (jc_43 cI cL ad σ τ) rfl 7 (by decide) (hts _ kw_6_1) (fun _ h9 => h9) rfl dX3_ledAt_38 ?_
          refine lv_iload_n hx hb dX3_ledAt_41 rfl (lv_at hl 1 rfl) ?_
          refine jald hx hb hK hP (jc_46 cI cL ad σ τ) (jin t1 (by omega) (by omega)) dX3_ledAt_42 ?_
          refine lv_topi (fun x5 ex5 => ?_)
          exact hret x5 σ τ _ _ _ _ rfl ⟨⟨rfl, rfl⟩, trivial⟩ hP hS dX3_ledAt_43
        · have kc4 := jeq c4 t2 jz_1
          refine lv_aload_n hx hb dX3_ledAt_28 rfl (lv_at hl 0 rfl) ?_
          refine va_get (D := D) hx hb hts inlX3 hown hK hP 43 (jc_43 cI cL ad σ τ) rfl 6 (by decide) (hts _ kw_6_0) (fun _ h9 => h9) rfl dX3_ledAt_29 ?_
          refine lv_iload_n hx hb dX3_ledAt_32 rfl (lv_at hl 1 rfl) ?_
          refine jald hx hb hK hP (jc_45 cI cL ad σ τ) (jin t1 (by omega) (by omega)) dX3_ledAt_33 ?_
          refine lv_topi (fun x6 ex6 => ?_)
          refine lv_goto (tgt := 43) hx hb dX3_ledAt_34 (by decide) ?_
          exact hret x6 σ τ _ _ _ _ rfl ⟨⟨rfl, rfl⟩, trivial⟩ hP hS dX3_ledAt_43
      · have kc3 := jeq c3 t2 jz_0
        refine lv_aload_n hx hb dX3_ledAt_16 rfl (lv_at hl 0 rfl) ?_
        refine va_get (D := D) hx hb hts inlX3 hown hK hP 43 (jc_43 cI cL ad σ τ) rfl 5 (by decide) (hts _ kw_5_23) (fun _ h9 => h9) rfl dX3_ledAt_17 ?_
        refine lv_iload_n hx hb dX3_ledAt_20 rfl (lv_at hl 1 rfl) ?_
        refine jald hx hb hK hP (jc_44 cI cL ad σ τ) (jin t1 (by omega) (by omega)) dX3_ledAt_21 ?_
        refine lv_topi (fun x7 ex7 => ?_)
        exact hret x7 σ τ _ _ _ _ rfl ⟨⟨rfl, rfl⟩, trivial⟩ hP hS dX3_ledAt_22
    · have kc2 := jnlt c2 t1 jz_8
      refine lv_iconst (v := (-1)) hx hb dX3_ledAt_10 (by decide) ?_
      exact hret (-1) σ τ _ _ _ _ rfl ⟨⟨rfl, rfl⟩, trivial⟩ hP hS dX3_ledAt_11
set_option maxHeartbeats 4000000 in
set_option maxRecDepth 100000 in
theorem c_X2_write_47 (l : Launch) (D : va_G) (cI cL : ClassId) (ad zz : Nat → Nat) (hJ : jD ad) (σ : Nat → Nat → Int32) (τ : Nat → Nat → Int64) (a1 : Int32) (A1 : Int) (t1 : a1.toInt = A1) (a2 : Int32) (A2 : Int) (t2 : a2.toInt = A2) (hI47 : jI47 σ) (hp0 : 0 ≤ A2 ∧ A2 ≤ 1) : jM l yX2_write cX2_write 3 (some .int) ({ frames := 0, cells := 0, slots := 0, locals := 0 }) D cI cL ad zz [.ref (ad 47), .int a1, .int a2] σ τ (fun r σ' τ' => τ = τ' ∧ (∀ i : Nat, (i < 47 ∨ 49 < i) → σ' i = σ i) ∧ (∀ k : Nat, (k < 0 ∨ 0 < k) → σ' 47 k = σ 47 k) ∧ (jI47 σ') ∧ True) := by
  refine jM.of hJ (by decide +kernel) (nt := .int) rfl (Nat.le_of_ble_eq_true rfl) ?_
  intro p e s m args below meth c Q ls hC hret hl hP
  obtain ⟨hx, hb, hr, hml, hown, hts, hK, -, hlocks, hZ⟩ := hC
  have hown : s.vm.findClass RX2 = some m.cls := hown
  have hS : va_S (jA ad) s.heap s.heap [] := va_S.rf
  have hA : ∀ q, jA ad q → jA ad q := fun _ h => h
  have hl : lv_has ls 3 [(0, .ref (ad 47)), (1, .int a1), (2, .int a2)] := hl
  have g1 := jrg t1
  have g2 := jrg t2
  obtain ⟨i1, w2⟩ : (0 ≤ (σ 47 0).toInt ∧ (σ 47 0).toInt ≤ 12) ∧ (∀ k : Nat, k < 12 → 0 ≤ (σ 49 k).toInt ∧ (σ 49 k).toInt ≤ 1) := id hI47
  refine lv_aload_n hx hb dX2_write_0 rfl (lv_at hl 0 rfl) ?_
  refine va_get (D := D) hx hb hts inlX2 hown hK hP 47 (jc_47 cI cL ad σ τ) rfl 0 (by decide) (hts _ kw_25_14) (fun _ h9 => h9) rfl dX2_write_1 ?_
  refine lv_bipush (v := 12) hx hb dX2_write_4 (by decide) ?_
  refine lv_icmp_lt (tgt := 12) hx hb dX2_write_6 (by decide) (fun c3 => ?_) (fun c3 => ?_)
  · have kc3 := jlt c3 rfl jz_12
    refine lv_aload_n hx hb dX2_write_12 rfl (lv_at hl 0 rfl) ?_
    refine va_get (D := D) hx hb hts inlX2 hown hK hP 47 (jc_47 cI cL ad σ τ) rfl 1 (by decide) (hts _ kw_6_10) (fun _ h9 => h9) rfl dX2_write_13 ?_
    refine lv_aload_n hx hb dX2_write_16 rfl (lv_at hl 0 rfl) ?_
    refine va_get (D := D) hx hb hts inlX2 hown hK hP 47 (jc_47 cI cL ad σ τ) rfl 0 (by decide) (hts _ kw_25_14) (fun _ h9 => h9) rfl dX2_write_17 ?_
    refine lv_iload_n hx hb dX2_write_20 rfl (lv_at hl 1 rfl) ?_
    refine jast hx hb hK hP hJ hA hS (jc_48 cI cL ad σ τ) (ja_48 cI cL ad σ τ _ _) (jin rfl (by omega) (by omega)) dX2_write_21 (fun σ4 H locs eσ4 hP hS => ?_)
    refine lv_aload_n hx hb dX2_write_22 rfl (lv_at hl 0 rfl) ?_
    refine va_get (D := D) hx hb hts inlX2 hown hK hP 47 (jc_47 cI cL ad σ4 τ) rfl 2 (by decide) (hts _ kw_6_11) (fun _ h9 => h9) rfl dX2_write_23 ?_
    refine lv_aload_n hx hb dX2_write_26 rfl (lv_at hl 0 rfl) ?_
    refine va_get (D := D) hx hb hts inlX2 hown hK hP 47 (jc_47 cI cL ad σ4 τ) rfl 0 (by decide) (hts _ kw_25_14) (fun _ h9 => h9) rfl dX2_write_27 ?_
    have m5 : σ4 47 0 = (σ 47 0) := (by rw [eσ4, jup_n (by decide)])
    refine jtopr m5 ?_
    refine lv_iload_n hx hb dX2_write_30 rfl (lv_at hl 2 rfl) ?_
    refine jast hx hb hK hP hJ hA hS (jc_49 cI cL ad σ4 τ) (ja_49 cI cL ad σ4 τ _ _) (jin rfl (by omega) (by omega)) dX2_write_31 (fun σ6 H locs eσ6 hP hS => ?_)
    refine lv_aload_n hx hb dX2_write_32 rfl (lv_at hl 0 rfl) ?_
    refine lv_dup hx hb dX2_write_33 rfl ?_
    refine va_get (D := D) hx hb hts inlX2 hown hK hP 47 (jc_47 cI cL ad σ6 τ) rfl 0 (by decide) (hts _ kw_25_14) (fun _ h9 => h9) rfl dX2_write_34 ?_
    have m7 : σ6 47 0 = (σ 47 0) := (by rw [eσ6, jup_n (by decide)]; exact m5)
    refine jtopr m7 ?_
    refine lv_iconst (v := 1) hx hb dX2_write_37 (by decide) ?_
    have g8 := jrg (rfl : (σ 47 0).toInt = (σ 47 0).toInt)
    refine lv_iadd hx hb dX2_write_38 ?_
    refine lv_topi (fun x9 ex9 => ?_)
    have tx9 : x9.toInt = (σ 47 0).toInt + 1 := (jadd ex9 rfl jz_1 (by omega) (by omega)).trans (by omega)
    refine lv_dup_x1 hx hb dX2_write_39 rfl rfl ?_
    refine jput (ty := .int) hx hb hts inlX2 tyX2 tyX2_ok nmX2 hown hK hP hJ hA hS (jc_47 cI cL ad σ6 τ) rfl (k := 0) (by decide) (Nat.le_of_ble_eq_true rfl) (jp_47_0 cI cL ad σ6 τ x9) (hts _ kw_25_14) (fun _ h9 => h9) rfl (by decide +kernel) rfl rfl dX2_write_40 (fun σ10 H locs eσ10 hP hS => ?_)
    have z11 : (σ10 47 0).toInt = (σ 47 0).toInt + 1 := by rw [(show σ10 47 0 = x9 from (by rw [eσ10]; exact jup_s))]; exact tx9
    have w12 : ∀ k : Nat, k < 12 → 0 ≤ (σ10 49 k).toInt ∧ (σ10 49 k).toInt ≤ 1 := (by rw [eσ10, jup_n (by decide)]; exact (by rw [eσ6]; exact jrr_up (by rw [eσ4, jup_n (by decide)]; exact w2) (by have h9 := t2; omega) (by have h9 := t2; omega)))
    have I13 : jI47 σ10 := ⟨(by omega), w12⟩
    exact hret x9 σ10 τ _ _ _ _ rfl ⟨rfl, (fun i hi => by rw [eσ10, jup_n (by omega), eσ6, jup_n (by omega), eσ4, jup_n (by omega)]), (fun k hk => by rw [eσ10, jup_k (by omega), eσ6, jup_n (by decide), eσ4, jup_n (by decide)]), I13, trivial⟩ hP hS dX2_write_43
  · have kc3 := jnlt c3 rfl jz_12
    refine lv_bipush (v := (-3)) hx hb dX2_write_9 (by decide) ?_
    have I14 : jI47 σ := ⟨(by omega), w2⟩
    exact hret (-3) σ τ _ _ _ _ rfl ⟨rfl, (fun _ _ => rfl), (fun _ _ => rfl), I14, trivial⟩ hP hS dX2_write_11
set_option maxHeartbeats 4000000 in
set_option maxRecDepth 100000 in
theorem c_X2_bowlerAt_47 (l : Launch) (D : va_G) (cI cL : ClassId) (ad zz : Nat → Nat) (hJ : jD ad) (σ : Nat → Nat → Int32) (τ : Nat → Nat → Int64) (a1 : Int32) (A1 : Int) (t1 : a1.toInt = A1) (hI47 : jI47 σ) : jM l yX2_bowlerAt cX2_bowlerAt 2 (some .int) ({ frames := 0, cells := 0, slots := 0, locals := 0 }) D cI cL ad zz [.ref (ad 47), .int a1] σ τ (fun r σ' τ' => (σ = σ' ∧ τ = τ') ∧ True) := by
  refine jM.of hJ (by decide +kernel) (nt := .int) rfl (Nat.le_of_ble_eq_true rfl) ?_
  intro p e s m args below meth c Q ls hC hret hl hP
  obtain ⟨hx, hb, hr, hml, hown, hts, hK, -, hlocks, hZ⟩ := hC
  have hown : s.vm.findClass RX2 = some m.cls := hown
  have hS : va_S (jA ad) s.heap s.heap [] := va_S.rf
  have hA : ∀ q, jA ad q → jA ad q := fun _ h => h
  have hl : lv_has ls 2 [(0, .ref (ad 47)), (1, .int a1)] := hl
  have g1 := jrg t1
  obtain ⟨i1, w2⟩ : (0 ≤ (σ 47 0).toInt ∧ (σ 47 0).toInt ≤ 12) ∧ (∀ k : Nat, k < 12 → 0 ≤ (σ 49 k).toInt ∧ (σ 49 k).toInt ≤ 1) := id hI47
  refine lv_iload_n hx hb dX2_bowlerAt_0 rfl (lv_at hl 1 rfl) ?_
  refine lv_if_lt (tgt := 12) hx hb dX2_bowlerAt_1 (by decide) (fun c3 => ?_) (fun c3 => ?_)
  · have kc3 := jlt c3 t1 jz_0
    refine lv_iconst (v := (-1)) hx hb dX2_bowlerAt_12 (by decide) ?_
    refine lv_goto (tgt := 22) hx hb dX2_bowlerAt_13 (by decide) ?_
    exact hret (-1) σ τ _ _ _ _ rfl ⟨⟨rfl, rfl⟩, trivial⟩ hP hS dX2_bowlerAt_22
  · have kc3 := jnlt c3 t1 jz_0
    refine lv_iload_n hx hb dX2_bowlerAt_4 rfl (lv_at hl 1 rfl) ?_
    refine lv_aload_n hx hb dX2_bowlerAt_5 rfl (lv_at hl 0 rfl) ?_
    refine va_get (D := D) hx hb hts inlX2 hown hK hP 47 (jc_47 cI cL ad σ τ) rfl 0 (by decide) (hts _ kw_25_14) (fun _ h9 => h9) rfl dX2_bowlerAt_6 ?_
    refine lv_icmp_lt (tgt := 16) hx hb dX2_bowlerAt_9 (by decide) (fun c4 => ?_) (fun c4 => ?_)
    · have kc4 := jlt c4 t1 rfl
      refine lv_aload_n hx hb dX2_bowlerAt_16 rfl (lv_at hl 0 rfl) ?_
      refine va_get (D := D) hx hb hts inlX2 hown hK hP 47 (jc_47 cI cL ad σ τ) rfl 1 (by decide) (hts _ kw_6_10) (fun _ h9 => h9) rfl dX2_bowlerAt_17 ?_
      refine lv_iload_n hx hb dX2_bowlerAt_20 rfl (lv_at hl 1 rfl) ?_
      refine jald hx hb hK hP (jc_48 cI cL ad σ τ) (jin t1 (by omega) (by omega)) dX2_bowlerAt_21 ?_
      refine lv_topi (fun x5 ex5 => ?_)
      exact hret x5 σ τ _ _ _ _ rfl ⟨⟨rfl, rfl⟩, trivial⟩ hP hS dX2_bowlerAt_22
    · have kc4 := jnlt c4 t1 rfl
      refine lv_iconst (v := (-1)) hx hb dX2_bowlerAt_12 (by decide) ?_
      refine lv_goto (tgt := 22) hx hb dX2_bowlerAt_13 (by decide) ?_
      exact hret (-1) σ τ _ _ _ _ rfl ⟨⟨rfl, rfl⟩, trivial⟩ hP hS dX2_bowlerAt_22
set_option maxHeartbeats 4000000 in
set_option maxRecDepth 100000 in
theorem c_X2_outs_47 (l : Launch) (D : va_G) (cI cL : ClassId) (ad zz : Nat → Nat) (hJ : jD ad) (σ : Nat → Nat → Int32) (τ : Nat → Nat → Int64) (a1 : Int32) (A1 : Int) (t1 : a1.toInt = A1) (hI47 : jI47 σ) : jM l yX2_outs cX2_outs 4 (some .int) ({ frames := 0, cells := 0, slots := 0, locals := 0 }) D cI cL ad zz [.ref (ad 47), .int a1] σ τ (fun r σ' τ' => (σ = σ' ∧ τ = τ') ∧ True) := by
  refine jM.of hJ (by decide +kernel) (nt := .int) rfl (Nat.le_of_ble_eq_true rfl) ?_
  intro p e s m args below meth c Q ls hC hret hl hP
  obtain ⟨hx, hb, hr, hml, hown, hts, hK, -, hlocks, hZ⟩ := hC
  have hown : s.vm.findClass RX2 = some m.cls := hown
  have hS : va_S (jA ad) s.heap s.heap [] := va_S.rf
  have hA : ∀ q, jA ad q → jA ad q := fun _ h => h
  have hl : lv_has ls 4 [(0, .ref (ad 47)), (1, .int a1)] := hl
  have g1 := jrg t1
  obtain ⟨i1, w2⟩ : (0 ≤ (σ 47 0).toInt ∧ (σ 47 0).toInt ≤ 12) ∧ (∀ k : Nat, k < 12 → 0 ≤ (σ 49 k).toInt ∧ (σ 49 k).toInt ≤ 1) := id hI47
  refine lv_iconst (v := 0) hx hb dX2_outs_0 (by decide) ?_
  refine lv_istore_n (lv' := [(2, .int 0), (0, .ref (ad 47)), (1, .int a1)]) hx hb dX2_outs_1 rfl hl (by decide) rfl (fun ls hl => ?_)
  refine lv_iconst (v := 0) hx hb dX2_outs_2 (by decide) ?_
  refine lv_istore_n (lv' := [(3, .int 0), (2, .int 0), (0, .ref (ad 47)), (1, .int a1)]) hx hb dX2_outs_3 rfl hl (by decide) rfl (fun ls hl => ?_)
  have lp3 : ∀ (n4 : Nat) (x5 : Int32) (x6 : Int32) (H : Heap) (locs : List Loc) (ls : Array Slot), ((σ 47 0).toInt - x6.toInt : Int) < n4 → 0 ≤ x6.toInt → x6.toInt ≤ 12 → x6.toInt ≤ (σ 47 0).toInt → jH D cI cL ad σ τ H → va_S (jA ad) s.heap H locs → lv_has ls 4 [(3, .int x6), (2, .int x5), (0, .ref (ad 47)), (1, .int a1)] → W p l e ({ frames := 0, cells := 0, slots := 0, locals := 0 }) s m args below meth c H locs 0 0 Q (F0 m 4 ls []) := by
    intro n4
    induction n4 with
    | zero => intro x5 x6 H locs ls h7 h8 h9 h10; have gx5 := jrg (rfl : x5.toInt = x5.toInt); exact absurd h7 (by omega)
    | succ n4 ihlp3 =>
      intro x5 x6 H locs ls h7 h8 h9 h10 hP hS hl
      have gx5 := jrg (rfl : x5.toInt = x5.toInt)
      refine lv_iload_n hx hb dX2_outs_4 rfl (lv_at hl 0 rfl) ?_
      refine lv_iload_n hx hb dX2_outs_5 rfl (lv_at hl 3 rfl) ?_
      refine lv_icmp_ge (tgt := 32) hx hb dX2_outs_6 (by decide) (fun c12 => ?_) (fun c12 => ?_)
      · have kc12 := jle c12 t1 rfl
        refine lv_iload_n hx hb dX2_outs_32 rfl (lv_at hl 1 rfl) ?_
        exact hret x5 σ τ _ _ _ _ rfl ⟨⟨rfl, rfl⟩, trivial⟩ hP hS dX2_outs_33
      · have kc12 := jnle c12 t1 rfl
        refine lv_iload_n hx hb dX2_outs_9 rfl (lv_at hl 0 rfl) ?_
        refine lv_aload_n hx hb dX2_outs_10 rfl (lv_at hl 2 rfl) ?_
        refine va_get (D := D) hx hb hts inlX2 hown hK hP 47 (jc_47 cI cL ad σ τ) rfl 0 (by decide) (hts _ kw_25_14) (fun _ h9 => h9) rfl dX2_outs_11 ?_
        refine lv_icmp_ge (tgt := 32) hx hb dX2_outs_14 (by decide) (fun c13 => ?_) (fun c13 => ?_)
        · have kc13 := jle c13 rfl rfl
          refine lv_iload_n hx hb dX2_outs_32 rfl (lv_at hl 1 rfl) ?_
          exact hret x5 σ τ _ _ _ _ rfl ⟨⟨rfl, rfl⟩, trivial⟩ hP hS dX2_outs_33
        · have kc13 := jnle c13 rfl rfl
          refine lv_iload_n hx hb dX2_outs_17 rfl (lv_at hl 1 rfl) ?_
          refine lv_aload_n hx hb dX2_outs_18 rfl (lv_at hl 2 rfl) ?_
          refine va_get (D := D) hx hb hts inlX2 hown hK hP 47 (jc_47 cI cL ad σ τ) rfl 2 (by decide) (hts _ kw_6_11) (fun _ h9 => h9) rfl dX2_outs_19 ?_
          refine lv_iload_n hx hb dX2_outs_22 rfl (lv_at hl 0 rfl) ?_
          refine jald hx hb hK hP (jc_49 cI cL ad σ τ) (jin rfl (by omega) (by omega)) dX2_outs_23 ?_
          have g14 := w2 _ (jnat (x := x6) rfl (n := 12) (by omega) (by decide))
          refine lv_topi (fun x15 ex15 => ?_)
          rw [← ex15] at g14
          have g16 := jrg (rfl : x5.toInt = x5.toInt)
          have g17 := jrg (rfl : x15.toInt = x15.toInt)
          refine lv_iadd hx hb dX2_outs_24 ?_
          refine lv_topi (fun x18 ex18 => ?_)
          have gx18 := jrg (rfl : x18.toInt = x18.toInt)
          refine lv_istore_n (lv' := [(2, .int x18), (3, .int x6), (0, .ref (ad 47)), (1, .int a1)]) hx hb dX2_outs_25 rfl hl (by decide) rfl (fun ls hl => ?_)
          obtain ⟨x19, ex19⟩ : ∃ y : Int32, y = x6 + 1 := ⟨_, rfl⟩
          have tx19 : x19.toInt = x6.toInt + 1 := (jadd ex19 rfl jz_1 (by omega) (by omega)).trans (by omega)
          refine lv_iinc (v := x19) (lv' := [(3, .int x19), (2, .int x18), (0, .ref (ad 47)), (1, .int a1)]) hx hb dX2_outs_26 hl (k := 1) rfl (by rw [ex19]; rfl) (by decide) rfl (fun ls hl => ?_)
          refine lv_goto (tgt := 4) hx hb dX2_outs_29 (by decide) ?_
          exact ihlp3 x18 x19 _ _ ls (by have h91 := tx19; omega) (by have h91 := tx19; omega) (by have h91 := tx19; omega) (by have h91 := tx19; omega)    hP hS (lv_sub hl [0, 1, 2, 3] rfl)
  exact lp3 1000000 0 0 _ _ ls (by have h90 := jz_0; have h91 := jz_0; omega) (by have h90 := jz_0; have h91 := jz_0; omega) (by have h90 := jz_0; have h91 := jz_0; omega) (by have h90 := jz_0; have h91 := jz_0; omega)   hP hS hl
set_option maxHeartbeats 4000000 in
set_option maxRecDepth 100000 in
theorem c_X2_leftAhead_47 (l : Launch) (D : va_G) (cI cL : ClassId) (ad zz : Nat → Nat) (hJ : jD ad) (σ : Nat → Nat → Int32) (τ : Nat → Nat → Int64) (a1 : Int32) (A1 : Int) (t1 : a1.toInt = A1) (a2 : Int32) (A2 : Int) (t2 : a2.toInt = A2) (hI47 : jI47 σ) : jM l yX2_leftAhead cX2_leftAhead 6 (some .int) ({ frames := 2, cells := 0, slots := 0, locals := 42 }) D cI cL ad zz [.ref (ad 47), .int a1, .int a2, .ref (ad 2)] σ τ (fun r σ' τ' => (σ = σ' ∧ τ = τ') ∧ True) := by
  refine jM.of hJ (by decide +kernel) (nt := .int) rfl (Nat.le_of_ble_eq_true rfl) ?_
  intro p e s m args below meth c Q ls hC hret hl hP
  obtain ⟨hx, hb, hr, hml, hown, hts, hK, -, hlocks, hZ⟩ := hC
  have hown : s.vm.findClass RX2 = some m.cls := hown
  have hS : va_S (jA ad) s.heap s.heap [] := va_S.rf
  have hA : ∀ q, jA ad q → jA ad q := fun _ h => h
  have hl : lv_has ls 6 [(0, .ref (ad 47)), (1, .int a1), (2, .int a2), (3, .ref (ad 2))] := hl
  have g1 := jrg t1
  have g2 := jrg t2
  obtain ⟨i1, w2⟩ : (0 ≤ (σ 47 0).toInt ∧ (σ 47 0).toInt ≤ 12) ∧ (∀ k : Nat, k < 12 → 0 ≤ (σ 49 k).toInt ∧ (σ 49 k).toInt ≤ 1) := id hI47
  refine lv_aload_n hx hb dX2_leftAhead_0 rfl (lv_at hl 3 rfl) ?_
  refine lv_iload_n hx hb dX2_leftAhead_1 rfl (lv_at hl 2 rfl) ?_
  refine jcallV (As := [.int a2]) (rest := []) ⟨hx, hb, hml, hown, hts⟩ hK hP hA hS hZ (c_X4_oversOf_2 l D cI cL ad zz hJ σ τ a2 (A2) t2) cw_RX2_22 (jc_2 cI cL ad σ τ) rfl ⟨Nat.le_of_ble_eq_true rfl, Nat.le_of_ble_eq_true rfl⟩ rfl rfl rfl hl.1 rfl (Nat.le_of_ble_eq_true rfl) dX2_leftAhead_2 ⟨Nat.zero_le _, Nat.zero_le _⟩ (fun r4 σ3 τ3 H locs h3 hP hS => ?_)
  obtain ⟨⟨rfl, rfl⟩, h3⟩ := h3
  refine lv_istore (lv' := [(4, .int r4), (0, .ref (ad 47)), (1, .int a1), (2, .int a2), (3, .ref (ad 2))]) hx hb dX2_leftAhead_5 hl (by decide) rfl (fun ls hl => ?_)
  refine lv_iconst (v := 0) hx hb dX2_leftAhead_7 (by decide) ?_
  refine lv_istore (lv' := [(5, .int 0), (4, .int r4), (0, .ref (ad 47)), (1, .int a1), (2, .int a2), (3, .ref (ad 2))]) hx hb dX2_leftAhead_8 hl (by decide) rfl (fun ls hl => ?_)
  have lp5 : ∀ (n6 : Nat) (x7 : Int32) (x8 : Int32) (H : Heap) (locs : List Loc) (ls : Array Slot), ((σ 47 0).toInt - x8.toInt : Int) < n6 → 0 ≤ x8.toInt → x8.toInt ≤ 12 → x8.toInt ≤ (σ 47 0).toInt → jH D cI cL ad σ τ H → va_S (jA ad) s.heap H locs → lv_has ls 6 [(5, .int x8), (4, .int x7), (0, .ref (ad 47)), (1, .int a1), (2, .int a2), (3, .ref (ad 2))] → W p l e ({ frames := 2, cells := 0, slots := 0, locals := 42 }) s m args below meth c H locs 0 0 Q (F0 m 10 ls []) := by
    intro n6
    induction n6 with
    | zero => intro x7 x8 H locs ls h9 h10 h11 h12; have gx7 := jrg (rfl : x7.toInt = x7.toInt); exact absurd h9 (by omega)
    | succ n6 ihlp5 =>
      intro x7 x8 H locs ls h9 h10 h11 h12 hP hS hl
      have gx7 := jrg (rfl : x7.toInt = x7.toInt)
      refine lv_iload hx hb dX2_leftAhead_10 (lv_at hl 0 rfl) ?_
      refine lv_iload_n hx hb dX2_leftAhead_12 rfl (lv_at hl 3 rfl) ?_
      refine lv_icmp_ge (tgt := 45) hx hb dX2_leftAhead_13 (by decide) (fun c14 => ?_) (fun c14 => ?_)
      · have kc14 := jle c14 t1 rfl
        refine lv_iload hx hb dX2_leftAhead_45 (lv_at hl 1 rfl) ?_
        exact hret x7 σ τ _ _ _ _ rfl ⟨⟨rfl, rfl⟩, trivial⟩ hP hS dX2_leftAhead_47
      · have kc14 := jnle c14 t1 rfl
        refine lv_iload hx hb dX2_leftAhead_16 (lv_at hl 0 rfl) ?_
        refine lv_aload_n hx hb dX2_leftAhead_18 rfl (lv_at hl 2 rfl) ?_
        refine va_get (D := D) hx hb hts inlX2 hown hK hP 47 (jc_47 cI cL ad σ τ) rfl 0 (by decide) (hts _ kw_25_14) (fun _ h9 => h9) rfl dX2_leftAhead_19 ?_
        refine lv_icmp_ge (tgt := 45) hx hb dX2_leftAhead_22 (by decide) (fun c15 => ?_) (fun c15 => ?_)
        · have kc15 := jle c15 rfl rfl
          refine lv_iload hx hb dX2_leftAhead_45 (lv_at hl 1 rfl) ?_
          exact hret x7 σ τ _ _ _ _ rfl ⟨⟨rfl, rfl⟩, trivial⟩ hP hS dX2_leftAhead_47
        · have kc15 := jnle c15 rfl rfl
          refine lv_aload_n hx hb dX2_leftAhead_25 rfl (lv_at hl 2 rfl) ?_
          refine va_get (D := D) hx hb hts inlX2 hown hK hP 47 (jc_47 cI cL ad σ τ) rfl 1 (by decide) (hts _ kw_6_10) (fun _ h9 => h9) rfl dX2_leftAhead_26 ?_
          refine lv_iload hx hb dX2_leftAhead_29 (lv_at hl 0 rfl) ?_
          refine jald hx hb hK hP (jc_48 cI cL ad σ τ) (jin rfl (by omega) (by omega)) dX2_leftAhead_31 ?_
          refine lv_topi (fun x16 ex16 => ?_)
          refine lv_iload_n hx hb dX2_leftAhead_32 rfl (lv_at hl 4 rfl) ?_
          refine lv_icmp_ne (tgt := 39) hx hb dX2_leftAhead_33 (by decide) (fun c17 => ?_) (fun c17 => ?_)
          · have kc17 := jne c17 rfl t2
            obtain ⟨x18, ex18⟩ : ∃ y : Int32, y = x8 + 1 := ⟨_, rfl⟩
            have tx18 : x18.toInt = x8.toInt + 1 := (jadd ex18 rfl jz_1 (by omega) (by omega)).trans (by omega)
            refine lv_iinc (v := x18) (lv' := [(5, .int x18), (4, .int x7), (0, .ref (ad 47)), (1, .int a1), (2, .int a2), (3, .ref (ad 2))]) hx hb dX2_leftAhead_39 hl (k := 0) rfl (by rw [ex18]; rfl) (by decide) rfl (fun ls hl => ?_)
            refine lv_goto (tgt := 10) hx hb dX2_leftAhead_42 (by decide) ?_
            exact ihlp5 x7 x18 _ _ ls (by have h91 := tx18; omega) (by have h91 := tx18; omega) (by have h91 := tx18; omega) (by have h91 := tx18; omega)    hP hS (lv_sub hl [0, 1, 2, 3, 4, 5] rfl)
          · have kc17 := jeq c17 rfl t2
            obtain ⟨x19, ex19⟩ : ∃ y : Int32, y = x7 + (-1) := ⟨_, rfl⟩
            refine lv_iinc (v := x19) (lv' := [(4, .int x19), (5, .int x8), (0, .ref (ad 47)), (1, .int a1), (2, .int a2), (3, .ref (ad 2))]) hx hb dX2_leftAhead_36 hl (k := 1) rfl (by rw [ex19]; rfl) (by decide) rfl (fun ls hl => ?_)
            obtain ⟨x20, ex20⟩ : ∃ y : Int32, y = x8 + 1 := ⟨_, rfl⟩
            have tx20 : x20.toInt = x8.toInt + 1 := (jadd ex20 rfl jz_1 (by omega) (by omega)).trans (by omega)
            refine lv_iinc (v := x20) (lv' := [(5, .int x20), (4, .int x19), (0, .ref (ad 47)), (1, .int a1), (2, .int a2), (3, .ref (ad 2))]) hx hb dX2_leftAhead_39 hl (k := 1) rfl (by rw [ex20]; rfl) (by decide) rfl (fun ls hl => ?_)
            refine lv_goto (tgt := 10) hx hb dX2_leftAhead_42 (by decide) ?_
            exact ihlp5 x19 x20 _ _ ls (by have h91 := tx20; omega) (by have h91 := tx20; omega) (by have h91 := tx20; omega) (by have h91 := tx20; omega)    hP hS (lv_sub hl [0, 1, 2, 3, 4, 5] rfl)
  exact lp5 1000000 r4 0 _ _ ls (by have h91 := jz_0; omega) (by have h91 := jz_0; omega) (by have h91 := jz_0; omega) (by have h91 := jz_0; omega)   hP hS hl
set_option maxHeartbeats 4000000 in
set_option maxRecDepth 100000 in
theorem c_X2_attackAhead_47 (l : Launch) (D : va_G) (cI cL : ClassId) (ad zz : Nat → Nat) (hJ : jD ad) (σ : Nat → Nat → Int32) (τ : Nat → Nat → Int64) (a1 : Int32) (A1 : Int) (t1 : a1.toInt = A1) (hI2 : jI2 σ) (hI47 : jI47 σ) : jM l yX2_attackAhead cX2_attackAhead 5 (some .int) ({ frames := 3, cells := 0, slots := 0, locals := 64 }) D cI cL ad zz [.ref (ad 47), .int a1, .ref (ad 2)] σ τ (fun r σ' τ' => (σ = σ' ∧ τ = τ') ∧ True) := by
  refine jM.of hJ (by decide +kernel) (nt := .int) rfl (Nat.le_of_ble_eq_true rfl) ?_
  intro p e s m args below meth c Q ls hC hret hl hP
  obtain ⟨hx, hb, hr, hml, hown, hts, hK, -, hlocks, hZ⟩ := hC
  have hown : s.vm.findClass RX2 = some m.cls := hown
  have hS : va_S (jA ad) s.heap s.heap [] := va_S.rf
  have hA : ∀ q, jA ad q → jA ad q := fun _ h => h
  have hl : lv_has ls 5 [(0, .ref (ad 47)), (1, .int a1), (2, .ref (ad 2))] := hl
  have g1 := jrg t1
  obtain ⟨i1, i2, i3, i4, i5, w6⟩ : (0 ≤ (σ 2 0).toInt ∧ (σ 2 0).toInt ≤ 4) ∧ (0 ≤ (σ 2 1).toInt ∧ (σ 2 1).toInt ≤ 3) ∧ (0 ≤ (σ 2 2).toInt) ∧ (0 ≤ (σ 2 3).toInt) ∧ ((σ 2 2).toInt + (σ 2 3).toInt ≤ 40) ∧ (∀ k : Nat, k < 40 → 0 ≤ (σ 6 k).toInt ∧ (σ 6 k).toInt ≤ 67) := id hI2
  obtain ⟨i7, w8⟩ : (0 ≤ (σ 47 0).toInt ∧ (σ 47 0).toInt ≤ 12) ∧ (∀ k : Nat, k < 12 → 0 ≤ (σ 49 k).toInt ∧ (σ 49 k).toInt ≤ 1) := id hI47
  refine lv_aload_n hx hb dX2_attackAhead_0 rfl (lv_at hl 2 rfl) ?_
  have I9 : jI2 σ := ⟨(by omega), (by omega), (by omega), (by omega), (by omega), w6⟩
  refine jcallV (As := []) (rest := []) ⟨hx, hb, hml, hown, hts⟩ hK hP hA hS hZ (c_X4_freshAttack_2 l D cI cL ad zz hJ σ τ I9) cw_RX2_28 (jc_2 cI cL ad σ τ) rfl ⟨Nat.le_of_ble_eq_true rfl, Nat.le_of_ble_eq_true rfl⟩ rfl rfl rfl hl.1 rfl (Nat.le_of_ble_eq_true rfl) dX2_attackAhead_1 ⟨Nat.zero_le _, Nat.zero_le _⟩ (fun r11 σ10 τ10 H locs h10 hP hS => ?_)
  obtain ⟨⟨rfl, rfl⟩, h10⟩ := h10
  refine lv_istore_n (lv' := [(3, .int r11), (0, .ref (ad 47)), (1, .int a1), (2, .ref (ad 2))]) hx hb dX2_attackAhead_4 rfl hl (by decide) rfl (fun ls hl => ?_)
  refine lv_iconst (v := 0) hx hb dX2_attackAhead_5 (by decide) ?_
  refine lv_istore (lv' := [(4, .int 0), (3, .int r11), (0, .ref (ad 47)), (1, .int a1), (2, .ref (ad 2))]) hx hb dX2_attackAhead_6 hl (by decide) rfl (fun ls hl => ?_)
  have lp12 : ∀ (n13 : Nat) (x14 : Int32) (x15 : Int32) (H : Heap) (locs : List Loc) (ls : Array Slot), ((σ 47 0).toInt - x15.toInt : Int) < n13 → 0 ≤ x15.toInt → x15.toInt ≤ 12 → x15.toInt ≤ (σ 47 0).toInt → jH D cI cL ad σ τ H → va_S (jA ad) s.heap H locs → lv_has ls 5 [(4, .int x15), (3, .int x14), (0, .ref (ad 47)), (1, .int a1), (2, .ref (ad 2))] → W p l e ({ frames := 3, cells := 0, slots := 0, locals := 64 }) s m args below meth c H locs 0 0 Q (F0 m 8 ls []) := by
    intro n13
    induction n13 with
    | zero => intro x14 x15 H locs ls h16 h17 h18 h19; have gx14 := jrg (rfl : x14.toInt = x14.toInt); exact absurd h16 (by omega)
    | succ n13 ihlp12 =>
      intro x14 x15 H locs ls h16 h17 h18 h19 hP hS hl
      have gx14 := jrg (rfl : x14.toInt = x14.toInt)
      refine lv_iload hx hb dX2_attackAhead_8 (lv_at hl 0 rfl) ?_
      refine lv_iload_n hx hb dX2_attackAhead_10 rfl (lv_at hl 3 rfl) ?_
      refine lv_icmp_ge (tgt := 41) hx hb dX2_attackAhead_11 (by decide) (fun c21 => ?_) (fun c21 => ?_)
      · have kc21 := jle c21 t1 rfl
        refine lv_iload_n hx hb dX2_attackAhead_41 rfl (lv_at hl 1 rfl) ?_
        exact hret x14 σ τ _ _ _ _ rfl ⟨⟨rfl, rfl⟩, trivial⟩ hP hS dX2_attackAhead_42
      · have kc21 := jnle c21 t1 rfl
        refine lv_iload hx hb dX2_attackAhead_14 (lv_at hl 0 rfl) ?_
        refine lv_aload_n hx hb dX2_attackAhead_16 rfl (lv_at hl 2 rfl) ?_
        refine va_get (D := D) hx hb hts inlX2 hown hK hP 47 (jc_47 cI cL ad σ τ) rfl 0 (by decide) (hts _ kw_25_14) (fun _ h9 => h9) rfl dX2_attackAhead_17 ?_
        refine lv_icmp_ge (tgt := 41) hx hb dX2_attackAhead_20 (by decide) (fun c22 => ?_) (fun c22 => ?_)
        · have kc22 := jle c22 rfl rfl
          refine lv_iload_n hx hb dX2_attackAhead_41 rfl (lv_at hl 1 rfl) ?_
          exact hret x14 σ τ _ _ _ _ rfl ⟨⟨rfl, rfl⟩, trivial⟩ hP hS dX2_attackAhead_42
        · have kc22 := jnle c22 rfl rfl
          refine lv_iload_n hx hb dX2_attackAhead_23 rfl (lv_at hl 1 rfl) ?_
          refine lv_aload_n hx hb dX2_attackAhead_24 rfl (lv_at hl 2 rfl) ?_
          refine va_get (D := D) hx hb hts inlX2 hown hK hP 47 (jc_47 cI cL ad σ τ) rfl 1 (by decide) (hts _ kw_6_10) (fun _ h9 => h9) rfl dX2_attackAhead_25 ?_
          refine lv_iload hx hb dX2_attackAhead_28 (lv_at hl 0 rfl) ?_
          refine jald hx hb hK hP (jc_48 cI cL ad σ τ) (jin rfl (by omega) (by omega)) dX2_attackAhead_30 ?_
          refine lv_topi (fun x23 ex23 => ?_)
          refine jcallS (As := [.int x14, .int x23]) (rest := []) ⟨hx, hb, hml, hown, hts⟩ hK hP hA hS hZ (c_X0_after l D cI cL ad zz hJ σ τ x14 (x14.toInt) rfl x23 (x23.toInt) rfl) cw_RX2_32 ⟨Nat.le_of_ble_eq_true rfl, Nat.le_of_ble_eq_true rfl⟩ rfl rfl rfl hl.1 rfl (Nat.le_of_ble_eq_true rfl) dX2_attackAhead_31 ⟨Nat.zero_le _, Nat.zero_le _⟩ (fun r25 σ24 τ24 H locs h24 hP hS => ?_)
          obtain ⟨⟨rfl, rfl⟩, h24⟩ := h24
          refine lv_istore_n (lv' := [(3, .int r25), (4, .int x15), (0, .ref (ad 47)), (1, .int a1), (2, .ref (ad 2))]) hx hb dX2_attackAhead_34 rfl hl (by decide) rfl (fun ls hl => ?_)
          obtain ⟨x26, ex26⟩ : ∃ y : Int32, y = x15 + 1 := ⟨_, rfl⟩
          have tx26 : x26.toInt = x15.toInt + 1 := (jadd ex26 rfl jz_1 (by omega) (by omega)).trans (by omega)
          refine lv_iinc (v := x26) (lv' := [(4, .int x26), (3, .int r25), (0, .ref (ad 47)), (1, .int a1), (2, .ref (ad 2))]) hx hb dX2_attackAhead_35 hl (k := 1) rfl (by rw [ex26]; rfl) (by decide) rfl (fun ls hl => ?_)
          refine lv_goto (tgt := 8) hx hb dX2_attackAhead_38 (by decide) ?_
          exact ihlp12 r25 x26 _ _ ls (by have h91 := tx26; omega) (by have h91 := tx26; omega) (by have h91 := tx26; omega) (by have h91 := tx26; omega)    hP hS (lv_sub hl [0, 1, 2, 3, 4] rfl)
  exact lp12 1000000 r11 0 _ _ ls (by have h91 := jz_0; omega) (by have h91 := jz_0; omega) (by have h91 := jz_0; omega) (by have h91 := jz_0; omega)   hP hS hl
set_option maxHeartbeats 4000000 in
set_option maxRecDepth 100000 in
theorem c_X9_isNone (l : Launch) (D : va_G) (cI cL : ClassId) (ad zz : Nat → Nat) (hJ : jD ad) (σ : Nat → Nat → Int32) (τ : Nat → Nat → Int64) (a1 : Int32) (A1 : Int) (t1 : a1.toInt = A1) : jM l yX9_isNone cX9_isNone 1 (some .boolean) ({ frames := 0, cells := 0, slots := 0, locals := 0 }) D cI cL ad zz [.int a1] σ τ (fun r σ' τ' => (σ = σ' ∧ τ = τ') ∧ ((r = 0 ∧ (0 ≤ A1 ∧ A1 ≤ 5)) ∨ (r = 1 ∧ ((A1 < 0) ∨ (6 ≤ A1))))) := by
  refine jM.of hJ (by decide +kernel) (nt := .boolean) rfl (Nat.le_of_ble_eq_true rfl) ?_
  intro p e s m args below meth c Q ls hC hret hl hP
  obtain ⟨hx, hb, hr, hml, hown, hts, hK, -, hlocks, hZ⟩ := hC
  have hown : s.vm.findClass RX9 = some m.cls := hown
  have hS : va_S (jA ad) s.heap s.heap [] := va_S.rf
  have hA : ∀ q, jA ad q → jA ad q := fun _ h => h
  have hl : lv_has ls 1 [(0, .int a1)] := hl
  have g1 := jrg t1
  refine lv_iload_n hx hb dX9_isNone_0 rfl (lv_at hl 0 rfl) ?_
  refine lv_if_lt (tgt := 10) hx hb dX9_isNone_1 (by decide) (fun c1 => ?_) (fun c1 => ?_)
  · have kc1 := jlt c1 t1 jz_0
    refine lv_iconst (v := 1) hx hb dX9_isNone_10 (by decide) ?_
    refine lv_goto (tgt := 15) hx hb dX9_isNone_11 (by decide) ?_
    exact hret 1 σ τ _ _ _ _ rfl ⟨⟨rfl, rfl⟩, Or.inr (⟨rfl, (by have h9 := jz_1; omega)⟩)⟩ hP hS dX9_isNone_15
  · have kc1 := jnlt c1 t1 jz_0
    refine lv_iload_n hx hb dX9_isNone_4 rfl (lv_at hl 0 rfl) ?_
    refine lv_bipush (v := 6) hx hb dX9_isNone_5 (by decide) ?_
    refine lv_icmp_lt (tgt := 14) hx hb dX9_isNone_7 (by decide) (fun c2 => ?_) (fun c2 => ?_)
    · have kc2 := jlt c2 t1 jz_6
      refine lv_iconst (v := 0) hx hb dX9_isNone_14 (by decide) ?_
      exact hret 0 σ τ _ _ _ _ rfl ⟨⟨rfl, rfl⟩, Or.inl ⟨rfl, (by have h9 := jz_0; omega)⟩⟩ hP hS dX9_isNone_15
    · have kc2 := jnlt c2 t1 jz_6
      refine lv_iconst (v := 1) hx hb dX9_isNone_10 (by decide) ?_
      refine lv_goto (tgt := 15) hx hb dX9_isNone_11 (by decide) ?_
      exact hret 1 σ τ _ _ _ _ rfl ⟨⟨rfl, rfl⟩, Or.inr (⟨rfl, (by have h9 := jz_1; omega)⟩)⟩ hP hS dX9_isNone_15
set_option maxHeartbeats 4000000 in
set_option maxRecDepth 100000 in
theorem c_X9_isEmpty_50 (l : Launch) (D : va_G) (cI cL : ClassId) (ad zz : Nat → Nat) (hJ : jD ad) (σ : Nat → Nat → Int32) (τ : Nat → Nat → Int64) (a1 : Int32) (A1 : Int) (t1 : a1.toInt = A1) : jM l yX9_isEmpty cX9_isEmpty 2 (some .boolean) ({ frames := 1, cells := 0, slots := 0, locals := 20 }) D cI cL ad zz [.ref (ad 50), .int a1] σ τ (fun r σ' τ' => (σ = σ' ∧ τ = τ') ∧ ((r = 0 ∧ (0 ≤ A1 ∧ A1 ≤ 5)) ∨ (r = 1 ∧ True))) := by
  refine jM.of hJ (by decide +kernel) (nt := .boolean) rfl (Nat.le_of_ble_eq_true rfl) ?_
  intro p e s m args below meth c Q ls hC hret hl hP
  obtain ⟨hx, hb, hr, hml, hown, hts, hK, -, hlocks, hZ⟩ := hC
  have hown : s.vm.findClass RX9 = some m.cls := hown
  have hS : va_S (jA ad) s.heap s.heap [] := va_S.rf
  have hA : ∀ q, jA ad q → jA ad q := fun _ h => h
  have hl : lv_has ls 2 [(0, .ref (ad 50)), (1, .int a1)] := hl
  have g1 := jrg t1
  refine lv_iload_n hx hb dX9_isEmpty_0 rfl (lv_at hl 1 rfl) ?_
  refine jcallS (As := [.int a1]) (rest := []) ⟨hx, hb, hml, hown, hts⟩ hK hP hA hS hZ (c_X9_isNone l D cI cL ad zz hJ σ τ a1 (A1) t1) cw_RX9_29 ⟨Nat.le_of_ble_eq_true rfl, Nat.le_of_ble_eq_true rfl⟩ rfl rfl rfl hl.1 rfl (Nat.le_of_ble_eq_true rfl) dX9_isEmpty_1 ⟨Nat.zero_le _, Nat.zero_le _⟩ (fun r2 σ1 τ1 H locs h1 hP hS => ?_)
  obtain ⟨⟨rfl, rfl⟩, h1⟩ := h1
  rcases h1 with h3 | h4
  · obtain ⟨q6, k5⟩ := h3
    have q6 := q6.symm
    subst q6
    refine lv_if_ne (tgt := 18) hx hb dX9_isEmpty_4 (by decide) (fun c => absurd (by decide) c) (fun _ => ?_)
    refine lv_aload_n hx hb dX9_isEmpty_7 rfl (lv_at hl 0 rfl) ?_
    refine va_get (D := D) hx hb hts inlX9 hown hK hP 50 (jc_50 cI cL ad σ τ) rfl 1 (by decide) (hts _ kw_6_16) (fun _ h9 => h9) rfl dX9_isEmpty_8 ?_
    refine lv_iload_n hx hb dX9_isEmpty_11 rfl (lv_at hl 1 rfl) ?_
    refine jald hx hb hK hP (jc_51 cI cL ad σ τ) (jin t1 (by omega) (by omega)) dX9_isEmpty_12 ?_
    refine lv_topi (fun x7 ex7 => ?_)
    refine lv_bipush (v := (-2)) hx hb dX9_isEmpty_13 (by decide) ?_
    refine lv_icmp_ne (tgt := 22) hx hb dX9_isEmpty_15 (by decide) (fun c8 => ?_) (fun c8 => ?_)
    · have kc8 := jne c8 rfl jz_m2
      refine lv_iconst (v := 0) hx hb dX9_isEmpty_22 (by decide) ?_
      exact hret 0 σ τ _ _ _ _ rfl ⟨⟨rfl, rfl⟩, Or.inl ⟨rfl, (by have h9 := jz_0; omega)⟩⟩ hP hS dX9_isEmpty_23
    · have kc8 := jeq c8 rfl jz_m2
      refine lv_iconst (v := 1) hx hb dX9_isEmpty_18 (by decide) ?_
      refine lv_goto (tgt := 23) hx hb dX9_isEmpty_19 (by decide) ?_
      exact hret 1 σ τ _ _ _ _ rfl ⟨⟨rfl, rfl⟩, Or.inr (⟨rfl, trivial⟩)⟩ hP hS dX9_isEmpty_23
  · obtain ⟨q10, k9⟩ := h4
    have q10 := q10.symm
    subst q10
    refine lv_if_ne (tgt := 18) hx hb dX9_isEmpty_4 (by decide) (fun _ => ?_) (fun c => absurd c (by decide))
    refine lv_iconst (v := 1) hx hb dX9_isEmpty_18 (by decide) ?_
    refine lv_goto (tgt := 23) hx hb dX9_isEmpty_19 (by decide) ?_
    exact hret 1 σ τ _ _ _ _ rfl ⟨⟨rfl, rfl⟩, Or.inr (⟨rfl, trivial⟩)⟩ hP hS dX9_isEmpty_23
set_option maxHeartbeats 4000000 in
set_option maxRecDepth 100000 in
theorem c_X9_sortOf_50 (l : Launch) (D : va_G) (cI cL : ClassId) (ad zz : Nat → Nat) (hJ : jD ad) (σ : Nat → Nat → Int32) (τ : Nat → Nat → Int64) (a1 : Int32) (A1 : Int) (t1 : a1.toInt = A1) : jM l yX9_sortOf cX9_sortOf 2 (some .int) ({ frames := 2, cells := 0, slots := 0, locals := 41 }) D cI cL ad zz [.ref (ad 50), .int a1] σ τ (fun r σ' τ' => (σ = σ' ∧ τ = τ') ∧ ((True ∧ (0 ≤ A1 ∧ A1 ≤ 5)) ∨ (r = (-1) ∧ True))) := by
  refine jM.of hJ (by decide +kernel) (nt := .int) rfl (Nat.le_of_ble_eq_true rfl) ?_
  intro p e s m args below meth c Q ls hC hret hl hP
  obtain ⟨hx, hb, hr, hml, hown, hts, hK, -, hlocks, hZ⟩ := hC
  have hown : s.vm.findClass RX9 = some m.cls := hown
  have hS : va_S (jA ad) s.heap s.heap [] := va_S.rf
  have hA : ∀ q, jA ad q → jA ad q := fun _ h => h
  have hl : lv_has ls 2 [(0, .ref (ad 50)), (1, .int a1)] := hl
  have g1 := jrg t1
  refine lv_aload_n hx hb dX9_sortOf_0 rfl (lv_at hl 0 rfl) ?_
  refine lv_iload_n hx hb dX9_sortOf_1 rfl (lv_at hl 1 rfl) ?_
  refine jcallV (As := [.int a1]) (rest := []) ⟨hx, hb, hml, hown, hts⟩ hK hP hA hS hZ (c_X9_isEmpty_50 l D cI cL ad zz hJ σ τ a1 (A1) t1) cw_RX9_33 (jc_50 cI cL ad σ τ) rfl ⟨Nat.le_of_ble_eq_true rfl, Nat.le_of_ble_eq_true rfl⟩ rfl rfl rfl hl.1 rfl (Nat.le_of_ble_eq_true rfl) dX9_sortOf_2 ⟨Nat.zero_le _, Nat.zero_le _⟩ (fun r2 σ1 τ1 H locs h1 hP hS => ?_)
  obtain ⟨⟨rfl, rfl⟩, h1⟩ := h1
  rcases h1 with h3 | h4
  · obtain ⟨q6, k5⟩ := h3
    have q6 := q6.symm
    subst q6
    refine lv_if_eq (tgt := 12) hx hb dX9_sortOf_5 (by decide) (fun _ => ?_) (fun c => absurd (by decide) c)
    refine lv_aload_n hx hb dX9_sortOf_12 rfl (lv_at hl 0 rfl) ?_
    refine va_get (D := D) hx hb hts inlX9 hown hK hP 50 (jc_50 cI cL ad σ τ) rfl 1 (by decide) (hts _ kw_6_16) (fun _ h9 => h9) rfl dX9_sortOf_13 ?_
    refine lv_iload_n hx hb dX9_sortOf_16 rfl (lv_at hl 1 rfl) ?_
    refine jald hx hb hK hP (jc_51 cI cL ad σ τ) (jin t1 (by omega) (by omega)) dX9_sortOf_17 ?_
    refine lv_topi (fun x7 ex7 => ?_)
    exact hret x7 σ τ _ _ _ _ rfl ⟨⟨rfl, rfl⟩, Or.inl ⟨trivial, (by omega)⟩⟩ hP hS dX9_sortOf_18
  · obtain ⟨q9, k8⟩ := h4
    have q9 := q9.symm
    subst q9
    refine lv_if_eq (tgt := 12) hx hb dX9_sortOf_5 (by decide) (fun c => absurd c (by decide)) (fun _ => ?_)
    refine lv_iconst (v := (-1)) hx hb dX9_sortOf_8 (by decide) ?_
    refine lv_goto (tgt := 18) hx hb dX9_sortOf_9 (by decide) ?_
    exact hret (-1) σ τ _ _ _ _ rfl ⟨⟨rfl, rfl⟩, Or.inr (⟨rfl, trivial⟩)⟩ hP hS dX9_sortOf_18
set_option maxHeartbeats 4000000 in
set_option maxRecDepth 100000 in
theorem c_X9_lengthOf_50 (l : Launch) (D : va_G) (cI cL : ClassId) (ad zz : Nat → Nat) (hJ : jD ad) (σ : Nat → Nat → Int32) (τ : Nat → Nat → Int64) (a1 : Int32) (A1 : Int) (t1 : a1.toInt = A1) (hI50 : jI50 σ) : jM l yX9_lengthOf cX9_lengthOf 2 (some .int) ({ frames := 3, cells := 0, slots := 0, locals := 62 }) D cI cL ad zz [.ref (ad 50), .int a1] σ τ (fun r σ' τ' => (σ = σ' ∧ τ = τ') ∧ ((True ∧ (0 ≤ A1 ∧ A1 ≤ 5) ∧ (0 ≤ r.toInt ∧ r.toInt ≤ 60)) ∨ (r = 0 ∧ True))) := by
  refine jM.of hJ (by decide +kernel) (nt := .int) rfl (Nat.le_of_ble_eq_true rfl) ?_
  intro p e s m args below meth c Q ls hC hret hl hP
  obtain ⟨hx, hb, hr, hml, hown, hts, hK, -, hlocks, hZ⟩ := hC
  have hown : s.vm.findClass RX9 = some m.cls := hown
  have hS : va_S (jA ad) s.heap s.heap [] := va_S.rf
  have hA : ∀ q, jA ad q → jA ad q := fun _ h => h
  have hl : lv_has ls 2 [(0, .ref (ad 50)), (1, .int a1)] := hl
  have g1 := jrg t1
  have w1 : ∀ k : Nat, k < 6 → 0 ≤ (σ 52 k).toInt ∧ (σ 52 k).toInt ≤ 60 := hI50
  refine lv_aload_n hx hb dX9_lengthOf_0 rfl (lv_at hl 0 rfl) ?_
  refine lv_iload_n hx hb dX9_lengthOf_1 rfl (lv_at hl 1 rfl) ?_
  refine jcallV (As := [.int a1]) (rest := []) ⟨hx, hb, hml, hown, hts⟩ hK hP hA hS hZ (c_X9_sortOf_50 l D cI cL ad zz hJ σ τ a1 (A1) t1) cw_RX9_36 (jc_50 cI cL ad σ τ) rfl ⟨Nat.le_of_ble_eq_true rfl, Nat.le_of_ble_eq_true rfl⟩ rfl rfl rfl hl.1 rfl (Nat.le_of_ble_eq_true rfl) dX9_lengthOf_2 ⟨Nat.zero_le _, Nat.zero_le _⟩ (fun r3 σ2 τ2 H locs h2 hP hS => ?_)
  obtain ⟨⟨rfl, rfl⟩, h2⟩ := h2
  rcases h2 with h4 | h5
  · obtain ⟨q7, k6⟩ := h4
    refine lv_iconst (v := (-1)) hx hb dX9_lengthOf_5 (by decide) ?_
    refine lv_icmp_ne (tgt := 13) hx hb dX9_lengthOf_6 (by decide) (fun c8 => ?_) (fun c8 => ?_)
    · have kc8 := jne c8 rfl jz_m1
      refine lv_aload_n hx hb dX9_lengthOf_13 rfl (lv_at hl 0 rfl) ?_
      refine va_get (D := D) hx hb hts inlX9 hown hK hP 50 (jc_50 cI cL ad σ τ) rfl 2 (by decide) (hts _ kw_6_17) (fun _ h9 => h9) rfl dX9_lengthOf_14 ?_
      refine lv_iload_n hx hb dX9_lengthOf_17 rfl (lv_at hl 1 rfl) ?_
      refine jald hx hb hK hP (jc_52 cI cL ad σ τ) (jin t1 (by omega) (by omega)) dX9_lengthOf_18 ?_
      have g9 := w1 _ (jnat (x := a1) t1 (n := 6) (by omega) (by decide))
      refine lv_topi (fun x10 ex10 => ?_)
      rw [← ex10] at g9
      exact hret x10 σ τ _ _ _ _ rfl ⟨⟨rfl, rfl⟩, Or.inl ⟨trivial, (by omega), (by omega)⟩⟩ hP hS dX9_lengthOf_19
    · have kc8 := jeq c8 rfl jz_m1
      refine lv_iconst (v := 0) hx hb dX9_lengthOf_9 (by decide) ?_
      refine lv_goto (tgt := 19) hx hb dX9_lengthOf_10 (by decide) ?_
      exact hret 0 σ τ _ _ _ _ rfl ⟨⟨rfl, rfl⟩, Or.inl ⟨trivial, (by have h9 := jz_0; omega), (by have h9 := jz_0; omega)⟩⟩ hP hS dX9_lengthOf_19
  · obtain ⟨q12, k11⟩ := h5
    have q12 := q12.symm
    subst q12
    refine lv_iconst (v := (-1)) hx hb dX9_lengthOf_5 (by decide) ?_
    refine lv_icmp_ne (tgt := 13) hx hb dX9_lengthOf_6 (by decide) (fun c => absurd (by decide) c) (fun _ => ?_)
    refine lv_iconst (v := 0) hx hb dX9_lengthOf_9 (by decide) ?_
    refine lv_goto (tgt := 19) hx hb dX9_lengthOf_10 (by decide) ?_
    exact hret 0 σ τ _ _ _ _ rfl ⟨⟨rfl, rfl⟩, Or.inr (⟨rfl, trivial⟩)⟩ hP hS dX9_lengthOf_19
set_option maxHeartbeats 4000000 in
set_option maxRecDepth 100000 in
theorem c_X9_ruleOn_50 (l : Launch) (D : va_G) (cI cL : ClassId) (ad zz : Nat → Nat) (hJ : jD ad) (σ : Nat → Nat → Int32) (τ : Nat → Nat → Int64) (a1 : Int32) (A1 : Int) (t1 : a1.toInt = A1) : jM l yX9_ruleOn cX9_ruleOn 2 (some .int) ({ frames := 1, cells := 0, slots := 0, locals := 20 }) D cI cL ad zz [.ref (ad 50), .int a1] σ τ (fun r σ' τ' => (σ = σ' ∧ τ = τ') ∧ True) := by
  refine jM.of hJ (by decide +kernel) (nt := .int) rfl (Nat.le_of_ble_eq_true rfl) ?_
  intro p e s m args below meth c Q ls hC hret hl hP
  obtain ⟨hx, hb, hr, hml, hown, hts, hK, -, hlocks, hZ⟩ := hC
  have hown : s.vm.findClass RX9 = some m.cls := hown
  have hS : va_S (jA ad) s.heap s.heap [] := va_S.rf
  have hA : ∀ q, jA ad q → jA ad q := fun _ h => h
  have hl : lv_has ls 2 [(0, .ref (ad 50)), (1, .int a1)] := hl
  have g1 := jrg t1
  refine lv_iload_n hx hb dX9_ruleOn_0 rfl (lv_at hl 1 rfl) ?_
  refine jcallS (As := [.int a1]) (rest := []) ⟨hx, hb, hml, hown, hts⟩ hK hP hA hS hZ (c_X9_isNone l D cI cL ad zz hJ σ τ a1 (A1) t1) cw_RX9_29 ⟨Nat.le_of_ble_eq_true rfl, Nat.le_of_ble_eq_true rfl⟩ rfl rfl rfl hl.1 rfl (Nat.le_of_ble_eq_true rfl) dX9_ruleOn_1 ⟨Nat.zero_le _, Nat.zero_le _⟩ (fun r2 σ1 τ1 H locs h1 hP hS => ?_)
  obtain ⟨⟨rfl, rfl⟩, h1⟩ := h1
  rcases h1 with h3 | h4
  · obtain ⟨q6, k5⟩ := h3
    have q6 := q6.symm
    subst q6
    refine lv_if_eq (tgt := 11) hx hb dX9_ruleOn_4 (by decide) (fun _ => ?_) (fun c => absurd (by decide) c)
    refine lv_aload_n hx hb dX9_ruleOn_11 rfl (lv_at hl 0 rfl) ?_
    refine va_get (D := D) hx hb hts inlX9 hown hK hP 50 (jc_50 cI cL ad σ τ) rfl 3 (by decide) (hts _ kw_6_18) (fun _ h9 => h9) rfl dX9_ruleOn_12 ?_
    refine lv_iload_n hx hb dX9_ruleOn_15 rfl (lv_at hl 1 rfl) ?_
    refine jald hx hb hK hP (jc_53 cI cL ad σ τ) (jin t1 (by omega) (by omega)) dX9_ruleOn_16 ?_
    refine lv_topi (fun x7 ex7 => ?_)
    exact hret x7 σ τ _ _ _ _ rfl ⟨⟨rfl, rfl⟩, trivial⟩ hP hS dX9_ruleOn_17
  · obtain ⟨q9, k8⟩ := h4
    have q9 := q9.symm
    subst q9
    refine lv_if_eq (tgt := 11) hx hb dX9_ruleOn_4 (by decide) (fun c => absurd c (by decide)) (fun _ => ?_)
    refine lv_iconst (v := (-1)) hx hb dX9_ruleOn_7 (by decide) ?_
    refine lv_goto (tgt := 17) hx hb dX9_ruleOn_8 (by decide) ?_
    exact hret (-1) σ τ _ _ _ _ rfl ⟨⟨rfl, rfl⟩, trivial⟩ hP hS dX9_ruleOn_17
set_option maxHeartbeats 4000000 in
set_option maxRecDepth 100000 in
theorem c_X9_hold_50 (l : Launch) (D : va_G) (cI cL : ClassId) (ad zz : Nat → Nat) (hJ : jD ad) (σ : Nat → Nat → Int32) (τ : Nat → Nat → Int64) (a1 : Int32) (A1 : Int) (t1 : a1.toInt = A1) (a2 : Int32) (A2 : Int) (t2 : a2.toInt = A2) (hI50 : jI50 σ) : jMv l yX9_hold cX9_hold 3 none ({ frames := 1, cells := 0, slots := 0, locals := 20 }) D cI cL ad zz [.ref (ad 50), .int a1, .int a2] σ τ (fun σ' τ' => τ = τ' ∧ (∀ i : Nat, (i < 51 ∨ 53 < i) → σ' i = σ i) ∧ (jI50 σ') ∧ True) := by
  refine jMv.of hJ (by decide +kernel) rfl (Nat.le_of_ble_eq_true rfl) ?_
  intro p e s m args below meth c Q ls hC hret hl hP
  obtain ⟨hx, hb, hr, hml, hown, hts, hK, -, hlocks, hZ⟩ := hC
  have hown : s.vm.findClass RX9 = some m.cls := hown
  have hS : va_S (jA ad) s.heap s.heap [] := va_S.rf
  have hA : ∀ q, jA ad q → jA ad q := fun _ h => h
  have hl : lv_has ls 3 [(0, .ref (ad 50)), (1, .int a1), (2, .int a2)] := hl
  have g1 := jrg t1
  have g2 := jrg t2
  have w1 : ∀ k : Nat, k < 6 → 0 ≤ (σ 52 k).toInt ∧ (σ 52 k).toInt ≤ 60 := hI50
  refine lv_iload_n hx hb dX9_hold_0 rfl (lv_at hl 1 rfl) ?_
  refine jcallS (As := [.int a1]) (rest := []) ⟨hx, hb, hml, hown, hts⟩ hK hP hA hS hZ (c_X9_isNone l D cI cL ad zz hJ σ τ a1 (A1) t1) cw_RX9_29 ⟨Nat.le_of_ble_eq_true rfl, Nat.le_of_ble_eq_true rfl⟩ rfl rfl rfl hl.1 rfl (Nat.le_of_ble_eq_true rfl) dX9_hold_1 ⟨Nat.zero_le _, Nat.zero_le _⟩ (fun r3 σ2 τ2 H locs h2 hP hS => ?_)
  obtain ⟨⟨rfl, rfl⟩, h2⟩ := h2
  rcases h2 with h4 | h5
  · obtain ⟨q7, k6⟩ := h4
    have q7 := q7.symm
    subst q7
    refine lv_if_ne (tgt := 18) hx hb dX9_hold_4 (by decide) (fun c => absurd (by decide) c) (fun _ => ?_)
    refine lv_iload_n hx hb dX9_hold_7 rfl (lv_at hl 2 rfl) ?_
    refine lv_aload_n hx hb dX9_hold_8 rfl (lv_at hl 0 rfl) ?_
    refine va_get (D := D) hx hb hts inlX9 hown hK hP 50 (jc_50 cI cL ad σ τ) rfl 0 (by decide) (hts _ kw_6_21) (fun _ h9 => h9) rfl dX9_hold_9 ?_
    refine va_get (D := D) hx hb hts inlX8 hown hK hP 38 (jc_38 cI cL ad σ τ) rfl 0 (by decide) (hts _ kw_51_2) (fun _ h9 => h9) rfl dX9_hold_12 ?_
    refine lv_icmp_lt (tgt := 19) hx hb dX9_hold_15 (by decide) (fun c8 => ?_) (fun c8 => ?_)
    · have kc8 := jlt c8 t2 rfl
      refine lv_aload_n hx hb dX9_hold_19 rfl (lv_at hl 0 rfl) ?_
      refine va_get (D := D) hx hb hts inlX9 hown hK hP 50 (jc_50 cI cL ad σ τ) rfl 1 (by decide) (hts _ kw_6_16) (fun _ h9 => h9) rfl dX9_hold_20 ?_
      refine lv_iload_n hx hb dX9_hold_23 rfl (lv_at hl 1 rfl) ?_
      refine lv_iload_n hx hb dX9_hold_24 rfl (lv_at hl 2 rfl) ?_
      refine lv_if_ge (tgt := 33) hx hb dX9_hold_25 (by decide) (fun c9 => ?_) (fun c9 => ?_)
      · have kc9 := jle c9 jz_0 t2
        refine lv_iconst (v := (-1)) hx hb dX9_hold_33 (by decide) ?_
        refine jast hx hb hK hP hJ hA hS (jc_51 cI cL ad σ τ) (ja_51 cI cL ad σ τ _ _) (jin t1 (by omega) (by omega)) dX9_hold_34 (fun σ10 H locs eσ10 hP hS => ?_)
        refine lv_aload_n hx hb dX9_hold_35 rfl (lv_at hl 0 rfl) ?_
        refine va_get (D := D) hx hb hts inlX9 hown hK hP 50 (jc_50 cI cL ad σ10 τ) rfl 3 (by decide) (hts _ kw_6_18) (fun _ h9 => h9) rfl dX9_hold_36 ?_
        refine lv_iload_n hx hb dX9_hold_39 rfl (lv_at hl 1 rfl) ?_
        refine lv_iload_n hx hb dX9_hold_40 rfl (lv_at hl 2 rfl) ?_
        refine lv_if_ge (tgt := 48) hx hb dX9_hold_41 (by decide) (fun c11 => ?_) (fun c => absurd (jnle c jz_0 t2) (by omega))
        have kc11 := jle c11 jz_0 t2
        refine lv_iload_n hx hb dX9_hold_48 rfl (lv_at hl 2 rfl) ?_
        refine jast hx hb hK hP hJ hA hS (jc_53 cI cL ad σ10 τ) (ja_53 cI cL ad σ10 τ _ _) (jin t1 (by omega) (by omega)) dX9_hold_49 (fun σ12 H locs eσ12 hP hS => ?_)
        refine lv_aload_n hx hb dX9_hold_50 rfl (lv_at hl 0 rfl) ?_
        refine va_get (D := D) hx hb hts inlX9 hown hK hP 50 (jc_50 cI cL ad σ12 τ) rfl 2 (by decide) (hts _ kw_6_17) (fun _ h9 => h9) rfl dX9_hold_51 ?_
        refine lv_iload_n hx hb dX9_hold_54 rfl (lv_at hl 1 rfl) ?_
        refine lv_iconst (v := 0) hx hb dX9_hold_55 (by decide) ?_
        refine jast hx hb hK hP hJ hA hS (jc_52 cI cL ad σ12 τ) (ja_52 cI cL ad σ12 τ _ _) (jin t1 (by omega) (by omega)) dX9_hold_56 (fun σ13 H locs eσ13 hP hS => ?_)
        have w14 : ∀ k : Nat, k < 6 → 0 ≤ (σ13 52 k).toInt ∧ (σ13 52 k).toInt ≤ 60 := (by rw [eσ13]; exact jrr_up (by rw [eσ12, jup_n (by decide)]; exact (by rw [eσ10, jup_n (by decide)]; exact w1)) (by have h9 := jz_0; omega) (by have h9 := jz_0; omega))
        have I15 : jI50 σ13 := w14
        exact hret σ13 τ _ _ _ _ ⟨rfl, (fun i hi => by rw [eσ13, jup_n (by omega), eσ12, jup_n (by omega), eσ10, jup_n (by omega)]), I15, trivial⟩ hP hS dX9_hold_57
      · have kc9 := jnle c9 jz_0 t2
        refine lv_bipush (v := (-2)) hx hb dX9_hold_28 (by decide) ?_
        refine lv_goto (tgt := 34) hx hb dX9_hold_30 (by decide) ?_
        refine jast hx hb hK hP hJ hA hS (jc_51 cI cL ad σ τ) (ja_51 cI cL ad σ τ _ _) (jin t1 (by omega) (by omega)) dX9_hold_34 (fun σ16 H locs eσ16 hP hS => ?_)
        refine lv_aload_n hx hb dX9_hold_35 rfl (lv_at hl 0 rfl) ?_
        refine va_get (D := D) hx hb hts inlX9 hown hK hP 50 (jc_50 cI cL ad σ16 τ) rfl 3 (by decide) (hts _ kw_6_18) (fun _ h9 => h9) rfl dX9_hold_36 ?_
        refine lv_iload_n hx hb dX9_hold_39 rfl (lv_at hl 1 rfl) ?_
        refine lv_iload_n hx hb dX9_hold_40 rfl (lv_at hl 2 rfl) ?_
        refine lv_if_ge (tgt := 48) hx hb dX9_hold_41 (by decide) (fun c => absurd (jle c jz_0 t2) (by omega)) (fun c17 => ?_)
        have kc17 := jnle c17 jz_0 t2
        refine lv_iconst (v := (-1)) hx hb dX9_hold_44 (by decide) ?_
        refine lv_goto (tgt := 49) hx hb dX9_hold_45 (by decide) ?_
        refine jast hx hb hK hP hJ hA hS (jc_53 cI cL ad σ16 τ) (ja_53 cI cL ad σ16 τ _ _) (jin t1 (by omega) (by omega)) dX9_hold_49 (fun σ18 H locs eσ18 hP hS => ?_)
        refine lv_aload_n hx hb dX9_hold_50 rfl (lv_at hl 0 rfl) ?_
        refine va_get (D := D) hx hb hts inlX9 hown hK hP 50 (jc_50 cI cL ad σ18 τ) rfl 2 (by decide) (hts _ kw_6_17) (fun _ h9 => h9) rfl dX9_hold_51 ?_
        refine lv_iload_n hx hb dX9_hold_54 rfl (lv_at hl 1 rfl) ?_
        refine lv_iconst (v := 0) hx hb dX9_hold_55 (by decide) ?_
        refine jast hx hb hK hP hJ hA hS (jc_52 cI cL ad σ18 τ) (ja_52 cI cL ad σ18 τ _ _) (jin t1 (by omega) (by omega)) dX9_hold_56 (fun σ19 H locs eσ19 hP hS => ?_)
        have w20 : ∀ k : Nat, k < 6 → 0 ≤ (σ19 52 k).toInt ∧ (σ19 52 k).toInt ≤ 60 := (by rw [eσ19]; exact jrr_up (by rw [eσ18, jup_n (by decide)]; exact (by rw [eσ16, jup_n (by decide)]; exact w1)) (by have h9 := jz_0; omega) (by have h9 := jz_0; omega))
        have I21 : jI50 σ19 := w20
        exact hret σ19 τ _ _ _ _ ⟨rfl, (fun i hi => by rw [eσ19, jup_n (by omega), eσ18, jup_n (by omega), eσ16, jup_n (by omega)]), I21, trivial⟩ hP hS dX9_hold_57
    · have kc8 := jnlt c8 t2 rfl
      have I22 : jI50 σ := w1
      exact hret σ τ _ _ _ _ ⟨rfl, (fun _ _ => rfl), I22, trivial⟩ hP hS dX9_hold_18
  · obtain ⟨q24, k23⟩ := h5
    have q24 := q24.symm
    subst q24
    refine lv_if_ne (tgt := 18) hx hb dX9_hold_4 (by decide) (fun _ => ?_) (fun c => absurd c (by decide))
    have I25 : jI50 σ := w1
    exact hret σ τ _ _ _ _ ⟨rfl, (fun _ _ => rfl), I25, trivial⟩ hP hS dX9_hold_18
set_option maxHeartbeats 4000000 in
set_option maxRecDepth 100000 in
theorem c_X9_lay_50 (l : Launch) (D : va_G) (cI cL : ClassId) (ad zz : Nat → Nat) (hJ : jD ad) (σ : Nat → Nat → Int32) (τ : Nat → Nat → Int64) (a1 : Int32) (A1 : Int) (t1 : a1.toInt = A1) (a2 : Int32) (A2 : Int) (t2 : a2.toInt = A2) (a3 : Int32) (A3 : Int) (t3 : a3.toInt = A3) (hI50 : jI50 σ) : jMv l yX9_lay cX9_lay 5 none ({ frames := 1, cells := 0, slots := 0, locals := 20 }) D cI cL ad zz [.ref (ad 50), .int a1, .int a2, .int a3] σ τ (fun σ' τ' => (∀ i : Nat, (i < 51 ∨ 53 < i) → σ' i = σ i) ∧ (jI50 σ') ∧ True) := by
  refine jMv.of hJ (by decide +kernel) rfl (Nat.le_of_ble_eq_true rfl) ?_
  intro p e s m args below meth c Q ls hC hret hl hP
  obtain ⟨hx, hb, hr, hml, hown, hts, hK, -, hlocks, hZ⟩ := hC
  have hown : s.vm.findClass RX9 = some m.cls := hown
  have hS : va_S (jA ad) s.heap s.heap [] := va_S.rf
  have hA : ∀ q, jA ad q → jA ad q := fun _ h => h
  have hl : lv_has ls 5 [(0, .ref (ad 50)), (1, .int a1), (2, .int a2), (3, .int a3)] := hl
  have g1 := jrg t1
  have g2 := jrg t2
  have g3 := jrg t3
  have w1 : ∀ k : Nat, k < 6 → 0 ≤ (σ 52 k).toInt ∧ (σ 52 k).toInt ≤ 60 := hI50
  refine lv_iload_n hx hb dX9_lay_0 rfl (lv_at hl 1 rfl) ?_
  refine jcallS (As := [.int a1]) (rest := []) ⟨hx, hb, hml, hown, hts⟩ hK hP hA hS hZ (c_X9_isNone l D cI cL ad zz hJ σ τ a1 (A1) t1) cw_RX9_29 ⟨Nat.le_of_ble_eq_true rfl, Nat.le_of_ble_eq_true rfl⟩ rfl rfl rfl hl.1 rfl (Nat.le_of_ble_eq_true rfl) dX9_lay_1 ⟨Nat.zero_le _, Nat.zero_le _⟩ (fun r3 σ2 τ2 H locs h2 hP hS => ?_)
  obtain ⟨⟨rfl, rfl⟩, h2⟩ := h2
  rcases h2 with h4 | h5
  · obtain ⟨q7, k6⟩ := h4
    have q7 := q7.symm
    subst q7
    refine lv_if_ne (tgt := 17) hx hb dX9_lay_4 (by decide) (fun c => absurd (by decide) c) (fun _ => ?_)
    refine lv_iload_n hx hb dX9_lay_7 rfl (lv_at hl 3 rfl) ?_
    refine lv_if_lt (tgt := 17) hx hb dX9_lay_8 (by decide) (fun c8 => ?_) (fun c8 => ?_)
    · have kc8 := jlt c8 t3 jz_0
      have I9 : jI50 σ := w1
      exact hret σ τ _ _ _ _ ⟨(fun _ _ => rfl), I9, trivial⟩ hP hS dX9_lay_17
    · have kc8 := jnlt c8 t3 jz_0
      refine lv_iload_n hx hb dX9_lay_11 rfl (lv_at hl 3 rfl) ?_
      refine lv_bipush (v := 60) hx hb dX9_lay_12 (by decide) ?_
      refine lv_icmp_le (tgt := 18) hx hb dX9_lay_14 (by decide) (fun c10 => ?_) (fun c10 => ?_)
      · have kc10 := jle c10 t3 jz_60
        refine lv_aload_n hx hb dX9_lay_18 rfl (lv_at hl 0 rfl) ?_
        refine va_get (D := D) hx hb hts inlX9 hown hK hP 50 (jc_50 cI cL ad σ τ) rfl 1 (by decide) (hts _ kw_6_16) (fun _ h9 => h9) rfl dX9_lay_19 ?_
        refine lv_iload_n hx hb dX9_lay_22 rfl (lv_at hl 1 rfl) ?_
        refine lv_iload_n hx hb dX9_lay_23 rfl (lv_at hl 2 rfl) ?_
        refine jast hx hb hK hP hJ hA hS (jc_51 cI cL ad σ τ) (ja_51 cI cL ad σ τ _ _) (jin t1 (by omega) (by omega)) dX9_lay_24 (fun σ11 H locs eσ11 hP hS => ?_)
        refine lv_aload_n hx hb dX9_lay_25 rfl (lv_at hl 0 rfl) ?_
        refine va_get (D := D) hx hb hts inlX9 hown hK hP 50 (jc_50 cI cL ad σ11 τ) rfl 2 (by decide) (hts _ kw_6_17) (fun _ h9 => h9) rfl dX9_lay_26 ?_
        refine lv_iload_n hx hb dX9_lay_29 rfl (lv_at hl 1 rfl) ?_
        refine lv_iload_n hx hb dX9_lay_30 rfl (lv_at hl 3 rfl) ?_
        refine jast hx hb hK hP hJ hA hS (jc_52 cI cL ad σ11 τ) (ja_52 cI cL ad σ11 τ _ _) (jin t1 (by omega) (by omega)) dX9_lay_31 (fun σ12 H locs eσ12 hP hS => ?_)
        refine lv_aload_n hx hb dX9_lay_32 rfl (lv_at hl 0 rfl) ?_
        refine va_get (D := D) hx hb hts inlX9 hown hK hP 50 (jc_50 cI cL ad σ12 τ) rfl 3 (by decide) (hts _ kw_6_18) (fun _ h9 => h9) rfl dX9_lay_33 ?_
        refine lv_iload_n hx hb dX9_lay_36 rfl (lv_at hl 1 rfl) ?_
        refine lv_iconst (v := (-1)) hx hb dX9_lay_37 (by decide) ?_
        refine jast hx hb hK hP hJ hA hS (jc_53 cI cL ad σ12 τ) (ja_53 cI cL ad σ12 τ _ _) (jin t1 (by omega) (by omega)) dX9_lay_38 (fun σ13 H locs eσ13 hP hS => ?_)
        refine lv_iconst (v := 0) hx hb dX9_lay_39 (by decide) ?_
        refine lv_istore (lv' := [(4, .int 0), (0, .ref (ad 50)), (1, .int a1), (2, .int a2), (3, .int a3)]) hx hb dX9_lay_40 hl (by decide) rfl (fun ls hl => ?_)
        have lp14 : ∀ (n15 : Nat) (x16 : Int32) (σ17 : Nat → Nat → Int32) (τ17 : Nat → Nat → Int64) (H : Heap) (locs : List Loc) (ls : Array Slot), (-x16.toInt + 60 : Int) < n15 → 0 ≤ x16.toInt → x16.toInt ≤ 60 → (∀ i : Nat, (0 = 0) → σ17 i = σ13 i) → jH D cI cL ad σ17 τ17 H → va_S (jA ad) s.heap H locs → lv_has ls 5 [(4, .int x16), (0, .ref (ad 50)), (1, .int a1), (2, .int a2), (3, .int a3)] → W p l e ({ frames := 1, cells := 0, slots := 0, locals := 20 }) s m args below meth c H locs 0 0 Q (F0 m 42 ls []) := by
          intro n15
          induction n15 with
          | zero => intro x16 σ17 τ17 H locs ls h18 h19 h20; exact absurd h18 (by omega)
          | succ n15 ihlp14 =>
            intro x16 σ17 τ17 H locs ls h18 h19 h20 f21 hP hS hl
            refine lv_iload hx hb dX9_lay_42 (lv_at hl 0 rfl) ?_
            refine lv_iload_n hx hb dX9_lay_44 rfl (lv_at hl 4 rfl) ?_
            refine lv_icmp_ge (tgt := 67) hx hb dX9_lay_45 (by decide) (fun c22 => ?_) (fun c22 => ?_)
            · have kc22 := jle c22 t3 rfl
              have w23 : ∀ k : Nat, k < 6 → 0 ≤ (σ17 52 k).toInt ∧ (σ17 52 k).toInt ≤ 60 := (by rw [f21 52 (by omega)]; exact (by rw [eσ13, jup_n (by decide)]; exact (by rw [eσ12]; exact jrr_up (by rw [eσ11, jup_n (by decide)]; exact w1) (by have h9 := t3; omega) (by have h9 := t3; omega))))
              have I24 : jI50 σ17 := w23
              exact hret σ17 τ17 _ _ _ _ ⟨(fun i hi => by rw [f21 i (by omega), eσ13, jup_n (by omega), eσ12, jup_n (by omega), eσ11, jup_n (by omega)]), I24, trivial⟩ hP hS dX9_lay_67
            · have kc22 := jnle c22 t3 rfl
              refine lv_aload_n hx hb dX9_lay_48 rfl (lv_at hl 1 rfl) ?_
              refine va_get (D := D) hx hb hts inlX9 hown hK hP 50 (jc_50 cI cL ad σ17 τ17) rfl 4 (by decide) (hts _ kw_6_20) (fun _ h9 => h9) rfl dX9_lay_49 ?_
              refine lv_iload_n hx hb dX9_lay_52 rfl (lv_at hl 2 rfl) ?_
              refine lv_bipush (v := 60) hx hb dX9_lay_53 (by decide) ?_
              refine lv_imul hx hb dX9_lay_55 ?_
              refine lv_topi (fun x25 ex25 => ?_)
              have tx25 : x25.toInt = 60 * A1 := (jmul ex25 t1 jz_60 (by omega) (by omega)).trans (by omega)
              refine lv_iload hx hb dX9_lay_56 (lv_at hl 0 rfl) ?_
              have g26 := jrg (rfl : x16.toInt = x16.toInt)
              refine lv_iadd hx hb dX9_lay_58 ?_
              refine lv_topi (fun x27 ex27 => ?_)
              have tx27 : x27.toInt = 60 * A1 + x16.toInt := (jadd ex27 tx25 rfl (by omega) (by omega)).trans (by omega)
              refine lv_lconst (v := 0) hx hb dX9_lay_59 (by decide) ?_
              refine jastL hx hb hK hP hJ hA hS (jc_54 cI cL ad σ17 τ17) (ja_54 cI cL ad σ17 τ17 _ _) (jin tx27 (by omega) (by omega)) dX9_lay_60 (fun τ28 H locs eτ28 hP hS => ?_)
              obtain ⟨x29, ex29⟩ : ∃ y : Int32, y = x16 + 1 := ⟨_, rfl⟩
              have tx29 : x29.toInt = x16.toInt + 1 := (jadd ex29 rfl jz_1 (by omega) (by omega)).trans (by omega)
              refine lv_iinc (v := x29) (lv' := [(4, .int x29), (0, .ref (ad 50)), (1, .int a1), (2, .int a2), (3, .int a3)]) hx hb dX9_lay_61 hl (k := 0) rfl (by rw [ex29]; rfl) (by decide) rfl (fun ls hl => ?_)
              refine lv_goto (tgt := 42) hx hb dX9_lay_64 (by decide) ?_
              exact ihlp14 x29 σ17 τ28 _ _ ls (by have h90 := tx29; omega) (by have h90 := tx29; omega) (by have h90 := tx29; omega) (fun i hi => by rw [f21 i hi])    hP hS (lv_sub hl [0, 1, 2, 3, 4] rfl)
        exact lp14 1000000 0 σ13 τ _ _ ls (by have h90 := jz_0; omega) (by have h90 := jz_0; omega) (by have h90 := jz_0; omega) (fun _ _ => rfl)   hP hS hl
      · have kc10 := jnle c10 t3 jz_60
        have I30 : jI50 σ := w1
        exact hret σ τ _ _ _ _ ⟨(fun _ _ => rfl), I30, trivial⟩ hP hS dX9_lay_17
  · obtain ⟨q32, k31⟩ := h5
    have q32 := q32.symm
    subst q32
    refine lv_if_ne (tgt := 17) hx hb dX9_lay_4 (by decide) (fun _ => ?_) (fun c => absurd c (by decide))
    have I33 : jI50 σ := w1
    exact hret σ τ _ _ _ _ ⟨(fun _ _ => rfl), I33, trivial⟩ hP hS dX9_lay_17
set_option maxHeartbeats 4000000 in
set_option maxRecDepth 100000 in
theorem c_X9_refusal_50 (l : Launch) (D : va_G) (cI cL : ClassId) (ad zz : Nat → Nat) (hJ : jD ad) (σ : Nat → Nat → Int32) (τ : Nat → Nat → Int64) (a1 : Int32) (A1 : Int) (t1 : a1.toInt = A1) (a2 : Int32) (A2 : Int) (t2 : a2.toInt = A2) (hI50 : jI50 σ) : jM l yX9_refusal cX9_refusal 3 (some .int) ({ frames := 4, cells := 0, slots := 0, locals := 83 }) D cI cL ad zz [.ref (ad 50), .int a1, .int a2] σ τ (fun r σ' τ' => (σ = σ' ∧ τ = τ') ∧ ((r = 0 ∧ (0 ≤ A1 ∧ A1 ≤ 5) ∧ (0 ≤ A2 ∧ A2 ≤ 59)) ∨ (r = (-11) ∧ True) ∨ (r = (-12) ∧ True) ∨ (r = (-13) ∧ True))) := by
  refine jM.of hJ (by decide +kernel) (nt := .int) rfl (Nat.le_of_ble_eq_true rfl) ?_
  intro p e s m args below meth c Q ls hC hret hl hP
  obtain ⟨hx, hb, hr, hml, hown, hts, hK, -, hlocks, hZ⟩ := hC
  have hown : s.vm.findClass RX9 = some m.cls := hown
  have hS : va_S (jA ad) s.heap s.heap [] := va_S.rf
  have hA : ∀ q, jA ad q → jA ad q := fun _ h => h
  have hl : lv_has ls 3 [(0, .ref (ad 50)), (1, .int a1), (2, .int a2)] := hl
  have g1 := jrg t1
  have g2 := jrg t2
  have w1 : ∀ k : Nat, k < 6 → 0 ≤ (σ 52 k).toInt ∧ (σ 52 k).toInt ≤ 60 := hI50
  refine lv_aload_n hx hb dX9_refusal_0 rfl (lv_at hl 0 rfl) ?_
  refine lv_iload_n hx hb dX9_refusal_1 rfl (lv_at hl 1 rfl) ?_
  refine jcallV (As := [.int a1]) (rest := []) ⟨hx, hb, hml, hown, hts⟩ hK hP hA hS hZ (c_X9_isEmpty_50 l D cI cL ad zz hJ σ τ a1 (A1) t1) cw_RX9_33 (jc_50 cI cL ad σ τ) rfl ⟨Nat.le_of_ble_eq_true rfl, Nat.le_of_ble_eq_true rfl⟩ rfl rfl rfl hl.1 rfl (Nat.le_of_ble_eq_true rfl) dX9_refusal_2 ⟨Nat.zero_le _, Nat.zero_le _⟩ (fun r3 σ2 τ2 H locs h2 hP hS => ?_)
  obtain ⟨⟨rfl, rfl⟩, h2⟩ := h2
  rcases h2 with h4 | h5
  · obtain ⟨q7, k6⟩ := h4
    have q7 := q7.symm
    subst q7
    refine lv_if_eq (tgt := 11) hx hb dX9_refusal_5 (by decide) (fun _ => ?_) (fun c => absurd (by decide) c)
    refine lv_aload_n hx hb dX9_refusal_11 rfl (lv_at hl 0 rfl) ?_
    refine lv_iload_n hx hb dX9_refusal_12 rfl (lv_at hl 1 rfl) ?_
    refine jcallV (As := [.int a1]) (rest := []) ⟨hx, hb, hml, hown, hts⟩ hK hP hA hS hZ (c_X9_sortOf_50 l D cI cL ad zz hJ σ τ a1 (A1) t1) cw_RX9_36 (jc_50 cI cL ad σ τ) rfl ⟨Nat.le_of_ble_eq_true rfl, Nat.le_of_ble_eq_true rfl⟩ rfl rfl rfl hl.1 rfl (Nat.le_of_ble_eq_true rfl) dX9_refusal_13 ⟨Nat.zero_le _, Nat.zero_le _⟩ (fun r9 σ8 τ8 H locs h8 hP hS => ?_)
    obtain ⟨⟨rfl, rfl⟩, h8⟩ := h8
    rcases h8 with h10 | h11
    · obtain ⟨q13, k12⟩ := h10
      refine lv_iconst (v := (-1)) hx hb dX9_refusal_16 (by decide) ?_
      refine lv_icmp_ne (tgt := 23) hx hb dX9_refusal_17 (by decide) (fun c14 => ?_) (fun c14 => ?_)
      · have kc14 := jne c14 rfl jz_m1
        refine lv_iload_n hx hb dX9_refusal_23 rfl (lv_at hl 2 rfl) ?_
        refine lv_if_lt (tgt := 36) hx hb dX9_refusal_24 (by decide) (fun c15 => ?_) (fun c15 => ?_)
        · have kc15 := jlt c15 t2 jz_0
          refine lv_bipush (v := (-13)) hx hb dX9_refusal_36 (by decide) ?_
          refine lv_goto (tgt := 42) hx hb dX9_refusal_38 (by decide) ?_
          exact hret (-13) σ τ _ _ _ _ rfl ⟨⟨rfl, rfl⟩, Or.inr (Or.inr (Or.inr (⟨rfl, trivial⟩)))⟩ hP hS dX9_refusal_42
        · have kc15 := jnlt c15 t2 jz_0
          refine lv_iload_n hx hb dX9_refusal_27 rfl (lv_at hl 2 rfl) ?_
          refine lv_aload_n hx hb dX9_refusal_28 rfl (lv_at hl 0 rfl) ?_
          refine lv_iload_n hx hb dX9_refusal_29 rfl (lv_at hl 1 rfl) ?_
          have I16 : jI50 σ := w1
          refine jcallV (As := [.int a1]) (rest := [.int a2]) ⟨hx, hb, hml, hown, hts⟩ hK hP hA hS hZ (c_X9_lengthOf_50 l D cI cL ad zz hJ σ τ a1 (A1) t1 I16) cw_RX9_46 (jc_50 cI cL ad σ τ) rfl ⟨Nat.le_of_ble_eq_true rfl, Nat.le_of_ble_eq_true rfl⟩ rfl rfl rfl hl.1 rfl (Nat.le_of_ble_eq_true rfl) dX9_refusal_30 ⟨Nat.zero_le _, Nat.zero_le _⟩ (fun r18 σ17 τ17 H locs h17 hP hS => ?_)
          obtain ⟨⟨rfl, rfl⟩, h17⟩ := h17
          rcases h17 with h19 | h20
          · obtain ⟨q23, k21, k22⟩ := h19
            refine lv_icmp_lt (tgt := 41) hx hb dX9_refusal_33 (by decide) (fun c24 => ?_) (fun c24 => ?_)
            · have kc24 := jlt c24 t2 rfl
              refine lv_iconst (v := 0) hx hb dX9_refusal_41 (by decide) ?_
              exact hret 0 σ τ _ _ _ _ rfl ⟨⟨rfl, rfl⟩, Or.inl ⟨rfl, (by have h9 := jz_0; omega), (by have h9 := jz_0; omega)⟩⟩ hP hS dX9_refusal_42
            · have kc24 := jnlt c24 t2 rfl
              refine lv_bipush (v := (-13)) hx hb dX9_refusal_36 (by decide) ?_
              refine lv_goto (tgt := 42) hx hb dX9_refusal_38 (by decide) ?_
              exact hret (-13) σ τ _ _ _ _ rfl ⟨⟨rfl, rfl⟩, Or.inr (Or.inr (Or.inr (⟨rfl, trivial⟩)))⟩ hP hS dX9_refusal_42
          · obtain ⟨q26, k25⟩ := h20
            have q26 := q26.symm
            subst q26
            refine lv_icmp_lt (tgt := 41) hx hb dX9_refusal_33 (by decide) (fun c => absurd (jlt c t2 jz_0) (by omega)) (fun c27 => ?_)
            have kc27 := jnlt c27 t2 jz_0
            refine lv_bipush (v := (-13)) hx hb dX9_refusal_36 (by decide) ?_
            refine lv_goto (tgt := 42) hx hb dX9_refusal_38 (by decide) ?_
            exact hret (-13) σ τ _ _ _ _ rfl ⟨⟨rfl, rfl⟩, Or.inr (Or.inr (Or.inr (⟨rfl, trivial⟩)))⟩ hP hS dX9_refusal_42
      · have kc14 := jeq c14 rfl jz_m1
        refine lv_bipush (v := (-12)) hx hb dX9_refusal_20 (by decide) ?_
        exact hret (-12) σ τ _ _ _ _ rfl ⟨⟨rfl, rfl⟩, Or.inr (Or.inr (Or.inl ⟨rfl, trivial⟩))⟩ hP hS dX9_refusal_22
    · obtain ⟨q29, k28⟩ := h11
      have q29 := q29.symm
      subst q29
      refine lv_iconst (v := (-1)) hx hb dX9_refusal_16 (by decide) ?_
      refine lv_icmp_ne (tgt := 23) hx hb dX9_refusal_17 (by decide) (fun c => absurd (by decide) c) (fun _ => ?_)
      refine lv_bipush (v := (-12)) hx hb dX9_refusal_20 (by decide) ?_
      exact hret (-12) σ τ _ _ _ _ rfl ⟨⟨rfl, rfl⟩, Or.inr (Or.inr (Or.inl ⟨rfl, trivial⟩))⟩ hP hS dX9_refusal_22
  · obtain ⟨q31, k30⟩ := h5
    have q31 := q31.symm
    subst q31
    refine lv_if_eq (tgt := 11) hx hb dX9_refusal_5 (by decide) (fun c => absurd c (by decide)) (fun _ => ?_)
    refine lv_bipush (v := (-11)) hx hb dX9_refusal_8 (by decide) ?_
    exact hret (-11) σ τ _ _ _ _ rfl ⟨⟨rfl, rfl⟩, Or.inr (Or.inl ⟨rfl, trivial⟩)⟩ hP hS dX9_refusal_10
set_option maxHeartbeats 4000000 in
set_option maxRecDepth 100000 in
theorem c_X9_elementAt_50 (l : Launch) (D : va_G) (cI cL : ClassId) (ad zz : Nat → Nat) (hJ : jD ad) (σ : Nat → Nat → Int32) (τ : Nat → Nat → Int64) (a1 : Int32) (A1 : Int) (t1 : a1.toInt = A1) (a2 : Int32) (A2 : Int) (t2 : a2.toInt = A2) (hI50 : jI50 σ) : jMl l yX9_elementAt cX9_elementAt 3 (some .long) ({ frames := 5, cells := 0, slots := 0, locals := 105 }) D cI cL ad zz [.ref (ad 50), .int a1, .int a2] σ τ (fun r σ' τ' => (σ = σ' ∧ τ = τ') ∧ True) := by
  refine jMl.of hJ (by decide +kernel) rfl (Nat.le_of_ble_eq_true rfl) ?_
  intro p e s m args below meth c Q ls hC hret hl hP
  obtain ⟨hx, hb, hr, hml, hown, hts, hK, -, hlocks, hZ⟩ := hC
  have hown : s.vm.findClass RX9 = some m.cls := hown
  have hS : va_S (jA ad) s.heap s.heap [] := va_S.rf
  have hA : ∀ q, jA ad q → jA ad q := fun _ h => h
  have hl : lv_has ls 3 [(0, .ref (ad 50)), (1, .int a1), (2, .int a2)] := hl
  have g1 := jrg t1
  have g2 := jrg t2
  have w1 : ∀ k : Nat, k < 6 → 0 ≤ (σ 52 k).toInt ∧ (σ 52 k).toInt ≤ 60 := hI50
  refine lv_aload_n hx hb dX9_elementAt_0 rfl (lv_at hl 0 rfl) ?_
  refine lv_iload_n hx hb dX9_elementAt_1 rfl (lv_at hl 1 rfl) ?_
  refine lv_iload_n hx hb dX9_elementAt_2 rfl (lv_at hl 2 rfl) ?_
  have I2 : jI50 σ := w1
  refine jcallV (As := [.int a1, .int a2]) (rest := []) ⟨hx, hb, hml, hown, hts⟩ hK hP hA hS hZ (c_X9_refusal_50 l D cI cL ad zz hJ σ τ a1 (A1) t1 a2 (A2) t2 I2) cw_RX9_49 (jc_50 cI cL ad σ τ) rfl ⟨Nat.le_of_ble_eq_true rfl, Nat.le_of_ble_eq_true rfl⟩ rfl rfl rfl hl.1 rfl (Nat.le_of_ble_eq_true rfl) dX9_elementAt_3 ⟨Nat.zero_le _, Nat.zero_le _⟩ (fun r4 σ3 τ3 H locs h3 hP hS => ?_)
  obtain ⟨⟨rfl, rfl⟩, h3⟩ := h3
  rcases h3 with h5 | h6 | h7 | h8
  · obtain ⟨q11, k9, k10⟩ := h5
    have q11 := q11.symm
    subst q11
    refine lv_if_ge (tgt := 15) hx hb dX9_elementAt_6 (by decide) (fun _ => ?_) (fun c => absurd (by decide) c)
    refine lv_aload_n hx hb dX9_elementAt_15 rfl (lv_at hl 0 rfl) ?_
    refine va_get (D := D) hx hb hts inlX9 hown hK hP 50 (jc_50 cI cL ad σ τ) rfl 4 (by decide) (hts _ kw_6_20) (fun _ h9 => h9) rfl dX9_elementAt_16 ?_
    refine lv_iload_n hx hb dX9_elementAt_19 rfl (lv_at hl 1 rfl) ?_
    refine lv_bipush (v := 60) hx hb dX9_elementAt_20 (by decide) ?_
    refine lv_imul hx hb dX9_elementAt_22 ?_
    refine lv_topi (fun x12 ex12 => ?_)
    have tx12 : x12.toInt = 60 * A1 := (jmul ex12 t1 jz_60 (by omega) (by omega)).trans (by omega)
    refine lv_iload_n hx hb dX9_elementAt_23 rfl (lv_at hl 2 rfl) ?_
    refine lv_iadd hx hb dX9_elementAt_24 ?_
    refine lv_topi (fun x13 ex13 => ?_)
    have tx13 : x13.toInt = 60 * A1 + A2 := (jadd ex13 tx12 t2 (by omega) (by omega)).trans (by omega)
    refine jaldL hx hb hK hP (jc_54 cI cL ad σ τ) (jin tx13 (by omega) (by omega)) dX9_elementAt_25 ?_
    refine lv_topl (fun lx14 elx14 => ?_)
    exact hret lx14 σ τ _ _ _ _ ⟨⟨rfl, rfl⟩, trivial⟩ hP hS dX9_elementAt_26
  · obtain ⟨q16, k15⟩ := h6
    have q16 := q16.symm
    subst q16
    refine lv_if_ge (tgt := 15) hx hb dX9_elementAt_6 (by decide) (fun c => absurd c (by decide)) (fun _ => ?_)
    refine lv_ldc2 (v := (-9223372036854775808)) hx hb hown (hts _ kw_43_6) dX9_elementAt_9 ?_
    refine lv_goto (tgt := 26) hx hb dX9_elementAt_12 (by decide) ?_
    exact hret (-9223372036854775808) σ τ _ _ _ _ ⟨⟨rfl, rfl⟩, trivial⟩ hP hS dX9_elementAt_26
  · obtain ⟨q18, k17⟩ := h7
    have q18 := q18.symm
    subst q18
    refine lv_if_ge (tgt := 15) hx hb dX9_elementAt_6 (by decide) (fun c => absurd c (by decide)) (fun _ => ?_)
    refine lv_ldc2 (v := (-9223372036854775808)) hx hb hown (hts _ kw_43_6) dX9_elementAt_9 ?_
    refine lv_goto (tgt := 26) hx hb dX9_elementAt_12 (by decide) ?_
    exact hret (-9223372036854775808) σ τ _ _ _ _ ⟨⟨rfl, rfl⟩, trivial⟩ hP hS dX9_elementAt_26
  · obtain ⟨q20, k19⟩ := h8
    have q20 := q20.symm
    subst q20
    refine lv_if_ge (tgt := 15) hx hb dX9_elementAt_6 (by decide) (fun c => absurd c (by decide)) (fun _ => ?_)
    refine lv_ldc2 (v := (-9223372036854775808)) hx hb hown (hts _ kw_43_6) dX9_elementAt_9 ?_
    refine lv_goto (tgt := 26) hx hb dX9_elementAt_12 (by decide) ?_
    exact hret (-9223372036854775808) σ τ _ _ _ _ ⟨⟨rfl, rfl⟩, trivial⟩ hP hS dX9_elementAt_26
set_option maxHeartbeats 4000000 in
set_option maxRecDepth 100000 in
theorem c_X9_cut (l : Launch) (D : va_G) (cI cL : ClassId) (ad zz : Nat → Nat) (hJ : jD ad) (σ : Nat → Nat → Int32) (τ : Nat → Nat → Int64) (a1 : Int32) (A1 : Int) (t1 : a1.toInt = A1) (a2 : Int64) (AL2 : Int) (t2 : a2.toInt = AL2) : jMl l yX9_cut cX9_cut 3 (some .long) ({ frames := 0, cells := 0, slots := 0, locals := 0 }) D cI cL ad zz [.int a1, .long a2] σ τ (fun r σ' τ' => (σ = σ' ∧ τ = τ') ∧ True) := by
  refine jMl.of hJ (by decide +kernel) rfl (Nat.le_of_ble_eq_true rfl) ?_
  intro p e s m args below meth c Q ls hC hret hl hP
  obtain ⟨hx, hb, hr, hml, hown, hts, hK, -, hlocks, hZ⟩ := hC
  have hown : s.vm.findClass RX9 = some m.cls := hown
  have hS : va_S (jA ad) s.heap s.heap [] := va_S.rf
  have hA : ∀ q, jA ad q → jA ad q := fun _ h => h
  have hl : lv_has ls 3 [(0, .int a1), (1, .long a2)] := hl
  have g1 := jrg t1
  have g2 := jrgL t2
  refine lv_iload_n hx hb dX9_cut_0 rfl (lv_at hl 0 rfl) ?_
  by_cases c1 : a1 = 0
  · have kc1 := jeq c1 t1 jz_0
    refine jtopr c1 ?_
    refine lv_tableIn (off := 31) (tgt := 32) hx hb dX9_cut_1 (by decide) (by decide) (by decide) (by decide) ?_
    refine lv_lload_n hx hb dX9_cut_32 rfl (lv_at hl 1 rfl) ?_
    refine lv_l2i hx hb dX9_cut_33 rfl ?_
    refine lv_topi (fun x2 ex2 => ?_)
    have gx2 := jrg (rfl : x2.toInt = x2.toInt)
    refine lv_i2b hx hb dX9_cut_34 rfl ?_
    refine lv_topi (fun x3 ex3 => ?_)
    have gx3 := jrg (rfl : x3.toInt = x3.toInt)
    refine lv_i2l (v := x3.toInt64) hx hb dX9_cut_35 rfl ?_
    exact hret x3.toInt64 σ τ _ _ _ _ ⟨⟨rfl, rfl⟩, trivial⟩ hP hS dX9_cut_36
  have kc1 := jne c1 t1 jz_0
  by_cases c4 : a1 = 1
  · have kc4 := jeq c4 t1 jz_1
    refine jtopr c4 ?_
    refine lv_tableIn (off := 36) (tgt := 37) hx hb dX9_cut_1 (by decide) (by decide) (by decide) (by decide) ?_
    refine lv_lload_n hx hb dX9_cut_37 rfl (lv_at hl 1 rfl) ?_
    refine lv_l2i hx hb dX9_cut_38 rfl ?_
    refine lv_topi (fun x5 ex5 => ?_)
    have gx5 := jrg (rfl : x5.toInt = x5.toInt)
    refine lv_i2s hx hb dX9_cut_39 rfl ?_
    refine lv_topi (fun x6 ex6 => ?_)
    have gx6 := jrg (rfl : x6.toInt = x6.toInt)
    refine lv_i2l (v := x6.toInt64) hx hb dX9_cut_40 rfl ?_
    exact hret x6.toInt64 σ τ _ _ _ _ ⟨⟨rfl, rfl⟩, trivial⟩ hP hS dX9_cut_41
  have kc4 := jne c4 t1 jz_1
  by_cases c7 : a1 = 2
  · have kc7 := jeq c7 t1 jz_2
    refine jtopr c7 ?_
    refine lv_tableIn (off := 41) (tgt := 42) hx hb dX9_cut_1 (by decide) (by decide) (by decide) (by decide) ?_
    refine lv_lload_n hx hb dX9_cut_42 rfl (lv_at hl 1 rfl) ?_
    refine lv_l2i hx hb dX9_cut_43 rfl ?_
    refine lv_topi (fun x8 ex8 => ?_)
    have gx8 := jrg (rfl : x8.toInt = x8.toInt)
    refine lv_i2l (v := x8.toInt64) hx hb dX9_cut_44 rfl ?_
    exact hret x8.toInt64 σ τ _ _ _ _ ⟨⟨rfl, rfl⟩, trivial⟩ hP hS dX9_cut_45
  have kc7 := jne c7 t1 jz_2
  by_cases c9 : a1 = 3
  · have kc9 := jeq c9 t1 jz_3
    refine jtopr c9 ?_
    refine lv_tableIn (off := 45) (tgt := 46) hx hb dX9_cut_1 (by decide) (by decide) (by decide) (by decide) ?_
    refine lv_lload_n hx hb dX9_cut_46 rfl (lv_at hl 1 rfl) ?_
    exact hret a2 σ τ _ _ _ _ ⟨⟨rfl, rfl⟩, trivial⟩ hP hS dX9_cut_47
  have kc9 := jne c9 t1 jz_3
  refine lv_tableOut (tgt := 48) hx hb dX9_cut_1 (by rw [t1]; omega) (by decide) ?_
  refine lv_lload_n hx hb dX9_cut_48 rfl (lv_at hl 1 rfl) ?_
  refine lv_lconst (v := 0) hx hb dX9_cut_49 (by decide) ?_
  refine W.lcmp hx hb dX9_cut_50 ?_
  refine lv_if_eq (tgt := 58) hx hb dX9_cut_51 (by decide) (fun c10 => ?_) (fun c10 => ?_)
  · have kc10 := jceq c10 t2 jzl_0
    refine lv_lconst (v := 0) hx hb dX9_cut_58 (by decide) ?_
    exact hret 0 σ τ _ _ _ _ ⟨⟨rfl, rfl⟩, trivial⟩ hP hS dX9_cut_59
  · have kc10 := jcne c10 t2 jzl_0
    refine lv_lconst (v := 1) hx hb dX9_cut_54 (by decide) ?_
    refine lv_goto (tgt := 59) hx hb dX9_cut_55 (by decide) ?_
    exact hret 1 σ τ _ _ _ _ ⟨⟨rfl, rfl⟩, trivial⟩ hP hS dX9_cut_59
set_option maxHeartbeats 4000000 in
set_option maxRecDepth 100000 in
theorem c_X9_write_50 (l : Launch) (D : va_G) (cI cL : ClassId) (ad zz : Nat → Nat) (hJ : jD ad) (σ : Nat → Nat → Int32) (τ : Nat → Nat → Int64) (a1 : Int32) (A1 : Int) (t1 : a1.toInt = A1) (a2 : Int32) (A2 : Int) (t2 : a2.toInt = A2) (a3 : Int64) (AL3 : Int) (t3 : a3.toInt = AL3) (hI50 : jI50 σ) : jMv l yX9_write cX9_write 5 none ({ frames := 5, cells := 0, slots := 0, locals := 105 }) D cI cL ad zz [.ref (ad 50), .int a1, .int a2, .long a3] σ τ (fun σ' τ' => (∀ i : Nat, (0 = 0) → σ' i = σ i) ∧ True) := by
  refine jMv.of hJ (by decide +kernel) rfl (Nat.le_of_ble_eq_true rfl) ?_
  intro p e s m args below meth c Q ls hC hret hl hP
  obtain ⟨hx, hb, hr, hml, hown, hts, hK, -, hlocks, hZ⟩ := hC
  have hown : s.vm.findClass RX9 = some m.cls := hown
  have hS : va_S (jA ad) s.heap s.heap [] := va_S.rf
  have hA : ∀ q, jA ad q → jA ad q := fun _ h => h
  have hl : lv_has ls 5 [(0, .ref (ad 50)), (1, .int a1), (2, .int a2), (3, .long a3)] := hl
  have g1 := jrg t1
  have g2 := jrg t2
  have g3 := jrgL t3
  have w1 : ∀ k : Nat, k < 6 → 0 ≤ (σ 52 k).toInt ∧ (σ 52 k).toInt ≤ 60 := hI50
  refine lv_aload_n hx hb dX9_write_0 rfl (lv_at hl 0 rfl) ?_
  refine lv_iload_n hx hb dX9_write_1 rfl (lv_at hl 1 rfl) ?_
  refine lv_iload_n hx hb dX9_write_2 rfl (lv_at hl 2 rfl) ?_
  have I2 : jI50 σ := w1
  refine jcallV (As := [.int a1, .int a2]) (rest := []) ⟨hx, hb, hml, hown, hts⟩ hK hP hA hS hZ (c_X9_refusal_50 l D cI cL ad zz hJ σ τ a1 (A1) t1 a2 (A2) t2 I2) cw_RX9_49 (jc_50 cI cL ad σ τ) rfl ⟨Nat.le_of_ble_eq_true rfl, Nat.le_of_ble_eq_true rfl⟩ rfl rfl rfl hl.1 rfl (Nat.le_of_ble_eq_true rfl) dX9_write_3 ⟨Nat.zero_le _, Nat.zero_le _⟩ (fun r4 σ3 τ3 H locs h3 hP hS => ?_)
  obtain ⟨⟨rfl, rfl⟩, h3⟩ := h3
  rcases h3 with h5 | h6 | h7 | h8
  · obtain ⟨q11, k9, k10⟩ := h5
    have q11 := q11.symm
    subst q11
    refine lv_if_ge (tgt := 10) hx hb dX9_write_6 (by decide) (fun _ => ?_) (fun c => absurd (by decide) c)
    refine lv_aload_n hx hb dX9_write_10 rfl (lv_at hl 0 rfl) ?_
    refine va_get (D := D) hx hb hts inlX9 hown hK hP 50 (jc_50 cI cL ad σ τ) rfl 4 (by decide) (hts _ kw_6_20) (fun _ h9 => h9) rfl dX9_write_11 ?_
    refine lv_iload_n hx hb dX9_write_14 rfl (lv_at hl 1 rfl) ?_
    refine lv_bipush (v := 60) hx hb dX9_write_15 (by decide) ?_
    refine lv_imul hx hb dX9_write_17 ?_
    refine lv_topi (fun x12 ex12 => ?_)
    have tx12 : x12.toInt = 60 * A1 := (jmul ex12 t1 jz_60 (by omega) (by omega)).trans (by omega)
    refine lv_iload_n hx hb dX9_write_18 rfl (lv_at hl 2 rfl) ?_
    refine lv_iadd hx hb dX9_write_19 ?_
    refine lv_topi (fun x13 ex13 => ?_)
    have tx13 : x13.toInt = 60 * A1 + A2 := (jadd ex13 tx12 t2 (by omega) (by omega)).trans (by omega)
    refine lv_aload_n hx hb dX9_write_20 rfl (lv_at hl 0 rfl) ?_
    refine va_get (D := D) hx hb hts inlX9 hown hK hP 50 (jc_50 cI cL ad σ τ) rfl 1 (by decide) (hts _ kw_6_16) (fun _ h9 => h9) rfl dX9_write_21 ?_
    refine lv_iload_n hx hb dX9_write_24 rfl (lv_at hl 1 rfl) ?_
    refine jald hx hb hK hP (jc_51 cI cL ad σ τ) (jin t1 (by omega) (by omega)) dX9_write_25 ?_
    refine lv_topi (fun x14 ex14 => ?_)
    refine lv_lload_n hx hb dX9_write_26 rfl (lv_at hl 3 rfl) ?_
    refine jcallSl (As := [.int x14, .long a3]) (rest := [.int x13, .ref (ad 54)]) ⟨hx, hb, hml, hown, hts⟩ hK hP hA hS hZ (c_X9_cut l D cI cL ad zz hJ σ τ x14 (x14.toInt) rfl a3 (AL3) t3) cw_RX9_57 ⟨Nat.le_of_ble_eq_true rfl, Nat.le_of_ble_eq_true rfl⟩ rfl rfl rfl hl.1 rfl (Nat.le_of_ble_eq_true rfl) dX9_write_27 ⟨Nat.zero_le _, Nat.zero_le _⟩ (fun lxr16 σ15 τ15 H locs h15 hP hS => ?_)
    obtain ⟨⟨rfl, rfl⟩, h15⟩ := h15
    refine jastL hx hb hK hP hJ hA hS (jc_54 cI cL ad σ τ) (ja_54 cI cL ad σ τ _ _) (jin tx13 (by omega) (by omega)) dX9_write_30 (fun τ17 H locs eτ17 hP hS => ?_)
    exact hret σ τ17 _ _ _ _ ⟨(fun _ _ => rfl), trivial⟩ hP hS dX9_write_31
  · obtain ⟨q19, k18⟩ := h6
    have q19 := q19.symm
    subst q19
    refine lv_if_ge (tgt := 10) hx hb dX9_write_6 (by decide) (fun c => absurd c (by decide)) (fun _ => ?_)
    exact hret σ τ _ _ _ _ ⟨(fun _ _ => rfl), trivial⟩ hP hS dX9_write_9
  · obtain ⟨q21, k20⟩ := h7
    have q21 := q21.symm
    subst q21
    refine lv_if_ge (tgt := 10) hx hb dX9_write_6 (by decide) (fun c => absurd c (by decide)) (fun _ => ?_)
    exact hret σ τ _ _ _ _ ⟨(fun _ _ => rfl), trivial⟩ hP hS dX9_write_9
  · obtain ⟨q23, k22⟩ := h8
    have q23 := q23.symm
    subst q23
    refine lv_if_ge (tgt := 10) hx hb dX9_write_6 (by decide) (fun c => absurd c (by decide)) (fun _ => ?_)
    exact hret σ τ _ _ _ _ ⟨(fun _ _ => rfl), trivial⟩ hP hS dX9_write_9
set_option maxHeartbeats 4000000 in
set_option maxRecDepth 100000 in
theorem c_X9_move_50 (l : Launch) (D : va_G) (cI cL : ClassId) (ad zz : Nat → Nat) (hJ : jD ad) (σ : Nat → Nat → Int32) (τ : Nat → Nat → Int64) (a1 : Int32) (A1 : Int) (t1 : a1.toInt = A1) (a2 : Int32) (A2 : Int) (t2 : a2.toInt = A2) (a3 : Int32) (A3 : Int) (t3 : a3.toInt = A3) (a4 : Int32) (A4 : Int) (t4 : a4.toInt = A4) (a5 : Int32) (A5 : Int) (t5 : a5.toInt = A5) (hI50 : jI50 σ) (hp0 : 0 ≤ A1 ∧ A1 ≤ 5) (hp1 : 0 ≤ A3 ∧ A3 ≤ 5) : jMv l yX9_move cX9_move 6 none ({ frames := 4, cells := 0, slots := 0, locals := 83 }) D cI cL ad zz [.ref (ad 50), .int a1, .int a2, .int a3, .int a4, .int a5] σ τ (fun σ' τ' => (∀ i : Nat, (0 = 0) → σ' i = σ i) ∧ True) := by
  refine jMv.of hJ (by decide +kernel) rfl (Nat.le_of_ble_eq_true rfl) ?_
  intro p e s m args below meth c Q ls hC hret hl hP
  obtain ⟨hx, hb, hr, hml, hown, hts, hK, -, hlocks, hZ⟩ := hC
  have hown : s.vm.findClass RX9 = some m.cls := hown
  have hS : va_S (jA ad) s.heap s.heap [] := va_S.rf
  have hA : ∀ q, jA ad q → jA ad q := fun _ h => h
  have hl : lv_has ls 6 [(0, .ref (ad 50)), (1, .int a1), (2, .int a2), (3, .int a3), (4, .int a4), (5, .int a5)] := hl
  have g1 := jrg t1
  have g2 := jrg t2
  have g3 := jrg t3
  have g4 := jrg t4
  have g5 := jrg t5
  have w1 : ∀ k : Nat, k < 6 → 0 ≤ (σ 52 k).toInt ∧ (σ 52 k).toInt ≤ 60 := hI50
  refine lv_iload hx hb dX9_move_0 (lv_at hl 5 rfl) ?_
  refine lv_if_lt (tgt := 39) hx hb dX9_move_2 (by decide) (fun c2 => ?_) (fun c2 => ?_)
  · have kc2 := jlt c2 t5 jz_0
    exact hret σ τ _ _ _ _ ⟨(fun _ _ => rfl), trivial⟩ hP hS dX9_move_39
  · have kc2 := jnlt c2 t5 jz_0
    refine lv_iload_n hx hb dX9_move_5 rfl (lv_at hl 2 rfl) ?_
    refine lv_if_lt (tgt := 39) hx hb dX9_move_6 (by decide) (fun c3 => ?_) (fun c3 => ?_)
    · have kc3 := jlt c3 t2 jz_0
      exact hret σ τ _ _ _ _ ⟨(fun _ _ => rfl), trivial⟩ hP hS dX9_move_39
    · have kc3 := jnlt c3 t2 jz_0
      refine lv_iload hx hb dX9_move_9 (lv_at hl 4 rfl) ?_
      refine lv_if_lt (tgt := 39) hx hb dX9_move_11 (by decide) (fun c4 => ?_) (fun c4 => ?_)
      · have kc4 := jlt c4 t4 jz_0
        exact hret σ τ _ _ _ _ ⟨(fun _ _ => rfl), trivial⟩ hP hS dX9_move_39
      · have kc4 := jnlt c4 t4 jz_0
        refine lv_iload hx hb dX9_move_14 (lv_at hl 5 rfl) ?_
        refine lv_aload_n hx hb dX9_move_16 rfl (lv_at hl 0 rfl) ?_
        refine lv_iload_n hx hb dX9_move_17 rfl (lv_at hl 1 rfl) ?_
        have I5 : jI50 σ := w1
        refine jcallV (As := [.int a1]) (rest := [.int a5]) ⟨hx, hb, hml, hown, hts⟩ hK hP hA hS hZ (c_X9_lengthOf_50 l D cI cL ad zz hJ σ τ a1 (A1) t1 I5) cw_RX9_46 (jc_50 cI cL ad σ τ) rfl ⟨Nat.le_of_ble_eq_true rfl, Nat.le_of_ble_eq_true rfl⟩ rfl rfl rfl hl.1 rfl (Nat.le_of_ble_eq_true rfl) dX9_move_18 ⟨Nat.zero_le _, Nat.zero_le _⟩ (fun r7 σ6 τ6 H locs h6 hP hS => ?_)
        obtain ⟨⟨rfl, rfl⟩, h6⟩ := h6
        rcases h6 with h8 | h9
        · obtain ⟨q12, k10, k11⟩ := h8
          refine lv_iload_n hx hb dX9_move_21 rfl (lv_at hl 2 rfl) ?_
          have g13 := jrg (rfl : r7.toInt = r7.toInt)
          refine lv_isub hx hb dX9_move_22 ?_
          refine lv_topi (fun x14 ex14 => ?_)
          have tx14 : x14.toInt = r7.toInt - A2 := (jsub ex14 rfl t2 (by omega) (by omega)).trans (by omega)
          refine lv_icmp_gt (tgt := 39) hx hb dX9_move_23 (by decide) (fun c15 => ?_) (fun c15 => ?_)
          · have kc15 := jlt c15 tx14 t5
            exact hret σ τ _ _ _ _ ⟨(fun _ _ => rfl), trivial⟩ hP hS dX9_move_39
          · have kc15 := jnlt c15 tx14 t5
            refine lv_iload hx hb dX9_move_26 (lv_at hl 5 rfl) ?_
            refine lv_aload_n hx hb dX9_move_28 rfl (lv_at hl 0 rfl) ?_
            refine lv_iload_n hx hb dX9_move_29 rfl (lv_at hl 3 rfl) ?_
            refine jcallV (As := [.int a3]) (rest := [.int a5]) ⟨hx, hb, hml, hown, hts⟩ hK hP hA hS hZ (c_X9_lengthOf_50 l D cI cL ad zz hJ σ τ a3 (A3) t3 I5) cw_RX9_46 (jc_50 cI cL ad σ τ) rfl ⟨Nat.le_of_ble_eq_true rfl, Nat.le_of_ble_eq_true rfl⟩ rfl rfl rfl hl.1 rfl (Nat.le_of_ble_eq_true rfl) dX9_move_30 ⟨Nat.zero_le _, Nat.zero_le _⟩ (fun r17 σ16 τ16 H locs h16 hP hS => ?_)
            obtain ⟨⟨rfl, rfl⟩, h16⟩ := h16
            rcases h16 with h18 | h19
            · obtain ⟨q22, k20, k21⟩ := h18
              refine lv_iload hx hb dX9_move_33 (lv_at hl 4 rfl) ?_
              have g23 := jrg (rfl : r17.toInt = r17.toInt)
              refine lv_isub hx hb dX9_move_35 ?_
              refine lv_topi (fun x24 ex24 => ?_)
              have tx24 : x24.toInt = r17.toInt - A4 := (jsub ex24 rfl t4 (by omega) (by omega)).trans (by omega)
              refine lv_icmp_le (tgt := 40) hx hb dX9_move_36 (by decide) (fun c25 => ?_) (fun c25 => ?_)
              · have kc25 := jle c25 t5 tx24
                refine lv_aload_n hx hb dX9_move_40 rfl (lv_at hl 0 rfl) ?_
                refine va_get (D := D) hx hb hts inlX9 hown hK hP 50 (jc_50 cI cL ad σ τ) rfl 4 (by decide) (hts _ kw_6_20) (fun _ h9 => h9) rfl dX9_move_41 ?_
                refine lv_iload_n hx hb dX9_move_44 rfl (lv_at hl 1 rfl) ?_
                refine lv_bipush (v := 60) hx hb dX9_move_45 (by decide) ?_
                refine lv_imul hx hb dX9_move_47 ?_
                refine lv_topi (fun x26 ex26 => ?_)
                have tx26 : x26.toInt = 60 * A1 := (jmul ex26 t1 jz_60 (by omega) (by omega)).trans (by omega)
                refine lv_iload_n hx hb dX9_move_48 rfl (lv_at hl 2 rfl) ?_
                refine lv_iadd hx hb dX9_move_49 ?_
                refine lv_topi (fun x27 ex27 => ?_)
                have tx27 : x27.toInt = 60 * A1 + A2 := (jadd ex27 tx26 t2 (by omega) (by omega)).trans (by omega)
                refine lv_aload_n hx hb dX9_move_50 rfl (lv_at hl 0 rfl) ?_
                refine va_get (D := D) hx hb hts inlX9 hown hK hP 50 (jc_50 cI cL ad σ τ) rfl 4 (by decide) (hts _ kw_6_20) (fun _ h9 => h9) rfl dX9_move_51 ?_
                refine lv_iload_n hx hb dX9_move_54 rfl (lv_at hl 3 rfl) ?_
                refine lv_bipush (v := 60) hx hb dX9_move_55 (by decide) ?_
                refine lv_imul hx hb dX9_move_57 ?_
                refine lv_topi (fun x28 ex28 => ?_)
                have tx28 : x28.toInt = 60 * A3 := (jmul ex28 t3 jz_60 (by omega) (by omega)).trans (by omega)
                refine lv_iload hx hb dX9_move_58 (lv_at hl 4 rfl) ?_
                refine lv_iadd hx hb dX9_move_60 ?_
                refine lv_topi (fun x29 ex29 => ?_)
                have tx29 : x29.toInt = 60 * A3 + A4 := (jadd ex29 tx28 t4 (by omega) (by omega)).trans (by omega)
                refine lv_iload hx hb dX9_move_61 (lv_at hl 5 rfl) ?_
                refine jcpyL (q0 := 54) (q1 := 54) hx hb (hml.trans hl.1.symm) hown (hts _ kw_53_12) (hts _ kw_13_23) (hts _ kw_14_0) (hts _ kw_14_1) hK hP hJ hA hS (jc_54 cI cL ad σ τ) (jc_54 cI cL ad σ τ) (fun _ => rfl) tx27 tx29 t5 (by omega) (by omega) (by omega) (by omega) (by omega) (Nat.le_of_ble_eq_true rfl) (Nat.le_of_ble_eq_true rfl) dX9_move_63 (fun τ30 H locs eτ30 hP hS => ?_)
                exact hret σ τ30 _ _ _ _ ⟨(fun _ _ => rfl), trivial⟩ hP hS dX9_move_66
              · have kc25 := jnle c25 t5 tx24
                exact hret σ τ _ _ _ _ ⟨(fun _ _ => rfl), trivial⟩ hP hS dX9_move_39
            · obtain ⟨q32, k31⟩ := h19
              have q32 := q32.symm
              subst q32
              refine lv_iload hx hb dX9_move_33 (lv_at hl 4 rfl) ?_
              refine lv_isub hx hb dX9_move_35 ?_
              refine lv_topi (fun x33 ex33 => ?_)
              have tx33 : x33.toInt = -A4 := (jsub ex33 jz_0 t4 (by omega) (by omega)).trans (by omega)
              refine lv_icmp_le (tgt := 40) hx hb dX9_move_36 (by decide) (fun c34 => ?_) (fun c34 => ?_)
              · have kc34 := jle c34 t5 tx33
                refine lv_aload_n hx hb dX9_move_40 rfl (lv_at hl 0 rfl) ?_
                refine va_get (D := D) hx hb hts inlX9 hown hK hP 50 (jc_50 cI cL ad σ τ) rfl 4 (by decide) (hts _ kw_6_20) (fun _ h9 => h9) rfl dX9_move_41 ?_
                refine lv_iload_n hx hb dX9_move_44 rfl (lv_at hl 1 rfl) ?_
                refine lv_bipush (v := 60) hx hb dX9_move_45 (by decide) ?_
                refine lv_imul hx hb dX9_move_47 ?_
                refine lv_topi (fun x35 ex35 => ?_)
                have tx35 : x35.toInt = 60 * A1 := (jmul ex35 t1 jz_60 (by omega) (by omega)).trans (by omega)
                refine lv_iload_n hx hb dX9_move_48 rfl (lv_at hl 2 rfl) ?_
                refine lv_iadd hx hb dX9_move_49 ?_
                refine lv_topi (fun x36 ex36 => ?_)
                have tx36 : x36.toInt = 60 * A1 + A2 := (jadd ex36 tx35 t2 (by omega) (by omega)).trans (by omega)
                refine lv_aload_n hx hb dX9_move_50 rfl (lv_at hl 0 rfl) ?_
                refine va_get (D := D) hx hb hts inlX9 hown hK hP 50 (jc_50 cI cL ad σ τ) rfl 4 (by decide) (hts _ kw_6_20) (fun _ h9 => h9) rfl dX9_move_51 ?_
                refine lv_iload_n hx hb dX9_move_54 rfl (lv_at hl 3 rfl) ?_
                refine lv_bipush (v := 60) hx hb dX9_move_55 (by decide) ?_
                refine lv_imul hx hb dX9_move_57 ?_
                refine lv_topi (fun x37 ex37 => ?_)
                have tx37 : x37.toInt = 60 * A3 := (jmul ex37 t3 jz_60 (by omega) (by omega)).trans (by omega)
                refine lv_iload hx hb dX9_move_58 (lv_at hl 4 rfl) ?_
                refine lv_iadd hx hb dX9_move_60 ?_
                refine lv_topi (fun x38 ex38 => ?_)
                have tx38 : x38.toInt = 60 * A3 + A4 := (jadd ex38 tx37 t4 (by omega) (by omega)).trans (by omega)
                refine lv_iload hx hb dX9_move_61 (lv_at hl 5 rfl) ?_
                refine jcpyL (q0 := 54) (q1 := 54) hx hb (hml.trans hl.1.symm) hown (hts _ kw_53_12) (hts _ kw_13_23) (hts _ kw_14_0) (hts _ kw_14_1) hK hP hJ hA hS (jc_54 cI cL ad σ τ) (jc_54 cI cL ad σ τ) (fun _ => rfl) tx36 tx38 t5 (by omega) (by omega) (by omega) (by omega) (by omega) (Nat.le_of_ble_eq_true rfl) (Nat.le_of_ble_eq_true rfl) dX9_move_63 (fun τ39 H locs eτ39 hP hS => ?_)
                exact hret σ τ39 _ _ _ _ ⟨(fun _ _ => rfl), trivial⟩ hP hS dX9_move_66
              · have kc34 := jnle c34 t5 tx33
                exact hret σ τ _ _ _ _ ⟨(fun _ _ => rfl), trivial⟩ hP hS dX9_move_39
        · obtain ⟨q41, k40⟩ := h9
          have q41 := q41.symm
          subst q41
          refine lv_iload_n hx hb dX9_move_21 rfl (lv_at hl 2 rfl) ?_
          refine lv_isub hx hb dX9_move_22 ?_
          refine lv_topi (fun x42 ex42 => ?_)
          have tx42 : x42.toInt = -A2 := (jsub ex42 jz_0 t2 (by omega) (by omega)).trans (by omega)
          refine lv_icmp_gt (tgt := 39) hx hb dX9_move_23 (by decide) (fun c43 => ?_) (fun c43 => ?_)
          · have kc43 := jlt c43 tx42 t5
            exact hret σ τ _ _ _ _ ⟨(fun _ _ => rfl), trivial⟩ hP hS dX9_move_39
          · have kc43 := jnlt c43 tx42 t5
            refine lv_iload hx hb dX9_move_26 (lv_at hl 5 rfl) ?_
            refine lv_aload_n hx hb dX9_move_28 rfl (lv_at hl 0 rfl) ?_
            refine lv_iload_n hx hb dX9_move_29 rfl (lv_at hl 3 rfl) ?_
            refine jcallV (As := [.int a3]) (rest := [.int a5]) ⟨hx, hb, hml, hown, hts⟩ hK hP hA hS hZ (c_X9_lengthOf_50 l D cI cL ad zz hJ σ τ a3 (A3) t3 I5) cw_RX9_46 (jc_50 cI cL ad σ τ) rfl ⟨Nat.le_of_ble_eq_true rfl, Nat.le_of_ble_eq_true rfl⟩ rfl rfl rfl hl.1 rfl (Nat.le_of_ble_eq_true rfl) dX9_move_30 ⟨Nat.zero_le _, Nat.zero_le _⟩ (fun r45 σ44 τ44 H locs h44 hP hS => ?_)
            obtain ⟨⟨rfl, rfl⟩, h44⟩ := h44
            rcases h44 with h46 | h47
            · obtain ⟨q50, k48, k49⟩ := h46
              refine lv_iload hx hb dX9_move_33 (lv_at hl 4 rfl) ?_
              have g51 := jrg (rfl : r45.toInt = r45.toInt)
              refine lv_isub hx hb dX9_move_35 ?_
              refine lv_topi (fun x52 ex52 => ?_)
              have tx52 : x52.toInt = r45.toInt - A4 := (jsub ex52 rfl t4 (by omega) (by omega)).trans (by omega)
              refine lv_icmp_le (tgt := 40) hx hb dX9_move_36 (by decide) (fun c53 => ?_) (fun c53 => ?_)
              · have kc53 := jle c53 t5 tx52
                refine lv_aload_n hx hb dX9_move_40 rfl (lv_at hl 0 rfl) ?_
                refine va_get (D := D) hx hb hts inlX9 hown hK hP 50 (jc_50 cI cL ad σ τ) rfl 4 (by decide) (hts _ kw_6_20) (fun _ h9 => h9) rfl dX9_move_41 ?_
                refine lv_iload_n hx hb dX9_move_44 rfl (lv_at hl 1 rfl) ?_
                refine lv_bipush (v := 60) hx hb dX9_move_45 (by decide) ?_
                refine lv_imul hx hb dX9_move_47 ?_
                refine lv_topi (fun x54 ex54 => ?_)
                have tx54 : x54.toInt = 60 * A1 := (jmul ex54 t1 jz_60 (by omega) (by omega)).trans (by omega)
                refine lv_iload_n hx hb dX9_move_48 rfl (lv_at hl 2 rfl) ?_
                refine lv_iadd hx hb dX9_move_49 ?_
                refine lv_topi (fun x55 ex55 => ?_)
                have tx55 : x55.toInt = 60 * A1 + A2 := (jadd ex55 tx54 t2 (by omega) (by omega)).trans (by omega)
                refine lv_aload_n hx hb dX9_move_50 rfl (lv_at hl 0 rfl) ?_
                refine va_get (D := D) hx hb hts inlX9 hown hK hP 50 (jc_50 cI cL ad σ τ) rfl 4 (by decide) (hts _ kw_6_20) (fun _ h9 => h9) rfl dX9_move_51 ?_
                refine lv_iload_n hx hb dX9_move_54 rfl (lv_at hl 3 rfl) ?_
                refine lv_bipush (v := 60) hx hb dX9_move_55 (by decide) ?_
                refine lv_imul hx hb dX9_move_57 ?_
                refine lv_topi (fun x56 ex56 => ?_)
                have tx56 : x56.toInt = 60 * A3 := (jmul ex56 t3 jz_60 (by omega) (by omega)).trans (by omega)
                refine lv_iload hx hb dX9_move_58 (lv_at hl 4 rfl) ?_
                refine lv_iadd hx hb dX9_move_60 ?_
                refine lv_topi (fun x57 ex57 => ?_)
                have tx57 : x57.toInt = 60 * A3 + A4 := (jadd ex57 tx56 t4 (by omega) (by omega)).trans (by omega)
                refine lv_iload hx hb dX9_move_61 (lv_at hl 5 rfl) ?_
                refine jcpyL (q0 := 54) (q1 := 54) hx hb (hml.trans hl.1.symm) hown (hts _ kw_53_12) (hts _ kw_13_23) (hts _ kw_14_0) (hts _ kw_14_1) hK hP hJ hA hS (jc_54 cI cL ad σ τ) (jc_54 cI cL ad σ τ) (fun _ => rfl) tx55 tx57 t5 (by omega) (by omega) (by omega) (by omega) (by omega) (Nat.le_of_ble_eq_true rfl) (Nat.le_of_ble_eq_true rfl) dX9_move_63 (fun τ58 H locs eτ58 hP hS => ?_)
                exact hret σ τ58 _ _ _ _ ⟨(fun _ _ => rfl), trivial⟩ hP hS dX9_move_66
              · have kc53 := jnle c53 t5 tx52
                exact hret σ τ _ _ _ _ ⟨(fun _ _ => rfl), trivial⟩ hP hS dX9_move_39
            · obtain ⟨q60, k59⟩ := h47
              have q60 := q60.symm
              subst q60
              refine lv_iload hx hb dX9_move_33 (lv_at hl 4 rfl) ?_
              refine lv_isub hx hb dX9_move_35 ?_
              refine lv_topi (fun x61 ex61 => ?_)
              have tx61 : x61.toInt = -A4 := (jsub ex61 jz_0 t4 (by omega) (by omega)).trans (by omega)
              refine lv_icmp_le (tgt := 40) hx hb dX9_move_36 (by decide) (fun c62 => ?_) (fun c62 => ?_)
              · have kc62 := jle c62 t5 tx61
                refine lv_aload_n hx hb dX9_move_40 rfl (lv_at hl 0 rfl) ?_
                refine va_get (D := D) hx hb hts inlX9 hown hK hP 50 (jc_50 cI cL ad σ τ) rfl 4 (by decide) (hts _ kw_6_20) (fun _ h9 => h9) rfl dX9_move_41 ?_
                refine lv_iload_n hx hb dX9_move_44 rfl (lv_at hl 1 rfl) ?_
                refine lv_bipush (v := 60) hx hb dX9_move_45 (by decide) ?_
                refine lv_imul hx hb dX9_move_47 ?_
                refine lv_topi (fun x63 ex63 => ?_)
                have tx63 : x63.toInt = 60 * A1 := (jmul ex63 t1 jz_60 (by omega) (by omega)).trans (by omega)
                refine lv_iload_n hx hb dX9_move_48 rfl (lv_at hl 2 rfl) ?_
                refine lv_iadd hx hb dX9_move_49 ?_
                refine lv_topi (fun x64 ex64 => ?_)
                have tx64 : x64.toInt = 60 * A1 + A2 := (jadd ex64 tx63 t2 (by omega) (by omega)).trans (by omega)
                refine lv_aload_n hx hb dX9_move_50 rfl (lv_at hl 0 rfl) ?_
                refine va_get (D := D) hx hb hts inlX9 hown hK hP 50 (jc_50 cI cL ad σ τ) rfl 4 (by decide) (hts _ kw_6_20) (fun _ h9 => h9) rfl dX9_move_51 ?_
                refine lv_iload_n hx hb dX9_move_54 rfl (lv_at hl 3 rfl) ?_
                refine lv_bipush (v := 60) hx hb dX9_move_55 (by decide) ?_
                refine lv_imul hx hb dX9_move_57 ?_
                refine lv_topi (fun x65 ex65 => ?_)
                have tx65 : x65.toInt = 60 * A3 := (jmul ex65 t3 jz_60 (by omega) (by omega)).trans (by omega)
                refine lv_iload hx hb dX9_move_58 (lv_at hl 4 rfl) ?_
                refine lv_iadd hx hb dX9_move_60 ?_
                refine lv_topi (fun x66 ex66 => ?_)
                have tx66 : x66.toInt = 60 * A3 + A4 := (jadd ex66 tx65 t4 (by omega) (by omega)).trans (by omega)
                refine lv_iload hx hb dX9_move_61 (lv_at hl 5 rfl) ?_
                refine jcpyL (q0 := 54) (q1 := 54) hx hb (hml.trans hl.1.symm) hown (hts _ kw_53_12) (hts _ kw_13_23) (hts _ kw_14_0) (hts _ kw_14_1) hK hP hJ hA hS (jc_54 cI cL ad σ τ) (jc_54 cI cL ad σ τ) (fun _ => rfl) tx64 tx66 t5 (by omega) (by omega) (by omega) (by omega) (by omega) (Nat.le_of_ble_eq_true rfl) (Nat.le_of_ble_eq_true rfl) dX9_move_63 (fun τ67 H locs eτ67 hP hS => ?_)
                exact hret σ τ67 _ _ _ _ ⟨(fun _ _ => rfl), trivial⟩ hP hS dX9_move_66
              · have kc62 := jnle c62 t5 tx61
                exact hret σ τ _ _ _ _ ⟨(fun _ _ => rfl), trivial⟩ hP hS dX9_move_39
