set_option maxHeartbeats 4000000 in
set_option maxRecDepth 100000 in
theorem c_X4_at_2 (l : Launch) (D : va_G) (cI cL : ClassId) (ad : Nat → Nat) (hJ : jD ad) (σ : Nat → Nat → Int32) (τ : Nat → Nat → Int64) (a1 : Int32) (A1 : Int) (t1 : a1.toInt = A1) (ha3 : ∀ k : Nat, σ 3 k = 0) : jM l yX4_at cX4_at 2 (some .int) ({ frames := 0, cells := 0, slots := 0, locals := 0 }) D cI cL ad [.ref (ad 2), .int a1] σ τ (fun r σ' τ' => (σ = σ' ∧ τ = τ') ∧ ((r = 0 ∧ True))) := by
  refine jM.of hJ (by decide +kernel) (nt := .int) rfl (Nat.le_of_ble_eq_true rfl) ?_
  intro p e s m args below meth c Q ls hC hret hl hP
  obtain ⟨hx, hb, hr, hml, hown, hts, hK, -, hlocks⟩ := hC
  have hown : s.vm.findClass RX4 = some m.cls := hown
  have hS : va_S (jA ad) s.heap s.heap [] := va_S.rf
  have hA : ∀ q, jA ad q → jA ad q := fun _ h => h
  have hl : lv_has ls 2 [(0, .ref (ad 2)), (1, .int a1)] := hl
  have g1 := jrg t1
  refine lv_iload_n hx hb dX4_at_0 rfl (lv_at hl 1 rfl) ?_
  refine lv_if_lt (tgt := 10) hx hb dX4_at_1 (by decide) (fun c1 => ?_) (fun c1 => ?_)
  · have kc1 := jlt c1 t1 jz_0
    refine lv_iconst (v := 0) hx hb dX4_at_10 (by decide) ?_
    refine lv_goto (tgt := 20) hx hb dX4_at_11 (by decide) ?_
    exact hret 0 σ τ _ _ _ _ rfl ⟨⟨rfl, rfl⟩, ⟨rfl, trivial⟩⟩ hP hS dX4_at_20
  · have kc1 := jnlt c1 t1 jz_0
    refine lv_iload_n hx hb dX4_at_4 rfl (lv_at hl 1 rfl) ?_
    refine lv_bipush (v := 68) hx hb dX4_at_5 (by decide) ?_
    refine lv_icmp_lt (tgt := 14) hx hb dX4_at_7 (by decide) (fun c2 => ?_) (fun c2 => ?_)
    · have kc2 := jlt c2 t1 jz_68
      refine lv_aload_n hx hb dX4_at_14 rfl (lv_at hl 0 rfl) ?_
      refine va_get (D := D) hx hb hts inlX4 hown hK hP 2 (jc_2 cI cL ad σ τ) rfl 4 (by decide) (hts _ kw_3_11) (fun _ h9 => h9) rfl dX4_at_15 ?_
      refine lv_iload_n hx hb dX4_at_18 rfl (lv_at hl 1 rfl) ?_
      refine jald hx hb hK hP (jc_3 cI cL ad σ τ) (jin t1 (by omega) (by omega)) dX4_at_19 ?_
      refine jtopr (ha3 _) ?_
      exact hret 0 σ τ _ _ _ _ rfl ⟨⟨rfl, rfl⟩, ⟨rfl, trivial⟩⟩ hP hS dX4_at_20
    · have kc2 := jnlt c2 t1 jz_68
      refine lv_iconst (v := 0) hx hb dX4_at_10 (by decide) ?_
      refine lv_goto (tgt := 20) hx hb dX4_at_11 (by decide) ?_
      exact hret 0 σ τ _ _ _ _ rfl ⟨⟨rfl, rfl⟩, ⟨rfl, trivial⟩⟩ hP hS dX4_at_20
set_option maxHeartbeats 4000000 in
set_option maxRecDepth 100000 in
theorem c_X4_edgeIn_2 (l : Launch) (D : va_G) (cI cL : ClassId) (ad : Nat → Nat) (hJ : jD ad) (σ : Nat → Nat → Int32) (τ : Nat → Nat → Int64) (a1 : Int32) (A1 : Int) (t1 : a1.toInt = A1) (a2 : Int32) (A2 : Int) (t2 : a2.toInt = A2) (a3 : Int32) (A3 : Int) (t3 : a3.toInt = A3) (ha3 : ∀ k : Nat, σ 3 k = 0) : jM l yX4_edgeIn cX4_edgeIn 4 (some .int) ({ frames := 1, cells := 0, slots := 0, locals := 21 }) D cI cL ad [.ref (ad 2), .int a1, .int a2, .int a3] σ τ (fun r σ' τ' => (σ = σ' ∧ τ = τ') ∧ ((r = 0 ∧ True))) := by
  refine jM.of hJ (by decide +kernel) (nt := .int) rfl (Nat.le_of_ble_eq_true rfl) ?_
  intro p e s m args below meth c Q ls hC hret hl hP
  obtain ⟨hx, hb, hr, hml, hown, hts, hK, -, hlocks⟩ := hC
  have hown : s.vm.findClass RX4 = some m.cls := hown
  have hS : va_S (jA ad) s.heap s.heap [] := va_S.rf
  have hA : ∀ q, jA ad q → jA ad q := fun _ h => h
  have hl : lv_has ls 4 [(0, .ref (ad 2)), (1, .int a1), (2, .int a2), (3, .int a3)] := hl
  have g1 := jrg t1
  have g2 := jrg t2
  have g3 := jrg t3
  refine lv_aload_n hx hb dX4_edgeIn_0 rfl (lv_at hl 0 rfl) ?_
  refine lv_iconst (v := 0) hx hb dX4_edgeIn_1 (by decide) ?_
  refine lv_iload_n hx hb dX4_edgeIn_2 rfl (lv_at hl 2 rfl) ?_
  refine lv_iconst (v := 4) hx hb dX4_edgeIn_3 (by decide) ?_
  refine lv_imul hx hb dX4_edgeIn_4 ?_
  refine lv_topi (fun x1 ex1 => ?_)
  have gx1 := jrg (rfl : x1.toInt = x1.toInt)
  refine lv_iadd hx hb dX4_edgeIn_5 ?_
  refine jtopr (y := x1) (by rw [Int32.zero_add]) ?_
  refine lv_iload_n hx hb dX4_edgeIn_6 rfl (lv_at hl 3 rfl) ?_
  refine lv_iadd hx hb dX4_edgeIn_7 ?_
  refine lv_topi (fun x2 ex2 => ?_)
  have gx2 := jrg (rfl : x2.toInt = x2.toInt)
  refine jcallV (As := [.int x2]) (rest := []) ⟨hx, hb, hml, hown, hts⟩ hK hP hA hS (c_X4_at_2 l D cI cL ad hJ σ τ x2 (x2.toInt) rfl ha3) cw_RX4_34 (jc_2 cI cL ad σ τ) rfl ⟨Nat.le_of_ble_eq_true rfl, Nat.le_of_ble_eq_true rfl⟩ rfl rfl rfl hl.1 rfl (Nat.le_of_ble_eq_true rfl) dX4_edgeIn_8 ⟨Nat.zero_le _, Nat.zero_le _⟩ (fun r4 σ3 τ3 H locs h3 hP hS => ?_)
  obtain ⟨⟨rfl, rfl⟩, h3⟩ := h3
  have h5 := h3
  obtain ⟨q7, k6⟩ := h5
  have q7 := q7.symm
  subst q7
  refine lv_aload_n hx hb dX4_edgeIn_11 rfl (lv_at hl 0 rfl) ?_
  refine lv_bipush (v := 36) hx hb dX4_edgeIn_12 (by decide) ?_
  refine lv_iload_n hx hb dX4_edgeIn_14 rfl (lv_at hl 1 rfl) ?_
  refine lv_iconst (v := 4) hx hb dX4_edgeIn_15 (by decide) ?_
  refine lv_imul hx hb dX4_edgeIn_16 ?_
  refine lv_topi (fun x8 ex8 => ?_)
  have gx8 := jrg (rfl : x8.toInt = x8.toInt)
  refine lv_iadd hx hb dX4_edgeIn_17 ?_
  refine lv_topi (fun x9 ex9 => ?_)
  have gx9 := jrg (rfl : x9.toInt = x9.toInt)
  refine lv_iload_n hx hb dX4_edgeIn_18 rfl (lv_at hl 3 rfl) ?_
  refine lv_iadd hx hb dX4_edgeIn_19 ?_
  refine lv_topi (fun x10 ex10 => ?_)
  have gx10 := jrg (rfl : x10.toInt = x10.toInt)
  refine jcallV (As := [.int x10]) (rest := [.int 0]) ⟨hx, hb, hml, hown, hts⟩ hK hP hA hS (c_X4_at_2 l D cI cL ad hJ σ τ x10 (x10.toInt) rfl ha3) cw_RX4_34 (jc_2 cI cL ad σ τ) rfl ⟨Nat.le_of_ble_eq_true rfl, Nat.le_of_ble_eq_true rfl⟩ rfl rfl rfl hl.1 rfl (Nat.le_of_ble_eq_true rfl) dX4_edgeIn_20 ⟨Nat.zero_le _, Nat.zero_le _⟩ (fun r12 σ11 τ11 H locs h11 hP hS => ?_)
  obtain ⟨⟨rfl, rfl⟩, h11⟩ := h11
  have h13 := h11
  obtain ⟨q15, k14⟩ := h13
  have q15 := q15.symm
  subst q15
  refine lv_iadd hx hb dX4_edgeIn_23 ?_
  refine jtopr (y := 0) (by decide) ?_
  exact hret 0 σ τ _ _ _ _ rfl ⟨⟨rfl, rfl⟩, ⟨rfl, trivial⟩⟩ hP hS dX4_edgeIn_24
set_option maxHeartbeats 4000000 in
set_option maxRecDepth 100000 in
theorem c_X4_runsIn_2 (l : Launch) (D : va_G) (cI cL : ClassId) (ad : Nat → Nat) (hJ : jD ad) (σ : Nat → Nat → Int32) (τ : Nat → Nat → Int64) (a1 : Int32) (A1 : Int) (t1 : a1.toInt = A1) (a2 : Int32) (A2 : Int) (t2 : a2.toInt = A2) (a3 : Int32) (A3 : Int) (t3 : a3.toInt = A3) (ha3 : ∀ k : Nat, σ 3 k = 0) (ha5 : ∀ k : Nat, σ 5 k = 0) : jM l yX4_runsIn cX4_runsIn 4 (some .int) ({ frames := 1, cells := 0, slots := 0, locals := 21 }) D cI cL ad [.ref (ad 2), .int a1, .int a2, .int a3] σ τ (fun r σ' τ' => (σ = σ' ∧ τ = τ') ∧ True) := by
  refine jM.of hJ (by decide +kernel) (nt := .int) rfl (Nat.le_of_ble_eq_true rfl) ?_
  intro p e s m args below meth c Q ls hC hret hl hP
  obtain ⟨hx, hb, hr, hml, hown, hts, hK, -, hlocks⟩ := hC
  have hown : s.vm.findClass RX4 = some m.cls := hown
  have hS : va_S (jA ad) s.heap s.heap [] := va_S.rf
  have hA : ∀ q, jA ad q → jA ad q := fun _ h => h
  have hl : lv_has ls 4 [(0, .ref (ad 2)), (1, .int a1), (2, .int a2), (3, .int a3)] := hl
  have g1 := jrg t1
  have g2 := jrg t2
  have g3 := jrg t3
  refine lv_iload_n hx hb dX4_runsIn_0 rfl (lv_at hl 2 rfl) ?_
  refine lv_if_lt (tgt := 9) hx hb dX4_runsIn_1 (by decide) (fun c1 => ?_) (fun c1 => ?_)
  · have kc1 := jlt c1 t2 jz_0
    refine lv_iconst (v := 0) hx hb dX4_runsIn_9 (by decide) ?_
    exact hret 0 σ τ _ _ _ _ rfl ⟨⟨rfl, rfl⟩, trivial⟩ hP hS dX4_runsIn_10
  · have kc1 := jnlt c1 t2 jz_0
    refine lv_iload_n hx hb dX4_runsIn_4 rfl (lv_at hl 2 rfl) ?_
    refine lv_iconst (v := 4) hx hb dX4_runsIn_5 (by decide) ?_
    refine lv_icmp_lt (tgt := 11) hx hb dX4_runsIn_6 (by decide) (fun c2 => ?_) (fun c2 => ?_)
    · have kc2 := jlt c2 t2 jz_4
      refine lv_aload_n hx hb dX4_runsIn_11 rfl (lv_at hl 0 rfl) ?_
      refine va_get (D := D) hx hb hts inlX4 hown hK hP 2 (jc_2 cI cL ad σ τ) rfl 6 (by decide) (hts _ kw_3_13) (fun _ h9 => h9) rfl dX4_runsIn_12 ?_
      refine lv_iload_n hx hb dX4_runsIn_15 rfl (lv_at hl 2 rfl) ?_
      refine jald hx hb hK hP (jc_5 cI cL ad σ τ) (jin t2 (by omega) (by omega)) dX4_runsIn_16 ?_
      refine jtopr (ha5 _) ?_
      refine lv_aload_n hx hb dX4_runsIn_17 rfl (lv_at hl 0 rfl) ?_
      refine lv_bipush (v := 16) hx hb dX4_runsIn_18 (by decide) ?_
      refine lv_iload_n hx hb dX4_runsIn_20 rfl (lv_at hl 2 rfl) ?_
      refine lv_iconst (v := 4) hx hb dX4_runsIn_21 (by decide) ?_
      refine lv_imul hx hb dX4_runsIn_22 ?_
      refine lv_topi (fun x3 ex3 => ?_)
      have tx3 : x3.toInt = 4 * A2 := (jmul ex3 t2 jz_4 (by omega) (by omega)).trans (by omega)
      refine lv_iadd hx hb dX4_runsIn_23 ?_
      refine lv_topi (fun x4 ex4 => ?_)
      have tx4 : x4.toInt = 4 * A2 + 16 := (jadd ex4 jz_16 tx3 (by omega) (by omega)).trans (by omega)
      refine lv_iload_n hx hb dX4_runsIn_24 rfl (lv_at hl 3 rfl) ?_
      refine lv_iadd hx hb dX4_runsIn_25 ?_
      refine lv_topi (fun x5 ex5 => ?_)
      have gx5 := jrg (rfl : x5.toInt = x5.toInt)
      refine jcallV (As := [.int x5]) (rest := [.int 0]) ⟨hx, hb, hml, hown, hts⟩ hK hP hA hS (c_X4_at_2 l D cI cL ad hJ σ τ x5 (x5.toInt) rfl ha3) cw_RX4_34 (jc_2 cI cL ad σ τ) rfl ⟨Nat.le_of_ble_eq_true rfl, Nat.le_of_ble_eq_true rfl⟩ rfl rfl rfl hl.1 rfl (Nat.le_of_ble_eq_true rfl) dX4_runsIn_26 ⟨Nat.zero_le _, Nat.zero_le _⟩ (fun r7 σ6 τ6 H locs h6 hP hS => ?_)
      obtain ⟨⟨rfl, rfl⟩, h6⟩ := h6
      have h8 := h6
      obtain ⟨q10, k9⟩ := h8
      have q10 := q10.symm
      subst q10
      refine lv_iadd hx hb dX4_runsIn_29 ?_
      refine jtopr (y := 0) (by decide) ?_
      refine lv_aload_n hx hb dX4_runsIn_30 rfl (lv_at hl 0 rfl) ?_
      refine lv_bipush (v := 52) hx hb dX4_runsIn_31 (by decide) ?_
      refine lv_iload_n hx hb dX4_runsIn_33 rfl (lv_at hl 1 rfl) ?_
      refine lv_iconst (v := 4) hx hb dX4_runsIn_34 (by decide) ?_
      refine lv_imul hx hb dX4_runsIn_35 ?_
      refine lv_topi (fun x11 ex11 => ?_)
      have gx11 := jrg (rfl : x11.toInt = x11.toInt)
      refine lv_iadd hx hb dX4_runsIn_36 ?_
      refine lv_topi (fun x12 ex12 => ?_)
      have gx12 := jrg (rfl : x12.toInt = x12.toInt)
      refine lv_iload_n hx hb dX4_runsIn_37 rfl (lv_at hl 3 rfl) ?_
      refine lv_iadd hx hb dX4_runsIn_38 ?_
      refine lv_topi (fun x13 ex13 => ?_)
      have gx13 := jrg (rfl : x13.toInt = x13.toInt)
      refine jcallV (As := [.int x13]) (rest := [.int 0]) ⟨hx, hb, hml, hown, hts⟩ hK hP hA hS (c_X4_at_2 l D cI cL ad hJ σ τ x13 (x13.toInt) rfl ha3) cw_RX4_34 (jc_2 cI cL ad σ τ) rfl ⟨Nat.le_of_ble_eq_true rfl, Nat.le_of_ble_eq_true rfl⟩ rfl rfl rfl hl.1 rfl (Nat.le_of_ble_eq_true rfl) dX4_runsIn_39 ⟨Nat.zero_le _, Nat.zero_le _⟩ (fun r15 σ14 τ14 H locs h14 hP hS => ?_)
      obtain ⟨⟨rfl, rfl⟩, h14⟩ := h14
      have h16 := h14
      obtain ⟨q18, k17⟩ := h16
      have q18 := q18.symm
      subst q18
      refine lv_iadd hx hb dX4_runsIn_42 ?_
      refine jtopr (y := 0) (by decide) ?_
      exact hret 0 σ τ _ _ _ _ rfl ⟨⟨rfl, rfl⟩, trivial⟩ hP hS dX4_runsIn_43
    · have kc2 := jnlt c2 t2 jz_4
      refine lv_iconst (v := 0) hx hb dX4_runsIn_9 (by decide) ?_
      exact hret 0 σ τ _ _ _ _ rfl ⟨⟨rfl, rfl⟩, trivial⟩ hP hS dX4_runsIn_10
set_option maxHeartbeats 4000000 in
set_option maxRecDepth 100000 in
theorem c_X4_freshness_2 (l : Launch) (D : va_G) (cI cL : ClassId) (ad : Nat → Nat) (hJ : jD ad) (σ : Nat → Nat → Int32) (τ : Nat → Nat → Int64) (a1 : Int32) (A1 : Int) (t1 : a1.toInt = A1) (a2 : Int32) (A2 : Int) (t2 : a2.toInt = A2) (ha4 : ∀ k : Nat, σ 4 k = 0) : jM l yX4_freshness cX4_freshness 3 (some .int) ({ frames := 1, cells := 0, slots := 0, locals := 21 }) D cI cL ad [.ref (ad 2), .int a1, .int a2] σ τ (fun r σ' τ' => (σ = σ' ∧ τ = τ') ∧ True) := by
  refine jM.of hJ (by decide +kernel) (nt := .int) rfl (Nat.le_of_ble_eq_true rfl) ?_
  intro p e s m args below meth c Q ls hC hret hl hP
  obtain ⟨hx, hb, hr, hml, hown, hts, hK, -, hlocks⟩ := hC
  have hown : s.vm.findClass RX4 = some m.cls := hown
  have hS : va_S (jA ad) s.heap s.heap [] := va_S.rf
  have hA : ∀ q, jA ad q → jA ad q := fun _ h => h
  have hl : lv_has ls 3 [(0, .ref (ad 2)), (1, .int a1), (2, .int a2)] := hl
  have g1 := jrg t1
  have g2 := jrg t2
  refine lv_iload_n hx hb dX4_freshness_0 rfl (lv_at hl 1 rfl) ?_
  refine lv_if_lt (tgt := 9) hx hb dX4_freshness_1 (by decide) (fun c1 => ?_) (fun c1 => ?_)
  · have kc1 := jlt c1 t1 jz_0
    refine lv_iconst (v := 0) hx hb dX4_freshness_9 (by decide) ?_
    exact hret 0 σ τ _ _ _ _ rfl ⟨⟨rfl, rfl⟩, trivial⟩ hP hS dX4_freshness_10
  · have kc1 := jnlt c1 t1 jz_0
    refine lv_iload_n hx hb dX4_freshness_4 rfl (lv_at hl 1 rfl) ?_
    refine lv_iconst (v := 4) hx hb dX4_freshness_5 (by decide) ?_
    refine lv_icmp_lt (tgt := 11) hx hb dX4_freshness_6 (by decide) (fun c2 => ?_) (fun c2 => ?_)
    · have kc2 := jlt c2 t1 jz_4
      refine lv_iconst (v := 0) hx hb dX4_freshness_11 (by decide) ?_
      refine lv_bipush (v := 100) hx hb dX4_freshness_12 (by decide) ?_
      refine lv_aload_n hx hb dX4_freshness_14 rfl (lv_at hl 0 rfl) ?_
      refine va_get (D := D) hx hb hts inlX4 hown hK hP 2 (jc_2 cI cL ad σ τ) rfl 5 (by decide) (hts _ kw_3_12) (fun _ h9 => h9) rfl dX4_freshness_15 ?_
      refine lv_iload_n hx hb dX4_freshness_18 rfl (lv_at hl 1 rfl) ?_
      refine jald hx hb hK hP (jc_4 cI cL ad σ τ) (jin t1 (by omega) (by omega)) dX4_freshness_19 ?_
      refine jtopr (ha4 _) ?_
      refine lv_iload_n hx hb dX4_freshness_20 rfl (lv_at hl 2 rfl) ?_
      refine lv_imul hx hb dX4_freshness_21 ?_
      refine lv_topi (fun x3 ex3 => ?_)
      have tx3 : x3.toInt = 0 := (jmul ex3 jz_0 t2 (by omega) (by omega)).trans (by omega)
      refine lv_isub hx hb dX4_freshness_22 ?_
      refine lv_topi (fun x4 ex4 => ?_)
      have tx4 : x4.toInt = 100 := (jsub ex4 jz_100 tx3 (by omega) (by omega)).trans (by omega)
      refine va_mmax hx hb (hml.trans hl.1.symm) hown (hts _ kw_21_19) (hts _ kw_21_0) (hts _ kw_21_1) (hts _ kw_21_2) (Nat.le_of_ble_eq_true rfl) (Nat.le_of_ble_eq_true rfl) (Nat.le_of_ble_eq_true rfl) (Nat.le_of_ble_eq_true rfl) dX4_freshness_23 ?_
      refine lv_topi (fun x5 ex5 => ?_)
      have g6 := jmax ex5 jz_0 tx4
      exact hret x5 σ τ _ _ _ _ rfl ⟨⟨rfl, rfl⟩, trivial⟩ hP hS dX4_freshness_26
    · have kc2 := jnlt c2 t1 jz_4
      refine lv_iconst (v := 0) hx hb dX4_freshness_9 (by decide) ?_
      exact hret 0 σ τ _ _ _ _ rfl ⟨⟨rfl, rfl⟩, trivial⟩ hP hS dX4_freshness_10
set_option maxHeartbeats 4000000 in
set_option maxRecDepth 100000 in
theorem c_X5_lay_26 (l : Launch) (D : va_G) (cI cL : ClassId) (ad : Nat → Nat) (hJ : jD ad) (σ : Nat → Nat → Int32) (τ : Nat → Nat → Int64) (a1 : Int32) (A1 : Int) (t1 : a1.toInt = A1) (ha3 : ∀ k : Nat, σ 3 k = 0) (ha4 : ∀ k : Nat, σ 4 k = 0) (ha5 : ∀ k : Nat, σ 5 k = 0) : jMv l yX5_lay cX5_lay 7 none ({ frames := 2, cells := 0, slots := 0, locals := 44 }) D cI cL ad [.ref (ad 26), .int a1] σ τ (fun σ' τ' => (∀ i : Nat, (i < 27 ∨ 28 < i) → σ' i = σ i) ∧ True) := by
  refine jMv.of hJ (by decide +kernel) rfl (Nat.le_of_ble_eq_true rfl) ?_
  intro p e s m args below meth c Q ls hC hret hl hP
  obtain ⟨hx, hb, hr, hml, hown, hts, hK, -, hlocks⟩ := hC
  have hown : s.vm.findClass RX5 = some m.cls := hown
  have hS : va_S (jA ad) s.heap s.heap [] := va_S.rf
  have hA : ∀ q, jA ad q → jA ad q := fun _ h => h
  have hl : lv_has ls 7 [(0, .ref (ad 26)), (1, .int a1)] := hl
  have g1 := jrg t1
  refine lv_iconst (v := 0) hx hb dX5_lay_0 (by decide) ?_
  refine lv_istore_n (lv' := [(2, .int 0), (0, .ref (ad 26)), (1, .int a1)]) hx hb dX5_lay_1 rfl hl (by decide) rfl (fun ls hl => ?_)
  have lp1 : ∀ (n2 : Nat) (x3 : Int32) (σ4 : Nat → Nat → Int32) (τ4 : Nat → Nat → Int64) (H : Heap) (locs : List Loc) (ls : Array Slot), (-x3.toInt + 4 : Int) < n2 → 0 ≤ x3.toInt → x3.toInt ≤ 4 → (∀ i : Nat, (i < 27 ∨ 28 < i) → σ4 i = σ i) → jH D cI cL ad σ4 τ4 H → va_S (jA ad) s.heap H locs → lv_has ls 7 [(2, .int x3), (0, .ref (ad 26)), (1, .int a1)] → W p l e ({ frames := 2, cells := 0, slots := 0, locals := 44 }) s m args below meth c H locs 0 0 Q (F0 m 2 ls []) := by
    intro n2
    induction n2 with
    | zero => intro x3 σ4 τ4 H locs ls h5 h6 h7; exact absurd h5 (by omega)
    | succ n2 ihlp1 =>
      intro x3 σ4 τ4 H locs ls h5 h6 h7 f8 hP hS hl
      refine lv_iload_n hx hb dX5_lay_2 rfl (lv_at hl 0 rfl) ?_
      refine lv_iconst (v := 4) hx hb dX5_lay_3 (by decide) ?_
      refine lv_icmp_ge (tgt := 120) hx hb dX5_lay_4 (by decide) (fun c9 => ?_) (fun c9 => ?_)
      · have kc9 := jle c9 jz_4 rfl
        exact hret σ4 τ4 _ _ _ _ ⟨(fun i hi => by rw [f8 i (by omega)]), trivial⟩ hP hS dX5_lay_120
      · have kc9 := jnle c9 jz_4 rfl
        refine lv_iconst (v := 0) hx hb dX5_lay_7 (by decide) ?_
        refine lv_istore_n (lv' := [(3, .int 0), (2, .int x3), (0, .ref (ad 26)), (1, .int a1)]) hx hb dX5_lay_8 rfl hl (by decide) rfl (fun ls hl => ?_)
        have lp10 : ∀ (n11 : Nat) (x12 : Int32) (σ13 : Nat → Nat → Int32) (τ13 : Nat → Nat → Int64) (H : Heap) (locs : List Loc) (ls : Array Slot), (-x12.toInt + 4 : Int) < n11 → 0 ≤ x12.toInt → x12.toInt ≤ 4 → (∀ i : Nat, (i < 27 ∨ 28 < i) → σ13 i = σ4 i) → jH D cI cL ad σ13 τ13 H → va_S (jA ad) s.heap H locs → lv_has ls 7 [(3, .int x12), (2, .int x3), (0, .ref (ad 26)), (1, .int a1)] → W p l e ({ frames := 2, cells := 0, slots := 0, locals := 44 }) s m args below meth c H locs 0 0 Q (F0 m 9 ls []) := by
          intro n11
          induction n11 with
          | zero => intro x12 σ13 τ13 H locs ls h14 h15 h16; exact absurd h14 (by omega)
          | succ n11 ihlp10 =>
            intro x12 σ13 τ13 H locs ls h14 h15 h16 f17 hP hS hl
            refine lv_iload_n hx hb dX5_lay_9 rfl (lv_at hl 0 rfl) ?_
            refine lv_iconst (v := 4) hx hb dX5_lay_10 (by decide) ?_
            refine lv_icmp_ge (tgt := 114) hx hb dX5_lay_11 (by decide) (fun c18 => ?_) (fun c18 => ?_)
            · have kc18 := jle c18 jz_4 rfl
              obtain ⟨x19, ex19⟩ : ∃ y : Int32, y = x3 + 1 := ⟨_, rfl⟩
              have tx19 : x19.toInt = x3.toInt + 1 := (jadd ex19 rfl jz_1 (by omega) (by omega)).trans (by omega)
              refine lv_iinc (v := x19) (lv' := [(2, .int x19), (3, .int x12), (0, .ref (ad 26)), (1, .int a1)]) hx hb dX5_lay_114 hl (k := 1) rfl (by rw [ex19]; rfl) (by decide) rfl (fun ls hl => ?_)
              refine lv_goto (tgt := 2) hx hb dX5_lay_117 (by decide) ?_
              exact ihlp1 x19 σ13 τ13 _ _ ls (by have h90 := tx19; omega) (by have h90 := tx19; omega) (by have h90 := tx19; omega) (fun i hi => by rw [f17 i (by omega), f8 i hi])  hP hS (lv_sub hl [0, 2, 3] rfl)
            · have kc18 := jnle c18 jz_4 rfl
              refine lv_aload_n hx hb dX5_lay_14 rfl (lv_at hl 2 rfl) ?_
              refine va_get (D := D) hx hb hts inlX5 hown hK hP 26 (jc_26 cI cL ad σ13 τ13) rfl 1 (by decide) (hts _ kw_4_21) (fun _ h9 => h9) rfl dX5_lay_15 ?_
              refine lv_iload_n hx hb dX5_lay_18 rfl (lv_at hl 3 rfl) ?_
              refine lv_iload_n hx hb dX5_lay_19 rfl (lv_at hl 1 rfl) ?_
              refine lv_iload_n hx hb dX5_lay_20 rfl (lv_at hl 0 rfl) ?_
              have m20 : ∀ k : Nat, σ13 3 k = 0 := (by rw [f17 3 (by omega)]; exact (by rw [f8 3 (by omega)]; exact ha3))
              refine jcallV (As := [.int a1, .int x3, .int x12]) (rest := []) ⟨hx, hb, hml, hown, hts⟩ hK hP hA hS (c_X4_edgeIn_2 l D cI cL ad hJ σ13 τ13 a1 (A1) t1 x3 (x3.toInt) rfl x12 (x12.toInt) rfl m20) cw_RX5_36 (jc_2 cI cL ad σ13 τ13) rfl ⟨Nat.le_of_ble_eq_true rfl, Nat.le_of_ble_eq_true rfl⟩ rfl rfl rfl hl.1 rfl (Nat.le_of_ble_eq_true rfl) dX5_lay_21 ⟨Nat.zero_le _, Nat.zero_le _⟩ (fun r22 σ21 τ21 H locs h21 hP hS => ?_)
              obtain ⟨⟨rfl, rfl⟩, h21⟩ := h21
              have h23 := h21
              obtain ⟨q25, k24⟩ := h23
              have q25 := q25.symm
              subst q25
              refine lv_istore (lv' := [(4, .int 0), (3, .int x12), (2, .int x3), (0, .ref (ad 26)), (1, .int a1)]) hx hb dX5_lay_24 hl (by decide) rfl (fun ls hl => ?_)
              refine lv_aload_n hx hb dX5_lay_26 rfl (lv_at hl 3 rfl) ?_
              refine va_get (D := D) hx hb hts inlX5 hown hK hP 26 (jc_26 cI cL ad σ13 τ13) rfl 1 (by decide) (hts _ kw_4_21) (fun _ h9 => h9) rfl dX5_lay_27 ?_
              refine lv_iload_n hx hb dX5_lay_30 rfl (lv_at hl 4 rfl) ?_
              refine lv_iload_n hx hb dX5_lay_31 rfl (lv_at hl 2 rfl) ?_
              refine lv_iload_n hx hb dX5_lay_32 rfl (lv_at hl 1 rfl) ?_
              have m26 : ∀ k : Nat, σ13 3 k = 0 := (by rw [f17 3 (by omega)]; exact (by rw [f8 3 (by omega)]; exact ha3))
              have m27 : ∀ k : Nat, σ13 5 k = 0 := (by rw [f17 5 (by omega)]; exact (by rw [f8 5 (by omega)]; exact ha5))
              refine jcallV (As := [.int a1, .int x3, .int x12]) (rest := []) ⟨hx, hb, hml, hown, hts⟩ hK hP hA hS (c_X4_runsIn_2 l D cI cL ad hJ σ13 τ13 a1 (A1) t1 x3 (x3.toInt) rfl x12 (x12.toInt) rfl m26 m27) cw_RX5_42 (jc_2 cI cL ad σ13 τ13) rfl ⟨Nat.le_of_ble_eq_true rfl, Nat.le_of_ble_eq_true rfl⟩ rfl rfl rfl hl.1 rfl (Nat.le_of_ble_eq_true rfl) dX5_lay_33 ⟨Nat.zero_le _, Nat.zero_le _⟩ (fun r29 σ28 τ28 H locs h28 hP hS => ?_)
              obtain ⟨⟨rfl, rfl⟩, h28⟩ := h28
              refine lv_istore (lv' := [(5, .int r29), (4, .int 0), (3, .int x12), (2, .int x3), (0, .ref (ad 26)), (1, .int a1)]) hx hb dX5_lay_36 hl (by decide) rfl (fun ls hl => ?_)
              refine lv_iconst (v := 0) hx hb dX5_lay_38 (by decide) ?_
              refine lv_istore (lv' := [(6, .int 0), (5, .int r29), (4, .int 0), (3, .int x12), (2, .int x3), (0, .ref (ad 26)), (1, .int a1)]) hx hb dX5_lay_39 hl (by decide) rfl (fun ls hl => ?_)
              have lp30 : ∀ (n31 : Nat) (x32 : Int32) (σ33 : Nat → Nat → Int32) (τ33 : Nat → Nat → Int64) (H : Heap) (locs : List Loc) (ls : Array Slot), (-x32.toInt + 4 : Int) < n31 → 0 ≤ x32.toInt → x32.toInt ≤ 4 → (∀ i : Nat, (i < 27 ∨ 28 < i) → σ33 i = σ13 i) → jH D cI cL ad σ33 τ33 H → va_S (jA ad) s.heap H locs → lv_has ls 7 [(6, .int x32), (5, .int r29), (4, .int 0), (3, .int x12), (2, .int x3), (0, .ref (ad 26)), (1, .int a1)] → W p l e ({ frames := 2, cells := 0, slots := 0, locals := 44 }) s m args below meth c H locs 0 0 Q (F0 m 41 ls []) := by
                intro n31
                induction n31 with
                | zero => intro x32 σ33 τ33 H locs ls h34 h35 h36; exact absurd h34 (by omega)
                | succ n31 ihlp30 =>
                  intro x32 σ33 τ33 H locs ls h34 h35 h36 f37 hP hS hl
                  refine lv_iload hx hb dX5_lay_41 (lv_at hl 0 rfl) ?_
                  refine lv_iconst (v := 4) hx hb dX5_lay_43 (by decide) ?_
                  refine lv_icmp_ge (tgt := 108) hx hb dX5_lay_44 (by decide) (fun c38 => ?_) (fun c38 => ?_)
                  · have kc38 := jle c38 jz_4 rfl
                    obtain ⟨x39, ex39⟩ : ∃ y : Int32, y = x12 + 1 := ⟨_, rfl⟩
                    have tx39 : x39.toInt = x12.toInt + 1 := (jadd ex39 rfl jz_1 (by omega) (by omega)).trans (by omega)
                    refine lv_iinc (v := x39) (lv' := [(3, .int x39), (6, .int x32), (5, .int r29), (4, .int 0), (2, .int x3), (0, .ref (ad 26)), (1, .int a1)]) hx hb dX5_lay_108 hl (k := 3) rfl (by rw [ex39]; rfl) (by decide) rfl (fun ls hl => ?_)
                    refine lv_goto (tgt := 9) hx hb dX5_lay_111 (by decide) ?_
                    exact ihlp10 x39 σ33 τ33 _ _ ls (by have h90 := tx39; omega) (by have h90 := tx39; omega) (by have h90 := tx39; omega) (fun i hi => by rw [f37 i (by omega), f17 i hi])  hP hS (lv_sub hl [0, 4, 5, 6] rfl)
                  · have kc38 := jnle c38 jz_4 rfl
                    refine lv_aload_n hx hb dX5_lay_47 rfl (lv_at hl 5 rfl) ?_
                    refine va_get (D := D) hx hb hts inlX5 hown hK hP 26 (jc_26 cI cL ad σ33 τ33) rfl 2 (by decide) (hts _ kw_4_16) (fun _ h9 => h9) rfl dX5_lay_48 ?_
                    refine lv_iload_n hx hb dX5_lay_51 rfl (lv_at hl 4 rfl) ?_
                    refine lv_iconst (v := 4) hx hb dX5_lay_52 (by decide) ?_
                    refine lv_imul hx hb dX5_lay_53 ?_
                    refine lv_topi (fun x40 ex40 => ?_)
                    have tx40 : x40.toInt = 4 * x3.toInt := (jmul ex40 rfl jz_4 (by omega) (by omega)).trans (by omega)
                    refine lv_iload_n hx hb dX5_lay_54 rfl (lv_at hl 3 rfl) ?_
                    refine lv_iadd hx hb dX5_lay_55 ?_
                    refine lv_topi (fun x41 ex41 => ?_)
                    have tx41 : x41.toInt = 4 * x3.toInt + x12.toInt := (jadd ex41 tx40 rfl (by omega) (by omega)).trans (by omega)
                    refine lv_iconst (v := 4) hx hb dX5_lay_56 (by decide) ?_
                    refine lv_imul hx hb dX5_lay_57 ?_
                    refine lv_topi (fun x42 ex42 => ?_)
                    have tx42 : x42.toInt = 16 * x3.toInt + 4 * x12.toInt := (jmul ex42 tx41 jz_4 (by omega) (by omega)).trans (by omega)
                    refine lv_iload hx hb dX5_lay_58 (lv_at hl 0 rfl) ?_
                    refine lv_iadd hx hb dX5_lay_60 ?_
                    refine lv_topi (fun x43 ex43 => ?_)
                    have tx43 : x43.toInt = 16 * x3.toInt + 4 * x12.toInt + x32.toInt := (jadd ex43 tx42 rfl (by omega) (by omega)).trans (by omega)
                    refine lv_iload hx hb dX5_lay_61 (lv_at hl 2 rfl) ?_
                    refine lv_aload_n hx hb dX5_lay_63 rfl (lv_at hl 5 rfl) ?_
                    refine va_get (D := D) hx hb hts inlX5 hown hK hP 26 (jc_26 cI cL ad σ33 τ33) rfl 1 (by decide) (hts _ kw_4_21) (fun _ h9 => h9) rfl dX5_lay_64 ?_
                    refine lv_iload_n hx hb dX5_lay_67 rfl (lv_at hl 4 rfl) ?_
                    refine lv_iload hx hb dX5_lay_68 (lv_at hl 0 rfl) ?_
                    have m44 : ∀ k : Nat, σ33 4 k = 0 := (by rw [f37 4 (by omega)]; exact (by rw [f17 4 (by omega)]; exact (by rw [f8 4 (by omega)]; exact ha4)))
                    refine jcallV (As := [.int x3, .int x32]) (rest := [.int 0, .int x43, .ref (ad 27)]) ⟨hx, hb, hml, hown, hts⟩ hK hP hA hS (c_X4_freshness_2 l D cI cL ad hJ σ33 τ33 x3 (x3.toInt) rfl x32 (x32.toInt) rfl m44) cw_RX5_45 (jc_2 cI cL ad σ33 τ33) rfl ⟨Nat.le_of_ble_eq_true rfl, Nat.le_of_ble_eq_true rfl⟩ rfl rfl rfl hl.1 rfl (Nat.le_of_ble_eq_true rfl) dX5_lay_70 ⟨Nat.zero_le _, Nat.zero_le _⟩ (fun r46 σ45 τ45 H locs h45 hP hS => ?_)
                    obtain ⟨⟨rfl, rfl⟩, h45⟩ := h45
                    refine lv_imul hx hb dX5_lay_73 ?_
                    refine lv_topi (fun x47 ex47 => ?_)
                    have tx47 : x47.toInt = 0 := (jmul ex47 jz_0 rfl (by omega) (by omega)).trans (by omega)
                    refine lv_bipush (v := 100) hx hb dX5_lay_74 (by decide) ?_
                    refine lv_idiv hx hb dX5_lay_76 (by decide) ?_
                    refine lv_topi (fun x48 ex48 => ?_)
                    have tx48 : x48.toInt = (0 / 100) := jdiv ex48 tx47 jz_100 (by omega) (by omega)
                    refine jast hx hb hK hP hJ hA hS (jc_27 cI cL ad σ33 τ33) (ja_27 cI cL ad σ33 τ33 _ _) (jin tx43 (by omega) (by omega)) dX5_lay_77 (fun σ49 H locs eσ49 hP hS => ?_)
                    refine lv_aload_n hx hb dX5_lay_78 rfl (lv_at hl 5 rfl) ?_
                    refine va_get (D := D) hx hb hts inlX5 hown hK hP 26 (jc_26 cI cL ad σ49 τ33) rfl 3 (by decide) (hts _ kw_4_17) (fun _ h9 => h9) rfl dX5_lay_79 ?_
                    refine lv_iload_n hx hb dX5_lay_82 rfl (lv_at hl 4 rfl) ?_
                    refine lv_iconst (v := 4) hx hb dX5_lay_83 (by decide) ?_
                    refine lv_imul hx hb dX5_lay_84 ?_
                    refine lv_topi (fun x50 ex50 => ?_)
                    have tx50 : x50.toInt = 4 * x3.toInt := (jmul ex50 rfl jz_4 (by omega) (by omega)).trans (by omega)
                    refine lv_iload_n hx hb dX5_lay_85 rfl (lv_at hl 3 rfl) ?_
                    refine lv_iadd hx hb dX5_lay_86 ?_
                    refine lv_topi (fun x51 ex51 => ?_)
                    have tx51 : x51.toInt = 4 * x3.toInt + x12.toInt := (jadd ex51 tx50 rfl (by omega) (by omega)).trans (by omega)
                    refine lv_iconst (v := 4) hx hb dX5_lay_87 (by decide) ?_
                    refine lv_imul hx hb dX5_lay_88 ?_
                    refine lv_topi (fun x52 ex52 => ?_)
                    have tx52 : x52.toInt = 16 * x3.toInt + 4 * x12.toInt := (jmul ex52 tx51 jz_4 (by omega) (by omega)).trans (by omega)
                    refine lv_iload hx hb dX5_lay_89 (lv_at hl 0 rfl) ?_
                    refine lv_iadd hx hb dX5_lay_91 ?_
                    refine lv_topi (fun x53 ex53 => ?_)
                    have tx53 : x53.toInt = 16 * x3.toInt + 4 * x12.toInt + x32.toInt := (jadd ex53 tx52 rfl (by omega) (by omega)).trans (by omega)
                    refine lv_iconst (v := 0) hx hb dX5_lay_92 (by decide) ?_
                    refine lv_iload hx hb dX5_lay_93 (lv_at hl 1 rfl) ?_
                    refine lv_iload hx hb dX5_lay_95 (lv_at hl 0 rfl) ?_
                    refine lv_iadd hx hb dX5_lay_97 ?_
                    refine lv_topi (fun x54 ex54 => ?_)
                    have gx54 := jrg (rfl : x54.toInt = x54.toInt)
                    refine va_mmax hx hb (hml.trans hl.1.symm) hown (hts _ kw_20_23) (hts _ kw_21_0) (hts _ kw_21_1) (hts _ kw_21_2) (Nat.le_of_ble_eq_true rfl) (Nat.le_of_ble_eq_true rfl) (Nat.le_of_ble_eq_true rfl) (Nat.le_of_ble_eq_true rfl) dX5_lay_98 ?_
                    refine lv_topi (fun x55 ex55 => ?_)
                    have g56 := jmax ex55 jz_0 rfl
                    refine jast hx hb hK hP hJ hA hS (jc_28 cI cL ad σ49 τ33) (ja_28 cI cL ad σ49 τ33 _ _) (jin tx53 (by omega) (by omega)) dX5_lay_101 (fun σ57 H locs eσ57 hP hS => ?_)
                    obtain ⟨x58, ex58⟩ : ∃ y : Int32, y = x32 + 1 := ⟨_, rfl⟩
                    have tx58 : x58.toInt = x32.toInt + 1 := (jadd ex58 rfl jz_1 (by omega) (by omega)).trans (by omega)
                    refine lv_iinc (v := x58) (lv' := [(6, .int x58), (5, .int r29), (4, .int 0), (3, .int x12), (2, .int x3), (0, .ref (ad 26)), (1, .int a1)]) hx hb dX5_lay_102 hl (k := 0) rfl (by rw [ex58]; rfl) (by decide) rfl (fun ls hl => ?_)
                    refine lv_goto (tgt := 41) hx hb dX5_lay_105 (by decide) ?_
                    exact ihlp30 x58 σ57 τ33 _ _ ls (by have h90 := tx58; omega) (by have h90 := tx58; omega) (by have h90 := tx58; omega) (fun i hi => by rw [eσ57, jup_n (by omega), eσ49, jup_n (by omega), f37 i hi])  hP hS (lv_sub hl [0, 1, 2, 3, 4, 5, 6] rfl)
              exact lp30 100 0 σ13 τ13 _ _ ls (by have h90 := jz_0; omega) (by have h90 := jz_0; omega) (by have h90 := jz_0; omega) (fun _ _ => rfl)  hP hS hl
        exact lp10 100 0 σ4 τ4 _ _ ls (by have h90 := jz_0; omega) (by have h90 := jz_0; omega) (by have h90 := jz_0; omega) (fun _ _ => rfl)  hP hS hl
  exact lp1 100 0 σ τ _ _ ls (by have h90 := jz_0; omega) (by have h90 := jz_0; omega) (by have h90 := jz_0; omega) (fun _ _ => rfl)  hP hS hl
set_option maxHeartbeats 4000000 in
set_option maxRecDepth 100000 in
theorem c_X10_uses_22 (l : Launch) (D : va_G) (cI cL : ClassId) (ad : Nat → Nat) (hJ : jD ad) (σ : Nat → Nat → Int32) (τ : Nat → Nat → Int64) (a1 : Int32) (A1 : Int) (t1 : a1.toInt = A1) (h22_1 : σ 22 1 = 0) : jM l yX10_uses cX10_uses 2 (some .boolean) ({ frames := 0, cells := 0, slots := 0, locals := 0 }) D cI cL ad [.ref (ad 22), .int a1] σ τ (fun r σ' τ' => (σ = σ' ∧ τ = τ') ∧ ((r = 0 ∧ True))) := by
  refine jM.of hJ (by decide +kernel) (nt := .boolean) rfl (Nat.le_of_ble_eq_true rfl) ?_
  intro p e s m args below meth c Q ls hC hret hl hP
  obtain ⟨hx, hb, hr, hml, hown, hts, hK, -, hlocks⟩ := hC
  have hown : s.vm.findClass RX10 = some m.cls := hown
  have hS : va_S (jA ad) s.heap s.heap [] := va_S.rf
  have hA : ∀ q, jA ad q → jA ad q := fun _ h => h
  have hl : lv_has ls 2 [(0, .ref (ad 22)), (1, .int a1)] := hl
  have g1 := jrg t1
  refine lv_aload_n hx hb dX10_uses_0 rfl (lv_at hl 0 rfl) ?_
  refine va_get (D := D) hx hb hts inlX10 hown hK hP 22 (jc_22 cI cL ad σ τ) rfl 1 (by decide) (hts _ kw_16_21) (fun _ h9 => h9) rfl dX10_uses_1 ?_
  refine jtopr h22_1 ?_
  refine lv_iload_n hx hb dX10_uses_4 rfl (lv_at hl 1 rfl) ?_
  refine lv_ishr hx hb dX10_uses_5 ?_
  refine jtopr (y := 0) (by simp) ?_
  refine lv_iconst (v := 1) hx hb dX10_uses_6 (by decide) ?_
  refine lv_iand hx hb dX10_uses_7 ?_
  refine jtopr (y := 0) (by decide) ?_
  refine lv_if_eq (tgt := 15) hx hb dX10_uses_8 (by decide) (fun _ => ?_) (fun c => absurd (by decide) c)
  refine lv_iconst (v := 0) hx hb dX10_uses_15 (by decide) ?_
  exact hret 0 σ τ _ _ _ _ rfl ⟨⟨rfl, rfl⟩, ⟨rfl, trivial⟩⟩ hP hS dX10_uses_16
set_option maxHeartbeats 4000000 in
set_option maxRecDepth 100000 in
theorem c_X1_trimmed_31 (l : Launch) (D : va_G) (cI cL : ClassId) (ad : Nat → Nat) (hJ : jD ad) (σ : Nat → Nat → Int32) (τ : Nat → Nat → Int64) (h31_12 : σ 31 12 = 0) : jM l yX1_trimmed cX1_trimmed 7 (some .int) ({ frames := 1, cells := 0, slots := 0, locals := 23 }) D cI cL ad [.ref (ad 31), .int 0, .int 8] σ τ (fun r σ' τ' => (σ = σ' ∧ τ = τ') ∧ ((r = 0 ∧ True))) := by
  refine jM.of hJ (by decide +kernel) (nt := .int) rfl (Nat.le_of_ble_eq_true rfl) ?_
  intro p e s m args below meth c Q ls hC hret hl hP
  obtain ⟨hx, hb, hr, hml, hown, hts, hK, -, hlocks⟩ := hC
  have hown : s.vm.findClass RX1 = some m.cls := hown
  have hS : va_S (jA ad) s.heap s.heap [] := va_S.rf
  have hA : ∀ q, jA ad q → jA ad q := fun _ h => h
  have hl : lv_has ls 7 [(0, .ref (ad 31)), (1, .int 0), (2, .int 8)] := hl
  refine lv_iload_n hx hb dX1_trimmed_0 rfl (lv_at hl 1 rfl) ?_
  refine lv_istore_n (lv' := [(3, .int 0), (0, .ref (ad 31)), (1, .int 0), (2, .int 8)]) hx hb dX1_trimmed_1 rfl hl (by decide) rfl (fun ls hl => ?_)
  refine lv_iconst (v := 0) hx hb dX1_trimmed_2 (by decide) ?_
  refine lv_istore (lv' := [(4, .int 0), (3, .int 0), (0, .ref (ad 31)), (1, .int 0), (2, .int 8)]) hx hb dX1_trimmed_3 hl (by decide) rfl (fun ls hl => ?_)
  refine lv_iload hx hb dX1_trimmed_5 (lv_at hl 0 rfl) ?_
  refine lv_iconst (v := 4) hx hb dX1_trimmed_7 (by decide) ?_
  refine lv_icmp_ge (tgt := 90) hx hb dX1_trimmed_8 (by decide) (fun c => absurd c (by decide)) (fun _ => ?_)
  refine lv_iload_n hx hb dX1_trimmed_11 rfl (lv_at hl 3 rfl) ?_
  refine lv_iload hx hb dX1_trimmed_12 (lv_at hl 0 rfl) ?_
  refine jcallS (As := [.int 0, .int 0]) (rest := []) ⟨hx, hb, hml, hown, hts⟩ hK hP hA hS (c_X0_left l D cI cL ad hJ σ τ 0 (0) jz_0) cw_RX1_123 ⟨Nat.le_of_ble_eq_true rfl, Nat.le_of_ble_eq_true rfl⟩ rfl rfl rfl hl.1 rfl (Nat.le_of_ble_eq_true rfl) dX1_trimmed_14 ⟨Nat.zero_le _, Nat.zero_le _⟩ (fun r2 σ1 τ1 H locs h1 hP hS => ?_)
  obtain ⟨⟨rfl, rfl⟩, h1⟩ := h1
  have h3 := h1
  obtain ⟨q5, k4⟩ := h3
  have q5 := q5.symm
  subst q5
  refine lv_istore (lv' := [(5, .int 0), (4, .int 0), (3, .int 0), (0, .ref (ad 31)), (1, .int 0), (2, .int 8)]) hx hb dX1_trimmed_17 hl (by decide) rfl (fun ls hl => ?_)
  refine lv_iload_n hx hb dX1_trimmed_19 rfl (lv_at hl 4 rfl) ?_
  refine jcallS (As := [.int 0]) (rest := []) ⟨hx, hb, hml, hown, hts⟩ hK hP hA hS (c_X0_last l D cI cL ad hJ σ τ) cw_RX1_126 ⟨Nat.le_of_ble_eq_true rfl, Nat.le_of_ble_eq_true rfl⟩ rfl rfl rfl hl.1 rfl (Nat.le_of_ble_eq_true rfl) dX1_trimmed_20 ⟨Nat.zero_le _, Nat.zero_le _⟩ (fun r7 σ6 τ6 H locs h6 hP hS => ?_)
  obtain ⟨⟨rfl, rfl⟩, h6⟩ := h6
  have h8 := h6
  obtain ⟨q10, k9⟩ := h8
  have q10 := q10.symm
  subst q10
  refine lv_iload hx hb dX1_trimmed_23 (lv_at hl 1 rfl) ?_
  refine lv_icmp_ne (tgt := 32) hx hb dX1_trimmed_25 (by decide) (fun _ => ?_) (fun c => absurd c (by decide))
  refine lv_iload_n hx hb dX1_trimmed_32 rfl (lv_at hl 5 rfl) ?_
  refine lv_iconst (v := 1) hx hb dX1_trimmed_33 (by decide) ?_
  refine lv_iadd hx hb dX1_trimmed_34 ?_
  refine jtopr (y := 9) (by decide) ?_
  refine lv_iconst (v := 2) hx hb dX1_trimmed_35 (by decide) ?_
  refine lv_idiv hx hb dX1_trimmed_36 (by decide) ?_
  refine jtopr (y := 4) (by decide) ?_
  refine lv_istore (lv' := [(6, .int 4), (5, .int 0), (4, .int 0), (3, .int 0), (0, .ref (ad 31)), (1, .int 0), (2, .int 8)]) hx hb dX1_trimmed_37 hl (by decide) rfl (fun ls hl => ?_)
  refine lv_aload_n hx hb dX1_trimmed_39 rfl (lv_at hl 4 rfl) ?_
  refine va_get (D := D) hx hb hts inlX1 hown hK hP 31 (jc_31 cI cL ad σ τ) rfl 12 (by decide) (hts _ kw_28_8) (fun _ h9 => h9) rfl dX1_trimmed_40 ?_
  refine jtopr h31_12 ?_
  refine lv_if_eq (tgt := 51) hx hb dX1_trimmed_43 (by decide) (fun _ => ?_) (fun c => absurd (by decide) c)
  refine lv_iload hx hb dX1_trimmed_51 (lv_at hl 1 rfl) ?_
  refine lv_iload hx hb dX1_trimmed_53 (lv_at hl 0 rfl) ?_
  refine lv_icmp_le (tgt := 71) hx hb dX1_trimmed_55 (by decide) (fun _ => ?_) (fun c => absurd (by decide) c)
  refine lv_iload hx hb dX1_trimmed_71 (lv_at hl 1 rfl) ?_
  refine lv_if_ne (tgt := 84) hx hb dX1_trimmed_73 (by decide) (fun c => absurd (by decide) c) (fun _ => ?_)
  refine lv_iload_n hx hb dX1_trimmed_76 rfl (lv_at hl 3 rfl) ?_
  refine lv_iload hx hb dX1_trimmed_77 (lv_at hl 2 rfl) ?_
  refine lv_iconst (v := 0) hx hb dX1_trimmed_79 (by decide) ?_
  refine jcallS (As := [.int 0, .int 0, .int 0]) (rest := []) ⟨hx, hb, hml, hown, hts⟩ hK hP hA hS (c_X0_withSteps l D cI cL ad hJ σ τ 0 (0) jz_0) cw_RX1_133 ⟨Nat.le_of_ble_eq_true rfl, Nat.le_of_ble_eq_true rfl⟩ rfl rfl rfl hl.1 rfl (Nat.le_of_ble_eq_true rfl) dX1_trimmed_80 ⟨Nat.zero_le _, Nat.zero_le _⟩ (fun r12 σ11 τ11 H locs h11 hP hS => ?_)
  obtain ⟨⟨rfl, rfl⟩, h11⟩ := h11
  have h13 := h11
  obtain ⟨q15, k14⟩ := h13
  have q15 := q15.symm
  subst q15
  refine lv_istore_n (lv' := [(3, .int 0), (6, .int 4), (5, .int 0), (4, .int 0), (0, .ref (ad 31)), (1, .int 0), (2, .int 8)]) hx hb dX1_trimmed_83 rfl hl (by decide) rfl (fun ls hl => ?_)
  refine lv_iinc (v := 1) (lv' := [(4, .int 1), (3, .int 0), (6, .int 4), (5, .int 0), (0, .ref (ad 31)), (1, .int 0), (2, .int 8)]) hx hb dX1_trimmed_84 hl (k := 3) rfl (by decide) (by decide) rfl (fun ls hl => ?_)
  refine lv_goto (tgt := 5) hx hb dX1_trimmed_87 (by decide) ?_
  refine lv_iload hx hb dX1_trimmed_5 (lv_at hl 0 rfl) ?_
  refine lv_iconst (v := 4) hx hb dX1_trimmed_7 (by decide) ?_
  refine lv_icmp_ge (tgt := 90) hx hb dX1_trimmed_8 (by decide) (fun c => absurd c (by decide)) (fun _ => ?_)
  refine lv_iload_n hx hb dX1_trimmed_11 rfl (lv_at hl 5 rfl) ?_
  refine lv_iload hx hb dX1_trimmed_12 (lv_at hl 0 rfl) ?_
  refine jcallS (As := [.int 0, .int 1]) (rest := []) ⟨hx, hb, hml, hown, hts⟩ hK hP hA hS (c_X0_left l D cI cL ad hJ σ τ 1 (1) jz_1) cw_RX1_123 ⟨Nat.le_of_ble_eq_true rfl, Nat.le_of_ble_eq_true rfl⟩ rfl rfl rfl hl.1 rfl (Nat.le_of_ble_eq_true rfl) dX1_trimmed_14 ⟨Nat.zero_le _, Nat.zero_le _⟩ (fun r17 σ16 τ16 H locs h16 hP hS => ?_)
  obtain ⟨⟨rfl, rfl⟩, h16⟩ := h16
  have h18 := h16
  obtain ⟨q20, k19⟩ := h18
  have q20 := q20.symm
  subst q20
  refine lv_istore (lv' := [(5, .int 0), (4, .int 1), (3, .int 0), (6, .int 4), (0, .ref (ad 31)), (1, .int 0), (2, .int 8)]) hx hb dX1_trimmed_17 hl (by decide) rfl (fun ls hl => ?_)
  refine lv_iload_n hx hb dX1_trimmed_19 rfl (lv_at hl 5 rfl) ?_
  refine jcallS (As := [.int 0]) (rest := []) ⟨hx, hb, hml, hown, hts⟩ hK hP hA hS (c_X0_last l D cI cL ad hJ σ τ) cw_RX1_126 ⟨Nat.le_of_ble_eq_true rfl, Nat.le_of_ble_eq_true rfl⟩ rfl rfl rfl hl.1 rfl (Nat.le_of_ble_eq_true rfl) dX1_trimmed_20 ⟨Nat.zero_le _, Nat.zero_le _⟩ (fun r22 σ21 τ21 H locs h21 hP hS => ?_)
  obtain ⟨⟨rfl, rfl⟩, h21⟩ := h21
  have h23 := h21
  obtain ⟨q25, k24⟩ := h23
  have q25 := q25.symm
  subst q25
  refine lv_iload hx hb dX1_trimmed_23 (lv_at hl 1 rfl) ?_
  refine lv_icmp_ne (tgt := 32) hx hb dX1_trimmed_25 (by decide) (fun _ => ?_) (fun c => absurd c (by decide))
  refine lv_iload_n hx hb dX1_trimmed_32 rfl (lv_at hl 6 rfl) ?_
  refine lv_iconst (v := 1) hx hb dX1_trimmed_33 (by decide) ?_
  refine lv_iadd hx hb dX1_trimmed_34 ?_
  refine jtopr (y := 9) (by decide) ?_
  refine lv_iconst (v := 2) hx hb dX1_trimmed_35 (by decide) ?_
  refine lv_idiv hx hb dX1_trimmed_36 (by decide) ?_
  refine jtopr (y := 4) (by decide) ?_
  refine lv_istore (lv' := [(6, .int 4), (5, .int 0), (4, .int 1), (3, .int 0), (0, .ref (ad 31)), (1, .int 0), (2, .int 8)]) hx hb dX1_trimmed_37 hl (by decide) rfl (fun ls hl => ?_)
  refine lv_aload_n hx hb dX1_trimmed_39 rfl (lv_at hl 4 rfl) ?_
  refine va_get (D := D) hx hb hts inlX1 hown hK hP 31 (jc_31 cI cL ad σ τ) rfl 12 (by decide) (hts _ kw_28_8) (fun _ h9 => h9) rfl dX1_trimmed_40 ?_
  refine jtopr h31_12 ?_
  refine lv_if_eq (tgt := 51) hx hb dX1_trimmed_43 (by decide) (fun _ => ?_) (fun c => absurd (by decide) c)
  refine lv_iload hx hb dX1_trimmed_51 (lv_at hl 1 rfl) ?_
  refine lv_iload hx hb dX1_trimmed_53 (lv_at hl 0 rfl) ?_
  refine lv_icmp_le (tgt := 71) hx hb dX1_trimmed_55 (by decide) (fun _ => ?_) (fun c => absurd (by decide) c)
  refine lv_iload hx hb dX1_trimmed_71 (lv_at hl 1 rfl) ?_
  refine lv_if_ne (tgt := 84) hx hb dX1_trimmed_73 (by decide) (fun c => absurd (by decide) c) (fun _ => ?_)
  refine lv_iload_n hx hb dX1_trimmed_76 rfl (lv_at hl 3 rfl) ?_
  refine lv_iload hx hb dX1_trimmed_77 (lv_at hl 2 rfl) ?_
  refine lv_iconst (v := 0) hx hb dX1_trimmed_79 (by decide) ?_
  refine jcallS (As := [.int 0, .int 1, .int 0]) (rest := []) ⟨hx, hb, hml, hown, hts⟩ hK hP hA hS (c_X0_withSteps l D cI cL ad hJ σ τ 1 (1) jz_1) cw_RX1_133 ⟨Nat.le_of_ble_eq_true rfl, Nat.le_of_ble_eq_true rfl⟩ rfl rfl rfl hl.1 rfl (Nat.le_of_ble_eq_true rfl) dX1_trimmed_80 ⟨Nat.zero_le _, Nat.zero_le _⟩ (fun r27 σ26 τ26 H locs h26 hP hS => ?_)
  obtain ⟨⟨rfl, rfl⟩, h26⟩ := h26
  have h28 := h26
  obtain ⟨q30, k29⟩ := h28
  have q30 := q30.symm
  subst q30
  refine lv_istore_n (lv' := [(3, .int 0), (6, .int 4), (5, .int 0), (4, .int 1), (0, .ref (ad 31)), (1, .int 0), (2, .int 8)]) hx hb dX1_trimmed_83 rfl hl (by decide) rfl (fun ls hl => ?_)
  refine lv_iinc (v := 2) (lv' := [(4, .int 2), (3, .int 0), (6, .int 4), (5, .int 0), (0, .ref (ad 31)), (1, .int 0), (2, .int 8)]) hx hb dX1_trimmed_84 hl (k := 3) rfl (by decide) (by decide) rfl (fun ls hl => ?_)
  refine lv_goto (tgt := 5) hx hb dX1_trimmed_87 (by decide) ?_
  refine lv_iload hx hb dX1_trimmed_5 (lv_at hl 0 rfl) ?_
  refine lv_iconst (v := 4) hx hb dX1_trimmed_7 (by decide) ?_
  refine lv_icmp_ge (tgt := 90) hx hb dX1_trimmed_8 (by decide) (fun c => absurd c (by decide)) (fun _ => ?_)
  refine lv_iload_n hx hb dX1_trimmed_11 rfl (lv_at hl 5 rfl) ?_
  refine lv_iload hx hb dX1_trimmed_12 (lv_at hl 0 rfl) ?_
  refine jcallS (As := [.int 0, .int 2]) (rest := []) ⟨hx, hb, hml, hown, hts⟩ hK hP hA hS (c_X0_left l D cI cL ad hJ σ τ 2 (2) jz_2) cw_RX1_123 ⟨Nat.le_of_ble_eq_true rfl, Nat.le_of_ble_eq_true rfl⟩ rfl rfl rfl hl.1 rfl (Nat.le_of_ble_eq_true rfl) dX1_trimmed_14 ⟨Nat.zero_le _, Nat.zero_le _⟩ (fun r32 σ31 τ31 H locs h31 hP hS => ?_)
  obtain ⟨⟨rfl, rfl⟩, h31⟩ := h31
  have h33 := h31
  obtain ⟨q35, k34⟩ := h33
  have q35 := q35.symm
  subst q35
  refine lv_istore (lv' := [(5, .int 0), (4, .int 2), (3, .int 0), (6, .int 4), (0, .ref (ad 31)), (1, .int 0), (2, .int 8)]) hx hb dX1_trimmed_17 hl (by decide) rfl (fun ls hl => ?_)
  refine lv_iload_n hx hb dX1_trimmed_19 rfl (lv_at hl 5 rfl) ?_
  refine jcallS (As := [.int 0]) (rest := []) ⟨hx, hb, hml, hown, hts⟩ hK hP hA hS (c_X0_last l D cI cL ad hJ σ τ) cw_RX1_126 ⟨Nat.le_of_ble_eq_true rfl, Nat.le_of_ble_eq_true rfl⟩ rfl rfl rfl hl.1 rfl (Nat.le_of_ble_eq_true rfl) dX1_trimmed_20 ⟨Nat.zero_le _, Nat.zero_le _⟩ (fun r37 σ36 τ36 H locs h36 hP hS => ?_)
  obtain ⟨⟨rfl, rfl⟩, h36⟩ := h36
  have h38 := h36
  obtain ⟨q40, k39⟩ := h38
  have q40 := q40.symm
  subst q40
  refine lv_iload hx hb dX1_trimmed_23 (lv_at hl 1 rfl) ?_
  refine lv_icmp_ne (tgt := 32) hx hb dX1_trimmed_25 (by decide) (fun _ => ?_) (fun c => absurd c (by decide))
  refine lv_iload_n hx hb dX1_trimmed_32 rfl (lv_at hl 6 rfl) ?_
  refine lv_iconst (v := 1) hx hb dX1_trimmed_33 (by decide) ?_
  refine lv_iadd hx hb dX1_trimmed_34 ?_
  refine jtopr (y := 9) (by decide) ?_
  refine lv_iconst (v := 2) hx hb dX1_trimmed_35 (by decide) ?_
  refine lv_idiv hx hb dX1_trimmed_36 (by decide) ?_
  refine jtopr (y := 4) (by decide) ?_
  refine lv_istore (lv' := [(6, .int 4), (5, .int 0), (4, .int 2), (3, .int 0), (0, .ref (ad 31)), (1, .int 0), (2, .int 8)]) hx hb dX1_trimmed_37 hl (by decide) rfl (fun ls hl => ?_)
  refine lv_aload_n hx hb dX1_trimmed_39 rfl (lv_at hl 4 rfl) ?_
  refine va_get (D := D) hx hb hts inlX1 hown hK hP 31 (jc_31 cI cL ad σ τ) rfl 12 (by decide) (hts _ kw_28_8) (fun _ h9 => h9) rfl dX1_trimmed_40 ?_
  refine jtopr h31_12 ?_
  refine lv_if_eq (tgt := 51) hx hb dX1_trimmed_43 (by decide) (fun _ => ?_) (fun c => absurd (by decide) c)
  refine lv_iload hx hb dX1_trimmed_51 (lv_at hl 1 rfl) ?_
  refine lv_iload hx hb dX1_trimmed_53 (lv_at hl 0 rfl) ?_
  refine lv_icmp_le (tgt := 71) hx hb dX1_trimmed_55 (by decide) (fun _ => ?_) (fun c => absurd (by decide) c)
  refine lv_iload hx hb dX1_trimmed_71 (lv_at hl 1 rfl) ?_
  refine lv_if_ne (tgt := 84) hx hb dX1_trimmed_73 (by decide) (fun c => absurd (by decide) c) (fun _ => ?_)
  refine lv_iload_n hx hb dX1_trimmed_76 rfl (lv_at hl 3 rfl) ?_
  refine lv_iload hx hb dX1_trimmed_77 (lv_at hl 2 rfl) ?_
  refine lv_iconst (v := 0) hx hb dX1_trimmed_79 (by decide) ?_
  refine jcallS (As := [.int 0, .int 2, .int 0]) (rest := []) ⟨hx, hb, hml, hown, hts⟩ hK hP hA hS (c_X0_withSteps l D cI cL ad hJ σ τ 2 (2) jz_2) cw_RX1_133 ⟨Nat.le_of_ble_eq_true rfl, Nat.le_of_ble_eq_true rfl⟩ rfl rfl rfl hl.1 rfl (Nat.le_of_ble_eq_true rfl) dX1_trimmed_80 ⟨Nat.zero_le _, Nat.zero_le _⟩ (fun r42 σ41 τ41 H locs h41 hP hS => ?_)
  obtain ⟨⟨rfl, rfl⟩, h41⟩ := h41
  have h43 := h41
  obtain ⟨q45, k44⟩ := h43
  have q45 := q45.symm
  subst q45
  refine lv_istore_n (lv' := [(3, .int 0), (6, .int 4), (5, .int 0), (4, .int 2), (0, .ref (ad 31)), (1, .int 0), (2, .int 8)]) hx hb dX1_trimmed_83 rfl hl (by decide) rfl (fun ls hl => ?_)
  refine lv_iinc (v := 3) (lv' := [(4, .int 3), (3, .int 0), (6, .int 4), (5, .int 0), (0, .ref (ad 31)), (1, .int 0), (2, .int 8)]) hx hb dX1_trimmed_84 hl (k := 3) rfl (by decide) (by decide) rfl (fun ls hl => ?_)
  refine lv_goto (tgt := 5) hx hb dX1_trimmed_87 (by decide) ?_
  refine lv_iload hx hb dX1_trimmed_5 (lv_at hl 0 rfl) ?_
  refine lv_iconst (v := 4) hx hb dX1_trimmed_7 (by decide) ?_
  refine lv_icmp_ge (tgt := 90) hx hb dX1_trimmed_8 (by decide) (fun c => absurd c (by decide)) (fun _ => ?_)
  refine lv_iload_n hx hb dX1_trimmed_11 rfl (lv_at hl 5 rfl) ?_
  refine lv_iload hx hb dX1_trimmed_12 (lv_at hl 0 rfl) ?_
  refine jcallS (As := [.int 0, .int 3]) (rest := []) ⟨hx, hb, hml, hown, hts⟩ hK hP hA hS (c_X0_left l D cI cL ad hJ σ τ 3 (3) jz_3) cw_RX1_123 ⟨Nat.le_of_ble_eq_true rfl, Nat.le_of_ble_eq_true rfl⟩ rfl rfl rfl hl.1 rfl (Nat.le_of_ble_eq_true rfl) dX1_trimmed_14 ⟨Nat.zero_le _, Nat.zero_le _⟩ (fun r47 σ46 τ46 H locs h46 hP hS => ?_)
  obtain ⟨⟨rfl, rfl⟩, h46⟩ := h46
  have h48 := h46
  obtain ⟨q50, k49⟩ := h48
  have q50 := q50.symm
  subst q50
  refine lv_istore (lv' := [(5, .int 0), (4, .int 3), (3, .int 0), (6, .int 4), (0, .ref (ad 31)), (1, .int 0), (2, .int 8)]) hx hb dX1_trimmed_17 hl (by decide) rfl (fun ls hl => ?_)
  refine lv_iload_n hx hb dX1_trimmed_19 rfl (lv_at hl 5 rfl) ?_
  refine jcallS (As := [.int 0]) (rest := []) ⟨hx, hb, hml, hown, hts⟩ hK hP hA hS (c_X0_last l D cI cL ad hJ σ τ) cw_RX1_126 ⟨Nat.le_of_ble_eq_true rfl, Nat.le_of_ble_eq_true rfl⟩ rfl rfl rfl hl.1 rfl (Nat.le_of_ble_eq_true rfl) dX1_trimmed_20 ⟨Nat.zero_le _, Nat.zero_le _⟩ (fun r52 σ51 τ51 H locs h51 hP hS => ?_)
  obtain ⟨⟨rfl, rfl⟩, h51⟩ := h51
  have h53 := h51
  obtain ⟨q55, k54⟩ := h53
  have q55 := q55.symm
  subst q55
  refine lv_iload hx hb dX1_trimmed_23 (lv_at hl 1 rfl) ?_
  refine lv_icmp_ne (tgt := 32) hx hb dX1_trimmed_25 (by decide) (fun _ => ?_) (fun c => absurd c (by decide))
  refine lv_iload_n hx hb dX1_trimmed_32 rfl (lv_at hl 6 rfl) ?_
  refine lv_iconst (v := 1) hx hb dX1_trimmed_33 (by decide) ?_
  refine lv_iadd hx hb dX1_trimmed_34 ?_
  refine jtopr (y := 9) (by decide) ?_
  refine lv_iconst (v := 2) hx hb dX1_trimmed_35 (by decide) ?_
  refine lv_idiv hx hb dX1_trimmed_36 (by decide) ?_
  refine jtopr (y := 4) (by decide) ?_
  refine lv_istore (lv' := [(6, .int 4), (5, .int 0), (4, .int 3), (3, .int 0), (0, .ref (ad 31)), (1, .int 0), (2, .int 8)]) hx hb dX1_trimmed_37 hl (by decide) rfl (fun ls hl => ?_)
  refine lv_aload_n hx hb dX1_trimmed_39 rfl (lv_at hl 4 rfl) ?_
  refine va_get (D := D) hx hb hts inlX1 hown hK hP 31 (jc_31 cI cL ad σ τ) rfl 12 (by decide) (hts _ kw_28_8) (fun _ h9 => h9) rfl dX1_trimmed_40 ?_
  refine jtopr h31_12 ?_
  refine lv_if_eq (tgt := 51) hx hb dX1_trimmed_43 (by decide) (fun _ => ?_) (fun c => absurd (by decide) c)
  refine lv_iload hx hb dX1_trimmed_51 (lv_at hl 1 rfl) ?_
  refine lv_iload hx hb dX1_trimmed_53 (lv_at hl 0 rfl) ?_
  refine lv_icmp_le (tgt := 71) hx hb dX1_trimmed_55 (by decide) (fun _ => ?_) (fun c => absurd (by decide) c)
  refine lv_iload hx hb dX1_trimmed_71 (lv_at hl 1 rfl) ?_
  refine lv_if_ne (tgt := 84) hx hb dX1_trimmed_73 (by decide) (fun c => absurd (by decide) c) (fun _ => ?_)
  refine lv_iload_n hx hb dX1_trimmed_76 rfl (lv_at hl 3 rfl) ?_
  refine lv_iload hx hb dX1_trimmed_77 (lv_at hl 2 rfl) ?_
  refine lv_iconst (v := 0) hx hb dX1_trimmed_79 (by decide) ?_
  refine jcallS (As := [.int 0, .int 3, .int 0]) (rest := []) ⟨hx, hb, hml, hown, hts⟩ hK hP hA hS (c_X0_withSteps l D cI cL ad hJ σ τ 3 (3) jz_3) cw_RX1_133 ⟨Nat.le_of_ble_eq_true rfl, Nat.le_of_ble_eq_true rfl⟩ rfl rfl rfl hl.1 rfl (Nat.le_of_ble_eq_true rfl) dX1_trimmed_80 ⟨Nat.zero_le _, Nat.zero_le _⟩ (fun r57 σ56 τ56 H locs h56 hP hS => ?_)
  obtain ⟨⟨rfl, rfl⟩, h56⟩ := h56
  have h58 := h56
  obtain ⟨q60, k59⟩ := h58
  have q60 := q60.symm
  subst q60
  refine lv_istore_n (lv' := [(3, .int 0), (6, .int 4), (5, .int 0), (4, .int 3), (0, .ref (ad 31)), (1, .int 0), (2, .int 8)]) hx hb dX1_trimmed_83 rfl hl (by decide) rfl (fun ls hl => ?_)
  refine lv_iinc (v := 4) (lv' := [(4, .int 4), (3, .int 0), (6, .int 4), (5, .int 0), (0, .ref (ad 31)), (1, .int 0), (2, .int 8)]) hx hb dX1_trimmed_84 hl (k := 3) rfl (by decide) (by decide) rfl (fun ls hl => ?_)
  refine lv_goto (tgt := 5) hx hb dX1_trimmed_87 (by decide) ?_
  refine lv_iload hx hb dX1_trimmed_5 (lv_at hl 0 rfl) ?_
  refine lv_iconst (v := 4) hx hb dX1_trimmed_7 (by decide) ?_
  refine lv_icmp_ge (tgt := 90) hx hb dX1_trimmed_8 (by decide) (fun _ => ?_) (fun c => absurd (by decide) c)
  refine lv_iload_n hx hb dX1_trimmed_90 rfl (lv_at hl 1 rfl) ?_
  exact hret 0 σ τ _ _ _ _ rfl ⟨⟨rfl, rfl⟩, ⟨rfl, trivial⟩⟩ hP hS dX1_trimmed_91
set_option maxHeartbeats 4000000 in
set_option maxRecDepth 100000 in
theorem c_X1_isTaken_31 (l : Launch) (D : va_G) (cI cL : ClassId) (ad : Nat → Nat) (hJ : jD ad) (σ : Nat → Nat → Int32) (τ : Nat → Nat → Int64) (h31_8 : σ 31 8 = 0) (ha36 : ∀ k : Nat, σ 36 k = 0) : jM l yX1_isTaken cX1_isTaken 3 (some .boolean) ({ frames := 0, cells := 0, slots := 0, locals := 0 }) D cI cL ad [.ref (ad 31), .int 0] σ τ (fun r σ' τ' => (σ = σ' ∧ τ = τ') ∧ ((r = 0 ∧ True))) := by
  refine jM.of hJ (by decide +kernel) (nt := .boolean) rfl (Nat.le_of_ble_eq_true rfl) ?_
  intro p e s m args below meth c Q ls hC hret hl hP
  obtain ⟨hx, hb, hr, hml, hown, hts, hK, -, hlocks⟩ := hC
  have hown : s.vm.findClass RX1 = some m.cls := hown
  have hS : va_S (jA ad) s.heap s.heap [] := va_S.rf
  have hA : ∀ q, jA ad q → jA ad q := fun _ h => h
  have hl : lv_has ls 3 [(0, .ref (ad 31)), (1, .int 0)] := hl
  refine lv_aload_n hx hb dX1_isTaken_0 rfl (lv_at hl 0 rfl) ?_
  refine va_get (D := D) hx hb hts inlX1 hown hK hP 31 (jc_31 cI cL ad σ τ) rfl 6 (by decide) (hts _ kw_5_7) (fun _ h9 => h9) rfl dX1_isTaken_1 ?_
  refine lv_iload_n hx hb dX1_isTaken_4 rfl (lv_at hl 1 rfl) ?_
  refine jald hx hb hK hP (jc_36 cI cL ad σ τ) (jin jz_0 (by omega) (by omega)) dX1_isTaken_5 ?_
  refine jtopr (y := σ 36 0) rfl ?_
  have m1 : σ 36 0 = 0 := (ha36 0)
  refine jtopr m1 ?_
  refine lv_istore_n (lv' := [(2, .int 0), (0, .ref (ad 31)), (1, .int 0)]) hx hb dX1_isTaken_6 rfl hl (by decide) rfl (fun ls hl => ?_)
  refine lv_iload_n hx hb dX1_isTaken_7 rfl (lv_at hl 0 rfl) ?_
  refine lv_aload_n hx hb dX1_isTaken_8 rfl (lv_at hl 1 rfl) ?_
  refine va_get (D := D) hx hb hts inlX1 hown hK hP 31 (jc_31 cI cL ad σ τ) rfl 8 (by decide) (hts _ kw_27_22) (fun _ h9 => h9) rfl dX1_isTaken_9 ?_
  refine jtopr h31_8 ?_
  refine lv_icmp_ge (tgt := 29) hx hb dX1_isTaken_12 (by decide) (fun _ => ?_) (fun c => absurd (by decide) c)
  refine lv_iconst (v := 0) hx hb dX1_isTaken_29 (by decide) ?_
  exact hret 0 σ τ _ _ _ _ rfl ⟨⟨rfl, rfl⟩, ⟨rfl, trivial⟩⟩ hP hS dX1_isTaken_30
set_option maxHeartbeats 4000000 in
set_option maxRecDepth 100000 in
theorem c_X1_slotFor_31 (l : Launch) (D : va_G) (cI cL : ClassId) (ad : Nat → Nat) (hJ : jD ad) (σ : Nat → Nat → Int32) (τ : Nat → Nat → Int64) (h31_8 : σ 31 8 = 0) (ha36 : ∀ k : Nat, σ 36 k = 0) : jM l yX1_slotFor cX1_slotFor 5 (some .int) ({ frames := 1, cells := 0, slots := 0, locals := 22 }) D cI cL ad [.ref (ad 31), .int 0] σ τ (fun r σ' τ' => (σ = σ' ∧ τ = τ') ∧ ((r = 0 ∧ True))) := by
  refine jM.of hJ (by decide +kernel) (nt := .int) rfl (Nat.le_of_ble_eq_true rfl) ?_
  intro p e s m args below meth c Q ls hC hret hl hP
  obtain ⟨hx, hb, hr, hml, hown, hts, hK, -, hlocks⟩ := hC
  have hown : s.vm.findClass RX1 = some m.cls := hown
  have hS : va_S (jA ad) s.heap s.heap [] := va_S.rf
  have hA : ∀ q, jA ad q → jA ad q := fun _ h => h
  have hl : lv_has ls 5 [(0, .ref (ad 31)), (1, .int 0)] := hl
  refine lv_iload_n hx hb dX1_slotFor_0 rfl (lv_at hl 1 rfl) ?_
  refine lv_ldc (v := (-1640531527)) hx hb hown (hts _ kw_29_4) dX1_slotFor_1 ?_
  refine lv_imul hx hb dX1_slotFor_3 ?_
  refine jtopr (y := 0) (by decide) ?_
  refine lv_bipush (v := 22) hx hb dX1_slotFor_4 (by decide) ?_
  refine lv_iushr (v := 0) hx hb dX1_slotFor_6 (by decide) ?_
  refine lv_istore_n (lv' := [(2, .int 0), (0, .ref (ad 31)), (1, .int 0)]) hx hb dX1_slotFor_7 rfl hl (by decide) rfl (fun ls hl => ?_)
  refine lv_iconst (v := 0) hx hb dX1_slotFor_8 (by decide) ?_
  refine lv_istore_n (lv' := [(3, .int 0), (2, .int 0), (0, .ref (ad 31)), (1, .int 0)]) hx hb dX1_slotFor_9 rfl hl (by decide) rfl (fun ls hl => ?_)
  refine lv_iload_n hx hb dX1_slotFor_10 rfl (lv_at hl 0 rfl) ?_
  refine lv_sipush (v := 1024) hx hb dX1_slotFor_11 (by decide) ?_
  refine lv_icmp_ge (tgt := 60) hx hb dX1_slotFor_14 (by decide) (fun c => absurd c (by decide)) (fun _ => ?_)
  refine lv_iload_n hx hb dX1_slotFor_17 rfl (lv_at hl 1 rfl) ?_
  refine lv_iload_n hx hb dX1_slotFor_18 rfl (lv_at hl 0 rfl) ?_
  refine lv_iadd hx hb dX1_slotFor_19 ?_
  refine jtopr (y := 0) (by decide) ?_
  refine lv_sipush (v := 1023) hx hb dX1_slotFor_20 (by decide) ?_
  refine lv_iand hx hb dX1_slotFor_23 ?_
  refine jtopr (y := 0) (by decide) ?_
  refine lv_istore (lv' := [(4, .int 0), (3, .int 0), (2, .int 0), (0, .ref (ad 31)), (1, .int 0)]) hx hb dX1_slotFor_24 hl (by decide) rfl (fun ls hl => ?_)
  refine lv_aload_n hx hb dX1_slotFor_26 rfl (lv_at hl 3 rfl) ?_
  refine lv_iload hx hb dX1_slotFor_27 (lv_at hl 0 rfl) ?_
  refine jcallV (As := [.int 0]) (rest := []) ⟨hx, hb, hml, hown, hts⟩ hK hP hA hS (c_X1_isTaken_31 l D cI cL ad hJ σ τ h31_8 ha36) cw_RX1_81 (jc_31 cI cL ad σ τ) rfl ⟨Nat.le_of_ble_eq_true rfl, Nat.le_of_ble_eq_true rfl⟩ rfl rfl rfl hl.1 rfl (Nat.le_of_ble_eq_true rfl) dX1_slotFor_29 ⟨Nat.zero_le _, Nat.zero_le _⟩ (fun r2 σ1 τ1 H locs h1 hP hS => ?_)
  obtain ⟨⟨rfl, rfl⟩, h1⟩ := h1
  have h3 := h1
  obtain ⟨q5, k4⟩ := h3
  have q5 := q5.symm
  subst q5
  refine lv_if_eq (tgt := 51) hx hb dX1_slotFor_32 (by decide) (fun _ => ?_) (fun c => absurd (by decide) c)
  refine lv_iload hx hb dX1_slotFor_51 (lv_at hl 0 rfl) ?_
  exact hret 0 σ τ _ _ _ _ rfl ⟨⟨rfl, rfl⟩, ⟨rfl, trivial⟩⟩ hP hS dX1_slotFor_53
set_option maxHeartbeats 4000000 in
set_option maxRecDepth 100000 in
theorem c_X1_add_31 (l : Launch) (D : va_G) (cI cL : ClassId) (ad : Nat → Nat) (hJ : jD ad) (σ : Nat → Nat → Int32) (τ : Nat → Nat → Int64) (h31_8 : σ 31 8 = 0) (h31_9 : σ 31 9 = 0) (h31_10 : σ 31 10 = 0) (h31_11 : σ 31 11 = 8) (h31_12 : σ 31 12 = 0) (ha36 : ∀ k : Nat, σ 36 k = 0) : jM l yX1_add cX1_add 5 (some .int) ({ frames := 2, cells := 0, slots := 0, locals := 49 }) D cI cL ad [.ref (ad 31), .int 0, .int 0] σ τ (fun r σ' τ' => (∀ i : Nat, (i < 31 ∨ 32 < i) ∧ (i < 36 ∨ 37 < i) → σ' i = σ i) ∧ σ' 31 8 = 1 ∧ σ' 31 9 = 0 ∧ σ' 31 10 = 0 ∧ σ' 31 11 = 8 ∧ σ' 31 12 = 0 ∧ σ' 32 0 = 0 ∧ ((r = 0 ∧ True))) := by
  refine jM.of hJ (by decide +kernel) (nt := .int) rfl (Nat.le_of_ble_eq_true rfl) ?_
  intro p e s m args below meth c Q ls hC hret hl hP
  obtain ⟨hx, hb, hr, hml, hown, hts, hK, -, hlocks⟩ := hC
  have hown : s.vm.findClass RX1 = some m.cls := hown
  have hS : va_S (jA ad) s.heap s.heap [] := va_S.rf
  have hA : ∀ q, jA ad q → jA ad q := fun _ h => h
  have hl : lv_has ls 5 [(0, .ref (ad 31)), (1, .int 0), (2, .int 0)] := hl
  refine lv_iload_n hx hb dX1_add_0 rfl (lv_at hl 2 rfl) ?_
  refine lv_aload_n hx hb dX1_add_1 rfl (lv_at hl 0 rfl) ?_
  refine va_get (D := D) hx hb hts inlX1 hown hK hP 31 (jc_31 cI cL ad σ τ) rfl 11 (by decide) (hts _ kw_28_7) (fun _ h9 => h9) rfl dX1_add_2 ?_
  refine jtopr h31_11 ?_
  refine lv_icmp_lt (tgt := 12) hx hb dX1_add_5 (by decide) (fun _ => ?_) (fun c => absurd (by decide) c)
  refine lv_aload_n hx hb dX1_add_12 rfl (lv_at hl 0 rfl) ?_
  refine lv_iload_n hx hb dX1_add_13 rfl (lv_at hl 1 rfl) ?_
  refine lv_aload_n hx hb dX1_add_14 rfl (lv_at hl 0 rfl) ?_
  refine va_get (D := D) hx hb hts inlX1 hown hK hP 31 (jc_31 cI cL ad σ τ) rfl 11 (by decide) (hts _ kw_28_7) (fun _ h9 => h9) rfl dX1_add_15 ?_
  refine jtopr h31_11 ?_
  refine lv_iload_n hx hb dX1_add_18 rfl (lv_at hl 2 rfl) ?_
  refine lv_isub hx hb dX1_add_19 ?_
  refine jtopr (y := 8) (by decide) ?_
  refine jcallV (As := [.int 0, .int 8]) (rest := []) ⟨hx, hb, hml, hown, hts⟩ hK hP hA hS (c_X1_trimmed_31 l D cI cL ad hJ σ τ h31_12) cw_RX1_71 (jc_31 cI cL ad σ τ) rfl ⟨Nat.le_of_ble_eq_true rfl, Nat.le_of_ble_eq_true rfl⟩ rfl rfl rfl hl.1 rfl (Nat.le_of_ble_eq_true rfl) dX1_add_20 ⟨Nat.zero_le _, Nat.zero_le _⟩ (fun r2 σ1 τ1 H locs h1 hP hS => ?_)
  obtain ⟨⟨rfl, rfl⟩, h1⟩ := h1
  have h3 := h1
  obtain ⟨q5, k4⟩ := h3
  have q5 := q5.symm
  subst q5
  refine lv_iload_n hx hb dX1_add_23 rfl (lv_at hl 2 rfl) ?_
  refine lv_bipush (v := 27) hx hb dX1_add_24 (by decide) ?_
  refine lv_ishl hx hb dX1_add_26 ?_
  refine jtopr (y := 0) (by decide) ?_
  refine lv_ior hx hb dX1_add_27 ?_
  refine jtopr (y := 0) (by decide) ?_
  refine lv_istore_n (lv' := [(3, .int 0), (0, .ref (ad 31)), (1, .int 0), (2, .int 0)]) hx hb dX1_add_28 rfl hl (by decide) rfl (fun ls hl => ?_)
  refine lv_aload_n hx hb dX1_add_29 rfl (lv_at hl 1 rfl) ?_
  refine lv_iload_n hx hb dX1_add_30 rfl (lv_at hl 0 rfl) ?_
  refine jcallV (As := [.int 0]) (rest := []) ⟨hx, hb, hml, hown, hts⟩ hK hP hA hS (c_X1_slotFor_31 l D cI cL ad hJ σ τ h31_8 ha36) cw_RX1_77 (jc_31 cI cL ad σ τ) rfl ⟨Nat.le_of_ble_eq_true rfl, Nat.le_of_ble_eq_true rfl⟩ rfl rfl rfl hl.1 rfl (Nat.le_of_ble_eq_true rfl) dX1_add_31 ⟨Nat.zero_le _, Nat.zero_le _⟩ (fun r7 σ6 τ6 H locs h6 hP hS => ?_)
  obtain ⟨⟨rfl, rfl⟩, h6⟩ := h6
  have h8 := h6
  obtain ⟨q10, k9⟩ := h8
  have q10 := q10.symm
  subst q10
  refine lv_istore (lv' := [(4, .int 0), (3, .int 0), (0, .ref (ad 31)), (1, .int 0), (2, .int 0)]) hx hb dX1_add_34 hl (by decide) rfl (fun ls hl => ?_)
  refine lv_iload hx hb dX1_add_36 (lv_at hl 0 rfl) ?_
  refine lv_if_ge (tgt := 45) hx hb dX1_add_38 (by decide) (fun _ => ?_) (fun c => absurd (by decide) c)
  refine lv_aload_n hx hb dX1_add_45 rfl (lv_at hl 2 rfl) ?_
  refine lv_iload hx hb dX1_add_46 (lv_at hl 0 rfl) ?_
  refine jcallV (As := [.int 0]) (rest := []) ⟨hx, hb, hml, hown, hts⟩ hK hP hA hS (c_X1_isTaken_31 l D cI cL ad hJ σ τ h31_8 ha36) cw_RX1_81 (jc_31 cI cL ad σ τ) rfl ⟨Nat.le_of_ble_eq_true rfl, Nat.le_of_ble_eq_true rfl⟩ rfl rfl rfl hl.1 rfl (Nat.le_of_ble_eq_true rfl) dX1_add_48 ⟨Nat.zero_le _, Nat.zero_le _⟩ (fun r12 σ11 τ11 H locs h11 hP hS => ?_)
  obtain ⟨⟨rfl, rfl⟩, h11⟩ := h11
  have h13 := h11
  obtain ⟨q15, k14⟩ := h13
  have q15 := q15.symm
  subst q15
  refine lv_if_eq (tgt := 62) hx hb dX1_add_51 (by decide) (fun _ => ?_) (fun c => absurd (by decide) c)
  refine lv_aload_n hx hb dX1_add_62 rfl (lv_at hl 2 rfl) ?_
  refine va_get (D := D) hx hb hts inlX1 hown hK hP 31 (jc_31 cI cL ad σ τ) rfl 8 (by decide) (hts _ kw_27_22) (fun _ h9 => h9) rfl dX1_add_63 ?_
  refine jtopr h31_8 ?_
  refine lv_sipush (v := 350) hx hb dX1_add_66 (by decide) ?_
  refine lv_icmp_lt (tgt := 76) hx hb dX1_add_69 (by decide) (fun _ => ?_) (fun c => absurd (by decide) c)
  refine lv_aload_n hx hb dX1_add_76 rfl (lv_at hl 2 rfl) ?_
  refine va_get (D := D) hx hb hts inlX1 hown hK hP 31 (jc_31 cI cL ad σ τ) rfl 2 (by decide) (hts _ kw_5_3) (fun _ h9 => h9) rfl dX1_add_77 ?_
  refine lv_aload_n hx hb dX1_add_80 rfl (lv_at hl 2 rfl) ?_
  refine va_get (D := D) hx hb hts inlX1 hown hK hP 31 (jc_31 cI cL ad σ τ) rfl 8 (by decide) (hts _ kw_27_22) (fun _ h9 => h9) rfl dX1_add_81 ?_
  refine jtopr h31_8 ?_
  refine lv_iload_n hx hb dX1_add_84 rfl (lv_at hl 1 rfl) ?_
  refine jast hx hb hK hP hJ hA hS (jc_32 cI cL ad σ τ) (ja_32 cI cL ad σ τ _ _) (jin jz_0 (by omega) (by omega)) dX1_add_85 (fun σ16 H locs eσ16 hP hS => ?_)
  have eσ16 : σ16 = jup σ 32 0 0 := eσ16
  refine lv_aload_n hx hb dX1_add_86 rfl (lv_at hl 2 rfl) ?_
  refine va_get (D := D) hx hb hts inlX1 hown hK hP 31 (jc_31 cI cL ad σ16 τ) rfl 7 (by decide) (hts _ kw_5_8) (fun _ h9 => h9) rfl dX1_add_87 ?_
  refine lv_aload_n hx hb dX1_add_90 rfl (lv_at hl 2 rfl) ?_
  refine va_get (D := D) hx hb hts inlX1 hown hK hP 31 (jc_31 cI cL ad σ16 τ) rfl 8 (by decide) (hts _ kw_27_22) (fun _ h9 => h9) rfl dX1_add_91 ?_
  have m17 : σ16 31 8 = 0 := (by rw [eσ16, jup_n (by decide)]; exact h31_8)
  refine jtopr m17 ?_
  refine lv_iload hx hb dX1_add_94 (lv_at hl 0 rfl) ?_
  refine jast hx hb hK hP hJ hA hS (jc_37 cI cL ad σ16 τ) (ja_37 cI cL ad σ16 τ _ _) (jin jz_0 (by omega) (by omega)) dX1_add_96 (fun σ18 H locs eσ18 hP hS => ?_)
  have eσ18 : σ18 = jup σ16 37 0 0 := eσ18
  refine lv_aload_n hx hb dX1_add_97 rfl (lv_at hl 2 rfl) ?_
  refine va_get (D := D) hx hb hts inlX1 hown hK hP 31 (jc_31 cI cL ad σ18 τ) rfl 6 (by decide) (hts _ kw_5_7) (fun _ h9 => h9) rfl dX1_add_98 ?_
  refine lv_iload hx hb dX1_add_101 (lv_at hl 0 rfl) ?_
  refine lv_aload_n hx hb dX1_add_103 rfl (lv_at hl 2 rfl) ?_
  refine va_get (D := D) hx hb hts inlX1 hown hK hP 31 (jc_31 cI cL ad σ18 τ) rfl 8 (by decide) (hts _ kw_27_22) (fun _ h9 => h9) rfl dX1_add_104 ?_
  have m19 : σ18 31 8 = 0 := (by rw [eσ18, jup_n (by decide)]; exact m17)
  refine jtopr m19 ?_
  refine jast hx hb hK hP hJ hA hS (jc_36 cI cL ad σ18 τ) (ja_36 cI cL ad σ18 τ _ _) (jin jz_0 (by omega) (by omega)) dX1_add_107 (fun σ20 H locs eσ20 hP hS => ?_)
  have eσ20 : σ20 = jup σ18 36 0 0 := eσ20
  refine lv_aload_n hx hb dX1_add_108 rfl (lv_at hl 2 rfl) ?_
  refine lv_dup hx hb dX1_add_109 rfl ?_
  refine va_get (D := D) hx hb hts inlX1 hown hK hP 31 (jc_31 cI cL ad σ20 τ) rfl 8 (by decide) (hts _ kw_27_22) (fun _ h9 => h9) rfl dX1_add_110 ?_
  have m21 : σ20 31 8 = 0 := (by rw [eσ20, jup_n (by decide)]; exact m19)
  refine jtopr m21 ?_
  refine lv_dup_x1 hx hb dX1_add_113 rfl rfl ?_
  refine lv_iconst (v := 1) hx hb dX1_add_114 (by decide) ?_
  refine lv_iadd hx hb dX1_add_115 ?_
  refine jtopr (y := 1) (by decide) ?_
  refine jput (ty := .int) hx hb hts inlX1 tyX1 tyX1_ok nmX1 hown hK hP hJ hA hS (jc_31 cI cL ad σ20 τ) rfl (k := 8) (by decide) (Nat.le_of_ble_eq_true rfl) (jp_31_8 cI cL ad σ20 τ 1) (hts _ kw_27_22) (fun _ h9 => h9) rfl (by decide +kernel) rfl rfl dX1_add_116 (fun σ22 H locs eσ22 hP hS => ?_)
  have m23 : σ22 31 8 = 1 := (by rw [eσ22]; exact jup_s)
  have m24 : σ22 31 9 = 0 := (by rw [eσ22, jup_k (by decide)]; exact (by rw [eσ20, jup_n (by decide)]; exact (by rw [eσ18, jup_n (by decide)]; exact (by rw [eσ16, jup_n (by decide)]; exact h31_9))))
  have m25 : σ22 31 10 = 0 := (by rw [eσ22, jup_k (by decide)]; exact (by rw [eσ20, jup_n (by decide)]; exact (by rw [eσ18, jup_n (by decide)]; exact (by rw [eσ16, jup_n (by decide)]; exact h31_10))))
  have m26 : σ22 31 11 = 8 := (by rw [eσ22, jup_k (by decide)]; exact (by rw [eσ20, jup_n (by decide)]; exact (by rw [eσ18, jup_n (by decide)]; exact (by rw [eσ16, jup_n (by decide)]; exact h31_11))))
  have m27 : σ22 31 12 = 0 := (by rw [eσ22, jup_k (by decide)]; exact (by rw [eσ20, jup_n (by decide)]; exact (by rw [eσ18, jup_n (by decide)]; exact (by rw [eσ16, jup_n (by decide)]; exact h31_12))))
  have m28 : σ22 32 0 = 0 := (by rw [eσ22, jup_n (by decide)]; exact (by rw [eσ20, jup_n (by decide)]; exact (by rw [eσ18, jup_n (by decide)]; exact (by rw [eσ16]; exact jup_s))))
  exact hret 0 σ22 τ _ _ _ _ rfl ⟨(fun i hi => by rw [eσ22, jup_n (by omega), eσ20, jup_n (by omega), eσ18, jup_n (by omega), eσ16, jup_n (by omega)]), m23, m24, m25, m26, m27, m28, ⟨rfl, trivial⟩⟩ hP hS dX1_add_119
set_option maxHeartbeats 4000000 in
set_option maxRecDepth 100000 in
theorem c_X1_grow_31 (l : Launch) (D : va_G) (cI cL : ClassId) (ad : Nat → Nat) (hJ : jD ad) (σ : Nat → Nat → Int32) (τ : Nat → Nat → Int64) (h16_1 : σ 16 1 = 8) (h22_1 : σ 22 1 = 0) (h31_9 : σ 31 9 = (-1)) (ha36 : ∀ k : Nat, σ 36 k = 0) : jMv l yX1_grow cX1_grow 9 none ({ frames := 3, cells := 0, slots := 0, locals := 73 }) D cI cL ad [.ref (ad 31), .int 0, .int 0] σ τ (fun σ' τ' => (∀ i : Nat, (i < 31 ∨ 33 < i) ∧ (i < 36 ∨ 37 < i) → σ' i = σ i) ∧ σ' 31 8 = 1 ∧ σ' 31 9 = 0 ∧ σ' 31 10 = 0 ∧ σ' 31 11 = 8 ∧ σ' 31 12 = 0 ∧ σ' 32 0 = 0 ∧ σ' 33 0 = (-1) ∧ σ' 33 1 = (-1) ∧ σ' 33 2 = (-1) ∧ σ' 33 3 = (-1) ∧ True) := by
  refine jMv.of hJ (by decide +kernel) rfl (Nat.le_of_ble_eq_true rfl) ?_
  intro p e s m args below meth c Q ls hC hret hl hP
  obtain ⟨hx, hb, hr, hml, hown, hts, hK, -, hlocks⟩ := hC
  have hown : s.vm.findClass RX1 = some m.cls := hown
  have hS : va_S (jA ad) s.heap s.heap [] := va_S.rf
  have hA : ∀ q, jA ad q → jA ad q := fun _ h => h
  have hl : lv_has ls 9 [(0, .ref (ad 31)), (1, .int 0), (2, .int 0)] := hl
  refine lv_iconst (v := 0) hx hb dX1_grow_0 (by decide) ?_
  refine lv_bipush (v := 8) hx hb dX1_grow_1 (by decide) ?_
  refine lv_aload_n hx hb dX1_grow_3 rfl (lv_at hl 0 rfl) ?_
  refine va_get (D := D) hx hb hts inlX1 hown hK hP 31 (jc_31 cI cL ad σ τ) rfl 1 (by decide) (hts _ kw_5_11) (fun _ h9 => h9) rfl dX1_grow_4 ?_
  refine va_get (D := D) hx hb hts inlX6 hown hK hP 16 (jc_16 cI cL ad σ τ) rfl 1 (by decide) (hts _ kw_28_3) (fun _ h9 => h9) rfl dX1_grow_7 ?_
  refine jtopr h16_1 ?_
  refine lv_iload_n hx hb dX1_grow_10 rfl (lv_at hl 2 rfl) ?_
  refine lv_isub hx hb dX1_grow_11 ?_
  refine jtopr (y := 8) (by decide) ?_
  refine va_mmin hx hb (hml.trans hl.1.symm) hown (hts _ kw_28_4) (hts _ kw_22_11) (hts _ kw_21_1) (hts _ kw_22_12) (Nat.le_of_ble_eq_true rfl) (Nat.le_of_ble_eq_true rfl) (Nat.le_of_ble_eq_true rfl) (Nat.le_of_ble_eq_true rfl) dX1_grow_12 ?_
  refine jtopr (y := 8) (by decide) ?_
  refine va_mmax hx hb (hml.trans hl.1.symm) hown (hts _ kw_28_5) (hts _ kw_21_0) (hts _ kw_21_1) (hts _ kw_21_2) (Nat.le_of_ble_eq_true rfl) (Nat.le_of_ble_eq_true rfl) (Nat.le_of_ble_eq_true rfl) (Nat.le_of_ble_eq_true rfl) dX1_grow_15 ?_
  refine jtopr (y := 8) (by decide) ?_
  refine lv_istore_n (lv' := [(3, .int 8), (0, .ref (ad 31)), (1, .int 0), (2, .int 0)]) hx hb dX1_grow_18 rfl hl (by decide) rfl (fun ls hl => ?_)
  refine lv_aload_n hx hb dX1_grow_19 rfl (lv_at hl 1 rfl) ?_
  refine va_get (D := D) hx hb hts inlX1 hown hK hP 31 (jc_31 cI cL ad σ τ) rfl 0 (by decide) (hts _ kw_5_10) (fun _ h9 => h9) rfl dX1_grow_20 ?_
  refine va_get (D := D) hx hb hts inlX5 hown hK hP 26 (jc_26 cI cL ad σ τ) rfl 0 (by decide) (hts _ kw_28_6) (fun _ h9 => h9) rfl dX1_grow_23 ?_
  refine lv_iconst (v := 5) hx hb dX1_grow_26 (by decide) ?_
  refine jcallV (As := [.int 5]) (rest := []) ⟨hx, hb, hml, hown, hts⟩ hK hP hA hS (c_X10_uses_22 l D cI cL ad hJ σ τ 5 (5) jz_5 h22_1) cw_RX1_104 (jc_22 cI cL ad σ τ) rfl ⟨Nat.le_of_ble_eq_true rfl, Nat.le_of_ble_eq_true rfl⟩ rfl rfl rfl hl.1 rfl (Nat.le_of_ble_eq_true rfl) dX1_grow_27 ⟨Nat.zero_le _, Nat.zero_le _⟩ (fun r2 σ1 τ1 H locs h1 hP hS => ?_)
  obtain ⟨⟨rfl, rfl⟩, h1⟩ := h1
  have h3 := h1
  obtain ⟨q5, k4⟩ := h3
  have q5 := q5.symm
  subst q5
  refine lv_istore (lv' := [(4, .int 0), (3, .int 8), (0, .ref (ad 31)), (1, .int 0), (2, .int 0)]) hx hb dX1_grow_30 hl (by decide) rfl (fun ls hl => ?_)
  refine lv_aload_n hx hb dX1_grow_32 rfl (lv_at hl 2 rfl) ?_
  refine va_get (D := D) hx hb hts inlX1 hown hK hP 31 (jc_31 cI cL ad σ τ) rfl 9 (by decide) (hts _ kw_5_9) (fun _ h9 => h9) rfl dX1_grow_33 ?_
  refine jtopr h31_9 ?_
  refine lv_iload_n hx hb dX1_grow_36 rfl (lv_at hl 3 rfl) ?_
  refine lv_icmp_ne (tgt := 63) hx hb dX1_grow_37 (by decide) (fun _ => ?_) (fun c => absurd c (by decide))
  refine lv_aload_n hx hb dX1_grow_63 rfl (lv_at hl 2 rfl) ?_
  refine lv_iload_n hx hb dX1_grow_64 rfl (lv_at hl 3 rfl) ?_
  refine jput (ty := .int) hx hb hts inlX1 tyX1 tyX1_ok nmX1 hown hK hP hJ hA hS (jc_31 cI cL ad σ τ) rfl (k := 9) (by decide) (Nat.le_of_ble_eq_true rfl) (jp_31_9 cI cL ad σ τ 0) (hts _ kw_5_9) (fun _ h9 => h9) rfl (by decide +kernel) rfl rfl dX1_grow_65 (fun σ6 H locs eσ6 hP hS => ?_)
  refine lv_aload_n hx hb dX1_grow_68 rfl (lv_at hl 2 rfl) ?_
  refine lv_iload_n hx hb dX1_grow_69 rfl (lv_at hl 4 rfl) ?_
  refine jput (ty := .int) hx hb hts inlX1 tyX1 tyX1_ok nmX1 hown hK hP hJ hA hS (jc_31 cI cL ad σ6 τ) rfl (k := 10) (by decide) (Nat.le_of_ble_eq_true rfl) (jp_31_10 cI cL ad σ6 τ 0) (hts _ kw_28_9) (fun _ h9 => h9) rfl (by decide +kernel) rfl rfl dX1_grow_70 (fun σ7 H locs eσ7 hP hS => ?_)
  refine lv_aload_n hx hb dX1_grow_73 rfl (lv_at hl 2 rfl) ?_
  refine lv_iload_n hx hb dX1_grow_74 rfl (lv_at hl 1 rfl) ?_
  refine jput (ty := .int) hx hb hts inlX1 tyX1 tyX1_ok nmX1 hown hK hP hJ hA hS (jc_31 cI cL ad σ7 τ) rfl (k := 11) (by decide) (Nat.le_of_ble_eq_true rfl) (jp_31_11 cI cL ad σ7 τ 8) (hts _ kw_28_7) (fun _ h9 => h9) rfl (by decide +kernel) rfl rfl dX1_grow_75 (fun σ8 H locs eσ8 hP hS => ?_)
  refine lv_aload_n hx hb dX1_grow_78 rfl (lv_at hl 2 rfl) ?_
  refine lv_iload hx hb dX1_grow_79 (lv_at hl 0 rfl) ?_
  refine jput (ty := .boolean) hx hb hts inlX1 tyX1 tyX1_ok nmX1 hown hK hP hJ hA hS (jc_31 cI cL ad σ8 τ) rfl (k := 12) (by decide) (Nat.le_of_ble_eq_true rfl) (jp_31_12 cI cL ad σ8 τ 0) (hts _ kw_28_8) (fun _ h9 => h9) rfl (by decide +kernel) rfl rfl dX1_grow_81 (fun σ9 H locs eσ9 hP hS => ?_)
  refine lv_aload_n hx hb dX1_grow_84 rfl (lv_at hl 2 rfl) ?_
  refine lv_iconst (v := 0) hx hb dX1_grow_85 (by decide) ?_
  refine jput (ty := .int) hx hb hts inlX1 tyX1 tyX1_ok nmX1 hown hK hP hJ hA hS (jc_31 cI cL ad σ9 τ) rfl (k := 8) (by decide) (Nat.le_of_ble_eq_true rfl) (jp_31_8 cI cL ad σ9 τ 0) (hts _ kw_27_22) (fun _ h9 => h9) rfl (by decide +kernel) rfl rfl dX1_grow_86 (fun σ10 H locs eσ10 hP hS => ?_)
  refine lv_aload_n hx hb dX1_grow_89 rfl (lv_at hl 2 rfl) ?_
  refine lv_iload_n hx hb dX1_grow_90 rfl (lv_at hl 3 rfl) ?_
  refine lv_iconst (v := 0) hx hb dX1_grow_91 (by decide) ?_
  have m11 : σ10 31 8 = 0 := (by rw [eσ10]; exact jup_s)
  have m12 : σ10 31 9 = 0 := (by rw [eσ10, jup_k (by decide)]; exact (by rw [eσ9, jup_k (by decide)]; exact (by rw [eσ8, jup_k (by decide)]; exact (by rw [eσ7, jup_k (by decide)]; exact (by rw [eσ6]; exact jup_s)))))
  have m13 : σ10 31 10 = 0 := (by rw [eσ10, jup_k (by decide)]; exact (by rw [eσ9, jup_k (by decide)]; exact (by rw [eσ8, jup_k (by decide)]; exact (by rw [eσ7]; exact jup_s))))
  have m14 : σ10 31 11 = 8 := (by rw [eσ10, jup_k (by decide)]; exact (by rw [eσ9, jup_k (by decide)]; exact (by rw [eσ8]; exact jup_s)))
  have m15 : σ10 31 12 = 0 := (by rw [eσ10, jup_k (by decide)]; exact (by rw [eσ9]; exact jup_s))
  have m16 : ∀ k : Nat, σ10 36 k = 0 := (by rw [eσ10, jup_n (by decide)]; exact (by rw [eσ9, jup_n (by decide)]; exact (by rw [eσ8, jup_n (by decide)]; exact (by rw [eσ7, jup_n (by decide)]; exact (by rw [eσ6, jup_n (by decide)]; exact ha36)))))
  refine jcallV (As := [.int 0, .int 0]) (rest := []) ⟨hx, hb, hml, hown, hts⟩ hK hP hA hS (c_X1_add_31 l D cI cL ad hJ σ10 τ m11 m12 m13 m14 m15 m16) cw_RX1_111 (jc_31 cI cL ad σ10 τ) rfl ⟨Nat.le_of_ble_eq_true rfl, Nat.le_of_ble_eq_true rfl⟩ rfl rfl rfl hl.1 rfl (Nat.le_of_ble_eq_true rfl) dX1_grow_92 ⟨Nat.zero_le _, Nat.zero_le _⟩ (fun r18 σ17 τ17 H locs h17 hP hS => ?_)
  obtain ⟨f19, m20, m21, m22, m23, m24, m25, h17⟩ := h17
  have h26 := h17
  obtain ⟨q28, k27⟩ := h26
  have q28 := q28.symm
  subst q28
  refine lv_pop hx hb dX1_grow_95 rfl ?_
  refine lv_iconst (v := 0) hx hb dX1_grow_96 (by decide) ?_
  refine lv_istore (lv' := [(5, .int 0), (4, .int 0), (3, .int 8), (0, .ref (ad 31)), (1, .int 0), (2, .int 0)]) hx hb dX1_grow_97 hl (by decide) rfl (fun ls hl => ?_)
  refine lv_iload hx hb dX1_grow_99 (lv_at hl 0 rfl) ?_
  refine lv_aload_n hx hb dX1_grow_101 rfl (lv_at hl 3 rfl) ?_
  refine va_get (D := D) hx hb hts inlX1 hown hK hP 31 (jc_31 cI cL ad σ17 τ17) rfl 8 (by decide) (hts _ kw_27_22) (fun _ h9 => h9) rfl dX1_grow_102 ?_
  refine jtopr m20 ?_
  refine lv_icmp_ge (tgt := 202) hx hb dX1_grow_105 (by decide) (fun c => absurd c (by decide)) (fun _ => ?_)
  refine lv_iload hx hb dX1_grow_108 (lv_at hl 0 rfl) ?_
  refine lv_sipush (v := 350) hx hb dX1_grow_110 (by decide) ?_
  refine lv_icmp_ge (tgt := 202) hx hb dX1_grow_113 (by decide) (fun c => absurd c (by decide)) (fun _ => ?_)
  refine lv_aload_n hx hb dX1_grow_116 rfl (lv_at hl 3 rfl) ?_
  refine va_get (D := D) hx hb hts inlX1 hown hK hP 31 (jc_31 cI cL ad σ17 τ17) rfl 2 (by decide) (hts _ kw_5_3) (fun _ h9 => h9) rfl dX1_grow_117 ?_
  refine lv_iload hx hb dX1_grow_120 (lv_at hl 0 rfl) ?_
  refine jald hx hb hK hP (jc_32 cI cL ad σ17 τ17) (jin jz_0 (by omega) (by omega)) dX1_grow_122 ?_
  refine jtopr (y := σ17 32 0) rfl ?_
  refine jtopr m25 ?_
  refine lv_ldc (v := 134217727) hx hb hown (hts _ kw_28_10) dX1_grow_123 ?_
  refine lv_iand hx hb dX1_grow_125 ?_
  refine jtopr (y := 0) (by decide) ?_
  refine lv_istore (lv' := [(6, .int 0), (5, .int 0), (4, .int 0), (3, .int 8), (0, .ref (ad 31)), (1, .int 0), (2, .int 0)]) hx hb dX1_grow_126 hl (by decide) rfl (fun ls hl => ?_)
  refine lv_aload_n hx hb dX1_grow_128 rfl (lv_at hl 4 rfl) ?_
  refine va_get (D := D) hx hb hts inlX1 hown hK hP 31 (jc_31 cI cL ad σ17 τ17) rfl 2 (by decide) (hts _ kw_5_3) (fun _ h9 => h9) rfl dX1_grow_129 ?_
  refine lv_iload hx hb dX1_grow_132 (lv_at hl 1 rfl) ?_
  refine jald hx hb hK hP (jc_32 cI cL ad σ17 τ17) (jin jz_0 (by omega) (by omega)) dX1_grow_134 ?_
  refine jtopr (y := σ17 32 0) rfl ?_
  refine jtopr m25 ?_
  refine lv_bipush (v := 27) hx hb dX1_grow_135 (by decide) ?_
  refine lv_ishr hx hb dX1_grow_137 ?_
  refine jtopr (y := 0) (by decide) ?_
  refine lv_istore (lv' := [(7, .int 0), (6, .int 0), (5, .int 0), (4, .int 0), (3, .int 8), (0, .ref (ad 31)), (1, .int 0), (2, .int 0)]) hx hb dX1_grow_138 hl (by decide) rfl (fun ls hl => ?_)
  refine lv_iconst (v := 0) hx hb dX1_grow_140 (by decide) ?_
  refine lv_istore (lv' := [(8, .int 0), (7, .int 0), (6, .int 0), (5, .int 0), (4, .int 0), (3, .int 8), (0, .ref (ad 31)), (1, .int 0), (2, .int 0)]) hx hb dX1_grow_141 hl (by decide) rfl (fun ls hl => ?_)
  refine lv_iload hx hb dX1_grow_143 (lv_at hl 0 rfl) ?_
  refine lv_iconst (v := 4) hx hb dX1_grow_145 (by decide) ?_
  refine lv_icmp_ge (tgt := 196) hx hb dX1_grow_146 (by decide) (fun c => absurd c (by decide)) (fun _ => ?_)
  refine lv_aload_n hx hb dX1_grow_149 rfl (lv_at hl 6 rfl) ?_
  refine va_get (D := D) hx hb hts inlX1 hown hK hP 31 (jc_31 cI cL ad σ17 τ17) rfl 3 (by decide) (hts _ kw_5_4) (fun _ h9 => h9) rfl dX1_grow_150 ?_
  refine lv_iload hx hb dX1_grow_153 (lv_at hl 3 rfl) ?_
  refine lv_iconst (v := 4) hx hb dX1_grow_155 (by decide) ?_
  refine lv_imul hx hb dX1_grow_156 ?_
  refine jtopr (y := 0) (by decide) ?_
  refine lv_iload hx hb dX1_grow_157 (lv_at hl 0 rfl) ?_
  refine lv_iadd hx hb dX1_grow_159 ?_
  refine jtopr (y := 0) (by decide) ?_
  refine lv_iload hx hb dX1_grow_160 (lv_at hl 2 rfl) ?_
  refine lv_iload hx hb dX1_grow_162 (lv_at hl 0 rfl) ?_
  refine jcallS (As := [.int 0, .int 0]) (rest := [.int 0, .ref (ad 33)]) ⟨hx, hb, hml, hown, hts⟩ hK hP hA hS (c_X0_mayBowl l D cI cL ad hJ σ17 τ17 0 (0) jz_0) cw_RX1_115 ⟨Nat.le_of_ble_eq_true rfl, Nat.le_of_ble_eq_true rfl⟩ rfl rfl rfl hl.1 rfl (Nat.le_of_ble_eq_true rfl) dX1_grow_164 ⟨Nat.zero_le _, Nat.zero_le _⟩ (fun r30 σ29 τ29 H locs h29 hP hS => ?_)
  obtain ⟨⟨rfl, rfl⟩, h29⟩ := h29
  have h31 := h29
  obtain ⟨q33, k32⟩ := h31
  have q33 := q33.symm
  subst q33
  refine lv_if_eq (tgt := 188) hx hb dX1_grow_167 (by decide) (fun _ => ?_) (fun c => absurd (by decide) c)
  refine lv_iconst (v := (-1)) hx hb dX1_grow_188 (by decide) ?_
  refine jast hx hb hK hP hJ hA hS (jc_33 cI cL ad σ17 τ17) (ja_33 cI cL ad σ17 τ17 _ _) (jin jz_0 (by omega) (by omega)) dX1_grow_189 (fun σ34 H locs eσ34 hP hS => ?_)
  have eσ34 : σ34 = jup σ17 33 0 (-1) := eσ34
  refine lv_iinc (v := 1) (lv' := [(8, .int 1), (7, .int 0), (6, .int 0), (5, .int 0), (4, .int 0), (3, .int 8), (0, .ref (ad 31)), (1, .int 0), (2, .int 0)]) hx hb dX1_grow_190 hl (k := 0) rfl (by decide) (by decide) rfl (fun ls hl => ?_)
  refine lv_goto (tgt := 143) hx hb dX1_grow_193 (by decide) ?_
  refine lv_iload hx hb dX1_grow_143 (lv_at hl 0 rfl) ?_
  refine lv_iconst (v := 4) hx hb dX1_grow_145 (by decide) ?_
  refine lv_icmp_ge (tgt := 196) hx hb dX1_grow_146 (by decide) (fun c => absurd c (by decide)) (fun _ => ?_)
  refine lv_aload_n hx hb dX1_grow_149 rfl (lv_at hl 6 rfl) ?_
  refine va_get (D := D) hx hb hts inlX1 hown hK hP 31 (jc_31 cI cL ad σ34 τ17) rfl 3 (by decide) (hts _ kw_5_4) (fun _ h9 => h9) rfl dX1_grow_150 ?_
  refine lv_iload hx hb dX1_grow_153 (lv_at hl 3 rfl) ?_
  refine lv_iconst (v := 4) hx hb dX1_grow_155 (by decide) ?_
  refine lv_imul hx hb dX1_grow_156 ?_
  refine jtopr (y := 0) (by decide) ?_
  refine lv_iload hx hb dX1_grow_157 (lv_at hl 0 rfl) ?_
  refine lv_iadd hx hb dX1_grow_159 ?_
  refine jtopr (y := 1) (by decide) ?_
  refine lv_iload hx hb dX1_grow_160 (lv_at hl 2 rfl) ?_
  refine lv_iload hx hb dX1_grow_162 (lv_at hl 0 rfl) ?_
  refine jcallS (As := [.int 0, .int 1]) (rest := [.int 1, .ref (ad 33)]) ⟨hx, hb, hml, hown, hts⟩ hK hP hA hS (c_X0_mayBowl l D cI cL ad hJ σ34 τ17 1 (1) jz_1) cw_RX1_115 ⟨Nat.le_of_ble_eq_true rfl, Nat.le_of_ble_eq_true rfl⟩ rfl rfl rfl hl.1 rfl (Nat.le_of_ble_eq_true rfl) dX1_grow_164 ⟨Nat.zero_le _, Nat.zero_le _⟩ (fun r36 σ35 τ35 H locs h35 hP hS => ?_)
  obtain ⟨⟨rfl, rfl⟩, h35⟩ := h35
  have h37 := h35
  obtain ⟨q39, k38⟩ := h37
  have q39 := q39.symm
  subst q39
  refine lv_if_eq (tgt := 188) hx hb dX1_grow_167 (by decide) (fun _ => ?_) (fun c => absurd (by decide) c)
  refine lv_iconst (v := (-1)) hx hb dX1_grow_188 (by decide) ?_
  refine jast hx hb hK hP hJ hA hS (jc_33 cI cL ad σ34 τ17) (ja_33 cI cL ad σ34 τ17 _ _) (jin jz_1 (by omega) (by omega)) dX1_grow_189 (fun σ40 H locs eσ40 hP hS => ?_)
  have eσ40 : σ40 = jup σ34 33 1 (-1) := eσ40
  refine lv_iinc (v := 2) (lv' := [(8, .int 2), (7, .int 0), (6, .int 0), (5, .int 0), (4, .int 0), (3, .int 8), (0, .ref (ad 31)), (1, .int 0), (2, .int 0)]) hx hb dX1_grow_190 hl (k := 0) rfl (by decide) (by decide) rfl (fun ls hl => ?_)
  refine lv_goto (tgt := 143) hx hb dX1_grow_193 (by decide) ?_
  refine lv_iload hx hb dX1_grow_143 (lv_at hl 0 rfl) ?_
  refine lv_iconst (v := 4) hx hb dX1_grow_145 (by decide) ?_
  refine lv_icmp_ge (tgt := 196) hx hb dX1_grow_146 (by decide) (fun c => absurd c (by decide)) (fun _ => ?_)
  refine lv_aload_n hx hb dX1_grow_149 rfl (lv_at hl 6 rfl) ?_
  refine va_get (D := D) hx hb hts inlX1 hown hK hP 31 (jc_31 cI cL ad σ40 τ17) rfl 3 (by decide) (hts _ kw_5_4) (fun _ h9 => h9) rfl dX1_grow_150 ?_
  refine lv_iload hx hb dX1_grow_153 (lv_at hl 3 rfl) ?_
  refine lv_iconst (v := 4) hx hb dX1_grow_155 (by decide) ?_
  refine lv_imul hx hb dX1_grow_156 ?_
  refine jtopr (y := 0) (by decide) ?_
  refine lv_iload hx hb dX1_grow_157 (lv_at hl 0 rfl) ?_
  refine lv_iadd hx hb dX1_grow_159 ?_
  refine jtopr (y := 2) (by decide) ?_
  refine lv_iload hx hb dX1_grow_160 (lv_at hl 2 rfl) ?_
  refine lv_iload hx hb dX1_grow_162 (lv_at hl 0 rfl) ?_
  refine jcallS (As := [.int 0, .int 2]) (rest := [.int 2, .ref (ad 33)]) ⟨hx, hb, hml, hown, hts⟩ hK hP hA hS (c_X0_mayBowl l D cI cL ad hJ σ40 τ17 2 (2) jz_2) cw_RX1_115 ⟨Nat.le_of_ble_eq_true rfl, Nat.le_of_ble_eq_true rfl⟩ rfl rfl rfl hl.1 rfl (Nat.le_of_ble_eq_true rfl) dX1_grow_164 ⟨Nat.zero_le _, Nat.zero_le _⟩ (fun r42 σ41 τ41 H locs h41 hP hS => ?_)
  obtain ⟨⟨rfl, rfl⟩, h41⟩ := h41
  have h43 := h41
  obtain ⟨q45, k44⟩ := h43
  have q45 := q45.symm
  subst q45
  refine lv_if_eq (tgt := 188) hx hb dX1_grow_167 (by decide) (fun _ => ?_) (fun c => absurd (by decide) c)
  refine lv_iconst (v := (-1)) hx hb dX1_grow_188 (by decide) ?_
  refine jast hx hb hK hP hJ hA hS (jc_33 cI cL ad σ40 τ17) (ja_33 cI cL ad σ40 τ17 _ _) (jin jz_2 (by omega) (by omega)) dX1_grow_189 (fun σ46 H locs eσ46 hP hS => ?_)
  have eσ46 : σ46 = jup σ40 33 2 (-1) := eσ46
  refine lv_iinc (v := 3) (lv' := [(8, .int 3), (7, .int 0), (6, .int 0), (5, .int 0), (4, .int 0), (3, .int 8), (0, .ref (ad 31)), (1, .int 0), (2, .int 0)]) hx hb dX1_grow_190 hl (k := 0) rfl (by decide) (by decide) rfl (fun ls hl => ?_)
  refine lv_goto (tgt := 143) hx hb dX1_grow_193 (by decide) ?_
  refine lv_iload hx hb dX1_grow_143 (lv_at hl 0 rfl) ?_
  refine lv_iconst (v := 4) hx hb dX1_grow_145 (by decide) ?_
  refine lv_icmp_ge (tgt := 196) hx hb dX1_grow_146 (by decide) (fun c => absurd c (by decide)) (fun _ => ?_)
  refine lv_aload_n hx hb dX1_grow_149 rfl (lv_at hl 6 rfl) ?_
  refine va_get (D := D) hx hb hts inlX1 hown hK hP 31 (jc_31 cI cL ad σ46 τ17) rfl 3 (by decide) (hts _ kw_5_4) (fun _ h9 => h9) rfl dX1_grow_150 ?_
  refine lv_iload hx hb dX1_grow_153 (lv_at hl 3 rfl) ?_
  refine lv_iconst (v := 4) hx hb dX1_grow_155 (by decide) ?_
  refine lv_imul hx hb dX1_grow_156 ?_
  refine jtopr (y := 0) (by decide) ?_
  refine lv_iload hx hb dX1_grow_157 (lv_at hl 0 rfl) ?_
  refine lv_iadd hx hb dX1_grow_159 ?_
  refine jtopr (y := 3) (by decide) ?_
  refine lv_iload hx hb dX1_grow_160 (lv_at hl 2 rfl) ?_
  refine lv_iload hx hb dX1_grow_162 (lv_at hl 0 rfl) ?_
  refine jcallS (As := [.int 0, .int 3]) (rest := [.int 3, .ref (ad 33)]) ⟨hx, hb, hml, hown, hts⟩ hK hP hA hS (c_X0_mayBowl l D cI cL ad hJ σ46 τ17 3 (3) jz_3) cw_RX1_115 ⟨Nat.le_of_ble_eq_true rfl, Nat.le_of_ble_eq_true rfl⟩ rfl rfl rfl hl.1 rfl (Nat.le_of_ble_eq_true rfl) dX1_grow_164 ⟨Nat.zero_le _, Nat.zero_le _⟩ (fun r48 σ47 τ47 H locs h47 hP hS => ?_)
  obtain ⟨⟨rfl, rfl⟩, h47⟩ := h47
  have h49 := h47
  obtain ⟨q51, k50⟩ := h49
  have q51 := q51.symm
  subst q51
  refine lv_if_eq (tgt := 188) hx hb dX1_grow_167 (by decide) (fun _ => ?_) (fun c => absurd (by decide) c)
  refine lv_iconst (v := (-1)) hx hb dX1_grow_188 (by decide) ?_
  refine jast hx hb hK hP hJ hA hS (jc_33 cI cL ad σ46 τ17) (ja_33 cI cL ad σ46 τ17 _ _) (jin jz_3 (by omega) (by omega)) dX1_grow_189 (fun σ52 H locs eσ52 hP hS => ?_)
  have eσ52 : σ52 = jup σ46 33 3 (-1) := eσ52
  refine lv_iinc (v := 4) (lv' := [(8, .int 4), (7, .int 0), (6, .int 0), (5, .int 0), (4, .int 0), (3, .int 8), (0, .ref (ad 31)), (1, .int 0), (2, .int 0)]) hx hb dX1_grow_190 hl (k := 0) rfl (by decide) (by decide) rfl (fun ls hl => ?_)
  refine lv_goto (tgt := 143) hx hb dX1_grow_193 (by decide) ?_
  refine lv_iload hx hb dX1_grow_143 (lv_at hl 0 rfl) ?_
  refine lv_iconst (v := 4) hx hb dX1_grow_145 (by decide) ?_
  refine lv_icmp_ge (tgt := 196) hx hb dX1_grow_146 (by decide) (fun _ => ?_) (fun c => absurd (by decide) c)
  refine lv_iinc (v := 1) (lv' := [(5, .int 1), (8, .int 4), (7, .int 0), (6, .int 0), (4, .int 0), (3, .int 8), (0, .ref (ad 31)), (1, .int 0), (2, .int 0)]) hx hb dX1_grow_196 hl (k := 3) rfl (by decide) (by decide) rfl (fun ls hl => ?_)
  refine lv_goto (tgt := 99) hx hb dX1_grow_199 (by decide) ?_
  refine lv_iload hx hb dX1_grow_99 (lv_at hl 0 rfl) ?_
  refine lv_aload_n hx hb dX1_grow_101 rfl (lv_at hl 6 rfl) ?_
  refine va_get (D := D) hx hb hts inlX1 hown hK hP 31 (jc_31 cI cL ad σ52 τ17) rfl 8 (by decide) (hts _ kw_27_22) (fun _ h9 => h9) rfl dX1_grow_102 ?_
  have m53 : σ52 31 8 = 1 := (by rw [eσ52, jup_n (by decide)]; exact (by rw [eσ46, jup_n (by decide)]; exact (by rw [eσ40, jup_n (by decide)]; exact (by rw [eσ34, jup_n (by decide)]; exact m20))))
  refine jtopr m53 ?_
  refine lv_icmp_ge (tgt := 202) hx hb dX1_grow_105 (by decide) (fun _ => ?_) (fun c => absurd (by decide) c)
  have m54 : σ52 31 9 = 0 := (by rw [eσ52, jup_n (by decide)]; exact (by rw [eσ46, jup_n (by decide)]; exact (by rw [eσ40, jup_n (by decide)]; exact (by rw [eσ34, jup_n (by decide)]; exact m21))))
  have m55 : σ52 31 10 = 0 := (by rw [eσ52, jup_n (by decide)]; exact (by rw [eσ46, jup_n (by decide)]; exact (by rw [eσ40, jup_n (by decide)]; exact (by rw [eσ34, jup_n (by decide)]; exact m22))))
  have m56 : σ52 31 11 = 8 := (by rw [eσ52, jup_n (by decide)]; exact (by rw [eσ46, jup_n (by decide)]; exact (by rw [eσ40, jup_n (by decide)]; exact (by rw [eσ34, jup_n (by decide)]; exact m23))))
  have m57 : σ52 31 12 = 0 := (by rw [eσ52, jup_n (by decide)]; exact (by rw [eσ46, jup_n (by decide)]; exact (by rw [eσ40, jup_n (by decide)]; exact (by rw [eσ34, jup_n (by decide)]; exact m24))))
  have m58 : σ52 32 0 = 0 := (by rw [eσ52, jup_n (by decide)]; exact (by rw [eσ46, jup_n (by decide)]; exact (by rw [eσ40, jup_n (by decide)]; exact (by rw [eσ34, jup_n (by decide)]; exact m25))))
  have m59 : σ52 33 0 = (-1) := (by rw [eσ52, jup_k (by decide)]; exact (by rw [eσ46, jup_k (by decide)]; exact (by rw [eσ40, jup_k (by decide)]; exact (by rw [eσ34]; exact jup_s))))
  have m60 : σ52 33 1 = (-1) := (by rw [eσ52, jup_k (by decide)]; exact (by rw [eσ46, jup_k (by decide)]; exact (by rw [eσ40]; exact jup_s)))
  have m61 : σ52 33 2 = (-1) := (by rw [eσ52, jup_k (by decide)]; exact (by rw [eσ46]; exact jup_s))
  have m62 : σ52 33 3 = (-1) := (by rw [eσ52]; exact jup_s)
  exact hret σ52 τ17 _ _ _ _ ⟨(fun i hi => by rw [eσ52, jup_n (by omega), eσ46, jup_n (by omega), eσ40, jup_n (by omega), eσ34, jup_n (by omega), f19 i (by omega), eσ10, jup_n (by omega), eσ9, jup_n (by omega), eσ8, jup_n (by omega), eσ7, jup_n (by omega), eσ6, jup_n (by omega)]), m53, m54, m55, m56, m57, m58, m59, m60, m61, m62, trivial⟩ hP hS dX1_grow_202
set_option maxHeartbeats 4000000 in
set_option maxRecDepth 100000 in
theorem c_X1_grow_31b (l : Launch) (D : va_G) (cI cL : ClassId) (ad : Nat → Nat) (hJ : jD ad) (σ : Nat → Nat → Int32) (τ : Nat → Nat → Int64) (h16_1 : σ 16 1 = 8) (h22_1 : σ 22 1 = 0) (h31_8 : σ 31 8 = 1) (h31_9 : σ 31 9 = 0) (h31_11 : σ 31 11 = 8) (h31_12 : σ 31 12 = 0) (h32_0 : σ 32 0 = 0) (h33_0 : σ 33 0 = (-1)) (h33_1 : σ 33 1 = (-1)) (h33_2 : σ 33 2 = (-1)) (h33_3 : σ 33 3 = (-1)) : jMv l yX1_grow cX1_grow 9 none ({ frames := 1, cells := 0, slots := 0, locals := 21 }) D cI cL ad [.ref (ad 31), .int 0, .int 0] σ τ (fun σ' τ' => (∀ i : Nat, (i < 31 ∨ 31 < i) → σ' i = σ i) ∧ σ' 31 8 = 1 ∧ σ' 31 9 = 0 ∧ σ' 31 10 = 0 ∧ σ' 31 11 = 8 ∧ σ' 31 12 = 0 ∧ σ' 32 0 = 0 ∧ σ' 33 0 = (-1) ∧ σ' 33 1 = (-1) ∧ σ' 33 2 = (-1) ∧ σ' 33 3 = (-1) ∧ True) := by
  refine jMv.of hJ (by decide +kernel) rfl (Nat.le_of_ble_eq_true rfl) ?_
  intro p e s m args below meth c Q ls hC hret hl hP
  obtain ⟨hx, hb, hr, hml, hown, hts, hK, -, hlocks⟩ := hC
  have hown : s.vm.findClass RX1 = some m.cls := hown
  have hS : va_S (jA ad) s.heap s.heap [] := va_S.rf
  have hA : ∀ q, jA ad q → jA ad q := fun _ h => h
  have hl : lv_has ls 9 [(0, .ref (ad 31)), (1, .int 0), (2, .int 0)] := hl
  refine lv_iconst (v := 0) hx hb dX1_grow_0 (by decide) ?_
  refine lv_bipush (v := 8) hx hb dX1_grow_1 (by decide) ?_
  refine lv_aload_n hx hb dX1_grow_3 rfl (lv_at hl 0 rfl) ?_
  refine va_get (D := D) hx hb hts inlX1 hown hK hP 31 (jc_31 cI cL ad σ τ) rfl 1 (by decide) (hts _ kw_5_11) (fun _ h9 => h9) rfl dX1_grow_4 ?_
  refine va_get (D := D) hx hb hts inlX6 hown hK hP 16 (jc_16 cI cL ad σ τ) rfl 1 (by decide) (hts _ kw_28_3) (fun _ h9 => h9) rfl dX1_grow_7 ?_
  refine jtopr h16_1 ?_
  refine lv_iload_n hx hb dX1_grow_10 rfl (lv_at hl 2 rfl) ?_
  refine lv_isub hx hb dX1_grow_11 ?_
  refine jtopr (y := 8) (by decide) ?_
  refine va_mmin hx hb (hml.trans hl.1.symm) hown (hts _ kw_28_4) (hts _ kw_22_11) (hts _ kw_21_1) (hts _ kw_22_12) (Nat.le_of_ble_eq_true rfl) (Nat.le_of_ble_eq_true rfl) (Nat.le_of_ble_eq_true rfl) (Nat.le_of_ble_eq_true rfl) dX1_grow_12 ?_
  refine jtopr (y := 8) (by decide) ?_
  refine va_mmax hx hb (hml.trans hl.1.symm) hown (hts _ kw_28_5) (hts _ kw_21_0) (hts _ kw_21_1) (hts _ kw_21_2) (Nat.le_of_ble_eq_true rfl) (Nat.le_of_ble_eq_true rfl) (Nat.le_of_ble_eq_true rfl) (Nat.le_of_ble_eq_true rfl) dX1_grow_15 ?_
  refine jtopr (y := 8) (by decide) ?_
  refine lv_istore_n (lv' := [(3, .int 8), (0, .ref (ad 31)), (1, .int 0), (2, .int 0)]) hx hb dX1_grow_18 rfl hl (by decide) rfl (fun ls hl => ?_)
  refine lv_aload_n hx hb dX1_grow_19 rfl (lv_at hl 1 rfl) ?_
  refine va_get (D := D) hx hb hts inlX1 hown hK hP 31 (jc_31 cI cL ad σ τ) rfl 0 (by decide) (hts _ kw_5_10) (fun _ h9 => h9) rfl dX1_grow_20 ?_
  refine va_get (D := D) hx hb hts inlX5 hown hK hP 26 (jc_26 cI cL ad σ τ) rfl 0 (by decide) (hts _ kw_28_6) (fun _ h9 => h9) rfl dX1_grow_23 ?_
  refine lv_iconst (v := 5) hx hb dX1_grow_26 (by decide) ?_
  refine jcallV (As := [.int 5]) (rest := []) ⟨hx, hb, hml, hown, hts⟩ hK hP hA hS (c_X10_uses_22 l D cI cL ad hJ σ τ 5 (5) jz_5 h22_1) cw_RX1_104 (jc_22 cI cL ad σ τ) rfl ⟨Nat.le_of_ble_eq_true rfl, Nat.le_of_ble_eq_true rfl⟩ rfl rfl rfl hl.1 rfl (Nat.le_of_ble_eq_true rfl) dX1_grow_27 ⟨Nat.zero_le _, Nat.zero_le _⟩ (fun r2 σ1 τ1 H locs h1 hP hS => ?_)
  obtain ⟨⟨rfl, rfl⟩, h1⟩ := h1
  have h3 := h1
  obtain ⟨q5, k4⟩ := h3
  have q5 := q5.symm
  subst q5
  refine lv_istore (lv' := [(4, .int 0), (3, .int 8), (0, .ref (ad 31)), (1, .int 0), (2, .int 0)]) hx hb dX1_grow_30 hl (by decide) rfl (fun ls hl => ?_)
  refine lv_aload_n hx hb dX1_grow_32 rfl (lv_at hl 2 rfl) ?_
  refine va_get (D := D) hx hb hts inlX1 hown hK hP 31 (jc_31 cI cL ad σ τ) rfl 9 (by decide) (hts _ kw_5_9) (fun _ h9 => h9) rfl dX1_grow_33 ?_
  refine jtopr h31_9 ?_
  refine lv_iload_n hx hb dX1_grow_36 rfl (lv_at hl 3 rfl) ?_
  refine lv_icmp_ne (tgt := 63) hx hb dX1_grow_37 (by decide) (fun c => absurd (by decide) c) (fun _ => ?_)
  refine lv_aload_n hx hb dX1_grow_40 rfl (lv_at hl 2 rfl) ?_
  refine va_get (D := D) hx hb hts inlX1 hown hK hP 31 (jc_31 cI cL ad σ τ) rfl 11 (by decide) (hts _ kw_28_7) (fun _ h9 => h9) rfl dX1_grow_41 ?_
  refine jtopr h31_11 ?_
  refine lv_iload_n hx hb dX1_grow_44 rfl (lv_at hl 1 rfl) ?_
  refine lv_icmp_ne (tgt := 63) hx hb dX1_grow_45 (by decide) (fun c => absurd (by decide) c) (fun _ => ?_)
  refine lv_aload_n hx hb dX1_grow_48 rfl (lv_at hl 2 rfl) ?_
  refine va_get (D := D) hx hb hts inlX1 hown hK hP 31 (jc_31 cI cL ad σ τ) rfl 12 (by decide) (hts _ kw_28_8) (fun _ h9 => h9) rfl dX1_grow_49 ?_
  refine jtopr h31_12 ?_
  refine lv_iload hx hb dX1_grow_52 (lv_at hl 0 rfl) ?_
  refine lv_icmp_ne (tgt := 63) hx hb dX1_grow_54 (by decide) (fun c => absurd (by decide) c) (fun _ => ?_)
  refine lv_aload_n hx hb dX1_grow_57 rfl (lv_at hl 2 rfl) ?_
  refine lv_iload_n hx hb dX1_grow_58 rfl (lv_at hl 4 rfl) ?_
  refine jput (ty := .int) hx hb hts inlX1 tyX1 tyX1_ok nmX1 hown hK hP hJ hA hS (jc_31 cI cL ad σ τ) rfl (k := 10) (by decide) (Nat.le_of_ble_eq_true rfl) (jp_31_10 cI cL ad σ τ 0) (hts _ kw_28_9) (fun _ h9 => h9) rfl (by decide +kernel) rfl rfl dX1_grow_59 (fun σ6 H locs eσ6 hP hS => ?_)
  have m7 : σ6 31 8 = 1 := (by rw [eσ6, jup_k (by decide)]; exact h31_8)
  have m8 : σ6 31 9 = 0 := (by rw [eσ6, jup_k (by decide)]; exact h31_9)
  have m9 : σ6 31 10 = 0 := (by rw [eσ6]; exact jup_s)
  have m10 : σ6 31 11 = 8 := (by rw [eσ6, jup_k (by decide)]; exact h31_11)
  have m11 : σ6 31 12 = 0 := (by rw [eσ6, jup_k (by decide)]; exact h31_12)
  have m12 : σ6 32 0 = 0 := (by rw [eσ6, jup_n (by decide)]; exact h32_0)
  have m13 : σ6 33 0 = (-1) := (by rw [eσ6, jup_n (by decide)]; exact h33_0)
  have m14 : σ6 33 1 = (-1) := (by rw [eσ6, jup_n (by decide)]; exact h33_1)
  have m15 : σ6 33 2 = (-1) := (by rw [eσ6, jup_n (by decide)]; exact h33_2)
  have m16 : σ6 33 3 = (-1) := (by rw [eσ6, jup_n (by decide)]; exact h33_3)
  exact hret σ6 τ _ _ _ _ ⟨(fun i hi => by rw [eσ6, jup_n (by omega)]), m7, m8, m9, m10, m11, m12, m13, m14, m15, m16, trivial⟩ hP hS dX1_grow_62
set_option maxHeartbeats 4000000 in
set_option maxRecDepth 100000 in
theorem c_X1_judge_17 (l : Launch) (D : va_G) (cI cL : ClassId) (ad : Nat → Nat) (hJ : jD ad) (σ : Nat → Nat → Int32) (τ : Nat → Nat → Int64) (h16_0 : σ 16 0 = 1) (h32_0 : σ 32 0 = 0) (h33_0 : σ 33 0 = (-1)) (h33_1 : σ 33 1 = (-1)) (h33_2 : σ 33 2 = (-1)) (h33_3 : σ 33 3 = (-1)) : jMv l yX1_judge cX1_judge 18 none ({ frames := 1, cells := 0, slots := 0, locals := 21 }) D cI cL ad [.ref (ad 31), .int 0, .ref (ad 17), .int 0, .int 0] σ τ (fun σ' τ' => (∀ i : Nat, (i < 34 ∨ 35 < i) → σ' i = σ i) ∧ σ' 34 0 = 0 ∧ True) := by
  refine jMv.of hJ (by decide +kernel) rfl (Nat.le_of_ble_eq_true rfl) ?_
  intro p e s m args below meth c Q ls hC hret hl hP
  obtain ⟨hx, hb, hr, hml, hown, hts, hK, -, hlocks⟩ := hC
  have hown : s.vm.findClass RX1 = some m.cls := hown
  have hS : va_S (jA ad) s.heap s.heap [] := va_S.rf
  have hA : ∀ q, jA ad q → jA ad q := fun _ h => h
  have hl : lv_has ls 18 [(0, .ref (ad 31)), (1, .int 0), (2, .ref (ad 17)), (3, .int 0), (4, .int 0)] := hl
  refine lv_aload_n hx hb dX1_judge_0 rfl (lv_at hl 0 rfl) ?_
  refine va_get (D := D) hx hb hts inlX1 hown hK hP 31 (jc_31 cI cL ad σ τ) rfl 2 (by decide) (hts _ kw_5_3) (fun _ h9 => h9) rfl dX1_judge_1 ?_
  refine lv_iload_n hx hb dX1_judge_4 rfl (lv_at hl 1 rfl) ?_
  refine jald hx hb hK hP (jc_32 cI cL ad σ τ) (jin jz_0 (by omega) (by omega)) dX1_judge_5 ?_
  refine jtopr (y := σ 32 0) rfl ?_
  refine jtopr h32_0 ?_
  refine lv_ldc (v := 134217727) hx hb hown (hts _ kw_28_10) dX1_judge_6 ?_
  refine lv_iand hx hb dX1_judge_8 ?_
  refine jtopr (y := 0) (by decide) ?_
  refine lv_istore (lv' := [(5, .int 0), (0, .ref (ad 31)), (1, .int 0), (2, .ref (ad 17)), (3, .int 0), (4, .int 0)]) hx hb dX1_judge_9 hl (by decide) rfl (fun ls hl => ?_)
  refine lv_aload_n hx hb dX1_judge_11 rfl (lv_at hl 1 rfl) ?_
  refine va_get (D := D) hx hb hts inlX1 hown hK hP 31 (jc_31 cI cL ad σ τ) rfl 2 (by decide) (hts _ kw_5_3) (fun _ h9 => h9) rfl dX1_judge_12 ?_
  refine lv_iload_n hx hb dX1_judge_15 rfl (lv_at hl 2 rfl) ?_
  refine jald hx hb hK hP (jc_32 cI cL ad σ τ) (jin jz_0 (by omega) (by omega)) dX1_judge_16 ?_
  refine jtopr (y := σ 32 0) rfl ?_
  refine jtopr h32_0 ?_
  refine lv_bipush (v := 27) hx hb dX1_judge_17 (by decide) ?_
  refine lv_ishr hx hb dX1_judge_19 ?_
  refine jtopr (y := 0) (by decide) ?_
  refine lv_istore (lv' := [(6, .int 0), (5, .int 0), (0, .ref (ad 31)), (1, .int 0), (2, .ref (ad 17)), (3, .int 0), (4, .int 0)]) hx hb dX1_judge_20 hl (by decide) rfl (fun ls hl => ?_)
  refine lv_iload_n hx hb dX1_judge_22 rfl (lv_at hl 3 rfl) ?_
  refine lv_bipush (v := 9) hx hb dX1_judge_23 (by decide) ?_
  refine lv_imul hx hb dX1_judge_25 ?_
  refine jtopr (y := 0) (by decide) ?_
  refine lv_istore (lv' := [(7, .int 0), (6, .int 0), (5, .int 0), (0, .ref (ad 31)), (1, .int 0), (2, .ref (ad 17)), (3, .int 0), (4, .int 0)]) hx hb dX1_judge_26 hl (by decide) rfl (fun ls hl => ?_)
  refine lv_iconst (v := 0) hx hb dX1_judge_28 (by decide) ?_
  refine lv_iload_n hx hb dX1_judge_29 rfl (lv_at hl 6 rfl) ?_
  refine va_mmax hx hb (hml.trans hl.1.symm) hown (hts _ kw_28_5) (hts _ kw_21_0) (hts _ kw_21_1) (hts _ kw_21_2) (Nat.le_of_ble_eq_true rfl) (Nat.le_of_ble_eq_true rfl) (Nat.le_of_ble_eq_true rfl) (Nat.le_of_ble_eq_true rfl) dX1_judge_30 ?_
  refine jtopr (y := 0) (by decide) ?_
  refine lv_istore (lv' := [(8, .int 0), (7, .int 0), (6, .int 0), (5, .int 0), (0, .ref (ad 31)), (1, .int 0), (2, .ref (ad 17)), (3, .int 0), (4, .int 0)]) hx hb dX1_judge_33 hl (by decide) rfl (fun ls hl => ?_)
  refine lv_iload hx hb dX1_judge_35 (lv_at hl 8 rfl) ?_
  refine lv_aload_n hx hb dX1_judge_37 rfl (lv_at hl 6 rfl) ?_
  refine jalen (v := 8) hx hb hK hP (jc_17 cI cL ad σ τ) (by decide) dX1_judge_38 ?_
  refine lv_iconst (v := 1) hx hb dX1_judge_39 (by decide) ?_
  refine lv_isub hx hb dX1_judge_40 ?_
  refine jtopr (y := 7) (by decide) ?_
  refine va_mmin hx hb (hml.trans hl.1.symm) hown (hts _ kw_28_4) (hts _ kw_22_11) (hts _ kw_21_1) (hts _ kw_22_12) (Nat.le_of_ble_eq_true rfl) (Nat.le_of_ble_eq_true rfl) (Nat.le_of_ble_eq_true rfl) (Nat.le_of_ble_eq_true rfl) dX1_judge_41 ?_
  refine jtopr (y := 0) (by decide) ?_
  refine lv_iload_n hx hb dX1_judge_44 rfl (lv_at hl 7 rfl) ?_
  refine lv_iconst (v := 1) hx hb dX1_judge_45 (by decide) ?_
  refine lv_iadd hx hb dX1_judge_46 ?_
  refine jtopr (y := 1) (by decide) ?_
  refine lv_iload hx hb dX1_judge_47 (lv_at hl 2 rfl) ?_
  refine lv_iadd hx hb dX1_judge_49 ?_
  refine jtopr (y := 1) (by decide) ?_
  refine va_mmin hx hb (hml.trans hl.1.symm) hown (hts _ kw_28_4) (hts _ kw_22_11) (hts _ kw_21_1) (hts _ kw_22_12) (Nat.le_of_ble_eq_true rfl) (Nat.le_of_ble_eq_true rfl) (Nat.le_of_ble_eq_true rfl) (Nat.le_of_ble_eq_true rfl) dX1_judge_50 ?_
  refine jtopr (y := 0) (by decide) ?_
  refine lv_istore (lv' := [(9, .int 0), (8, .int 0), (7, .int 0), (6, .int 0), (5, .int 0), (0, .ref (ad 31)), (1, .int 0), (2, .ref (ad 17)), (3, .int 0), (4, .int 0)]) hx hb dX1_judge_53 hl (by decide) rfl (fun ls hl => ?_)
  refine lv_iload hx hb dX1_judge_55 (lv_at hl 1 rfl) ?_
  refine lv_istore (lv' := [(10, .int 0), (9, .int 0), (8, .int 0), (7, .int 0), (6, .int 0), (5, .int 0), (0, .ref (ad 31)), (1, .int 0), (2, .ref (ad 17)), (3, .int 0), (4, .int 0)]) hx hb dX1_judge_57 hl (by decide) rfl (fun ls hl => ?_)
  refine lv_iload hx hb dX1_judge_59 (lv_at hl 0 rfl) ?_
  refine lv_iload hx hb dX1_judge_61 (lv_at hl 1 rfl) ?_
  refine lv_icmp_gt (tgt := 94) hx hb dX1_judge_63 (by decide) (fun c => absurd c (by decide)) (fun _ => ?_)
  refine lv_aload_n hx hb dX1_judge_66 rfl (lv_at hl 6 rfl) ?_
  refine va_get (D := D) hx hb hts inlX1 hown hK hP 31 (jc_31 cI cL ad σ τ) rfl 4 (by decide) (hts _ kw_5_5) (fun _ h9 => h9) rfl dX1_judge_67 ?_
  refine lv_iload hx hb dX1_judge_70 (lv_at hl 3 rfl) ?_
  refine lv_iload hx hb dX1_judge_72 (lv_at hl 0 rfl) ?_
  refine lv_iadd hx hb dX1_judge_74 ?_
  refine jtopr (y := 0) (by decide) ?_
  refine lv_iconst (v := 0) hx hb dX1_judge_75 (by decide) ?_
  refine jast hx hb hK hP hJ hA hS (jc_34 cI cL ad σ τ) (ja_34 cI cL ad σ τ _ _) (jin jz_0 (by omega) (by omega)) dX1_judge_76 (fun σ1 H locs eσ1 hP hS => ?_)
  have eσ1 : σ1 = jup σ 34 0 0 := eσ1
  refine lv_aload_n hx hb dX1_judge_77 rfl (lv_at hl 6 rfl) ?_
  refine va_get (D := D) hx hb hts inlX1 hown hK hP 31 (jc_31 cI cL ad σ1 τ) rfl 5 (by decide) (hts _ kw_5_6) (fun _ h9 => h9) rfl dX1_judge_78 ?_
  refine lv_iload hx hb dX1_judge_81 (lv_at hl 3 rfl) ?_
  refine lv_iload hx hb dX1_judge_83 (lv_at hl 0 rfl) ?_
  refine lv_iadd hx hb dX1_judge_85 ?_
  refine jtopr (y := 0) (by decide) ?_
  refine lv_iconst (v := (-1)) hx hb dX1_judge_86 (by decide) ?_
  refine jast hx hb hK hP hJ hA hS (jc_35 cI cL ad σ1 τ) (ja_35 cI cL ad σ1 τ _ _) (jin jz_0 (by omega) (by omega)) dX1_judge_87 (fun σ2 H locs eσ2 hP hS => ?_)
  have eσ2 : σ2 = jup σ1 35 0 (-1) := eσ2
  refine lv_iinc (v := 1) (lv' := [(10, .int 1), (9, .int 0), (8, .int 0), (7, .int 0), (6, .int 0), (5, .int 0), (0, .ref (ad 31)), (1, .int 0), (2, .ref (ad 17)), (3, .int 0), (4, .int 0)]) hx hb dX1_judge_88 hl (k := 0) rfl (by decide) (by decide) rfl (fun ls hl => ?_)
  refine lv_goto (tgt := 59) hx hb dX1_judge_91 (by decide) ?_
  refine lv_iload hx hb dX1_judge_59 (lv_at hl 0 rfl) ?_
  refine lv_iload hx hb dX1_judge_61 (lv_at hl 1 rfl) ?_
  refine lv_icmp_gt (tgt := 94) hx hb dX1_judge_63 (by decide) (fun _ => ?_) (fun c => absurd (by decide) c)
  refine lv_aload_n hx hb dX1_judge_94 rfl (lv_at hl 6 rfl) ?_
  refine va_get (D := D) hx hb hts inlX1 hown hK hP 31 (jc_31 cI cL ad σ2 τ) rfl 4 (by decide) (hts _ kw_5_5) (fun _ h9 => h9) rfl dX1_judge_95 ?_
  refine lv_iload hx hb dX1_judge_98 (lv_at hl 3 rfl) ?_
  refine lv_aload_n hx hb dX1_judge_100 rfl (lv_at hl 6 rfl) ?_
  refine va_get (D := D) hx hb hts inlX1 hown hK hP 31 (jc_31 cI cL ad σ2 τ) rfl 1 (by decide) (hts _ kw_5_11) (fun _ h9 => h9) rfl dX1_judge_101 ?_
  refine va_get (D := D) hx hb hts inlX6 hown hK hP 16 (jc_16 cI cL ad σ2 τ) rfl 0 (by decide) (hts _ kw_27_17) (fun _ h9 => h9) rfl dX1_judge_104 ?_
  have m3 : σ2 16 0 = 1 := (by rw [eσ2, jup_n (by decide)]; exact (by rw [eσ1, jup_n (by decide)]; exact h16_0))
  refine jtopr m3 ?_
  refine lv_iadd hx hb dX1_judge_107 ?_
  refine jtopr (y := 1) (by decide) ?_
  refine lv_iconst (v := 0) hx hb dX1_judge_108 (by decide) ?_
  refine jast hx hb hK hP hJ hA hS (jc_34 cI cL ad σ2 τ) (ja_34 cI cL ad σ2 τ _ _) (jin jz_1 (by omega) (by omega)) dX1_judge_109 (fun σ4 H locs eσ4 hP hS => ?_)
  have eσ4 : σ4 = jup σ2 34 1 0 := eσ4
  refine lv_iconst (v := 0) hx hb dX1_judge_110 (by decide) ?_
  refine lv_istore (lv' := [(10, .int 0), (9, .int 0), (8, .int 0), (7, .int 0), (6, .int 0), (5, .int 0), (0, .ref (ad 31)), (1, .int 0), (2, .ref (ad 17)), (3, .int 0), (4, .int 0)]) hx hb dX1_judge_111 hl (by decide) rfl (fun ls hl => ?_)
  refine lv_iload hx hb dX1_judge_113 (lv_at hl 0 rfl) ?_
  refine lv_iconst (v := 4) hx hb dX1_judge_115 (by decide) ?_
  refine lv_icmp_ge (tgt := 316) hx hb dX1_judge_116 (by decide) (fun c => absurd c (by decide)) (fun _ => ?_)
  refine lv_aload_n hx hb dX1_judge_119 rfl (lv_at hl 6 rfl) ?_
  refine va_get (D := D) hx hb hts inlX1 hown hK hP 31 (jc_31 cI cL ad σ4 τ) rfl 3 (by decide) (hts _ kw_5_4) (fun _ h9 => h9) rfl dX1_judge_120 ?_
  refine lv_iload_n hx hb dX1_judge_123 rfl (lv_at hl 7 rfl) ?_
  refine lv_iconst (v := 4) hx hb dX1_judge_124 (by decide) ?_
  refine lv_imul hx hb dX1_judge_125 ?_
  refine jtopr (y := 0) (by decide) ?_
  refine lv_iload hx hb dX1_judge_126 (lv_at hl 0 rfl) ?_
  refine lv_iadd hx hb dX1_judge_128 ?_
  refine jtopr (y := 0) (by decide) ?_
  refine jald hx hb hK hP (jc_33 cI cL ad σ4 τ) (jin jz_0 (by omega) (by omega)) dX1_judge_129 ?_
  refine jtopr (y := σ4 33 0) rfl ?_
  have m5 : σ4 33 0 = (-1) := (by rw [eσ4, jup_n (by decide)]; exact (by rw [eσ2, jup_n (by decide)]; exact (by rw [eσ1, jup_n (by decide)]; exact h33_0)))
  refine jtopr m5 ?_
  refine lv_bipush (v := 9) hx hb dX1_judge_130 (by decide) ?_
  refine lv_imul hx hb dX1_judge_132 ?_
  refine jtopr (y := (-9)) (by decide) ?_
  refine lv_istore (lv' := [(11, .int (-9)), (10, .int 0), (9, .int 0), (8, .int 0), (7, .int 0), (6, .int 0), (5, .int 0), (0, .ref (ad 31)), (1, .int 0), (2, .ref (ad 17)), (3, .int 0), (4, .int 0)]) hx hb dX1_judge_133 hl (by decide) rfl (fun ls hl => ?_)
  refine lv_iload hx hb dX1_judge_135 (lv_at hl 0 rfl) ?_
  refine lv_if_ge (tgt := 143) hx hb dX1_judge_137 (by decide) (fun c => absurd c (by decide)) (fun _ => ?_)
  refine lv_goto (tgt := 310) hx hb dX1_judge_140 (by decide) ?_
  refine lv_iinc (v := 1) (lv' := [(10, .int 1), (11, .int (-9)), (9, .int 0), (8, .int 0), (7, .int 0), (6, .int 0), (5, .int 0), (0, .ref (ad 31)), (1, .int 0), (2, .ref (ad 17)), (3, .int 0), (4, .int 0)]) hx hb dX1_judge_310 hl (k := 1) rfl (by decide) (by decide) rfl (fun ls hl => ?_)
  refine lv_goto (tgt := 113) hx hb dX1_judge_313 (by decide) ?_
  refine lv_iload hx hb dX1_judge_113 (lv_at hl 0 rfl) ?_
  refine lv_iconst (v := 4) hx hb dX1_judge_115 (by decide) ?_
  refine lv_icmp_ge (tgt := 316) hx hb dX1_judge_116 (by decide) (fun c => absurd c (by decide)) (fun _ => ?_)
  refine lv_aload_n hx hb dX1_judge_119 rfl (lv_at hl 7 rfl) ?_
  refine va_get (D := D) hx hb hts inlX1 hown hK hP 31 (jc_31 cI cL ad σ4 τ) rfl 3 (by decide) (hts _ kw_5_4) (fun _ h9 => h9) rfl dX1_judge_120 ?_
  refine lv_iload_n hx hb dX1_judge_123 rfl (lv_at hl 8 rfl) ?_
  refine lv_iconst (v := 4) hx hb dX1_judge_124 (by decide) ?_
  refine lv_imul hx hb dX1_judge_125 ?_
  refine jtopr (y := 0) (by decide) ?_
  refine lv_iload hx hb dX1_judge_126 (lv_at hl 0 rfl) ?_
  refine lv_iadd hx hb dX1_judge_128 ?_
  refine jtopr (y := 1) (by decide) ?_
  refine jald hx hb hK hP (jc_33 cI cL ad σ4 τ) (jin jz_1 (by omega) (by omega)) dX1_judge_129 ?_
  refine jtopr (y := σ4 33 1) rfl ?_
  have m6 : σ4 33 1 = (-1) := (by rw [eσ4, jup_n (by decide)]; exact (by rw [eσ2, jup_n (by decide)]; exact (by rw [eσ1, jup_n (by decide)]; exact h33_1)))
  refine jtopr m6 ?_
  refine lv_bipush (v := 9) hx hb dX1_judge_130 (by decide) ?_
  refine lv_imul hx hb dX1_judge_132 ?_
  refine jtopr (y := (-9)) (by decide) ?_
  refine lv_istore (lv' := [(11, .int (-9)), (10, .int 1), (9, .int 0), (8, .int 0), (7, .int 0), (6, .int 0), (5, .int 0), (0, .ref (ad 31)), (1, .int 0), (2, .ref (ad 17)), (3, .int 0), (4, .int 0)]) hx hb dX1_judge_133 hl (by decide) rfl (fun ls hl => ?_)
  refine lv_iload hx hb dX1_judge_135 (lv_at hl 0 rfl) ?_
  refine lv_if_ge (tgt := 143) hx hb dX1_judge_137 (by decide) (fun c => absurd c (by decide)) (fun _ => ?_)
  refine lv_goto (tgt := 310) hx hb dX1_judge_140 (by decide) ?_
  refine lv_iinc (v := 2) (lv' := [(10, .int 2), (11, .int (-9)), (9, .int 0), (8, .int 0), (7, .int 0), (6, .int 0), (5, .int 0), (0, .ref (ad 31)), (1, .int 0), (2, .ref (ad 17)), (3, .int 0), (4, .int 0)]) hx hb dX1_judge_310 hl (k := 1) rfl (by decide) (by decide) rfl (fun ls hl => ?_)
  refine lv_goto (tgt := 113) hx hb dX1_judge_313 (by decide) ?_
  refine lv_iload hx hb dX1_judge_113 (lv_at hl 0 rfl) ?_
  refine lv_iconst (v := 4) hx hb dX1_judge_115 (by decide) ?_
  refine lv_icmp_ge (tgt := 316) hx hb dX1_judge_116 (by decide) (fun c => absurd c (by decide)) (fun _ => ?_)
  refine lv_aload_n hx hb dX1_judge_119 rfl (lv_at hl 7 rfl) ?_
  refine va_get (D := D) hx hb hts inlX1 hown hK hP 31 (jc_31 cI cL ad σ4 τ) rfl 3 (by decide) (hts _ kw_5_4) (fun _ h9 => h9) rfl dX1_judge_120 ?_
  refine lv_iload_n hx hb dX1_judge_123 rfl (lv_at hl 8 rfl) ?_
  refine lv_iconst (v := 4) hx hb dX1_judge_124 (by decide) ?_
  refine lv_imul hx hb dX1_judge_125 ?_
  refine jtopr (y := 0) (by decide) ?_
  refine lv_iload hx hb dX1_judge_126 (lv_at hl 0 rfl) ?_
  refine lv_iadd hx hb dX1_judge_128 ?_
  refine jtopr (y := 2) (by decide) ?_
  refine jald hx hb hK hP (jc_33 cI cL ad σ4 τ) (jin jz_2 (by omega) (by omega)) dX1_judge_129 ?_
  refine jtopr (y := σ4 33 2) rfl ?_
  have m7 : σ4 33 2 = (-1) := (by rw [eσ4, jup_n (by decide)]; exact (by rw [eσ2, jup_n (by decide)]; exact (by rw [eσ1, jup_n (by decide)]; exact h33_2)))
  refine jtopr m7 ?_
  refine lv_bipush (v := 9) hx hb dX1_judge_130 (by decide) ?_
  refine lv_imul hx hb dX1_judge_132 ?_
  refine jtopr (y := (-9)) (by decide) ?_
  refine lv_istore (lv' := [(11, .int (-9)), (10, .int 2), (9, .int 0), (8, .int 0), (7, .int 0), (6, .int 0), (5, .int 0), (0, .ref (ad 31)), (1, .int 0), (2, .ref (ad 17)), (3, .int 0), (4, .int 0)]) hx hb dX1_judge_133 hl (by decide) rfl (fun ls hl => ?_)
  refine lv_iload hx hb dX1_judge_135 (lv_at hl 0 rfl) ?_
  refine lv_if_ge (tgt := 143) hx hb dX1_judge_137 (by decide) (fun c => absurd c (by decide)) (fun _ => ?_)
  refine lv_goto (tgt := 310) hx hb dX1_judge_140 (by decide) ?_
  refine lv_iinc (v := 3) (lv' := [(10, .int 3), (11, .int (-9)), (9, .int 0), (8, .int 0), (7, .int 0), (6, .int 0), (5, .int 0), (0, .ref (ad 31)), (1, .int 0), (2, .ref (ad 17)), (3, .int 0), (4, .int 0)]) hx hb dX1_judge_310 hl (k := 1) rfl (by decide) (by decide) rfl (fun ls hl => ?_)
  refine lv_goto (tgt := 113) hx hb dX1_judge_313 (by decide) ?_
  refine lv_iload hx hb dX1_judge_113 (lv_at hl 0 rfl) ?_
  refine lv_iconst (v := 4) hx hb dX1_judge_115 (by decide) ?_
  refine lv_icmp_ge (tgt := 316) hx hb dX1_judge_116 (by decide) (fun c => absurd c (by decide)) (fun _ => ?_)
  refine lv_aload_n hx hb dX1_judge_119 rfl (lv_at hl 7 rfl) ?_
  refine va_get (D := D) hx hb hts inlX1 hown hK hP 31 (jc_31 cI cL ad σ4 τ) rfl 3 (by decide) (hts _ kw_5_4) (fun _ h9 => h9) rfl dX1_judge_120 ?_
  refine lv_iload_n hx hb dX1_judge_123 rfl (lv_at hl 8 rfl) ?_
  refine lv_iconst (v := 4) hx hb dX1_judge_124 (by decide) ?_
  refine lv_imul hx hb dX1_judge_125 ?_
  refine jtopr (y := 0) (by decide) ?_
  refine lv_iload hx hb dX1_judge_126 (lv_at hl 0 rfl) ?_
  refine lv_iadd hx hb dX1_judge_128 ?_
  refine jtopr (y := 3) (by decide) ?_
  refine jald hx hb hK hP (jc_33 cI cL ad σ4 τ) (jin jz_3 (by omega) (by omega)) dX1_judge_129 ?_
  refine jtopr (y := σ4 33 3) rfl ?_
  have m8 : σ4 33 3 = (-1) := (by rw [eσ4, jup_n (by decide)]; exact (by rw [eσ2, jup_n (by decide)]; exact (by rw [eσ1, jup_n (by decide)]; exact h33_3)))
  refine jtopr m8 ?_
  refine lv_bipush (v := 9) hx hb dX1_judge_130 (by decide) ?_
  refine lv_imul hx hb dX1_judge_132 ?_
  refine jtopr (y := (-9)) (by decide) ?_
  refine lv_istore (lv' := [(11, .int (-9)), (10, .int 3), (9, .int 0), (8, .int 0), (7, .int 0), (6, .int 0), (5, .int 0), (0, .ref (ad 31)), (1, .int 0), (2, .ref (ad 17)), (3, .int 0), (4, .int 0)]) hx hb dX1_judge_133 hl (by decide) rfl (fun ls hl => ?_)
  refine lv_iload hx hb dX1_judge_135 (lv_at hl 0 rfl) ?_
  refine lv_if_ge (tgt := 143) hx hb dX1_judge_137 (by decide) (fun c => absurd c (by decide)) (fun _ => ?_)
  refine lv_goto (tgt := 310) hx hb dX1_judge_140 (by decide) ?_
  refine lv_iinc (v := 4) (lv' := [(10, .int 4), (11, .int (-9)), (9, .int 0), (8, .int 0), (7, .int 0), (6, .int 0), (5, .int 0), (0, .ref (ad 31)), (1, .int 0), (2, .ref (ad 17)), (3, .int 0), (4, .int 0)]) hx hb dX1_judge_310 hl (k := 1) rfl (by decide) (by decide) rfl (fun ls hl => ?_)
  refine lv_goto (tgt := 113) hx hb dX1_judge_313 (by decide) ?_
  refine lv_iload hx hb dX1_judge_113 (lv_at hl 0 rfl) ?_
  refine lv_iconst (v := 4) hx hb dX1_judge_115 (by decide) ?_
  refine lv_icmp_ge (tgt := 316) hx hb dX1_judge_116 (by decide) (fun _ => ?_) (fun c => absurd (by decide) c)
  have m9 : σ4 34 0 = 0 := (by rw [eσ4, jup_k (by decide)]; exact (by rw [eσ2, jup_n (by decide)]; exact (by rw [eσ1]; exact jup_s)))
  exact hret σ4 τ _ _ _ _ ⟨(fun i hi => by rw [eσ4, jup_n (by omega), eσ2, jup_n (by omega), eσ1, jup_n (by omega)]), m9, trivial⟩ hP hS dX1_judge_316
set_option maxHeartbeats 4000000 in
set_option maxRecDepth 100000 in
theorem c_X1_judge_1 (l : Launch) (D : va_G) (cI cL : ClassId) (ad : Nat → Nat) (hJ : jD ad) (σ : Nat → Nat → Int32) (τ : Nat → Nat → Int64) (h16_0 : σ 16 0 = 1) (h32_0 : σ 32 0 = 0) (h33_0 : σ 33 0 = (-1)) (h33_1 : σ 33 1 = (-1)) (h33_2 : σ 33 2 = (-1)) (h33_3 : σ 33 3 = (-1)) : jMv l yX1_judge cX1_judge 18 none ({ frames := 1, cells := 0, slots := 0, locals := 21 }) D cI cL ad [.ref (ad 31), .int 0, .ref (ad 1), .int 0, .int 0] σ τ (fun σ' τ' => (∀ i : Nat, (i < 34 ∨ 35 < i) → σ' i = σ i) ∧ σ' 34 0 = 0 ∧ True) := by
  refine jMv.of hJ (by decide +kernel) rfl (Nat.le_of_ble_eq_true rfl) ?_
  intro p e s m args below meth c Q ls hC hret hl hP
  obtain ⟨hx, hb, hr, hml, hown, hts, hK, -, hlocks⟩ := hC
  have hown : s.vm.findClass RX1 = some m.cls := hown
  have hS : va_S (jA ad) s.heap s.heap [] := va_S.rf
  have hA : ∀ q, jA ad q → jA ad q := fun _ h => h
  have hl : lv_has ls 18 [(0, .ref (ad 31)), (1, .int 0), (2, .ref (ad 1)), (3, .int 0), (4, .int 0)] := hl
  refine lv_aload_n hx hb dX1_judge_0 rfl (lv_at hl 0 rfl) ?_
  refine va_get (D := D) hx hb hts inlX1 hown hK hP 31 (jc_31 cI cL ad σ τ) rfl 2 (by decide) (hts _ kw_5_3) (fun _ h9 => h9) rfl dX1_judge_1 ?_
  refine lv_iload_n hx hb dX1_judge_4 rfl (lv_at hl 1 rfl) ?_
  refine jald hx hb hK hP (jc_32 cI cL ad σ τ) (jin jz_0 (by omega) (by omega)) dX1_judge_5 ?_
  refine jtopr (y := σ 32 0) rfl ?_
  refine jtopr h32_0 ?_
  refine lv_ldc (v := 134217727) hx hb hown (hts _ kw_28_10) dX1_judge_6 ?_
  refine lv_iand hx hb dX1_judge_8 ?_
  refine jtopr (y := 0) (by decide) ?_
  refine lv_istore (lv' := [(5, .int 0), (0, .ref (ad 31)), (1, .int 0), (2, .ref (ad 1)), (3, .int 0), (4, .int 0)]) hx hb dX1_judge_9 hl (by decide) rfl (fun ls hl => ?_)
  refine lv_aload_n hx hb dX1_judge_11 rfl (lv_at hl 1 rfl) ?_
  refine va_get (D := D) hx hb hts inlX1 hown hK hP 31 (jc_31 cI cL ad σ τ) rfl 2 (by decide) (hts _ kw_5_3) (fun _ h9 => h9) rfl dX1_judge_12 ?_
  refine lv_iload_n hx hb dX1_judge_15 rfl (lv_at hl 2 rfl) ?_
  refine jald hx hb hK hP (jc_32 cI cL ad σ τ) (jin jz_0 (by omega) (by omega)) dX1_judge_16 ?_
  refine jtopr (y := σ 32 0) rfl ?_
  refine jtopr h32_0 ?_
  refine lv_bipush (v := 27) hx hb dX1_judge_17 (by decide) ?_
  refine lv_ishr hx hb dX1_judge_19 ?_
  refine jtopr (y := 0) (by decide) ?_
  refine lv_istore (lv' := [(6, .int 0), (5, .int 0), (0, .ref (ad 31)), (1, .int 0), (2, .ref (ad 1)), (3, .int 0), (4, .int 0)]) hx hb dX1_judge_20 hl (by decide) rfl (fun ls hl => ?_)
  refine lv_iload_n hx hb dX1_judge_22 rfl (lv_at hl 3 rfl) ?_
  refine lv_bipush (v := 9) hx hb dX1_judge_23 (by decide) ?_
  refine lv_imul hx hb dX1_judge_25 ?_
  refine jtopr (y := 0) (by decide) ?_
  refine lv_istore (lv' := [(7, .int 0), (6, .int 0), (5, .int 0), (0, .ref (ad 31)), (1, .int 0), (2, .ref (ad 1)), (3, .int 0), (4, .int 0)]) hx hb dX1_judge_26 hl (by decide) rfl (fun ls hl => ?_)
  refine lv_iconst (v := 0) hx hb dX1_judge_28 (by decide) ?_
  refine lv_iload_n hx hb dX1_judge_29 rfl (lv_at hl 6 rfl) ?_
  refine va_mmax hx hb (hml.trans hl.1.symm) hown (hts _ kw_28_5) (hts _ kw_21_0) (hts _ kw_21_1) (hts _ kw_21_2) (Nat.le_of_ble_eq_true rfl) (Nat.le_of_ble_eq_true rfl) (Nat.le_of_ble_eq_true rfl) (Nat.le_of_ble_eq_true rfl) dX1_judge_30 ?_
  refine jtopr (y := 0) (by decide) ?_
  refine lv_istore (lv' := [(8, .int 0), (7, .int 0), (6, .int 0), (5, .int 0), (0, .ref (ad 31)), (1, .int 0), (2, .ref (ad 1)), (3, .int 0), (4, .int 0)]) hx hb dX1_judge_33 hl (by decide) rfl (fun ls hl => ?_)
  refine lv_iload hx hb dX1_judge_35 (lv_at hl 8 rfl) ?_
  refine lv_aload_n hx hb dX1_judge_37 rfl (lv_at hl 6 rfl) ?_
  refine jalen (v := 8) hx hb hK hP (jc_1 cI cL ad σ τ) (by decide) dX1_judge_38 ?_
  refine lv_iconst (v := 1) hx hb dX1_judge_39 (by decide) ?_
  refine lv_isub hx hb dX1_judge_40 ?_
  refine jtopr (y := 7) (by decide) ?_
  refine va_mmin hx hb (hml.trans hl.1.symm) hown (hts _ kw_28_4) (hts _ kw_22_11) (hts _ kw_21_1) (hts _ kw_22_12) (Nat.le_of_ble_eq_true rfl) (Nat.le_of_ble_eq_true rfl) (Nat.le_of_ble_eq_true rfl) (Nat.le_of_ble_eq_true rfl) dX1_judge_41 ?_
  refine jtopr (y := 0) (by decide) ?_
  refine lv_iload_n hx hb dX1_judge_44 rfl (lv_at hl 7 rfl) ?_
  refine lv_iconst (v := 1) hx hb dX1_judge_45 (by decide) ?_
  refine lv_iadd hx hb dX1_judge_46 ?_
  refine jtopr (y := 1) (by decide) ?_
  refine lv_iload hx hb dX1_judge_47 (lv_at hl 2 rfl) ?_
  refine lv_iadd hx hb dX1_judge_49 ?_
  refine jtopr (y := 1) (by decide) ?_
  refine va_mmin hx hb (hml.trans hl.1.symm) hown (hts _ kw_28_4) (hts _ kw_22_11) (hts _ kw_21_1) (hts _ kw_22_12) (Nat.le_of_ble_eq_true rfl) (Nat.le_of_ble_eq_true rfl) (Nat.le_of_ble_eq_true rfl) (Nat.le_of_ble_eq_true rfl) dX1_judge_50 ?_
  refine jtopr (y := 0) (by decide) ?_
  refine lv_istore (lv' := [(9, .int 0), (8, .int 0), (7, .int 0), (6, .int 0), (5, .int 0), (0, .ref (ad 31)), (1, .int 0), (2, .ref (ad 1)), (3, .int 0), (4, .int 0)]) hx hb dX1_judge_53 hl (by decide) rfl (fun ls hl => ?_)
  refine lv_iload hx hb dX1_judge_55 (lv_at hl 1 rfl) ?_
  refine lv_istore (lv' := [(10, .int 0), (9, .int 0), (8, .int 0), (7, .int 0), (6, .int 0), (5, .int 0), (0, .ref (ad 31)), (1, .int 0), (2, .ref (ad 1)), (3, .int 0), (4, .int 0)]) hx hb dX1_judge_57 hl (by decide) rfl (fun ls hl => ?_)
  refine lv_iload hx hb dX1_judge_59 (lv_at hl 0 rfl) ?_
  refine lv_iload hx hb dX1_judge_61 (lv_at hl 1 rfl) ?_
  refine lv_icmp_gt (tgt := 94) hx hb dX1_judge_63 (by decide) (fun c => absurd c (by decide)) (fun _ => ?_)
  refine lv_aload_n hx hb dX1_judge_66 rfl (lv_at hl 6 rfl) ?_
  refine va_get (D := D) hx hb hts inlX1 hown hK hP 31 (jc_31 cI cL ad σ τ) rfl 4 (by decide) (hts _ kw_5_5) (fun _ h9 => h9) rfl dX1_judge_67 ?_
  refine lv_iload hx hb dX1_judge_70 (lv_at hl 3 rfl) ?_
  refine lv_iload hx hb dX1_judge_72 (lv_at hl 0 rfl) ?_
  refine lv_iadd hx hb dX1_judge_74 ?_
  refine jtopr (y := 0) (by decide) ?_
  refine lv_iconst (v := 0) hx hb dX1_judge_75 (by decide) ?_
  refine jast hx hb hK hP hJ hA hS (jc_34 cI cL ad σ τ) (ja_34 cI cL ad σ τ _ _) (jin jz_0 (by omega) (by omega)) dX1_judge_76 (fun σ1 H locs eσ1 hP hS => ?_)
  have eσ1 : σ1 = jup σ 34 0 0 := eσ1
  refine lv_aload_n hx hb dX1_judge_77 rfl (lv_at hl 6 rfl) ?_
  refine va_get (D := D) hx hb hts inlX1 hown hK hP 31 (jc_31 cI cL ad σ1 τ) rfl 5 (by decide) (hts _ kw_5_6) (fun _ h9 => h9) rfl dX1_judge_78 ?_
  refine lv_iload hx hb dX1_judge_81 (lv_at hl 3 rfl) ?_
  refine lv_iload hx hb dX1_judge_83 (lv_at hl 0 rfl) ?_
  refine lv_iadd hx hb dX1_judge_85 ?_
  refine jtopr (y := 0) (by decide) ?_
  refine lv_iconst (v := (-1)) hx hb dX1_judge_86 (by decide) ?_
  refine jast hx hb hK hP hJ hA hS (jc_35 cI cL ad σ1 τ) (ja_35 cI cL ad σ1 τ _ _) (jin jz_0 (by omega) (by omega)) dX1_judge_87 (fun σ2 H locs eσ2 hP hS => ?_)
  have eσ2 : σ2 = jup σ1 35 0 (-1) := eσ2
  refine lv_iinc (v := 1) (lv' := [(10, .int 1), (9, .int 0), (8, .int 0), (7, .int 0), (6, .int 0), (5, .int 0), (0, .ref (ad 31)), (1, .int 0), (2, .ref (ad 1)), (3, .int 0), (4, .int 0)]) hx hb dX1_judge_88 hl (k := 0) rfl (by decide) (by decide) rfl (fun ls hl => ?_)
  refine lv_goto (tgt := 59) hx hb dX1_judge_91 (by decide) ?_
  refine lv_iload hx hb dX1_judge_59 (lv_at hl 0 rfl) ?_
  refine lv_iload hx hb dX1_judge_61 (lv_at hl 1 rfl) ?_
  refine lv_icmp_gt (tgt := 94) hx hb dX1_judge_63 (by decide) (fun _ => ?_) (fun c => absurd (by decide) c)
  refine lv_aload_n hx hb dX1_judge_94 rfl (lv_at hl 6 rfl) ?_
  refine va_get (D := D) hx hb hts inlX1 hown hK hP 31 (jc_31 cI cL ad σ2 τ) rfl 4 (by decide) (hts _ kw_5_5) (fun _ h9 => h9) rfl dX1_judge_95 ?_
  refine lv_iload hx hb dX1_judge_98 (lv_at hl 3 rfl) ?_
  refine lv_aload_n hx hb dX1_judge_100 rfl (lv_at hl 6 rfl) ?_
  refine va_get (D := D) hx hb hts inlX1 hown hK hP 31 (jc_31 cI cL ad σ2 τ) rfl 1 (by decide) (hts _ kw_5_11) (fun _ h9 => h9) rfl dX1_judge_101 ?_
  refine va_get (D := D) hx hb hts inlX6 hown hK hP 16 (jc_16 cI cL ad σ2 τ) rfl 0 (by decide) (hts _ kw_27_17) (fun _ h9 => h9) rfl dX1_judge_104 ?_
  have m3 : σ2 16 0 = 1 := (by rw [eσ2, jup_n (by decide)]; exact (by rw [eσ1, jup_n (by decide)]; exact h16_0))
  refine jtopr m3 ?_
  refine lv_iadd hx hb dX1_judge_107 ?_
  refine jtopr (y := 1) (by decide) ?_
  refine lv_iconst (v := 0) hx hb dX1_judge_108 (by decide) ?_
  refine jast hx hb hK hP hJ hA hS (jc_34 cI cL ad σ2 τ) (ja_34 cI cL ad σ2 τ _ _) (jin jz_1 (by omega) (by omega)) dX1_judge_109 (fun σ4 H locs eσ4 hP hS => ?_)
  have eσ4 : σ4 = jup σ2 34 1 0 := eσ4
  refine lv_iconst (v := 0) hx hb dX1_judge_110 (by decide) ?_
  refine lv_istore (lv' := [(10, .int 0), (9, .int 0), (8, .int 0), (7, .int 0), (6, .int 0), (5, .int 0), (0, .ref (ad 31)), (1, .int 0), (2, .ref (ad 1)), (3, .int 0), (4, .int 0)]) hx hb dX1_judge_111 hl (by decide) rfl (fun ls hl => ?_)
  refine lv_iload hx hb dX1_judge_113 (lv_at hl 0 rfl) ?_
  refine lv_iconst (v := 4) hx hb dX1_judge_115 (by decide) ?_
  refine lv_icmp_ge (tgt := 316) hx hb dX1_judge_116 (by decide) (fun c => absurd c (by decide)) (fun _ => ?_)
  refine lv_aload_n hx hb dX1_judge_119 rfl (lv_at hl 6 rfl) ?_
  refine va_get (D := D) hx hb hts inlX1 hown hK hP 31 (jc_31 cI cL ad σ4 τ) rfl 3 (by decide) (hts _ kw_5_4) (fun _ h9 => h9) rfl dX1_judge_120 ?_
  refine lv_iload_n hx hb dX1_judge_123 rfl (lv_at hl 7 rfl) ?_
  refine lv_iconst (v := 4) hx hb dX1_judge_124 (by decide) ?_
  refine lv_imul hx hb dX1_judge_125 ?_
  refine jtopr (y := 0) (by decide) ?_
  refine lv_iload hx hb dX1_judge_126 (lv_at hl 0 rfl) ?_
  refine lv_iadd hx hb dX1_judge_128 ?_
  refine jtopr (y := 0) (by decide) ?_
  refine jald hx hb hK hP (jc_33 cI cL ad σ4 τ) (jin jz_0 (by omega) (by omega)) dX1_judge_129 ?_
  refine jtopr (y := σ4 33 0) rfl ?_
  have m5 : σ4 33 0 = (-1) := (by rw [eσ4, jup_n (by decide)]; exact (by rw [eσ2, jup_n (by decide)]; exact (by rw [eσ1, jup_n (by decide)]; exact h33_0)))
  refine jtopr m5 ?_
  refine lv_bipush (v := 9) hx hb dX1_judge_130 (by decide) ?_
  refine lv_imul hx hb dX1_judge_132 ?_
  refine jtopr (y := (-9)) (by decide) ?_
  refine lv_istore (lv' := [(11, .int (-9)), (10, .int 0), (9, .int 0), (8, .int 0), (7, .int 0), (6, .int 0), (5, .int 0), (0, .ref (ad 31)), (1, .int 0), (2, .ref (ad 1)), (3, .int 0), (4, .int 0)]) hx hb dX1_judge_133 hl (by decide) rfl (fun ls hl => ?_)
  refine lv_iload hx hb dX1_judge_135 (lv_at hl 0 rfl) ?_
  refine lv_if_ge (tgt := 143) hx hb dX1_judge_137 (by decide) (fun c => absurd c (by decide)) (fun _ => ?_)
  refine lv_goto (tgt := 310) hx hb dX1_judge_140 (by decide) ?_
  refine lv_iinc (v := 1) (lv' := [(10, .int 1), (11, .int (-9)), (9, .int 0), (8, .int 0), (7, .int 0), (6, .int 0), (5, .int 0), (0, .ref (ad 31)), (1, .int 0), (2, .ref (ad 1)), (3, .int 0), (4, .int 0)]) hx hb dX1_judge_310 hl (k := 1) rfl (by decide) (by decide) rfl (fun ls hl => ?_)
  refine lv_goto (tgt := 113) hx hb dX1_judge_313 (by decide) ?_
  refine lv_iload hx hb dX1_judge_113 (lv_at hl 0 rfl) ?_
  refine lv_iconst (v := 4) hx hb dX1_judge_115 (by decide) ?_
  refine lv_icmp_ge (tgt := 316) hx hb dX1_judge_116 (by decide) (fun c => absurd c (by decide)) (fun _ => ?_)
  refine lv_aload_n hx hb dX1_judge_119 rfl (lv_at hl 7 rfl) ?_
  refine va_get (D := D) hx hb hts inlX1 hown hK hP 31 (jc_31 cI cL ad σ4 τ) rfl 3 (by decide) (hts _ kw_5_4) (fun _ h9 => h9) rfl dX1_judge_120 ?_
  refine lv_iload_n hx hb dX1_judge_123 rfl (lv_at hl 8 rfl) ?_
  refine lv_iconst (v := 4) hx hb dX1_judge_124 (by decide) ?_
  refine lv_imul hx hb dX1_judge_125 ?_
  refine jtopr (y := 0) (by decide) ?_
  refine lv_iload hx hb dX1_judge_126 (lv_at hl 0 rfl) ?_
  refine lv_iadd hx hb dX1_judge_128 ?_
  refine jtopr (y := 1) (by decide) ?_
  refine jald hx hb hK hP (jc_33 cI cL ad σ4 τ) (jin jz_1 (by omega) (by omega)) dX1_judge_129 ?_
  refine jtopr (y := σ4 33 1) rfl ?_
  have m6 : σ4 33 1 = (-1) := (by rw [eσ4, jup_n (by decide)]; exact (by rw [eσ2, jup_n (by decide)]; exact (by rw [eσ1, jup_n (by decide)]; exact h33_1)))
  refine jtopr m6 ?_
  refine lv_bipush (v := 9) hx hb dX1_judge_130 (by decide) ?_
  refine lv_imul hx hb dX1_judge_132 ?_
  refine jtopr (y := (-9)) (by decide) ?_
  refine lv_istore (lv' := [(11, .int (-9)), (10, .int 1), (9, .int 0), (8, .int 0), (7, .int 0), (6, .int 0), (5, .int 0), (0, .ref (ad 31)), (1, .int 0), (2, .ref (ad 1)), (3, .int 0), (4, .int 0)]) hx hb dX1_judge_133 hl (by decide) rfl (fun ls hl => ?_)
  refine lv_iload hx hb dX1_judge_135 (lv_at hl 0 rfl) ?_
  refine lv_if_ge (tgt := 143) hx hb dX1_judge_137 (by decide) (fun c => absurd c (by decide)) (fun _ => ?_)
  refine lv_goto (tgt := 310) hx hb dX1_judge_140 (by decide) ?_
  refine lv_iinc (v := 2) (lv' := [(10, .int 2), (11, .int (-9)), (9, .int 0), (8, .int 0), (7, .int 0), (6, .int 0), (5, .int 0), (0, .ref (ad 31)), (1, .int 0), (2, .ref (ad 1)), (3, .int 0), (4, .int 0)]) hx hb dX1_judge_310 hl (k := 1) rfl (by decide) (by decide) rfl (fun ls hl => ?_)
  refine lv_goto (tgt := 113) hx hb dX1_judge_313 (by decide) ?_
  refine lv_iload hx hb dX1_judge_113 (lv_at hl 0 rfl) ?_
  refine lv_iconst (v := 4) hx hb dX1_judge_115 (by decide) ?_
  refine lv_icmp_ge (tgt := 316) hx hb dX1_judge_116 (by decide) (fun c => absurd c (by decide)) (fun _ => ?_)
  refine lv_aload_n hx hb dX1_judge_119 rfl (lv_at hl 7 rfl) ?_
  refine va_get (D := D) hx hb hts inlX1 hown hK hP 31 (jc_31 cI cL ad σ4 τ) rfl 3 (by decide) (hts _ kw_5_4) (fun _ h9 => h9) rfl dX1_judge_120 ?_
  refine lv_iload_n hx hb dX1_judge_123 rfl (lv_at hl 8 rfl) ?_
  refine lv_iconst (v := 4) hx hb dX1_judge_124 (by decide) ?_
  refine lv_imul hx hb dX1_judge_125 ?_
  refine jtopr (y := 0) (by decide) ?_
  refine lv_iload hx hb dX1_judge_126 (lv_at hl 0 rfl) ?_
  refine lv_iadd hx hb dX1_judge_128 ?_
  refine jtopr (y := 2) (by decide) ?_
  refine jald hx hb hK hP (jc_33 cI cL ad σ4 τ) (jin jz_2 (by omega) (by omega)) dX1_judge_129 ?_
  refine jtopr (y := σ4 33 2) rfl ?_
  have m7 : σ4 33 2 = (-1) := (by rw [eσ4, jup_n (by decide)]; exact (by rw [eσ2, jup_n (by decide)]; exact (by rw [eσ1, jup_n (by decide)]; exact h33_2)))
  refine jtopr m7 ?_
  refine lv_bipush (v := 9) hx hb dX1_judge_130 (by decide) ?_
  refine lv_imul hx hb dX1_judge_132 ?_
  refine jtopr (y := (-9)) (by decide) ?_
  refine lv_istore (lv' := [(11, .int (-9)), (10, .int 2), (9, .int 0), (8, .int 0), (7, .int 0), (6, .int 0), (5, .int 0), (0, .ref (ad 31)), (1, .int 0), (2, .ref (ad 1)), (3, .int 0), (4, .int 0)]) hx hb dX1_judge_133 hl (by decide) rfl (fun ls hl => ?_)
  refine lv_iload hx hb dX1_judge_135 (lv_at hl 0 rfl) ?_
  refine lv_if_ge (tgt := 143) hx hb dX1_judge_137 (by decide) (fun c => absurd c (by decide)) (fun _ => ?_)
  refine lv_goto (tgt := 310) hx hb dX1_judge_140 (by decide) ?_
  refine lv_iinc (v := 3) (lv' := [(10, .int 3), (11, .int (-9)), (9, .int 0), (8, .int 0), (7, .int 0), (6, .int 0), (5, .int 0), (0, .ref (ad 31)), (1, .int 0), (2, .ref (ad 1)), (3, .int 0), (4, .int 0)]) hx hb dX1_judge_310 hl (k := 1) rfl (by decide) (by decide) rfl (fun ls hl => ?_)
  refine lv_goto (tgt := 113) hx hb dX1_judge_313 (by decide) ?_
  refine lv_iload hx hb dX1_judge_113 (lv_at hl 0 rfl) ?_
  refine lv_iconst (v := 4) hx hb dX1_judge_115 (by decide) ?_
  refine lv_icmp_ge (tgt := 316) hx hb dX1_judge_116 (by decide) (fun c => absurd c (by decide)) (fun _ => ?_)
  refine lv_aload_n hx hb dX1_judge_119 rfl (lv_at hl 7 rfl) ?_
  refine va_get (D := D) hx hb hts inlX1 hown hK hP 31 (jc_31 cI cL ad σ4 τ) rfl 3 (by decide) (hts _ kw_5_4) (fun _ h9 => h9) rfl dX1_judge_120 ?_
  refine lv_iload_n hx hb dX1_judge_123 rfl (lv_at hl 8 rfl) ?_
  refine lv_iconst (v := 4) hx hb dX1_judge_124 (by decide) ?_
  refine lv_imul hx hb dX1_judge_125 ?_
  refine jtopr (y := 0) (by decide) ?_
  refine lv_iload hx hb dX1_judge_126 (lv_at hl 0 rfl) ?_
  refine lv_iadd hx hb dX1_judge_128 ?_
  refine jtopr (y := 3) (by decide) ?_
  refine jald hx hb hK hP (jc_33 cI cL ad σ4 τ) (jin jz_3 (by omega) (by omega)) dX1_judge_129 ?_
  refine jtopr (y := σ4 33 3) rfl ?_
  have m8 : σ4 33 3 = (-1) := (by rw [eσ4, jup_n (by decide)]; exact (by rw [eσ2, jup_n (by decide)]; exact (by rw [eσ1, jup_n (by decide)]; exact h33_3)))
  refine jtopr m8 ?_
  refine lv_bipush (v := 9) hx hb dX1_judge_130 (by decide) ?_
  refine lv_imul hx hb dX1_judge_132 ?_
  refine jtopr (y := (-9)) (by decide) ?_
  refine lv_istore (lv' := [(11, .int (-9)), (10, .int 3), (9, .int 0), (8, .int 0), (7, .int 0), (6, .int 0), (5, .int 0), (0, .ref (ad 31)), (1, .int 0), (2, .ref (ad 1)), (3, .int 0), (4, .int 0)]) hx hb dX1_judge_133 hl (by decide) rfl (fun ls hl => ?_)
  refine lv_iload hx hb dX1_judge_135 (lv_at hl 0 rfl) ?_
  refine lv_if_ge (tgt := 143) hx hb dX1_judge_137 (by decide) (fun c => absurd c (by decide)) (fun _ => ?_)
  refine lv_goto (tgt := 310) hx hb dX1_judge_140 (by decide) ?_
  refine lv_iinc (v := 4) (lv' := [(10, .int 4), (11, .int (-9)), (9, .int 0), (8, .int 0), (7, .int 0), (6, .int 0), (5, .int 0), (0, .ref (ad 31)), (1, .int 0), (2, .ref (ad 1)), (3, .int 0), (4, .int 0)]) hx hb dX1_judge_310 hl (k := 1) rfl (by decide) (by decide) rfl (fun ls hl => ?_)
  refine lv_goto (tgt := 113) hx hb dX1_judge_313 (by decide) ?_
  refine lv_iload hx hb dX1_judge_113 (lv_at hl 0 rfl) ?_
  refine lv_iconst (v := 4) hx hb dX1_judge_115 (by decide) ?_
  refine lv_icmp_ge (tgt := 316) hx hb dX1_judge_116 (by decide) (fun _ => ?_) (fun c => absurd (by decide) c)
  have m9 : σ4 34 0 = 0 := (by rw [eσ4, jup_k (by decide)]; exact (by rw [eσ2, jup_n (by decide)]; exact (by rw [eσ1]; exact jup_s)))
  exact hret σ4 τ _ _ _ _ ⟨(fun i hi => by rw [eσ4, jup_n (by omega), eσ2, jup_n (by omega), eσ1, jup_n (by omega)]), m9, trivial⟩ hP hS dX1_judge_316
set_option maxHeartbeats 4000000 in
set_option maxRecDepth 100000 in
theorem c_X1_seekFor_17a (l : Launch) (D : va_G) (cI cL : ClassId) (ad : Nat → Nat) (hJ : jD ad) (σ : Nat → Nat → Int32) (τ : Nat → Nat → Int64) (h16_0 : σ 16 0 = 1) (h16_1 : σ 16 1 = 8) (h22_1 : σ 22 1 = 0) (h31_9 : σ 31 9 = (-1)) (ha36 : ∀ k : Nat, σ 36 k = 0) : jMv l yX1_seekFor cX1_seekFor 7 none ({ frames := 4, cells := 0, slots := 0, locals := 101 }) D cI cL ad [.ref (ad 31), .ref (ad 17), .int 0, .int 0, .int 0, .int 0] σ τ (fun σ' τ' => (∀ i : Nat, (i < 31 ∨ 37 < i) → σ' i = σ i) ∧ σ' 31 8 = 1 ∧ σ' 31 9 = 0 ∧ σ' 31 10 = 0 ∧ σ' 31 11 = 8 ∧ σ' 31 12 = 0 ∧ σ' 32 0 = 0 ∧ σ' 33 0 = (-1) ∧ σ' 33 1 = (-1) ∧ σ' 33 2 = (-1) ∧ σ' 33 3 = (-1) ∧ σ' 34 0 = 0 ∧ True) := by
  refine jMv.of hJ (by decide +kernel) rfl (Nat.le_of_ble_eq_true rfl) ?_
  intro p e s m args below meth c Q ls hC hret hl hP
  obtain ⟨hx, hb, hr, hml, hown, hts, hK, -, hlocks⟩ := hC
  have hown : s.vm.findClass RX1 = some m.cls := hown
  have hS : va_S (jA ad) s.heap s.heap [] := va_S.rf
  have hA : ∀ q, jA ad q → jA ad q := fun _ h => h
  have hl : lv_has ls 7 [(0, .ref (ad 31)), (1, .ref (ad 17)), (2, .int 0), (3, .int 0), (4, .int 0), (5, .int 0)] := hl
  refine lv_aload_n hx hb dX1_seekFor_0 rfl (lv_at hl 0 rfl) ?_
  refine lv_iload_n hx hb dX1_seekFor_1 rfl (lv_at hl 2 rfl) ?_
  refine lv_iload_n hx hb dX1_seekFor_2 rfl (lv_at hl 3 rfl) ?_
  refine jcallVv (As := [.int 0, .int 0]) (rest := []) ⟨hx, hb, hml, hown, hts⟩ hK hP hA hS (c_X1_grow_31 l D cI cL ad hJ σ τ h16_1 h22_1 h31_9 ha36) cw_RX1_54 (jc_31 cI cL ad σ τ) rfl ⟨Nat.le_of_ble_eq_true rfl, Nat.le_of_ble_eq_true rfl⟩ rfl rfl rfl hl.1 rfl (Nat.le_of_ble_eq_true rfl) dX1_seekFor_3 ⟨Nat.zero_le _, Nat.zero_le _⟩ (fun σ1 τ1 H locs h1 hP hS => ?_)
  obtain ⟨f3, m4, m5, m6, m7, m8, m9, m10, m11, m12, m13, h1⟩ := h1
  refine lv_aload_n hx hb dX1_seekFor_6 rfl (lv_at hl 0 rfl) ?_
  refine va_get (D := D) hx hb hts inlX1 hown hK hP 31 (jc_31 cI cL ad σ1 τ1) rfl 8 (by decide) (hts _ kw_27_22) (fun _ h9 => h9) rfl dX1_seekFor_7 ?_
  refine jtopr m4 ?_
  refine lv_iconst (v := 1) hx hb dX1_seekFor_10 (by decide) ?_
  refine lv_isub hx hb dX1_seekFor_11 ?_
  refine jtopr (y := 0) (by decide) ?_
  refine lv_istore (lv' := [(6, .int 0), (0, .ref (ad 31)), (1, .ref (ad 17)), (2, .int 0), (3, .int 0), (4, .int 0), (5, .int 0)]) hx hb dX1_seekFor_12 hl (by decide) rfl (fun ls hl => ?_)
  refine lv_iload hx hb dX1_seekFor_14 (lv_at hl 0 rfl) ?_
  refine lv_if_lt (tgt := 36) hx hb dX1_seekFor_16 (by decide) (fun c => absurd c (by decide)) (fun _ => ?_)
  refine lv_aload_n hx hb dX1_seekFor_19 rfl (lv_at hl 1 rfl) ?_
  refine lv_iload hx hb dX1_seekFor_20 (lv_at hl 0 rfl) ?_
  refine lv_aload_n hx hb dX1_seekFor_22 rfl (lv_at hl 2 rfl) ?_
  refine lv_iload hx hb dX1_seekFor_23 (lv_at hl 5 rfl) ?_
  refine lv_iload hx hb dX1_seekFor_25 (lv_at hl 6 rfl) ?_
  have m14 : σ1 16 0 = 1 := (by rw [f3 16 (by omega)]; exact h16_0)
  refine jcallVv (As := [.int 0, .ref (ad 17), .int 0, .int 0]) (rest := []) ⟨hx, hb, hml, hown, hts⟩ hK hP hA hS (c_X1_judge_17 l D cI cL ad hJ σ1 τ1 m14 m9 m10 m11 m12 m13) cw_RX1_61 (jc_31 cI cL ad σ1 τ1) rfl ⟨Nat.le_of_ble_eq_true rfl, Nat.le_of_ble_eq_true rfl⟩ rfl rfl rfl hl.1 rfl (Nat.le_of_ble_eq_true rfl) dX1_seekFor_27 ⟨Nat.zero_le _, Nat.zero_le _⟩ (fun σ15 τ15 H locs h15 hP hS => ?_)
  obtain ⟨f17, m18, h15⟩ := h15
  refine lv_iinc (v := (-1)) (lv' := [(6, .int (-1)), (0, .ref (ad 31)), (1, .ref (ad 17)), (2, .int 0), (3, .int 0), (4, .int 0), (5, .int 0)]) hx hb dX1_seekFor_30 hl (k := 0) rfl (by decide) (by decide) rfl (fun ls hl => ?_)
  refine lv_goto (tgt := 14) hx hb dX1_seekFor_33 (by decide) ?_
  refine lv_iload hx hb dX1_seekFor_14 (lv_at hl 0 rfl) ?_
  refine lv_if_lt (tgt := 36) hx hb dX1_seekFor_16 (by decide) (fun _ => ?_) (fun c => absurd (by decide) c)
  have m19 : σ15 31 8 = 1 := (by rw [f17 31 (by omega)]; exact m4)
  have m20 : σ15 31 9 = 0 := (by rw [f17 31 (by omega)]; exact m5)
  have m21 : σ15 31 10 = 0 := (by rw [f17 31 (by omega)]; exact m6)
  have m22 : σ15 31 11 = 8 := (by rw [f17 31 (by omega)]; exact m7)
  have m23 : σ15 31 12 = 0 := (by rw [f17 31 (by omega)]; exact m8)
  have m24 : σ15 32 0 = 0 := (by rw [f17 32 (by omega)]; exact m9)
  have m25 : σ15 33 0 = (-1) := (by rw [f17 33 (by omega)]; exact m10)
  have m26 : σ15 33 1 = (-1) := (by rw [f17 33 (by omega)]; exact m11)
  have m27 : σ15 33 2 = (-1) := (by rw [f17 33 (by omega)]; exact m12)
  have m28 : σ15 33 3 = (-1) := (by rw [f17 33 (by omega)]; exact m13)
  exact hret σ15 τ15 _ _ _ _ ⟨(fun i hi => by rw [f17 i (by omega), f3 i (by omega)]), m19, m20, m21, m22, m23, m24, m25, m26, m27, m28, m18, trivial⟩ hP hS dX1_seekFor_36
set_option maxHeartbeats 4000000 in
set_option maxRecDepth 100000 in
theorem c_X1_seekFor_1a (l : Launch) (D : va_G) (cI cL : ClassId) (ad : Nat → Nat) (hJ : jD ad) (σ : Nat → Nat → Int32) (τ : Nat → Nat → Int64) (h16_0 : σ 16 0 = 1) (h16_1 : σ 16 1 = 8) (h22_1 : σ 22 1 = 0) (h31_9 : σ 31 9 = (-1)) (ha36 : ∀ k : Nat, σ 36 k = 0) : jMv l yX1_seekFor cX1_seekFor 7 none ({ frames := 4, cells := 0, slots := 0, locals := 101 }) D cI cL ad [.ref (ad 31), .ref (ad 1), .int 0, .int 0, .int 0, .int 0] σ τ (fun σ' τ' => (∀ i : Nat, (i < 31 ∨ 37 < i) → σ' i = σ i) ∧ σ' 31 8 = 1 ∧ σ' 31 9 = 0 ∧ σ' 31 10 = 0 ∧ σ' 31 11 = 8 ∧ σ' 31 12 = 0 ∧ σ' 32 0 = 0 ∧ σ' 33 0 = (-1) ∧ σ' 33 1 = (-1) ∧ σ' 33 2 = (-1) ∧ σ' 33 3 = (-1) ∧ σ' 34 0 = 0 ∧ True) := by
  refine jMv.of hJ (by decide +kernel) rfl (Nat.le_of_ble_eq_true rfl) ?_
  intro p e s m args below meth c Q ls hC hret hl hP
  obtain ⟨hx, hb, hr, hml, hown, hts, hK, -, hlocks⟩ := hC
  have hown : s.vm.findClass RX1 = some m.cls := hown
  have hS : va_S (jA ad) s.heap s.heap [] := va_S.rf
  have hA : ∀ q, jA ad q → jA ad q := fun _ h => h
  have hl : lv_has ls 7 [(0, .ref (ad 31)), (1, .ref (ad 1)), (2, .int 0), (3, .int 0), (4, .int 0), (5, .int 0)] := hl
  refine lv_aload_n hx hb dX1_seekFor_0 rfl (lv_at hl 0 rfl) ?_
  refine lv_iload_n hx hb dX1_seekFor_1 rfl (lv_at hl 2 rfl) ?_
  refine lv_iload_n hx hb dX1_seekFor_2 rfl (lv_at hl 3 rfl) ?_
  refine jcallVv (As := [.int 0, .int 0]) (rest := []) ⟨hx, hb, hml, hown, hts⟩ hK hP hA hS (c_X1_grow_31 l D cI cL ad hJ σ τ h16_1 h22_1 h31_9 ha36) cw_RX1_54 (jc_31 cI cL ad σ τ) rfl ⟨Nat.le_of_ble_eq_true rfl, Nat.le_of_ble_eq_true rfl⟩ rfl rfl rfl hl.1 rfl (Nat.le_of_ble_eq_true rfl) dX1_seekFor_3 ⟨Nat.zero_le _, Nat.zero_le _⟩ (fun σ1 τ1 H locs h1 hP hS => ?_)
  obtain ⟨f3, m4, m5, m6, m7, m8, m9, m10, m11, m12, m13, h1⟩ := h1
  refine lv_aload_n hx hb dX1_seekFor_6 rfl (lv_at hl 0 rfl) ?_
  refine va_get (D := D) hx hb hts inlX1 hown hK hP 31 (jc_31 cI cL ad σ1 τ1) rfl 8 (by decide) (hts _ kw_27_22) (fun _ h9 => h9) rfl dX1_seekFor_7 ?_
  refine jtopr m4 ?_
  refine lv_iconst (v := 1) hx hb dX1_seekFor_10 (by decide) ?_
  refine lv_isub hx hb dX1_seekFor_11 ?_
  refine jtopr (y := 0) (by decide) ?_
  refine lv_istore (lv' := [(6, .int 0), (0, .ref (ad 31)), (1, .ref (ad 1)), (2, .int 0), (3, .int 0), (4, .int 0), (5, .int 0)]) hx hb dX1_seekFor_12 hl (by decide) rfl (fun ls hl => ?_)
  refine lv_iload hx hb dX1_seekFor_14 (lv_at hl 0 rfl) ?_
  refine lv_if_lt (tgt := 36) hx hb dX1_seekFor_16 (by decide) (fun c => absurd c (by decide)) (fun _ => ?_)
  refine lv_aload_n hx hb dX1_seekFor_19 rfl (lv_at hl 1 rfl) ?_
  refine lv_iload hx hb dX1_seekFor_20 (lv_at hl 0 rfl) ?_
  refine lv_aload_n hx hb dX1_seekFor_22 rfl (lv_at hl 2 rfl) ?_
  refine lv_iload hx hb dX1_seekFor_23 (lv_at hl 5 rfl) ?_
  refine lv_iload hx hb dX1_seekFor_25 (lv_at hl 6 rfl) ?_
  have m14 : σ1 16 0 = 1 := (by rw [f3 16 (by omega)]; exact h16_0)
  refine jcallVv (As := [.int 0, .ref (ad 1), .int 0, .int 0]) (rest := []) ⟨hx, hb, hml, hown, hts⟩ hK hP hA hS (c_X1_judge_1 l D cI cL ad hJ σ1 τ1 m14 m9 m10 m11 m12 m13) cw_RX1_61 (jc_31 cI cL ad σ1 τ1) rfl ⟨Nat.le_of_ble_eq_true rfl, Nat.le_of_ble_eq_true rfl⟩ rfl rfl rfl hl.1 rfl (Nat.le_of_ble_eq_true rfl) dX1_seekFor_27 ⟨Nat.zero_le _, Nat.zero_le _⟩ (fun σ15 τ15 H locs h15 hP hS => ?_)
  obtain ⟨f17, m18, h15⟩ := h15
  refine lv_iinc (v := (-1)) (lv' := [(6, .int (-1)), (0, .ref (ad 31)), (1, .ref (ad 1)), (2, .int 0), (3, .int 0), (4, .int 0), (5, .int 0)]) hx hb dX1_seekFor_30 hl (k := 0) rfl (by decide) (by decide) rfl (fun ls hl => ?_)
  refine lv_goto (tgt := 14) hx hb dX1_seekFor_33 (by decide) ?_
  refine lv_iload hx hb dX1_seekFor_14 (lv_at hl 0 rfl) ?_
  refine lv_if_lt (tgt := 36) hx hb dX1_seekFor_16 (by decide) (fun _ => ?_) (fun c => absurd (by decide) c)
  have m19 : σ15 31 8 = 1 := (by rw [f17 31 (by omega)]; exact m4)
  have m20 : σ15 31 9 = 0 := (by rw [f17 31 (by omega)]; exact m5)
  have m21 : σ15 31 10 = 0 := (by rw [f17 31 (by omega)]; exact m6)
  have m22 : σ15 31 11 = 8 := (by rw [f17 31 (by omega)]; exact m7)
  have m23 : σ15 31 12 = 0 := (by rw [f17 31 (by omega)]; exact m8)
  have m24 : σ15 32 0 = 0 := (by rw [f17 32 (by omega)]; exact m9)
  have m25 : σ15 33 0 = (-1) := (by rw [f17 33 (by omega)]; exact m10)
  have m26 : σ15 33 1 = (-1) := (by rw [f17 33 (by omega)]; exact m11)
  have m27 : σ15 33 2 = (-1) := (by rw [f17 33 (by omega)]; exact m12)
  have m28 : σ15 33 3 = (-1) := (by rw [f17 33 (by omega)]; exact m13)
  exact hret σ15 τ15 _ _ _ _ ⟨(fun i hi => by rw [f17 i (by omega), f3 i (by omega)]), m19, m20, m21, m22, m23, m24, m25, m26, m27, m28, m18, trivial⟩ hP hS dX1_seekFor_36
set_option maxHeartbeats 4000000 in
set_option maxRecDepth 100000 in
theorem c_X1_seekFor_17b (l : Launch) (D : va_G) (cI cL : ClassId) (ad : Nat → Nat) (hJ : jD ad) (σ : Nat → Nat → Int32) (τ : Nat → Nat → Int64) (h16_0 : σ 16 0 = 1) (h16_1 : σ 16 1 = 8) (h22_1 : σ 22 1 = 0) (h31_8 : σ 31 8 = 1) (h31_9 : σ 31 9 = 0) (h31_11 : σ 31 11 = 8) (h31_12 : σ 31 12 = 0) (h32_0 : σ 32 0 = 0) (h33_0 : σ 33 0 = (-1)) (h33_1 : σ 33 1 = (-1)) (h33_2 : σ 33 2 = (-1)) (h33_3 : σ 33 3 = (-1)) : jMv l yX1_seekFor cX1_seekFor 7 none ({ frames := 2, cells := 0, slots := 0, locals := 58 }) D cI cL ad [.ref (ad 31), .ref (ad 17), .int 0, .int 0, .int 0, .int 0] σ τ (fun σ' τ' => (∀ i : Nat, (i < 31 ∨ 37 < i) → σ' i = σ i) ∧ σ' 31 8 = 1 ∧ σ' 31 9 = 0 ∧ σ' 31 10 = 0 ∧ σ' 31 11 = 8 ∧ σ' 31 12 = 0 ∧ σ' 32 0 = 0 ∧ σ' 33 0 = (-1) ∧ σ' 33 1 = (-1) ∧ σ' 33 2 = (-1) ∧ σ' 33 3 = (-1) ∧ σ' 34 0 = 0 ∧ True) := by
  refine jMv.of hJ (by decide +kernel) rfl (Nat.le_of_ble_eq_true rfl) ?_
  intro p e s m args below meth c Q ls hC hret hl hP
  obtain ⟨hx, hb, hr, hml, hown, hts, hK, -, hlocks⟩ := hC
  have hown : s.vm.findClass RX1 = some m.cls := hown
  have hS : va_S (jA ad) s.heap s.heap [] := va_S.rf
  have hA : ∀ q, jA ad q → jA ad q := fun _ h => h
  have hl : lv_has ls 7 [(0, .ref (ad 31)), (1, .ref (ad 17)), (2, .int 0), (3, .int 0), (4, .int 0), (5, .int 0)] := hl
  refine lv_aload_n hx hb dX1_seekFor_0 rfl (lv_at hl 0 rfl) ?_
  refine lv_iload_n hx hb dX1_seekFor_1 rfl (lv_at hl 2 rfl) ?_
  refine lv_iload_n hx hb dX1_seekFor_2 rfl (lv_at hl 3 rfl) ?_
  refine jcallVv (As := [.int 0, .int 0]) (rest := []) ⟨hx, hb, hml, hown, hts⟩ hK hP hA hS (c_X1_grow_31b l D cI cL ad hJ σ τ h16_1 h22_1 h31_8 h31_9 h31_11 h31_12 h32_0 h33_0 h33_1 h33_2 h33_3) cw_RX1_54 (jc_31 cI cL ad σ τ) rfl ⟨Nat.le_of_ble_eq_true rfl, Nat.le_of_ble_eq_true rfl⟩ rfl rfl rfl hl.1 rfl (Nat.le_of_ble_eq_true rfl) dX1_seekFor_3 ⟨Nat.zero_le _, Nat.zero_le _⟩ (fun σ1 τ1 H locs h1 hP hS => ?_)
  obtain ⟨f3, m4, m5, m6, m7, m8, m9, m10, m11, m12, m13, h1⟩ := h1
  refine lv_aload_n hx hb dX1_seekFor_6 rfl (lv_at hl 0 rfl) ?_
  refine va_get (D := D) hx hb hts inlX1 hown hK hP 31 (jc_31 cI cL ad σ1 τ1) rfl 8 (by decide) (hts _ kw_27_22) (fun _ h9 => h9) rfl dX1_seekFor_7 ?_
  refine jtopr m4 ?_
  refine lv_iconst (v := 1) hx hb dX1_seekFor_10 (by decide) ?_
  refine lv_isub hx hb dX1_seekFor_11 ?_
  refine jtopr (y := 0) (by decide) ?_
  refine lv_istore (lv' := [(6, .int 0), (0, .ref (ad 31)), (1, .ref (ad 17)), (2, .int 0), (3, .int 0), (4, .int 0), (5, .int 0)]) hx hb dX1_seekFor_12 hl (by decide) rfl (fun ls hl => ?_)
  refine lv_iload hx hb dX1_seekFor_14 (lv_at hl 0 rfl) ?_
  refine lv_if_lt (tgt := 36) hx hb dX1_seekFor_16 (by decide) (fun c => absurd c (by decide)) (fun _ => ?_)
  refine lv_aload_n hx hb dX1_seekFor_19 rfl (lv_at hl 1 rfl) ?_
  refine lv_iload hx hb dX1_seekFor_20 (lv_at hl 0 rfl) ?_
  refine lv_aload_n hx hb dX1_seekFor_22 rfl (lv_at hl 2 rfl) ?_
  refine lv_iload hx hb dX1_seekFor_23 (lv_at hl 5 rfl) ?_
  refine lv_iload hx hb dX1_seekFor_25 (lv_at hl 6 rfl) ?_
  have m14 : σ1 16 0 = 1 := (by rw [f3 16 (by omega)]; exact h16_0)
  refine jcallVv (As := [.int 0, .ref (ad 17), .int 0, .int 0]) (rest := []) ⟨hx, hb, hml, hown, hts⟩ hK hP hA hS (c_X1_judge_17 l D cI cL ad hJ σ1 τ1 m14 m9 m10 m11 m12 m13) cw_RX1_61 (jc_31 cI cL ad σ1 τ1) rfl ⟨Nat.le_of_ble_eq_true rfl, Nat.le_of_ble_eq_true rfl⟩ rfl rfl rfl hl.1 rfl (Nat.le_of_ble_eq_true rfl) dX1_seekFor_27 ⟨Nat.zero_le _, Nat.zero_le _⟩ (fun σ15 τ15 H locs h15 hP hS => ?_)
  obtain ⟨f17, m18, h15⟩ := h15
  refine lv_iinc (v := (-1)) (lv' := [(6, .int (-1)), (0, .ref (ad 31)), (1, .ref (ad 17)), (2, .int 0), (3, .int 0), (4, .int 0), (5, .int 0)]) hx hb dX1_seekFor_30 hl (k := 0) rfl (by decide) (by decide) rfl (fun ls hl => ?_)
  refine lv_goto (tgt := 14) hx hb dX1_seekFor_33 (by decide) ?_
  refine lv_iload hx hb dX1_seekFor_14 (lv_at hl 0 rfl) ?_
  refine lv_if_lt (tgt := 36) hx hb dX1_seekFor_16 (by decide) (fun _ => ?_) (fun c => absurd (by decide) c)
  have m19 : σ15 31 8 = 1 := (by rw [f17 31 (by omega)]; exact m4)
  have m20 : σ15 31 9 = 0 := (by rw [f17 31 (by omega)]; exact m5)
  have m21 : σ15 31 10 = 0 := (by rw [f17 31 (by omega)]; exact m6)
  have m22 : σ15 31 11 = 8 := (by rw [f17 31 (by omega)]; exact m7)
  have m23 : σ15 31 12 = 0 := (by rw [f17 31 (by omega)]; exact m8)
  have m24 : σ15 32 0 = 0 := (by rw [f17 32 (by omega)]; exact m9)
  have m25 : σ15 33 0 = (-1) := (by rw [f17 33 (by omega)]; exact m10)
  have m26 : σ15 33 1 = (-1) := (by rw [f17 33 (by omega)]; exact m11)
  have m27 : σ15 33 2 = (-1) := (by rw [f17 33 (by omega)]; exact m12)
  have m28 : σ15 33 3 = (-1) := (by rw [f17 33 (by omega)]; exact m13)
  exact hret σ15 τ15 _ _ _ _ ⟨(fun i hi => by rw [f17 i (by omega), f3 i (by omega)]), m19, m20, m21, m22, m23, m24, m25, m26, m27, m28, m18, trivial⟩ hP hS dX1_seekFor_36
set_option maxHeartbeats 4000000 in
set_option maxRecDepth 100000 in
theorem c_X1_seek_31 (l : Launch) (D : va_G) (cI cL : ClassId) (ad : Nat → Nat) (hJ : jD ad) (σ : Nat → Nat → Int32) (τ : Nat → Nat → Int64) (h16_0 : σ 16 0 = 1) (h16_1 : σ 16 1 = 8) (h22_1 : σ 22 1 = 0) (h31_9 : σ 31 9 = (-1)) (ha36 : ∀ k : Nat, σ 36 k = 0) : jMv l yX1_seek cX1_seek 4 none ({ frames := 5, cells := 0, slots := 0, locals := 127 }) D cI cL ad [.ref (ad 31), .int 0, .int 0, .int 0] σ τ (fun σ' τ' => (∀ i : Nat, (i < 31 ∨ 37 < i) → σ' i = σ i) ∧ σ' 31 8 = 1 ∧ σ' 31 9 = 0 ∧ σ' 31 10 = 0 ∧ σ' 31 11 = 8 ∧ σ' 31 12 = 0 ∧ σ' 32 0 = 0 ∧ σ' 33 0 = (-1) ∧ σ' 33 1 = (-1) ∧ σ' 33 2 = (-1) ∧ σ' 33 3 = (-1) ∧ σ' 34 0 = 0 ∧ True) := by
  refine jMv.of hJ (by decide +kernel) rfl (Nat.le_of_ble_eq_true rfl) ?_
  intro p e s m args below meth c Q ls hC hret hl hP
  obtain ⟨hx, hb, hr, hml, hown, hts, hK, -, hlocks⟩ := hC
  have hown : s.vm.findClass RX1 = some m.cls := hown
  have hS : va_S (jA ad) s.heap s.heap [] := va_S.rf
  have hA : ∀ q, jA ad q → jA ad q := fun _ h => h
  have hl : lv_has ls 4 [(0, .ref (ad 31)), (1, .int 0), (2, .int 0), (3, .int 0)] := hl
  refine lv_aload_n hx hb dX1_seek_0 rfl (lv_at hl 0 rfl) ?_
  refine lv_aload_n hx hb dX1_seek_1 rfl (lv_at hl 0 rfl) ?_
  refine va_get (D := D) hx hb hts inlX1 hown hK hP 31 (jc_31 cI cL ad σ τ) rfl 1 (by decide) (hts _ kw_5_11) (fun _ h9 => h9) rfl dX1_seek_2 ?_
  refine va_get (D := D) hx hb hts inlX6 hown hK hP 16 (jc_16 cI cL ad σ τ) rfl 3 (by decide) (hts _ kw_27_16) (fun _ h9 => h9) rfl dX1_seek_5 ?_
  refine lv_iload_n hx hb dX1_seek_8 rfl (lv_at hl 1 rfl) ?_
  refine lv_iload_n hx hb dX1_seek_9 rfl (lv_at hl 2 rfl) ?_
  refine lv_iload_n hx hb dX1_seek_10 rfl (lv_at hl 3 rfl) ?_
  refine lv_aload_n hx hb dX1_seek_11 rfl (lv_at hl 0 rfl) ?_
  refine va_get (D := D) hx hb hts inlX1 hown hK hP 31 (jc_31 cI cL ad σ τ) rfl 1 (by decide) (hts _ kw_5_11) (fun _ h9 => h9) rfl dX1_seek_12 ?_
  refine va_get (D := D) hx hb hts inlX6 hown hK hP 16 (jc_16 cI cL ad σ τ) rfl 0 (by decide) (hts _ kw_27_17) (fun _ h9 => h9) rfl dX1_seek_15 ?_
  refine jtopr h16_0 ?_
  refine lv_iconst (v := 1) hx hb dX1_seek_18 (by decide) ?_
  refine lv_isub hx hb dX1_seek_19 ?_
  refine jtopr (y := 0) (by decide) ?_
  refine jcallVv (As := [.ref (ad 17), .int 0, .int 0, .int 0, .int 0]) (rest := []) ⟨hx, hb, hml, hown, hts⟩ hK hP hA hS (c_X1_seekFor_17a l D cI cL ad hJ σ τ h16_0 h16_1 h22_1 h31_9 ha36) cw_RX1_50 (jc_31 cI cL ad σ τ) rfl ⟨Nat.le_of_ble_eq_true rfl, Nat.le_of_ble_eq_true rfl⟩ rfl rfl rfl hl.1 rfl (Nat.le_of_ble_eq_true rfl) dX1_seek_20 ⟨Nat.zero_le _, Nat.zero_le _⟩ (fun σ1 τ1 H locs h1 hP hS => ?_)
  obtain ⟨f3, m4, m5, m6, m7, m8, m9, m10, m11, m12, m13, m14, h1⟩ := h1
  exact hret σ1 τ1 _ _ _ _ ⟨(fun i hi => by rw [f3 i (by omega)]), m4, m5, m6, m7, m8, m9, m10, m11, m12, m13, m14, trivial⟩ hP hS dX1_seek_23
set_option maxHeartbeats 4000000 in
set_option maxRecDepth 100000 in
theorem c_X1_seek_31b (l : Launch) (D : va_G) (cI cL : ClassId) (ad : Nat → Nat) (hJ : jD ad) (σ : Nat → Nat → Int32) (τ : Nat → Nat → Int64) (h16_0 : σ 16 0 = 1) (h16_1 : σ 16 1 = 8) (h22_1 : σ 22 1 = 0) (h31_8 : σ 31 8 = 1) (h31_9 : σ 31 9 = 0) (h31_11 : σ 31 11 = 8) (h31_12 : σ 31 12 = 0) (h32_0 : σ 32 0 = 0) (h33_0 : σ 33 0 = (-1)) (h33_1 : σ 33 1 = (-1)) (h33_2 : σ 33 2 = (-1)) (h33_3 : σ 33 3 = (-1)) : jMv l yX1_seek cX1_seek 4 none ({ frames := 3, cells := 0, slots := 0, locals := 84 }) D cI cL ad [.ref (ad 31), .int 0, .int 0, .int 0] σ τ (fun σ' τ' => (∀ i : Nat, (i < 31 ∨ 37 < i) → σ' i = σ i) ∧ σ' 31 8 = 1 ∧ σ' 31 9 = 0 ∧ σ' 31 10 = 0 ∧ σ' 31 11 = 8 ∧ σ' 31 12 = 0 ∧ σ' 32 0 = 0 ∧ σ' 33 0 = (-1) ∧ σ' 33 1 = (-1) ∧ σ' 33 2 = (-1) ∧ σ' 33 3 = (-1) ∧ σ' 34 0 = 0 ∧ True) := by
  refine jMv.of hJ (by decide +kernel) rfl (Nat.le_of_ble_eq_true rfl) ?_
  intro p e s m args below meth c Q ls hC hret hl hP
  obtain ⟨hx, hb, hr, hml, hown, hts, hK, -, hlocks⟩ := hC
  have hown : s.vm.findClass RX1 = some m.cls := hown
  have hS : va_S (jA ad) s.heap s.heap [] := va_S.rf
  have hA : ∀ q, jA ad q → jA ad q := fun _ h => h
  have hl : lv_has ls 4 [(0, .ref (ad 31)), (1, .int 0), (2, .int 0), (3, .int 0)] := hl
  refine lv_aload_n hx hb dX1_seek_0 rfl (lv_at hl 0 rfl) ?_
  refine lv_aload_n hx hb dX1_seek_1 rfl (lv_at hl 0 rfl) ?_
  refine va_get (D := D) hx hb hts inlX1 hown hK hP 31 (jc_31 cI cL ad σ τ) rfl 1 (by decide) (hts _ kw_5_11) (fun _ h9 => h9) rfl dX1_seek_2 ?_
  refine va_get (D := D) hx hb hts inlX6 hown hK hP 16 (jc_16 cI cL ad σ τ) rfl 3 (by decide) (hts _ kw_27_16) (fun _ h9 => h9) rfl dX1_seek_5 ?_
  refine lv_iload_n hx hb dX1_seek_8 rfl (lv_at hl 1 rfl) ?_
  refine lv_iload_n hx hb dX1_seek_9 rfl (lv_at hl 2 rfl) ?_
  refine lv_iload_n hx hb dX1_seek_10 rfl (lv_at hl 3 rfl) ?_
  refine lv_aload_n hx hb dX1_seek_11 rfl (lv_at hl 0 rfl) ?_
  refine va_get (D := D) hx hb hts inlX1 hown hK hP 31 (jc_31 cI cL ad σ τ) rfl 1 (by decide) (hts _ kw_5_11) (fun _ h9 => h9) rfl dX1_seek_12 ?_
  refine va_get (D := D) hx hb hts inlX6 hown hK hP 16 (jc_16 cI cL ad σ τ) rfl 0 (by decide) (hts _ kw_27_17) (fun _ h9 => h9) rfl dX1_seek_15 ?_
  refine jtopr h16_0 ?_
  refine lv_iconst (v := 1) hx hb dX1_seek_18 (by decide) ?_
  refine lv_isub hx hb dX1_seek_19 ?_
  refine jtopr (y := 0) (by decide) ?_
  refine jcallVv (As := [.ref (ad 17), .int 0, .int 0, .int 0, .int 0]) (rest := []) ⟨hx, hb, hml, hown, hts⟩ hK hP hA hS (c_X1_seekFor_17b l D cI cL ad hJ σ τ h16_0 h16_1 h22_1 h31_8 h31_9 h31_11 h31_12 h32_0 h33_0 h33_1 h33_2 h33_3) cw_RX1_50 (jc_31 cI cL ad σ τ) rfl ⟨Nat.le_of_ble_eq_true rfl, Nat.le_of_ble_eq_true rfl⟩ rfl rfl rfl hl.1 rfl (Nat.le_of_ble_eq_true rfl) dX1_seek_20 ⟨Nat.zero_le _, Nat.zero_le _⟩ (fun σ1 τ1 H locs h1 hP hS => ?_)
  obtain ⟨f3, m4, m5, m6, m7, m8, m9, m10, m11, m12, m13, m14, h1⟩ := h1
  exact hret σ1 τ1 _ _ _ _ ⟨(fun i hi => by rw [f3 i (by omega)]), m4, m5, m6, m7, m8, m9, m10, m11, m12, m13, m14, trivial⟩ hP hS dX1_seek_23
set_option maxHeartbeats 4000000 in
set_option maxRecDepth 100000 in
theorem c_X1_valueAt_31 (l : Launch) (D : va_G) (cI cL : ClassId) (ad : Nat → Nat) (hJ : jD ad) (σ : Nat → Nat → Int32) (τ : Nat → Nat → Int64) (h16_0 : σ 16 0 = 1) (h31_8 : σ 31 8 = 1) (h34_0 : σ 34 0 = 0) : jM l yX1_valueAt cX1_valueAt 3 (some .int) ({ frames := 0, cells := 0, slots := 0, locals := 0 }) D cI cL ad [.ref (ad 31), .int 0, .int 0] σ τ (fun r σ' τ' => (σ = σ' ∧ τ = τ') ∧ ((r = 0 ∧ True))) := by
  refine jM.of hJ (by decide +kernel) (nt := .int) rfl (Nat.le_of_ble_eq_true rfl) ?_
  intro p e s m args below meth c Q ls hC hret hl hP
  obtain ⟨hx, hb, hr, hml, hown, hts, hK, -, hlocks⟩ := hC
  have hown : s.vm.findClass RX1 = some m.cls := hown
  have hS : va_S (jA ad) s.heap s.heap [] := va_S.rf
  have hA : ∀ q, jA ad q → jA ad q := fun _ h => h
  have hl : lv_has ls 3 [(0, .ref (ad 31)), (1, .int 0), (2, .int 0)] := hl
  refine lv_iload_n hx hb dX1_valueAt_0 rfl (lv_at hl 1 rfl) ?_
  refine lv_if_lt (tgt := 27) hx hb dX1_valueAt_1 (by decide) (fun c => absurd c (by decide)) (fun _ => ?_)
  refine lv_iload_n hx hb dX1_valueAt_4 rfl (lv_at hl 1 rfl) ?_
  refine lv_aload_n hx hb dX1_valueAt_5 rfl (lv_at hl 0 rfl) ?_
  refine va_get (D := D) hx hb hts inlX1 hown hK hP 31 (jc_31 cI cL ad σ τ) rfl 8 (by decide) (hts _ kw_27_22) (fun _ h9 => h9) rfl dX1_valueAt_6 ?_
  refine jtopr h31_8 ?_
  refine lv_icmp_ge (tgt := 27) hx hb dX1_valueAt_9 (by decide) (fun c => absurd c (by decide)) (fun _ => ?_)
  refine lv_iload_n hx hb dX1_valueAt_12 rfl (lv_at hl 2 rfl) ?_
  refine lv_if_lt (tgt := 27) hx hb dX1_valueAt_13 (by decide) (fun c => absurd c (by decide)) (fun _ => ?_)
  refine lv_iload_n hx hb dX1_valueAt_16 rfl (lv_at hl 2 rfl) ?_
  refine lv_aload_n hx hb dX1_valueAt_17 rfl (lv_at hl 0 rfl) ?_
  refine va_get (D := D) hx hb hts inlX1 hown hK hP 31 (jc_31 cI cL ad σ τ) rfl 1 (by decide) (hts _ kw_5_11) (fun _ h9 => h9) rfl dX1_valueAt_18 ?_
  refine va_get (D := D) hx hb hts inlX6 hown hK hP 16 (jc_16 cI cL ad σ τ) rfl 0 (by decide) (hts _ kw_27_17) (fun _ h9 => h9) rfl dX1_valueAt_21 ?_
  refine jtopr h16_0 ?_
  refine lv_icmp_lt (tgt := 31) hx hb dX1_valueAt_24 (by decide) (fun _ => ?_) (fun c => absurd (by decide) c)
  refine lv_aload_n hx hb dX1_valueAt_31 rfl (lv_at hl 0 rfl) ?_
  refine va_get (D := D) hx hb hts inlX1 hown hK hP 31 (jc_31 cI cL ad σ τ) rfl 4 (by decide) (hts _ kw_5_5) (fun _ h9 => h9) rfl dX1_valueAt_32 ?_
  refine lv_iload_n hx hb dX1_valueAt_35 rfl (lv_at hl 1 rfl) ?_
  refine lv_bipush (v := 9) hx hb dX1_valueAt_36 (by decide) ?_
  refine lv_imul hx hb dX1_valueAt_38 ?_
  refine jtopr (y := 0) (by decide) ?_
  refine lv_iload_n hx hb dX1_valueAt_39 rfl (lv_at hl 2 rfl) ?_
  refine lv_iadd hx hb dX1_valueAt_40 ?_
  refine jtopr (y := 0) (by decide) ?_
  refine jald hx hb hK hP (jc_34 cI cL ad σ τ) (jin jz_0 (by omega) (by omega)) dX1_valueAt_41 ?_
  refine jtopr (y := σ 34 0) rfl ?_
  refine jtopr h34_0 ?_
  exact hret 0 σ τ _ _ _ _ rfl ⟨⟨rfl, rfl⟩, ⟨rfl, trivial⟩⟩ hP hS dX1_valueAt_42
set_option maxHeartbeats 4000000 in
set_option maxRecDepth 100000 in
theorem c_X11_bestOf (l : Launch) (D : va_G) (cI cL : ClassId) (ad : Nat → Nat) (hJ : jD ad) (σ : Nat → Nat → Int32) (τ : Nat → Nat → Int64) (a2 : Int32) (A2 : Int) (t2 : a2.toInt = A2) (h16_0 : σ 16 0 = 1) (h16_1 : σ 16 1 = 8) (h22_1 : σ 22 1 = 0) (h31_9 : σ 31 9 = (-1)) (ha3 : ∀ k : Nat, σ 3 k = 0) (ha4 : ∀ k : Nat, σ 4 k = 0) (ha5 : ∀ k : Nat, σ 5 k = 0) (ha36 : ∀ k : Nat, σ 36 k = 0) : jM l yX11_bestOf cX11_bestOf 3 (some .int) ({ frames := 6, cells := 0, slots := 0, locals := 150 }) D cI cL ad [.ref (ad 0), .int 0, .int a2] σ τ (fun r σ' τ' => (∀ i : Nat, (i < 27 ∨ 28 < i) ∧ (i < 31 ∨ 37 < i) → σ' i = σ i) ∧ σ' 31 8 = 1 ∧ σ' 31 9 = 0 ∧ σ' 31 10 = 0 ∧ σ' 31 11 = 8 ∧ σ' 31 12 = 0 ∧ σ' 32 0 = 0 ∧ σ' 33 0 = (-1) ∧ σ' 33 1 = (-1) ∧ σ' 33 2 = (-1) ∧ σ' 33 3 = (-1) ∧ ((r = 0 ∧ True))) := by
  refine jM.of hJ (by decide +kernel) (nt := .int) rfl (Nat.le_of_ble_eq_true rfl) ?_
  intro p e s m args below meth c Q ls hC hret hl hP
  obtain ⟨hx, hb, hr, hml, hown, hts, hK, -, hlocks⟩ := hC
  have hown : s.vm.findClass RX11 = some m.cls := hown
  have hS : va_S (jA ad) s.heap s.heap [] := va_S.rf
  have hA : ∀ q, jA ad q → jA ad q := fun _ h => h
  have hl : lv_has ls 3 [(0, .ref (ad 0)), (1, .int 0), (2, .int a2)] := hl
  have g2 := jrg t2
  refine lv_aload_n hx hb dX11_bestOf_0 rfl (lv_at hl 0 rfl) ?_
  refine va_get (D := D) hx hb hts inlX11 hown hK hP 0 (jc_0 cI cL ad σ τ) rfl 5 (by decide) (hts _ kw_2_9) (fun _ h9 => h9) rfl dX11_bestOf_1 ?_
  refine lv_iload_n hx hb dX11_bestOf_4 rfl (lv_at hl 2 rfl) ?_
  refine jcallVv (As := [.int a2]) (rest := []) ⟨hx, hb, hml, hown, hts⟩ hK hP hA hS (c_X5_lay_26 l D cI cL ad hJ σ τ a2 (A2) t2 ha3 ha4 ha5) cw_RX11_156 (jc_26 cI cL ad σ τ) rfl ⟨Nat.le_of_ble_eq_true rfl, Nat.le_of_ble_eq_true rfl⟩ rfl rfl rfl hl.1 rfl (Nat.le_of_ble_eq_true rfl) dX11_bestOf_5 ⟨Nat.zero_le _, Nat.zero_le _⟩ (fun σ1 τ1 H locs h1 hP hS => ?_)
  obtain ⟨f3, h1⟩ := h1
  refine lv_aload_n hx hb dX11_bestOf_8 rfl (lv_at hl 0 rfl) ?_
  refine va_get (D := D) hx hb hts inlX11 hown hK hP 0 (jc_0 cI cL ad σ1 τ1) rfl 6 (by decide) (hts _ kw_2_13) (fun _ h9 => h9) rfl dX11_bestOf_9 ?_
  refine lv_iload_n hx hb dX11_bestOf_12 rfl (lv_at hl 1 rfl) ?_
  refine lv_iconst (v := 0) hx hb dX11_bestOf_13 (by decide) ?_
  refine lv_iconst (v := 0) hx hb dX11_bestOf_14 (by decide) ?_
  have m4 : σ1 16 0 = 1 := (by rw [f3 16 (by omega)]; exact h16_0)
  have m5 : σ1 16 1 = 8 := (by rw [f3 16 (by omega)]; exact h16_1)
  have m6 : σ1 22 1 = 0 := (by rw [f3 22 (by omega)]; exact h22_1)
  have m7 : σ1 31 9 = (-1) := (by rw [f3 31 (by omega)]; exact h31_9)
  have m8 : ∀ k : Nat, σ1 36 k = 0 := (by rw [f3 36 (by omega)]; exact ha36)
  refine jcallVv (As := [.int 0, .int 0, .int 0]) (rest := []) ⟨hx, hb, hml, hown, hts⟩ hK hP hA hS (c_X1_seek_31 l D cI cL ad hJ σ1 τ1 m4 m5 m6 m7 m8) cw_RX11_193 (jc_31 cI cL ad σ1 τ1) rfl ⟨Nat.le_of_ble_eq_true rfl, Nat.le_of_ble_eq_true rfl⟩ rfl rfl rfl hl.1 rfl (Nat.le_of_ble_eq_true rfl) dX11_bestOf_15 ⟨Nat.zero_le _, Nat.zero_le _⟩ (fun σ9 τ9 H locs h9 hP hS => ?_)
  obtain ⟨f11, m12, m13, m14, m15, m16, m17, m18, m19, m20, m21, m22, h9⟩ := h9
  refine lv_aload_n hx hb dX11_bestOf_18 rfl (lv_at hl 0 rfl) ?_
  refine va_get (D := D) hx hb hts inlX11 hown hK hP 0 (jc_0 cI cL ad σ9 τ9) rfl 6 (by decide) (hts _ kw_2_13) (fun _ h9 => h9) rfl dX11_bestOf_19 ?_
  refine lv_iconst (v := 0) hx hb dX11_bestOf_22 (by decide) ?_
  refine lv_iconst (v := 0) hx hb dX11_bestOf_23 (by decide) ?_
  have m23 : σ9 16 0 = 1 := (by rw [f11 16 (by omega)]; exact m4)
  refine jcallV (As := [.int 0, .int 0]) (rest := []) ⟨hx, hb, hml, hown, hts⟩ hK hP hA hS (c_X1_valueAt_31 l D cI cL ad hJ σ9 τ9 m23 m12 m22) cw_RX11_215 (jc_31 cI cL ad σ9 τ9) rfl ⟨Nat.le_of_ble_eq_true rfl, Nat.le_of_ble_eq_true rfl⟩ rfl rfl rfl hl.1 rfl (Nat.le_of_ble_eq_true rfl) dX11_bestOf_24 ⟨Nat.zero_le _, Nat.zero_le _⟩ (fun r25 σ24 τ24 H locs h24 hP hS => ?_)
  obtain ⟨⟨rfl, rfl⟩, h24⟩ := h24
  have h26 := h24
  obtain ⟨q28, k27⟩ := h26
  have q28 := q28.symm
  subst q28
  exact hret 0 σ9 τ9 _ _ _ _ rfl ⟨(fun i hi => by rw [f11 i (by omega), f3 i (by omega)]), m12, m13, m14, m15, m16, m17, m18, m19, m20, m21, ⟨rfl, trivial⟩⟩ hP hS dX11_bestOf_27
set_option maxHeartbeats 4000000 in
set_option maxRecDepth 100000 in
theorem c_X11_bestOf_b (l : Launch) (D : va_G) (cI cL : ClassId) (ad : Nat → Nat) (hJ : jD ad) (σ : Nat → Nat → Int32) (τ : Nat → Nat → Int64) (a2 : Int32) (A2 : Int) (t2 : a2.toInt = A2) (h16_0 : σ 16 0 = 1) (h16_1 : σ 16 1 = 8) (h22_1 : σ 22 1 = 0) (h31_8 : σ 31 8 = 1) (h31_9 : σ 31 9 = 0) (h31_11 : σ 31 11 = 8) (h31_12 : σ 31 12 = 0) (h32_0 : σ 32 0 = 0) (h33_0 : σ 33 0 = (-1)) (h33_1 : σ 33 1 = (-1)) (h33_2 : σ 33 2 = (-1)) (h33_3 : σ 33 3 = (-1)) (ha3 : ∀ k : Nat, σ 3 k = 0) (ha4 : ∀ k : Nat, σ 4 k = 0) (ha5 : ∀ k : Nat, σ 5 k = 0) : jM l yX11_bestOf cX11_bestOf 3 (some .int) ({ frames := 4, cells := 0, slots := 0, locals := 107 }) D cI cL ad [.ref (ad 0), .int 0, .int a2] σ τ (fun r σ' τ' => (∀ i : Nat, (i < 27 ∨ 28 < i) ∧ (i < 31 ∨ 37 < i) → σ' i = σ i) ∧ σ' 31 8 = 1 ∧ σ' 31 9 = 0 ∧ σ' 31 10 = 0 ∧ σ' 31 11 = 8 ∧ σ' 31 12 = 0 ∧ σ' 32 0 = 0 ∧ σ' 33 0 = (-1) ∧ σ' 33 1 = (-1) ∧ σ' 33 2 = (-1) ∧ σ' 33 3 = (-1) ∧ ((r = 0 ∧ True))) := by
  refine jM.of hJ (by decide +kernel) (nt := .int) rfl (Nat.le_of_ble_eq_true rfl) ?_
  intro p e s m args below meth c Q ls hC hret hl hP
  obtain ⟨hx, hb, hr, hml, hown, hts, hK, -, hlocks⟩ := hC
  have hown : s.vm.findClass RX11 = some m.cls := hown
  have hS : va_S (jA ad) s.heap s.heap [] := va_S.rf
  have hA : ∀ q, jA ad q → jA ad q := fun _ h => h
  have hl : lv_has ls 3 [(0, .ref (ad 0)), (1, .int 0), (2, .int a2)] := hl
  have g2 := jrg t2
  refine lv_aload_n hx hb dX11_bestOf_0 rfl (lv_at hl 0 rfl) ?_
  refine va_get (D := D) hx hb hts inlX11 hown hK hP 0 (jc_0 cI cL ad σ τ) rfl 5 (by decide) (hts _ kw_2_9) (fun _ h9 => h9) rfl dX11_bestOf_1 ?_
  refine lv_iload_n hx hb dX11_bestOf_4 rfl (lv_at hl 2 rfl) ?_
  refine jcallVv (As := [.int a2]) (rest := []) ⟨hx, hb, hml, hown, hts⟩ hK hP hA hS (c_X5_lay_26 l D cI cL ad hJ σ τ a2 (A2) t2 ha3 ha4 ha5) cw_RX11_156 (jc_26 cI cL ad σ τ) rfl ⟨Nat.le_of_ble_eq_true rfl, Nat.le_of_ble_eq_true rfl⟩ rfl rfl rfl hl.1 rfl (Nat.le_of_ble_eq_true rfl) dX11_bestOf_5 ⟨Nat.zero_le _, Nat.zero_le _⟩ (fun σ1 τ1 H locs h1 hP hS => ?_)
  obtain ⟨f3, h1⟩ := h1
  refine lv_aload_n hx hb dX11_bestOf_8 rfl (lv_at hl 0 rfl) ?_
  refine va_get (D := D) hx hb hts inlX11 hown hK hP 0 (jc_0 cI cL ad σ1 τ1) rfl 6 (by decide) (hts _ kw_2_13) (fun _ h9 => h9) rfl dX11_bestOf_9 ?_
  refine lv_iload_n hx hb dX11_bestOf_12 rfl (lv_at hl 1 rfl) ?_
  refine lv_iconst (v := 0) hx hb dX11_bestOf_13 (by decide) ?_
  refine lv_iconst (v := 0) hx hb dX11_bestOf_14 (by decide) ?_
  have m4 : σ1 16 0 = 1 := (by rw [f3 16 (by omega)]; exact h16_0)
  have m5 : σ1 16 1 = 8 := (by rw [f3 16 (by omega)]; exact h16_1)
  have m6 : σ1 22 1 = 0 := (by rw [f3 22 (by omega)]; exact h22_1)
  have m7 : σ1 31 8 = 1 := (by rw [f3 31 (by omega)]; exact h31_8)
  have m8 : σ1 31 9 = 0 := (by rw [f3 31 (by omega)]; exact h31_9)
  have m9 : σ1 31 11 = 8 := (by rw [f3 31 (by omega)]; exact h31_11)
  have m10 : σ1 31 12 = 0 := (by rw [f3 31 (by omega)]; exact h31_12)
  have m11 : σ1 32 0 = 0 := (by rw [f3 32 (by omega)]; exact h32_0)
  have m12 : σ1 33 0 = (-1) := (by rw [f3 33 (by omega)]; exact h33_0)
  have m13 : σ1 33 1 = (-1) := (by rw [f3 33 (by omega)]; exact h33_1)
  have m14 : σ1 33 2 = (-1) := (by rw [f3 33 (by omega)]; exact h33_2)
  have m15 : σ1 33 3 = (-1) := (by rw [f3 33 (by omega)]; exact h33_3)
  refine jcallVv (As := [.int 0, .int 0, .int 0]) (rest := []) ⟨hx, hb, hml, hown, hts⟩ hK hP hA hS (c_X1_seek_31b l D cI cL ad hJ σ1 τ1 m4 m5 m6 m7 m8 m9 m10 m11 m12 m13 m14 m15) cw_RX11_193 (jc_31 cI cL ad σ1 τ1) rfl ⟨Nat.le_of_ble_eq_true rfl, Nat.le_of_ble_eq_true rfl⟩ rfl rfl rfl hl.1 rfl (Nat.le_of_ble_eq_true rfl) dX11_bestOf_15 ⟨Nat.zero_le _, Nat.zero_le _⟩ (fun σ16 τ16 H locs h16 hP hS => ?_)
  obtain ⟨f18, m19, m20, m21, m22, m23, m24, m25, m26, m27, m28, m29, h16⟩ := h16
  refine lv_aload_n hx hb dX11_bestOf_18 rfl (lv_at hl 0 rfl) ?_
  refine va_get (D := D) hx hb hts inlX11 hown hK hP 0 (jc_0 cI cL ad σ16 τ16) rfl 6 (by decide) (hts _ kw_2_13) (fun _ h9 => h9) rfl dX11_bestOf_19 ?_
  refine lv_iconst (v := 0) hx hb dX11_bestOf_22 (by decide) ?_
  refine lv_iconst (v := 0) hx hb dX11_bestOf_23 (by decide) ?_
  have m30 : σ16 16 0 = 1 := (by rw [f18 16 (by omega)]; exact m4)
  refine jcallV (As := [.int 0, .int 0]) (rest := []) ⟨hx, hb, hml, hown, hts⟩ hK hP hA hS (c_X1_valueAt_31 l D cI cL ad hJ σ16 τ16 m30 m19 m29) cw_RX11_215 (jc_31 cI cL ad σ16 τ16) rfl ⟨Nat.le_of_ble_eq_true rfl, Nat.le_of_ble_eq_true rfl⟩ rfl rfl rfl hl.1 rfl (Nat.le_of_ble_eq_true rfl) dX11_bestOf_24 ⟨Nat.zero_le _, Nat.zero_le _⟩ (fun r32 σ31 τ31 H locs h31 hP hS => ?_)
  obtain ⟨⟨rfl, rfl⟩, h31⟩ := h31
  have h33 := h31
  obtain ⟨q35, k34⟩ := h33
  have q35 := q35.symm
  subst q35
  exact hret 0 σ16 τ16 _ _ _ _ rfl ⟨(fun i hi => by rw [f18 i (by omega), f3 i (by omega)]), m19, m20, m21, m22, m23, m24, m25, m26, m27, m28, ⟨rfl, trivial⟩⟩ hP hS dX11_bestOf_27
set_option maxHeartbeats 4000000 in
set_option maxRecDepth 100000 in
theorem c_X11_fielded (l : Launch) (D : va_G) (cI cL : ClassId) (ad : Nat → Nat) (hJ : jD ad) (σ : Nat → Nat → Int32) (τ : Nat → Nat → Int64) (a1 : Int32) (A1 : Int) (t1 : a1.toInt = A1) (a2 : Int32) (A2 : Int) (t2 : a2.toInt = A2) (h2_0 : σ 2 0 = 0) (h16_0 : σ 16 0 = 1) (h16_1 : σ 16 1 = 8) (h22_1 : σ 22 1 = 0) (h31_9 : σ 31 9 = (-1)) (ha3 : ∀ k : Nat, σ 3 k = 0) (ha4 : ∀ k : Nat, σ 4 k = 0) (ha5 : ∀ k : Nat, σ 5 k = 0) (ha36 : ∀ k : Nat, σ 36 k = 0) : jM l yX11_fielded cX11_fielded 8 (some .int) ({ frames := 7, cells := 0, slots := 0, locals := 172 }) D cI cL ad [.ref (ad 0), .int a1, .int a2] σ τ (fun r σ' τ' => (∀ i : Nat, (i < 0 ∨ 54 < i) → σ' i = σ i) ∧ r = (if A2 = 1 ∨ (A2 = 0 ∧ 0 ≤ A1 ∧ A1 ≤ 3) then 0 else -1)) := by
  refine jM.of hJ (by decide +kernel) (nt := .int) rfl (Nat.le_of_ble_eq_true rfl) ?_
  intro p e s m args below meth c Q ls hC hret hl hP
  obtain ⟨hx, hb, hr, hml, hown, hts, hK, -, hlocks⟩ := hC
  have hown : s.vm.findClass RX11 = some m.cls := hown
  have hS : va_S (jA ad) s.heap s.heap [] := va_S.rf
  have hA : ∀ q, jA ad q → jA ad q := fun _ h => h
  have hl : lv_has ls 8 [(0, .ref (ad 0)), (1, .int a1), (2, .int a2)] := hl
  have g1 := jrg t1
  have g2 := jrg t2
  refine lv_iload_n hx hb dX11_fielded_0 rfl (lv_at hl 2 rfl) ?_
  refine lv_iconst (v := 0) hx hb dX11_fielded_1 (by decide) ?_
  refine lv_iconst (v := 1) hx hb dX11_fielded_2 (by decide) ?_
  refine jcallS (As := [.int a2, .int 0, .int 1]) (rest := []) ⟨hx, hb, hml, hown, hts⟩ hK hP hA hS (c_X11_outside l D cI cL ad hJ σ τ a2 (A2) t2 0 (0) jz_0 1 (1) jz_1) cw_RX11_94 ⟨Nat.le_of_ble_eq_true rfl, Nat.le_of_ble_eq_true rfl⟩ rfl rfl rfl hl.1 rfl (Nat.le_of_ble_eq_true rfl) dX11_fielded_3 ⟨Nat.zero_le _, Nat.zero_le _⟩ (fun r2 σ1 τ1 H locs h1 hP hS => ?_)
  obtain ⟨⟨rfl, rfl⟩, h1⟩ := h1
  rcases h1 with h3 | h4
  · obtain ⟨q6, k5⟩ := h3
    have q6 := q6.symm
    subst q6
    refine lv_if_ne (tgt := 22) hx hb dX11_fielded_6 (by decide) (fun _ => ?_) (fun c => absurd c (by decide))
    refine lv_iconst (v := (-1)) hx hb dX11_fielded_22 (by decide) ?_
    exact hret (-1) σ τ _ _ _ _ rfl ⟨(fun _ _ => rfl), (by (repeat' split) <;> first | rfl | omega | exact jsame jz_m1 t1 (by omega) | exact jsame jz_m1 t2 (by omega) | (exfalso; omega))⟩ hP hS dX11_fielded_23
  · obtain ⟨q8, k7⟩ := h4
    have q8 := q8.symm
    subst q8
    refine lv_if_ne (tgt := 22) hx hb dX11_fielded_6 (by decide) (fun c => absurd (by decide) c) (fun _ => ?_)
    refine lv_iload_n hx hb dX11_fielded_9 rfl (lv_at hl 2 rfl) ?_
    refine lv_if_ne (tgt := 24) hx hb dX11_fielded_10 (by decide) (fun c9 => ?_) (fun c9 => ?_)
    · have kc9 := jne c9 t2 jz_0
      refine lv_aload_n hx hb dX11_fielded_24 rfl (lv_at hl 0 rfl) ?_
      refine va_get (D := D) hx hb hts inlX11 hown hK hP 0 (jc_0 cI cL ad σ τ) rfl 2 (by decide) (hts _ kw_2_0) (fun _ h9 => h9) rfl dX11_fielded_25 ?_
      refine va_get (D := D) hx hb hts inlX6 hown hK hP 16 (jc_16 cI cL ad σ τ) rfl 1 (by decide) (hts _ kw_20_5) (fun _ h9 => h9) rfl dX11_fielded_28 ?_
      refine jtopr h16_1 ?_
      refine lv_bipush (v := 8) hx hb dX11_fielded_31 (by decide) ?_
      refine lv_icmp_le (tgt := 39) hx hb dX11_fielded_33 (by decide) (fun _ => ?_) (fun c => absurd (by decide) c)
      refine lv_aload_n hx hb dX11_fielded_39 rfl (lv_at hl 0 rfl) ?_
      refine va_get (D := D) hx hb hts inlX11 hown hK hP 0 (jc_0 cI cL ad σ τ) rfl 0 (by decide) (hts _ kw_1_16) (fun _ h9 => h9) rfl dX11_fielded_40 ?_
      refine jcallV (As := []) (rest := []) ⟨hx, hb, hml, hown, hts⟩ hK hP hA hS (c_X4_freshAttack_2 l D cI cL ad hJ σ τ h2_0) cw_RX11_204 (jc_2 cI cL ad σ τ) rfl ⟨Nat.le_of_ble_eq_true rfl, Nat.le_of_ble_eq_true rfl⟩ rfl rfl rfl hl.1 rfl (Nat.le_of_ble_eq_true rfl) dX11_fielded_43 ⟨Nat.zero_le _, Nat.zero_le _⟩ (fun r11 σ10 τ10 H locs h10 hP hS => ?_)
      obtain ⟨⟨rfl, rfl⟩, h10⟩ := h10
      have h12 := h10
      obtain ⟨q14, k13⟩ := h12
      have q14 := q14.symm
      subst q14
      refine lv_istore_n (lv' := [(3, .int 0), (0, .ref (ad 0)), (1, .int a1), (2, .int a2)]) hx hb dX11_fielded_46 rfl hl (by decide) rfl (fun ls hl => ?_)
      refine lv_iconst (v := 0) hx hb dX11_fielded_47 (by decide) ?_
      refine lv_istore (lv' := [(4, .int 0), (3, .int 0), (0, .ref (ad 0)), (1, .int a1), (2, .int a2)]) hx hb dX11_fielded_48 hl (by decide) rfl (fun ls hl => ?_)
      refine lv_aload_n hx hb dX11_fielded_50 rfl (lv_at hl 2 rfl) ?_
      refine lv_iload_n hx hb dX11_fielded_51 rfl (lv_at hl 1 rfl) ?_
      refine lv_iload_n hx hb dX11_fielded_52 rfl (lv_at hl 4 rfl) ?_
      refine lv_if_ne (tgt := 60) hx hb dX11_fielded_53 (by decide) (fun c15 => ?_) (fun c => absurd (jeq c t2 jz_0) (by omega))
      have kc15 := jne c15 t2 jz_0
      refine lv_iconst (v := 0) hx hb dX11_fielded_60 (by decide) ?_
      refine jcallV (As := [.int 0, .int 0]) (rest := []) ⟨hx, hb, hml, hown, hts⟩ hK hP hA hS (c_X11_bestOf l D cI cL ad hJ σ τ 0 (0) jz_0 h16_0 h16_1 h22_1 h31_9 ha3 ha4 ha5 ha36) cw_RX11_226 (jc_0 cI cL ad σ τ) rfl ⟨Nat.le_of_ble_eq_true rfl, Nat.le_of_ble_eq_true rfl⟩ rfl rfl rfl hl.1 rfl (Nat.le_of_ble_eq_true rfl) dX11_fielded_61 ⟨Nat.zero_le _, Nat.zero_le _⟩ (fun r17 σ16 τ16 H locs h16 hP hS => ?_)
      obtain ⟨f18, m19, m20, m21, m22, m23, m24, m25, m26, m27, m28, h16⟩ := h16
      have h29 := h16
      obtain ⟨q31, k30⟩ := h29
      have q31 := q31.symm
      subst q31
      refine lv_istore (lv' := [(5, .int 0), (4, .int 0), (3, .int 0), (0, .ref (ad 0)), (1, .int a1), (2, .int a2)]) hx hb dX11_fielded_64 hl (by decide) rfl (fun ls hl => ?_)
      refine lv_iload_n hx hb dX11_fielded_66 rfl (lv_at hl 5 rfl) ?_
      refine lv_if_ne (tgt := 73) hx hb dX11_fielded_67 (by decide) (fun c32 => ?_) (fun c => absurd (jeq c t2 jz_0) (by omega))
      have kc32 := jne c32 t2 jz_0
      refine lv_iconst (v := 1) hx hb dX11_fielded_73 (by decide) ?_
      refine lv_istore (lv' := [(6, .int 1), (5, .int 0), (4, .int 0), (3, .int 0), (0, .ref (ad 0)), (1, .int a1), (2, .int a2)]) hx hb dX11_fielded_74 hl (by decide) rfl (fun ls hl => ?_)
      refine lv_iload hx hb dX11_fielded_76 (lv_at hl 0 rfl) ?_
      refine lv_iconst (v := 4) hx hb dX11_fielded_78 (by decide) ?_
      refine lv_icmp_ge (tgt := 112) hx hb dX11_fielded_79 (by decide) (fun c => absurd c (by decide)) (fun _ => ?_)
      refine lv_aload_n hx hb dX11_fielded_82 rfl (lv_at hl 4 rfl) ?_
      refine lv_iload_n hx hb dX11_fielded_83 rfl (lv_at hl 3 rfl) ?_
      refine lv_iload hx hb dX11_fielded_84 (lv_at hl 0 rfl) ?_
      have m33 : σ16 16 0 = 1 := (by rw [f18 16 (by omega)]; exact h16_0)
      have m34 : σ16 16 1 = 8 := (by rw [f18 16 (by omega)]; exact h16_1)
      have m35 : σ16 22 1 = 0 := (by rw [f18 22 (by omega)]; exact h22_1)
      have m36 : ∀ k : Nat, σ16 3 k = 0 := (by rw [f18 3 (by omega)]; exact ha3)
      have m37 : ∀ k : Nat, σ16 4 k = 0 := (by rw [f18 4 (by omega)]; exact ha4)
      have m38 : ∀ k : Nat, σ16 5 k = 0 := (by rw [f18 5 (by omega)]; exact ha5)
      refine jcallV (As := [.int 0, .int 1]) (rest := []) ⟨hx, hb, hml, hown, hts⟩ hK hP hA hS (c_X11_bestOf_b l D cI cL ad hJ σ16 τ16 1 (1) jz_1 m33 m34 m35 m19 m20 m22 m23 m24 m25 m26 m27 m28 m36 m37 m38) cw_RX11_226 (jc_0 cI cL ad σ16 τ16) rfl ⟨Nat.le_of_ble_eq_true rfl, Nat.le_of_ble_eq_true rfl⟩ rfl rfl rfl hl.1 rfl (Nat.le_of_ble_eq_true rfl) dX11_fielded_86 ⟨Nat.zero_le _, Nat.zero_le _⟩ (fun r40 σ39 τ39 H locs h39 hP hS => ?_)
      obtain ⟨f41, m42, m43, m44, m45, m46, m47, m48, m49, m50, m51, h39⟩ := h39
      have h52 := h39
      obtain ⟨q54, k53⟩ := h52
      have q54 := q54.symm
      subst q54
      refine lv_istore (lv' := [(7, .int 0), (6, .int 1), (5, .int 0), (4, .int 0), (3, .int 0), (0, .ref (ad 0)), (1, .int a1), (2, .int a2)]) hx hb dX11_fielded_89 hl (by decide) rfl (fun ls hl => ?_)
      refine lv_iload hx hb dX11_fielded_91 (lv_at hl 0 rfl) ?_
      refine lv_iload hx hb dX11_fielded_93 (lv_at hl 2 rfl) ?_
      refine lv_icmp_ge (tgt := 106) hx hb dX11_fielded_95 (by decide) (fun _ => ?_) (fun c => absurd (by decide) c)
      refine lv_iinc (v := 2) (lv' := [(6, .int 2), (7, .int 0), (5, .int 0), (4, .int 0), (3, .int 0), (0, .ref (ad 0)), (1, .int a1), (2, .int a2)]) hx hb dX11_fielded_106 hl (k := 1) rfl (by decide) (by decide) rfl (fun ls hl => ?_)
      refine lv_goto (tgt := 76) hx hb dX11_fielded_109 (by decide) ?_
      refine lv_iload hx hb dX11_fielded_76 (lv_at hl 0 rfl) ?_
      refine lv_iconst (v := 4) hx hb dX11_fielded_78 (by decide) ?_
      refine lv_icmp_ge (tgt := 112) hx hb dX11_fielded_79 (by decide) (fun c => absurd c (by decide)) (fun _ => ?_)
      refine lv_aload_n hx hb dX11_fielded_82 rfl (lv_at hl 5 rfl) ?_
      refine lv_iload_n hx hb dX11_fielded_83 rfl (lv_at hl 4 rfl) ?_
      refine lv_iload hx hb dX11_fielded_84 (lv_at hl 0 rfl) ?_
      have m55 : σ39 16 0 = 1 := (by rw [f41 16 (by omega)]; exact m33)
      have m56 : σ39 16 1 = 8 := (by rw [f41 16 (by omega)]; exact m34)
      have m57 : σ39 22 1 = 0 := (by rw [f41 22 (by omega)]; exact m35)
      have m58 : ∀ k : Nat, σ39 3 k = 0 := (by rw [f41 3 (by omega)]; exact (by rw [f18 3 (by omega)]; exact ha3))
      have m59 : ∀ k : Nat, σ39 4 k = 0 := (by rw [f41 4 (by omega)]; exact (by rw [f18 4 (by omega)]; exact ha4))
      have m60 : ∀ k : Nat, σ39 5 k = 0 := (by rw [f41 5 (by omega)]; exact (by rw [f18 5 (by omega)]; exact ha5))
      refine jcallV (As := [.int 0, .int 2]) (rest := []) ⟨hx, hb, hml, hown, hts⟩ hK hP hA hS (c_X11_bestOf_b l D cI cL ad hJ σ39 τ39 2 (2) jz_2 m55 m56 m57 m42 m43 m45 m46 m47 m48 m49 m50 m51 m58 m59 m60) cw_RX11_226 (jc_0 cI cL ad σ39 τ39) rfl ⟨Nat.le_of_ble_eq_true rfl, Nat.le_of_ble_eq_true rfl⟩ rfl rfl rfl hl.1 rfl (Nat.le_of_ble_eq_true rfl) dX11_fielded_86 ⟨Nat.zero_le _, Nat.zero_le _⟩ (fun r62 σ61 τ61 H locs h61 hP hS => ?_)
      obtain ⟨f63, m64, m65, m66, m67, m68, m69, m70, m71, m72, m73, h61⟩ := h61
      have h74 := h61
      obtain ⟨q76, k75⟩ := h74
      have q76 := q76.symm
      subst q76
      refine lv_istore (lv' := [(7, .int 0), (6, .int 2), (5, .int 0), (4, .int 0), (3, .int 0), (0, .ref (ad 0)), (1, .int a1), (2, .int a2)]) hx hb dX11_fielded_89 hl (by decide) rfl (fun ls hl => ?_)
      refine lv_iload hx hb dX11_fielded_91 (lv_at hl 0 rfl) ?_
      refine lv_iload hx hb dX11_fielded_93 (lv_at hl 2 rfl) ?_
      refine lv_icmp_ge (tgt := 106) hx hb dX11_fielded_95 (by decide) (fun _ => ?_) (fun c => absurd (by decide) c)
      refine lv_iinc (v := 3) (lv' := [(6, .int 3), (7, .int 0), (5, .int 0), (4, .int 0), (3, .int 0), (0, .ref (ad 0)), (1, .int a1), (2, .int a2)]) hx hb dX11_fielded_106 hl (k := 1) rfl (by decide) (by decide) rfl (fun ls hl => ?_)
      refine lv_goto (tgt := 76) hx hb dX11_fielded_109 (by decide) ?_
      refine lv_iload hx hb dX11_fielded_76 (lv_at hl 0 rfl) ?_
      refine lv_iconst (v := 4) hx hb dX11_fielded_78 (by decide) ?_
      refine lv_icmp_ge (tgt := 112) hx hb dX11_fielded_79 (by decide) (fun c => absurd c (by decide)) (fun _ => ?_)
      refine lv_aload_n hx hb dX11_fielded_82 rfl (lv_at hl 5 rfl) ?_
      refine lv_iload_n hx hb dX11_fielded_83 rfl (lv_at hl 4 rfl) ?_
      refine lv_iload hx hb dX11_fielded_84 (lv_at hl 0 rfl) ?_
      have m77 : σ61 16 0 = 1 := (by rw [f63 16 (by omega)]; exact m55)
      have m78 : σ61 16 1 = 8 := (by rw [f63 16 (by omega)]; exact m56)
      have m79 : σ61 22 1 = 0 := (by rw [f63 22 (by omega)]; exact m57)
      have m80 : ∀ k : Nat, σ61 3 k = 0 := (by rw [f63 3 (by omega)]; exact (by rw [f41 3 (by omega)]; exact (by rw [f18 3 (by omega)]; exact ha3)))
      have m81 : ∀ k : Nat, σ61 4 k = 0 := (by rw [f63 4 (by omega)]; exact (by rw [f41 4 (by omega)]; exact (by rw [f18 4 (by omega)]; exact ha4)))
      have m82 : ∀ k : Nat, σ61 5 k = 0 := (by rw [f63 5 (by omega)]; exact (by rw [f41 5 (by omega)]; exact (by rw [f18 5 (by omega)]; exact ha5)))
      refine jcallV (As := [.int 0, .int 3]) (rest := []) ⟨hx, hb, hml, hown, hts⟩ hK hP hA hS (c_X11_bestOf_b l D cI cL ad hJ σ61 τ61 3 (3) jz_3 m77 m78 m79 m64 m65 m67 m68 m69 m70 m71 m72 m73 m80 m81 m82) cw_RX11_226 (jc_0 cI cL ad σ61 τ61) rfl ⟨Nat.le_of_ble_eq_true rfl, Nat.le_of_ble_eq_true rfl⟩ rfl rfl rfl hl.1 rfl (Nat.le_of_ble_eq_true rfl) dX11_fielded_86 ⟨Nat.zero_le _, Nat.zero_le _⟩ (fun r84 σ83 τ83 H locs h83 hP hS => ?_)
      obtain ⟨f85, m86, m87, m88, m89, m90, m91, m92, m93, m94, m95, h83⟩ := h83
      have h96 := h83
      obtain ⟨q98, k97⟩ := h96
      have q98 := q98.symm
      subst q98
      refine lv_istore (lv' := [(7, .int 0), (6, .int 3), (5, .int 0), (4, .int 0), (3, .int 0), (0, .ref (ad 0)), (1, .int a1), (2, .int a2)]) hx hb dX11_fielded_89 hl (by decide) rfl (fun ls hl => ?_)
      refine lv_iload hx hb dX11_fielded_91 (lv_at hl 0 rfl) ?_
      refine lv_iload hx hb dX11_fielded_93 (lv_at hl 2 rfl) ?_
      refine lv_icmp_ge (tgt := 106) hx hb dX11_fielded_95 (by decide) (fun _ => ?_) (fun c => absurd (by decide) c)
      refine lv_iinc (v := 4) (lv' := [(6, .int 4), (7, .int 0), (5, .int 0), (4, .int 0), (3, .int 0), (0, .ref (ad 0)), (1, .int a1), (2, .int a2)]) hx hb dX11_fielded_106 hl (k := 1) rfl (by decide) (by decide) rfl (fun ls hl => ?_)
      refine lv_goto (tgt := 76) hx hb dX11_fielded_109 (by decide) ?_
      refine lv_iload hx hb dX11_fielded_76 (lv_at hl 0 rfl) ?_
      refine lv_iconst (v := 4) hx hb dX11_fielded_78 (by decide) ?_
      refine lv_icmp_ge (tgt := 112) hx hb dX11_fielded_79 (by decide) (fun _ => ?_) (fun c => absurd (by decide) c)
      refine lv_iload hx hb dX11_fielded_112 (lv_at hl 3 rfl) ?_
      exact hret 0 σ83 τ83 _ _ _ _ rfl ⟨(fun i hi => by rw [f85 i (by omega), f63 i (by omega), f41 i (by omega), f18 i (by omega)]), (by (repeat' split) <;> first | rfl | omega | exact jsame jz_0 t1 (by omega) | exact jsame jz_0 t2 (by omega) | (exfalso; omega))⟩ hP hS dX11_fielded_114
    · have kc9 := jeq c9 t2 jz_0
      refine lv_iload_n hx hb dX11_fielded_13 rfl (lv_at hl 1 rfl) ?_
      refine lv_iconst (v := 0) hx hb dX11_fielded_14 (by decide) ?_
      refine lv_iconst (v := 3) hx hb dX11_fielded_15 (by decide) ?_
      refine jcallS (As := [.int a1, .int 0, .int 3]) (rest := []) ⟨hx, hb, hml, hown, hts⟩ hK hP hA hS (c_X11_outside l D cI cL ad hJ σ τ a1 (A1) t1 0 (0) jz_0 3 (3) jz_3) cw_RX11_94 ⟨Nat.le_of_ble_eq_true rfl, Nat.le_of_ble_eq_true rfl⟩ rfl rfl rfl hl.1 rfl (Nat.le_of_ble_eq_true rfl) dX11_fielded_16 ⟨Nat.zero_le _, Nat.zero_le _⟩ (fun r100 σ99 τ99 H locs h99 hP hS => ?_)
      obtain ⟨⟨rfl, rfl⟩, h99⟩ := h99
      rcases h99 with h101 | h102
      · obtain ⟨q104, k103⟩ := h101
        have q104 := q104.symm
        subst q104
        refine lv_if_eq (tgt := 24) hx hb dX11_fielded_19 (by decide) (fun c => absurd c (by decide)) (fun _ => ?_)
        refine lv_iconst (v := (-1)) hx hb dX11_fielded_22 (by decide) ?_
        exact hret (-1) σ τ _ _ _ _ rfl ⟨(fun _ _ => rfl), (by (repeat' split) <;> first | rfl | omega | exact jsame jz_m1 t1 (by omega) | exact jsame jz_m1 t2 (by omega) | (exfalso; omega))⟩ hP hS dX11_fielded_23
      · obtain ⟨q106, k105⟩ := h102
        have q106 := q106.symm
        subst q106
        refine lv_if_eq (tgt := 24) hx hb dX11_fielded_19 (by decide) (fun _ => ?_) (fun c => absurd (by decide) c)
        refine lv_aload_n hx hb dX11_fielded_24 rfl (lv_at hl 0 rfl) ?_
        refine va_get (D := D) hx hb hts inlX11 hown hK hP 0 (jc_0 cI cL ad σ τ) rfl 2 (by decide) (hts _ kw_2_0) (fun _ h9 => h9) rfl dX11_fielded_25 ?_
        refine va_get (D := D) hx hb hts inlX6 hown hK hP 16 (jc_16 cI cL ad σ τ) rfl 1 (by decide) (hts _ kw_20_5) (fun _ h9 => h9) rfl dX11_fielded_28 ?_
        refine jtopr h16_1 ?_
        refine lv_bipush (v := 8) hx hb dX11_fielded_31 (by decide) ?_
        refine lv_icmp_le (tgt := 39) hx hb dX11_fielded_33 (by decide) (fun _ => ?_) (fun c => absurd (by decide) c)
        refine lv_aload_n hx hb dX11_fielded_39 rfl (lv_at hl 0 rfl) ?_
        refine va_get (D := D) hx hb hts inlX11 hown hK hP 0 (jc_0 cI cL ad σ τ) rfl 0 (by decide) (hts _ kw_1_16) (fun _ h9 => h9) rfl dX11_fielded_40 ?_
        refine jcallV (As := []) (rest := []) ⟨hx, hb, hml, hown, hts⟩ hK hP hA hS (c_X4_freshAttack_2 l D cI cL ad hJ σ τ h2_0) cw_RX11_204 (jc_2 cI cL ad σ τ) rfl ⟨Nat.le_of_ble_eq_true rfl, Nat.le_of_ble_eq_true rfl⟩ rfl rfl rfl hl.1 rfl (Nat.le_of_ble_eq_true rfl) dX11_fielded_43 ⟨Nat.zero_le _, Nat.zero_le _⟩ (fun r108 σ107 τ107 H locs h107 hP hS => ?_)
        obtain ⟨⟨rfl, rfl⟩, h107⟩ := h107
        have h109 := h107
        obtain ⟨q111, k110⟩ := h109
        have q111 := q111.symm
        subst q111
        refine lv_istore_n (lv' := [(3, .int 0), (0, .ref (ad 0)), (1, .int a1), (2, .int a2)]) hx hb dX11_fielded_46 rfl hl (by decide) rfl (fun ls hl => ?_)
        refine lv_iconst (v := 0) hx hb dX11_fielded_47 (by decide) ?_
        refine lv_istore (lv' := [(4, .int 0), (3, .int 0), (0, .ref (ad 0)), (1, .int a1), (2, .int a2)]) hx hb dX11_fielded_48 hl (by decide) rfl (fun ls hl => ?_)
        refine lv_aload_n hx hb dX11_fielded_50 rfl (lv_at hl 2 rfl) ?_
        refine lv_iload_n hx hb dX11_fielded_51 rfl (lv_at hl 1 rfl) ?_
        refine lv_iload_n hx hb dX11_fielded_52 rfl (lv_at hl 4 rfl) ?_
        refine lv_if_ne (tgt := 60) hx hb dX11_fielded_53 (by decide) (fun c => absurd (jne c t2 jz_0) (by omega)) (fun c112 => ?_)
        have kc112 := jeq c112 t2 jz_0
        refine lv_iload_n hx hb dX11_fielded_56 rfl (lv_at hl 3 rfl) ?_
        refine lv_goto (tgt := 61) hx hb dX11_fielded_57 (by decide) ?_
        refine jcallV (As := [.int 0, .int a1]) (rest := []) ⟨hx, hb, hml, hown, hts⟩ hK hP hA hS (c_X11_bestOf l D cI cL ad hJ σ τ a1 (A1) t1 h16_0 h16_1 h22_1 h31_9 ha3 ha4 ha5 ha36) cw_RX11_226 (jc_0 cI cL ad σ τ) rfl ⟨Nat.le_of_ble_eq_true rfl, Nat.le_of_ble_eq_true rfl⟩ rfl rfl rfl hl.1 rfl (Nat.le_of_ble_eq_true rfl) dX11_fielded_61 ⟨Nat.zero_le _, Nat.zero_le _⟩ (fun r114 σ113 τ113 H locs h113 hP hS => ?_)
        obtain ⟨f115, m116, m117, m118, m119, m120, m121, m122, m123, m124, m125, h113⟩ := h113
        have h126 := h113
        obtain ⟨q128, k127⟩ := h126
        have q128 := q128.symm
        subst q128
        refine lv_istore (lv' := [(5, .int 0), (4, .int 0), (3, .int 0), (0, .ref (ad 0)), (1, .int a1), (2, .int a2)]) hx hb dX11_fielded_64 hl (by decide) rfl (fun ls hl => ?_)
        refine lv_iload_n hx hb dX11_fielded_66 rfl (lv_at hl 5 rfl) ?_
        refine lv_if_ne (tgt := 73) hx hb dX11_fielded_67 (by decide) (fun c => absurd (jne c t2 jz_0) (by omega)) (fun c129 => ?_)
        have kc129 := jeq c129 t2 jz_0
        refine lv_iload hx hb dX11_fielded_70 (lv_at hl 0 rfl) ?_
        exact hret 0 σ113 τ113 _ _ _ _ rfl ⟨(fun i hi => by rw [f115 i (by omega)]), (by (repeat' split) <;> first | rfl | omega | exact jsame jz_0 t1 (by omega) | exact jsame jz_0 t2 (by omega) | (exfalso; omega))⟩ hP hS dX11_fielded_72
set_option maxHeartbeats 4000000 in
set_option maxRecDepth 100000 in
theorem c_X6_sortDown_16 (l : Launch) (D : va_G) (cI cL : ClassId) (ad : Nat → Nat) (hJ : jD ad) (σ : Nat → Nat → Int32) (τ : Nat → Nat → Int64) (h16_0 : σ 16 0 = 1) (ha17 : ∀ k : Nat, σ 17 k = 0) : jMv l yX6_sortDown cX6_sortDown 5 none ({ frames := 0, cells := 0, slots := 0, locals := 0 }) D cI cL ad [.ref (ad 16), .ref (ad 1)] σ τ (fun σ' τ' => (∀ i : Nat, (i < 1 ∨ 1 < i) → σ' i = σ i) ∧ σ' 1 0 = 0 ∧ True) := by
  refine jMv.of hJ (by decide +kernel) rfl (Nat.le_of_ble_eq_true rfl) ?_
  intro p e s m args below meth c Q ls hC hret hl hP
  obtain ⟨hx, hb, hr, hml, hown, hts, hK, -, hlocks⟩ := hC
  have hown : s.vm.findClass RX6 = some m.cls := hown
  have hS : va_S (jA ad) s.heap s.heap [] := va_S.rf
  have hA : ∀ q, jA ad q → jA ad q := fun _ h => h
  have hl : lv_has ls 5 [(0, .ref (ad 16)), (1, .ref (ad 1))] := hl
  refine lv_iconst (v := 0) hx hb dX6_sortDown_0 (by decide) ?_
  refine lv_istore_n (lv' := [(2, .int 0), (0, .ref (ad 16)), (1, .ref (ad 1))]) hx hb dX6_sortDown_1 rfl hl (by decide) rfl (fun ls hl => ?_)
  refine lv_iconst (v := 3) hx hb dX6_sortDown_2 (by decide) ?_
  refine lv_istore_n (lv' := [(3, .int 3), (2, .int 0), (0, .ref (ad 16)), (1, .ref (ad 1))]) hx hb dX6_sortDown_3 rfl hl (by decide) rfl (fun ls hl => ?_)
  refine lv_iload_n hx hb dX6_sortDown_4 rfl (lv_at hl 0 rfl) ?_
  refine lv_if_lt (tgt := 56) hx hb dX6_sortDown_5 (by decide) (fun c => absurd c (by decide)) (fun _ => ?_)
  refine lv_iconst (v := 0) hx hb dX6_sortDown_8 (by decide) ?_
  refine lv_istore (lv' := [(4, .int 0), (3, .int 3), (2, .int 0), (0, .ref (ad 16)), (1, .ref (ad 1))]) hx hb dX6_sortDown_9 hl (by decide) rfl (fun ls hl => ?_)
  refine lv_iload hx hb dX6_sortDown_11 (lv_at hl 0 rfl) ?_
  refine lv_aload_n hx hb dX6_sortDown_13 rfl (lv_at hl 3 rfl) ?_
  refine va_get (D := D) hx hb hts inlX6 hown hK hP 16 (jc_16 cI cL ad σ τ) rfl 0 (by decide) (hts _ kw_4_9) (fun _ h9 => h9) rfl dX6_sortDown_14 ?_
  refine jtopr h16_0 ?_
  refine lv_icmp_ge (tgt := 50) hx hb dX6_sortDown_17 (by decide) (fun c => absurd c (by decide)) (fun _ => ?_)
  refine lv_aload_n hx hb dX6_sortDown_20 rfl (lv_at hl 3 rfl) ?_
  refine va_get (D := D) hx hb hts inlX6 hown hK hP 16 (jc_16 cI cL ad σ τ) rfl 3 (by decide) (hts _ kw_4_11) (fun _ h9 => h9) rfl dX6_sortDown_21 ?_
  refine lv_iload hx hb dX6_sortDown_24 (lv_at hl 0 rfl) ?_
  refine jald hx hb hK hP (jc_17 cI cL ad σ τ) (jin jz_0 (by omega) (by omega)) dX6_sortDown_26 ?_
  refine jtopr (y := σ 17 0) rfl ?_
  have m1 : σ 17 0 = 0 := (ha17 0)
  refine jtopr m1 ?_
  refine lv_iload_n hx hb dX6_sortDown_27 rfl (lv_at hl 1 rfl) ?_
  refine lv_icmp_ne (tgt := 44) hx hb dX6_sortDown_28 (by decide) (fun _ => ?_) (fun c => absurd c (by decide))
  refine lv_iinc (v := 1) (lv' := [(4, .int 1), (3, .int 3), (2, .int 0), (0, .ref (ad 16)), (1, .ref (ad 1))]) hx hb dX6_sortDown_44 hl (k := 0) rfl (by decide) (by decide) rfl (fun ls hl => ?_)
  refine lv_goto (tgt := 11) hx hb dX6_sortDown_47 (by decide) ?_
  refine lv_iload hx hb dX6_sortDown_11 (lv_at hl 0 rfl) ?_
  refine lv_aload_n hx hb dX6_sortDown_13 rfl (lv_at hl 3 rfl) ?_
  refine va_get (D := D) hx hb hts inlX6 hown hK hP 16 (jc_16 cI cL ad σ τ) rfl 0 (by decide) (hts _ kw_4_9) (fun _ h9 => h9) rfl dX6_sortDown_14 ?_
  refine jtopr h16_0 ?_
  refine lv_icmp_ge (tgt := 50) hx hb dX6_sortDown_17 (by decide) (fun _ => ?_) (fun c => absurd (by decide) c)
  refine lv_iinc (v := 2) (lv' := [(3, .int 2), (4, .int 1), (2, .int 0), (0, .ref (ad 16)), (1, .ref (ad 1))]) hx hb dX6_sortDown_50 hl (k := 1) rfl (by decide) (by decide) rfl (fun ls hl => ?_)
  refine lv_goto (tgt := 4) hx hb dX6_sortDown_53 (by decide) ?_
  refine lv_iload_n hx hb dX6_sortDown_4 rfl (lv_at hl 0 rfl) ?_
  refine lv_if_lt (tgt := 56) hx hb dX6_sortDown_5 (by decide) (fun c => absurd c (by decide)) (fun _ => ?_)
  refine lv_iconst (v := 0) hx hb dX6_sortDown_8 (by decide) ?_
  refine lv_istore (lv' := [(4, .int 0), (3, .int 2), (2, .int 0), (0, .ref (ad 16)), (1, .ref (ad 1))]) hx hb dX6_sortDown_9 hl (by decide) rfl (fun ls hl => ?_)
  refine lv_iload hx hb dX6_sortDown_11 (lv_at hl 0 rfl) ?_
  refine lv_aload_n hx hb dX6_sortDown_13 rfl (lv_at hl 3 rfl) ?_
  refine va_get (D := D) hx hb hts inlX6 hown hK hP 16 (jc_16 cI cL ad σ τ) rfl 0 (by decide) (hts _ kw_4_9) (fun _ h9 => h9) rfl dX6_sortDown_14 ?_
  refine jtopr h16_0 ?_
  refine lv_icmp_ge (tgt := 50) hx hb dX6_sortDown_17 (by decide) (fun c => absurd c (by decide)) (fun _ => ?_)
  refine lv_aload_n hx hb dX6_sortDown_20 rfl (lv_at hl 3 rfl) ?_
  refine va_get (D := D) hx hb hts inlX6 hown hK hP 16 (jc_16 cI cL ad σ τ) rfl 3 (by decide) (hts _ kw_4_11) (fun _ h9 => h9) rfl dX6_sortDown_21 ?_
  refine lv_iload hx hb dX6_sortDown_24 (lv_at hl 0 rfl) ?_
  refine jald hx hb hK hP (jc_17 cI cL ad σ τ) (jin jz_0 (by omega) (by omega)) dX6_sortDown_26 ?_
  refine jtopr (y := σ 17 0) rfl ?_
  refine jtopr m1 ?_
  refine lv_iload_n hx hb dX6_sortDown_27 rfl (lv_at hl 1 rfl) ?_
  refine lv_icmp_ne (tgt := 44) hx hb dX6_sortDown_28 (by decide) (fun _ => ?_) (fun c => absurd c (by decide))
  refine lv_iinc (v := 1) (lv' := [(4, .int 1), (3, .int 2), (2, .int 0), (0, .ref (ad 16)), (1, .ref (ad 1))]) hx hb dX6_sortDown_44 hl (k := 0) rfl (by decide) (by decide) rfl (fun ls hl => ?_)
  refine lv_goto (tgt := 11) hx hb dX6_sortDown_47 (by decide) ?_
  refine lv_iload hx hb dX6_sortDown_11 (lv_at hl 0 rfl) ?_
  refine lv_aload_n hx hb dX6_sortDown_13 rfl (lv_at hl 3 rfl) ?_
  refine va_get (D := D) hx hb hts inlX6 hown hK hP 16 (jc_16 cI cL ad σ τ) rfl 0 (by decide) (hts _ kw_4_9) (fun _ h9 => h9) rfl dX6_sortDown_14 ?_
  refine jtopr h16_0 ?_
  refine lv_icmp_ge (tgt := 50) hx hb dX6_sortDown_17 (by decide) (fun _ => ?_) (fun c => absurd (by decide) c)
  refine lv_iinc (v := 1) (lv' := [(3, .int 1), (4, .int 1), (2, .int 0), (0, .ref (ad 16)), (1, .ref (ad 1))]) hx hb dX6_sortDown_50 hl (k := 1) rfl (by decide) (by decide) rfl (fun ls hl => ?_)
  refine lv_goto (tgt := 4) hx hb dX6_sortDown_53 (by decide) ?_
  refine lv_iload_n hx hb dX6_sortDown_4 rfl (lv_at hl 0 rfl) ?_
  refine lv_if_lt (tgt := 56) hx hb dX6_sortDown_5 (by decide) (fun c => absurd c (by decide)) (fun _ => ?_)
  refine lv_iconst (v := 0) hx hb dX6_sortDown_8 (by decide) ?_
  refine lv_istore (lv' := [(4, .int 0), (3, .int 1), (2, .int 0), (0, .ref (ad 16)), (1, .ref (ad 1))]) hx hb dX6_sortDown_9 hl (by decide) rfl (fun ls hl => ?_)
  refine lv_iload hx hb dX6_sortDown_11 (lv_at hl 0 rfl) ?_
  refine lv_aload_n hx hb dX6_sortDown_13 rfl (lv_at hl 3 rfl) ?_
  refine va_get (D := D) hx hb hts inlX6 hown hK hP 16 (jc_16 cI cL ad σ τ) rfl 0 (by decide) (hts _ kw_4_9) (fun _ h9 => h9) rfl dX6_sortDown_14 ?_
  refine jtopr h16_0 ?_
  refine lv_icmp_ge (tgt := 50) hx hb dX6_sortDown_17 (by decide) (fun c => absurd c (by decide)) (fun _ => ?_)
  refine lv_aload_n hx hb dX6_sortDown_20 rfl (lv_at hl 3 rfl) ?_
  refine va_get (D := D) hx hb hts inlX6 hown hK hP 16 (jc_16 cI cL ad σ τ) rfl 3 (by decide) (hts _ kw_4_11) (fun _ h9 => h9) rfl dX6_sortDown_21 ?_
  refine lv_iload hx hb dX6_sortDown_24 (lv_at hl 0 rfl) ?_
  refine jald hx hb hK hP (jc_17 cI cL ad σ τ) (jin jz_0 (by omega) (by omega)) dX6_sortDown_26 ?_
  refine jtopr (y := σ 17 0) rfl ?_
  refine jtopr m1 ?_
  refine lv_iload_n hx hb dX6_sortDown_27 rfl (lv_at hl 1 rfl) ?_
  refine lv_icmp_ne (tgt := 44) hx hb dX6_sortDown_28 (by decide) (fun _ => ?_) (fun c => absurd c (by decide))
  refine lv_iinc (v := 1) (lv' := [(4, .int 1), (3, .int 1), (2, .int 0), (0, .ref (ad 16)), (1, .ref (ad 1))]) hx hb dX6_sortDown_44 hl (k := 0) rfl (by decide) (by decide) rfl (fun ls hl => ?_)
  refine lv_goto (tgt := 11) hx hb dX6_sortDown_47 (by decide) ?_
  refine lv_iload hx hb dX6_sortDown_11 (lv_at hl 0 rfl) ?_
  refine lv_aload_n hx hb dX6_sortDown_13 rfl (lv_at hl 3 rfl) ?_
  refine va_get (D := D) hx hb hts inlX6 hown hK hP 16 (jc_16 cI cL ad σ τ) rfl 0 (by decide) (hts _ kw_4_9) (fun _ h9 => h9) rfl dX6_sortDown_14 ?_
  refine jtopr h16_0 ?_
  refine lv_icmp_ge (tgt := 50) hx hb dX6_sortDown_17 (by decide) (fun _ => ?_) (fun c => absurd (by decide) c)
  refine lv_iinc (v := 0) (lv' := [(3, .int 0), (4, .int 1), (2, .int 0), (0, .ref (ad 16)), (1, .ref (ad 1))]) hx hb dX6_sortDown_50 hl (k := 1) rfl (by decide) (by decide) rfl (fun ls hl => ?_)
  refine lv_goto (tgt := 4) hx hb dX6_sortDown_53 (by decide) ?_
  refine lv_iload_n hx hb dX6_sortDown_4 rfl (lv_at hl 0 rfl) ?_
  refine lv_if_lt (tgt := 56) hx hb dX6_sortDown_5 (by decide) (fun c => absurd c (by decide)) (fun _ => ?_)
  refine lv_iconst (v := 0) hx hb dX6_sortDown_8 (by decide) ?_
  refine lv_istore (lv' := [(4, .int 0), (3, .int 0), (2, .int 0), (0, .ref (ad 16)), (1, .ref (ad 1))]) hx hb dX6_sortDown_9 hl (by decide) rfl (fun ls hl => ?_)
  refine lv_iload hx hb dX6_sortDown_11 (lv_at hl 0 rfl) ?_
  refine lv_aload_n hx hb dX6_sortDown_13 rfl (lv_at hl 3 rfl) ?_
  refine va_get (D := D) hx hb hts inlX6 hown hK hP 16 (jc_16 cI cL ad σ τ) rfl 0 (by decide) (hts _ kw_4_9) (fun _ h9 => h9) rfl dX6_sortDown_14 ?_
  refine jtopr h16_0 ?_
  refine lv_icmp_ge (tgt := 50) hx hb dX6_sortDown_17 (by decide) (fun c => absurd c (by decide)) (fun _ => ?_)
  refine lv_aload_n hx hb dX6_sortDown_20 rfl (lv_at hl 3 rfl) ?_
  refine va_get (D := D) hx hb hts inlX6 hown hK hP 16 (jc_16 cI cL ad σ τ) rfl 3 (by decide) (hts _ kw_4_11) (fun _ h9 => h9) rfl dX6_sortDown_21 ?_
  refine lv_iload hx hb dX6_sortDown_24 (lv_at hl 0 rfl) ?_
  refine jald hx hb hK hP (jc_17 cI cL ad σ τ) (jin jz_0 (by omega) (by omega)) dX6_sortDown_26 ?_
  refine jtopr (y := σ 17 0) rfl ?_
  refine jtopr m1 ?_
  refine lv_iload_n hx hb dX6_sortDown_27 rfl (lv_at hl 1 rfl) ?_
  refine lv_icmp_ne (tgt := 44) hx hb dX6_sortDown_28 (by decide) (fun c => absurd (by decide) c) (fun _ => ?_)
  refine lv_iload_n hx hb dX6_sortDown_31 rfl (lv_at hl 2 rfl) ?_
  refine lv_aload_n hx hb dX6_sortDown_32 rfl (lv_at hl 4 rfl) ?_
  refine jalen (v := 8) hx hb hK hP (jc_1 cI cL ad σ τ) (by decide) dX6_sortDown_33 ?_
  refine lv_icmp_ge (tgt := 44) hx hb dX6_sortDown_34 (by decide) (fun c => absurd c (by decide)) (fun _ => ?_)
  refine lv_aload_n hx hb dX6_sortDown_37 rfl (lv_at hl 4 rfl) ?_
  refine lv_iload_n hx hb dX6_sortDown_38 rfl (lv_at hl 2 rfl) ?_
  refine lv_iinc (v := 1) (lv' := [(2, .int 1), (4, .int 0), (3, .int 0), (0, .ref (ad 16)), (1, .ref (ad 1))]) hx hb dX6_sortDown_39 hl (k := 2) rfl (by decide) (by decide) rfl (fun ls hl => ?_)
  refine lv_iload_n hx hb dX6_sortDown_42 rfl (lv_at hl 2 rfl) ?_
  refine jast hx hb hK hP hJ hA hS (jc_1 cI cL ad σ τ) (ja_1 cI cL ad σ τ _ _) (jin jz_0 (by omega) (by omega)) dX6_sortDown_43 (fun σ2 H locs eσ2 hP hS => ?_)
  have eσ2 : σ2 = jup σ 1 0 0 := eσ2
  refine lv_iinc (v := 1) (lv' := [(4, .int 1), (2, .int 1), (3, .int 0), (0, .ref (ad 16)), (1, .ref (ad 1))]) hx hb dX6_sortDown_44 hl (k := 1) rfl (by decide) (by decide) rfl (fun ls hl => ?_)
  refine lv_goto (tgt := 11) hx hb dX6_sortDown_47 (by decide) ?_
  refine lv_iload hx hb dX6_sortDown_11 (lv_at hl 0 rfl) ?_
  refine lv_aload_n hx hb dX6_sortDown_13 rfl (lv_at hl 3 rfl) ?_
  refine va_get (D := D) hx hb hts inlX6 hown hK hP 16 (jc_16 cI cL ad σ2 τ) rfl 0 (by decide) (hts _ kw_4_9) (fun _ h9 => h9) rfl dX6_sortDown_14 ?_
  have m3 : σ2 16 0 = 1 := (by rw [eσ2, jup_n (by decide)]; exact h16_0)
  refine jtopr m3 ?_
  refine lv_icmp_ge (tgt := 50) hx hb dX6_sortDown_17 (by decide) (fun _ => ?_) (fun c => absurd (by decide) c)
  refine lv_iinc (v := (-1)) (lv' := [(3, .int (-1)), (4, .int 1), (2, .int 1), (0, .ref (ad 16)), (1, .ref (ad 1))]) hx hb dX6_sortDown_50 hl (k := 2) rfl (by decide) (by decide) rfl (fun ls hl => ?_)
  refine lv_goto (tgt := 4) hx hb dX6_sortDown_53 (by decide) ?_
  refine lv_iload_n hx hb dX6_sortDown_4 rfl (lv_at hl 0 rfl) ?_
  refine lv_if_lt (tgt := 56) hx hb dX6_sortDown_5 (by decide) (fun _ => ?_) (fun c => absurd (by decide) c)
  have m4 : σ2 1 0 = 0 := (by rw [eσ2]; exact jup_s)
  exact hret σ2 τ _ _ _ _ ⟨(fun i hi => by rw [eσ2, jup_n (by omega)]), m4, trivial⟩ hP hS dX6_sortDown_56
set_option maxHeartbeats 4000000 in
set_option maxRecDepth 100000 in
theorem c_X6_digits (l : Launch) (D : va_G) (cI cL : ClassId) (ad : Nat → Nat) (hJ : jD ad) (σ : Nat → Nat → Int32) (τ : Nat → Nat → Int64) (h1_0 : σ 1 0 = 0) : jM l yX6_digits cX6_digits 4 (some .int) ({ frames := 0, cells := 0, slots := 0, locals := 0 }) D cI cL ad [.ref (ad 1), .int 1] σ τ (fun r σ' τ' => (σ = σ' ∧ τ = τ') ∧ ((r = 0 ∧ True))) := by
  refine jM.of hJ (by decide +kernel) (nt := .int) rfl (Nat.le_of_ble_eq_true rfl) ?_
  intro p e s m args below meth c Q ls hC hret hl hP
  obtain ⟨hx, hb, hr, hml, hown, hts, hK, -, hlocks⟩ := hC
  have hown : s.vm.findClass RX6 = some m.cls := hown
  have hS : va_S (jA ad) s.heap s.heap [] := va_S.rf
  have hA : ∀ q, jA ad q → jA ad q := fun _ h => h
  have hl : lv_has ls 4 [(0, .ref (ad 1)), (1, .int 1)] := hl
  refine lv_iconst (v := 0) hx hb dX6_digits_0 (by decide) ?_
  refine lv_istore_n (lv' := [(2, .int 0), (0, .ref (ad 1)), (1, .int 1)]) hx hb dX6_digits_1 rfl hl (by decide) rfl (fun ls hl => ?_)
  refine lv_iconst (v := 0) hx hb dX6_digits_2 (by decide) ?_
  refine lv_istore_n (lv' := [(3, .int 0), (2, .int 0), (0, .ref (ad 1)), (1, .int 1)]) hx hb dX6_digits_3 rfl hl (by decide) rfl (fun ls hl => ?_)
  refine lv_iload_n hx hb dX6_digits_4 rfl (lv_at hl 0 rfl) ?_
  refine lv_iload_n hx hb dX6_digits_5 rfl (lv_at hl 3 rfl) ?_
  refine lv_icmp_ge (tgt := 30) hx hb dX6_digits_6 (by decide) (fun c => absurd c (by decide)) (fun _ => ?_)
  refine lv_iload_n hx hb dX6_digits_9 rfl (lv_at hl 0 rfl) ?_
  refine lv_aload_n hx hb dX6_digits_10 rfl (lv_at hl 2 rfl) ?_
  refine jalen (v := 8) hx hb hK hP (jc_1 cI cL ad σ τ) (by decide) dX6_digits_11 ?_
  refine lv_icmp_ge (tgt := 30) hx hb dX6_digits_12 (by decide) (fun c => absurd c (by decide)) (fun _ => ?_)
  refine lv_iload_n hx hb dX6_digits_15 rfl (lv_at hl 1 rfl) ?_
  refine lv_bipush (v := 10) hx hb dX6_digits_16 (by decide) ?_
  refine lv_imul hx hb dX6_digits_18 ?_
  refine jtopr (y := 0) (by decide) ?_
  refine lv_aload_n hx hb dX6_digits_19 rfl (lv_at hl 2 rfl) ?_
  refine lv_iload_n hx hb dX6_digits_20 rfl (lv_at hl 0 rfl) ?_
  refine jald hx hb hK hP (jc_1 cI cL ad σ τ) (jin jz_0 (by omega) (by omega)) dX6_digits_21 ?_
  refine jtopr (y := σ 1 0) rfl ?_
  refine jtopr h1_0 ?_
  refine lv_iadd hx hb dX6_digits_22 ?_
  refine jtopr (y := 0) (by decide) ?_
  refine lv_istore_n (lv' := [(2, .int 0), (3, .int 0), (0, .ref (ad 1)), (1, .int 1)]) hx hb dX6_digits_23 rfl hl (by decide) rfl (fun ls hl => ?_)
  refine lv_iinc (v := 1) (lv' := [(3, .int 1), (2, .int 0), (0, .ref (ad 1)), (1, .int 1)]) hx hb dX6_digits_24 hl (k := 1) rfl (by decide) (by decide) rfl (fun ls hl => ?_)
  refine lv_goto (tgt := 4) hx hb dX6_digits_27 (by decide) ?_
  refine lv_iload_n hx hb dX6_digits_4 rfl (lv_at hl 0 rfl) ?_
  refine lv_iload_n hx hb dX6_digits_5 rfl (lv_at hl 3 rfl) ?_
  refine lv_icmp_ge (tgt := 30) hx hb dX6_digits_6 (by decide) (fun _ => ?_) (fun c => absurd (by decide) c)
  refine lv_iload_n hx hb dX6_digits_30 rfl (lv_at hl 1 rfl) ?_
  exact hret 0 σ τ _ _ _ _ rfl ⟨⟨rfl, rfl⟩, ⟨rfl, trivial⟩⟩ hP hS dX6_digits_31
set_option maxHeartbeats 4000000 in
set_option maxRecDepth 100000 in
theorem c_X6_turnOn (l : Launch) (D : va_G) (cI cL : ClassId) (ad : Nat → Nat) (hJ : jD ad) (σ : Nat → Nat → Int32) (τ : Nat → Nat → Int64) : jM l yX6_turnOn cX6_turnOn 7 (some .int) ({ frames := 1, cells := 0, slots := 0, locals := 21 }) D cI cL ad [.ref (ad 1), .int 1] σ τ (fun r σ' τ' => (σ = σ' ∧ τ = τ') ∧ ((r = (-1) ∧ True))) := by
  refine jM.of hJ (by decide +kernel) (nt := .int) rfl (Nat.le_of_ble_eq_true rfl) ?_
  intro p e s m args below meth c Q ls hC hret hl hP
  obtain ⟨hx, hb, hr, hml, hown, hts, hK, -, hlocks⟩ := hC
  have hown : s.vm.findClass RX6 = some m.cls := hown
  have hS : va_S (jA ad) s.heap s.heap [] := va_S.rf
  have hA : ∀ q, jA ad q → jA ad q := fun _ h => h
  have hl : lv_has ls 7 [(0, .ref (ad 1)), (1, .int 1)] := hl
  refine lv_iload_n hx hb dX6_turnOn_0 rfl (lv_at hl 1 rfl) ?_
  refine lv_aload_n hx hb dX6_turnOn_1 rfl (lv_at hl 0 rfl) ?_
  refine jalen (v := 8) hx hb hK hP (jc_1 cI cL ad σ τ) (by decide) dX6_turnOn_2 ?_
  refine va_mmin hx hb (hml.trans hl.1.symm) hown (hts _ kw_40_9) (hts _ kw_22_11) (hts _ kw_21_1) (hts _ kw_22_12) (Nat.le_of_ble_eq_true rfl) (Nat.le_of_ble_eq_true rfl) (Nat.le_of_ble_eq_true rfl) (Nat.le_of_ble_eq_true rfl) dX6_turnOn_3 ?_
  refine jtopr (y := 1) (by decide) ?_
  refine lv_istore_n (lv' := [(2, .int 1), (0, .ref (ad 1)), (1, .int 1)]) hx hb dX6_turnOn_6 rfl hl (by decide) rfl (fun ls hl => ?_)
  refine lv_iconst (v := 1) hx hb dX6_turnOn_7 (by decide) ?_
  refine lv_istore_n (lv' := [(3, .int 1), (2, .int 1), (0, .ref (ad 1)), (1, .int 1)]) hx hb dX6_turnOn_8 rfl hl (by decide) rfl (fun ls hl => ?_)
  refine lv_iload_n hx hb dX6_turnOn_9 rfl (lv_at hl 0 rfl) ?_
  refine lv_iload_n hx hb dX6_turnOn_10 rfl (lv_at hl 1 rfl) ?_
  refine lv_icmp_ge (tgt := 31) hx hb dX6_turnOn_11 (by decide) (fun _ => ?_) (fun c => absurd (by decide) c)
  refine lv_iload_n hx hb dX6_turnOn_31 rfl (lv_at hl 0 rfl) ?_
  refine lv_iload_n hx hb dX6_turnOn_32 rfl (lv_at hl 1 rfl) ?_
  refine lv_icmp_lt (tgt := 38) hx hb dX6_turnOn_33 (by decide) (fun c => absurd c (by decide)) (fun _ => ?_)
  refine lv_iconst (v := (-1)) hx hb dX6_turnOn_36 (by decide) ?_
  exact hret (-1) σ τ _ _ _ _ rfl ⟨⟨rfl, rfl⟩, ⟨rfl, trivial⟩⟩ hP hS dX6_turnOn_37
set_option maxHeartbeats 4000000 in
set_option maxRecDepth 100000 in
theorem c_X11_turnOrder (l : Launch) (D : va_G) (cI cL : ClassId) (ad : Nat → Nat) (hJ : jD ad) (σ : Nat → Nat → Int32) (τ : Nat → Nat → Int64) (a1 : Int32) (A1 : Int) (t1 : a1.toInt = A1) (h2_0 : σ 2 0 = 0) (h2_1 : σ 2 1 = 0) (h16_0 : σ 16 0 = 1) (h16_1 : σ 16 1 = 8) (h22_1 : σ 22 1 = 0) (h31_9 : σ 31 9 = (-1)) (ha3 : ∀ k : Nat, σ 3 k = 0) (ha4 : ∀ k : Nat, σ 4 k = 0) (ha5 : ∀ k : Nat, σ 5 k = 0) (ha17 : ∀ k : Nat, σ 17 k = 0) (ha36 : ∀ k : Nat, σ 36 k = 0) : jM l yX11_turnOrder cX11_turnOrder 9 (some .int) ({ frames := 5, cells := 0, slots := 0, locals := 127 }) D cI cL ad [.ref (ad 0), .int a1] σ τ (fun r σ' τ' => (∀ i : Nat, (i < 0 ∨ 54 < i) → σ' i = σ i) ∧ ((r = 0 ∧ True))) := by
  refine jM.of hJ (by decide +kernel) (nt := .int) rfl (Nat.le_of_ble_eq_true rfl) ?_
  intro p e s m args below meth c Q ls hC hret hl hP
  obtain ⟨hx, hb, hr, hml, hown, hts, hK, -, hlocks⟩ := hC
  have hown : s.vm.findClass RX11 = some m.cls := hown
  have hS : va_S (jA ad) s.heap s.heap [] := va_S.rf
  have hA : ∀ q, jA ad q → jA ad q := fun _ h => h
  have hl : lv_has ls 9 [(0, .ref (ad 0)), (1, .int a1)] := hl
  have g1 := jrg t1
  refine lv_aload_n hx hb dX11_turnOrder_0 rfl (lv_at hl 0 rfl) ?_
  refine va_get (D := D) hx hb hts inlX11 hown hK hP 0 (jc_0 cI cL ad σ τ) rfl 0 (by decide) (hts _ kw_1_16) (fun _ h9 => h9) rfl dX11_turnOrder_1 ?_
  refine jcallV (As := []) (rest := []) ⟨hx, hb, hml, hown, hts⟩ hK hP hA hS (c_X4_freshAttack_2 l D cI cL ad hJ σ τ h2_0) cw_RX11_204 (jc_2 cI cL ad σ τ) rfl ⟨Nat.le_of_ble_eq_true rfl, Nat.le_of_ble_eq_true rfl⟩ rfl rfl rfl hl.1 rfl (Nat.le_of_ble_eq_true rfl) dX11_turnOrder_4 ⟨Nat.zero_le _, Nat.zero_le _⟩ (fun r2 σ1 τ1 H locs h1 hP hS => ?_)
  obtain ⟨⟨rfl, rfl⟩, h1⟩ := h1
  have h3 := h1
  obtain ⟨q5, k4⟩ := h3
  have q5 := q5.symm
  subst q5
  refine lv_istore_n (lv' := [(2, .int 0), (0, .ref (ad 0)), (1, .int a1)]) hx hb dX11_turnOrder_7 rfl hl (by decide) rfl (fun ls hl => ?_)
  refine lv_iconst (v := 0) hx hb dX11_turnOrder_8 (by decide) ?_
  refine lv_istore_n (lv' := [(3, .int 0), (2, .int 0), (0, .ref (ad 0)), (1, .int a1)]) hx hb dX11_turnOrder_9 rfl hl (by decide) rfl (fun ls hl => ?_)
  refine lv_iconst (v := (-1)) hx hb dX11_turnOrder_10 (by decide) ?_
  refine lv_istore (lv' := [(4, .int (-1)), (3, .int 0), (2, .int 0), (0, .ref (ad 0)), (1, .int a1)]) hx hb dX11_turnOrder_11 hl (by decide) rfl (fun ls hl => ?_)
  refine lv_aload_n hx hb dX11_turnOrder_13 rfl (lv_at hl 3 rfl) ?_
  refine va_get (D := D) hx hb hts inlX11 hown hK hP 0 (jc_0 cI cL ad σ τ) rfl 2 (by decide) (hts _ kw_2_0) (fun _ h9 => h9) rfl dX11_turnOrder_14 ?_
  refine va_get (D := D) hx hb hts inlX6 hown hK hP 16 (jc_16 cI cL ad σ τ) rfl 0 (by decide) (hts _ kw_13_12) (fun _ h9 => h9) rfl dX11_turnOrder_17 ?_
  refine jtopr h16_0 ?_
  refine lv_iconst (v := 1) hx hb dX11_turnOrder_20 (by decide) ?_
  refine lv_isub hx hb dX11_turnOrder_21 ?_
  refine jtopr (y := 0) (by decide) ?_
  refine lv_istore (lv' := [(5, .int 0), (4, .int (-1)), (3, .int 0), (2, .int 0), (0, .ref (ad 0)), (1, .int a1)]) hx hb dX11_turnOrder_22 hl (by decide) rfl (fun ls hl => ?_)
  refine lv_aload_n hx hb dX11_turnOrder_24 rfl (lv_at hl 4 rfl) ?_
  refine va_get (D := D) hx hb hts inlX11 hown hK hP 0 (jc_0 cI cL ad σ τ) rfl 5 (by decide) (hts _ kw_2_9) (fun _ h9 => h9) rfl dX11_turnOrder_25 ?_
  refine lv_aload_n hx hb dX11_turnOrder_28 rfl (lv_at hl 4 rfl) ?_
  refine va_get (D := D) hx hb hts inlX11 hown hK hP 0 (jc_0 cI cL ad σ τ) rfl 0 (by decide) (hts _ kw_1_16) (fun _ h9 => h9) rfl dX11_turnOrder_29 ?_
  refine va_get (D := D) hx hb hts inlX4 hown hK hP 2 (jc_2 cI cL ad σ τ) rfl 1 (by decide) (hts _ kw_12_8) (fun _ h9 => h9) rfl dX11_turnOrder_32 ?_
  refine jtopr h2_1 ?_
  refine jcallVv (As := [.int 0]) (rest := []) ⟨hx, hb, hml, hown, hts⟩ hK hP hA hS (c_X5_lay_26 l D cI cL ad hJ σ τ 0 (0) jz_0 ha3 ha4 ha5) cw_RX11_156 (jc_26 cI cL ad σ τ) rfl ⟨Nat.le_of_ble_eq_true rfl, Nat.le_of_ble_eq_true rfl⟩ rfl rfl rfl hl.1 rfl (Nat.le_of_ble_eq_true rfl) dX11_turnOrder_35 ⟨Nat.zero_le _, Nat.zero_le _⟩ (fun σ6 τ6 H locs h6 hP hS => ?_)
  obtain ⟨f8, h6⟩ := h6
  refine lv_aload_n hx hb dX11_turnOrder_38 rfl (lv_at hl 4 rfl) ?_
  refine va_get (D := D) hx hb hts inlX11 hown hK hP 0 (jc_0 cI cL ad σ6 τ6) rfl 2 (by decide) (hts _ kw_2_0) (fun _ h9 => h9) rfl dX11_turnOrder_39 ?_
  refine lv_aload_n hx hb dX11_turnOrder_42 rfl (lv_at hl 4 rfl) ?_
  refine va_get (D := D) hx hb hts inlX11 hown hK hP 0 (jc_0 cI cL ad σ6 τ6) rfl 11 (by decide) (hts _ kw_3_7) (fun _ h9 => h9) rfl dX11_turnOrder_43 ?_
  have m9 : σ6 16 0 = 1 := (by rw [f8 16 (by omega)]; exact h16_0)
  have m10 : ∀ k : Nat, σ6 17 k = 0 := (by rw [f8 17 (by omega)]; exact ha17)
  refine jcallVv (As := [.ref (ad 1)]) (rest := []) ⟨hx, hb, hml, hown, hts⟩ hK hP hA hS (c_X6_sortDown_16 l D cI cL ad hJ σ6 τ6 m9 m10) cw_RX11_328 (jc_16 cI cL ad σ6 τ6) rfl ⟨Nat.le_of_ble_eq_true rfl, Nat.le_of_ble_eq_true rfl⟩ rfl rfl rfl hl.1 rfl (Nat.le_of_ble_eq_true rfl) dX11_turnOrder_46 ⟨Nat.zero_le _, Nat.zero_le _⟩ (fun σ11 τ11 H locs h11 hP hS => ?_)
  obtain ⟨f13, m14, h11⟩ := h11
  refine lv_iconst (v := 0) hx hb dX11_turnOrder_49 (by decide) ?_
  refine lv_istore (lv' := [(6, .int 0), (5, .int 0), (4, .int (-1)), (3, .int 0), (2, .int 0), (0, .ref (ad 0)), (1, .int a1)]) hx hb dX11_turnOrder_50 hl (by decide) rfl (fun ls hl => ?_)
  refine lv_iload hx hb dX11_turnOrder_52 (lv_at hl 0 rfl) ?_
  refine lv_bipush (v := 120) hx hb dX11_turnOrder_54 (by decide) ?_
  refine lv_icmp_ge (tgt := 156) hx hb dX11_turnOrder_56 (by decide) (fun c => absurd c (by decide)) (fun _ => ?_)
  refine lv_iload hx hb dX11_turnOrder_59 (lv_at hl 1 rfl) ?_
  refine lv_if_lt (tgt := 156) hx hb dX11_turnOrder_61 (by decide) (fun c => absurd c (by decide)) (fun _ => ?_)
  refine lv_aload_n hx hb dX11_turnOrder_64 rfl (lv_at hl 5 rfl) ?_
  refine va_get (D := D) hx hb hts inlX11 hown hK hP 0 (jc_0 cI cL ad σ11 τ11) rfl 6 (by decide) (hts _ kw_2_13) (fun _ h9 => h9) rfl dX11_turnOrder_65 ?_
  refine lv_aload_n hx hb dX11_turnOrder_68 rfl (lv_at hl 5 rfl) ?_
  refine va_get (D := D) hx hb hts inlX11 hown hK hP 0 (jc_0 cI cL ad σ11 τ11) rfl 11 (by decide) (hts _ kw_3_7) (fun _ h9 => h9) rfl dX11_turnOrder_69 ?_
  refine lv_iload_n hx hb dX11_turnOrder_72 rfl (lv_at hl 4 rfl) ?_
  refine lv_iconst (v := 0) hx hb dX11_turnOrder_73 (by decide) ?_
  refine lv_iconst (v := 0) hx hb dX11_turnOrder_74 (by decide) ?_
  refine lv_iload hx hb dX11_turnOrder_75 (lv_at hl 1 rfl) ?_
  have m15 : σ11 16 0 = 1 := (by rw [f13 16 (by omega)]; exact m9)
  have m16 : σ11 16 1 = 8 := (by rw [f13 16 (by omega)]; exact (by rw [f8 16 (by omega)]; exact h16_1))
  have m17 : σ11 22 1 = 0 := (by rw [f13 22 (by omega)]; exact (by rw [f8 22 (by omega)]; exact h22_1))
  have m18 : σ11 31 9 = (-1) := (by rw [f13 31 (by omega)]; exact (by rw [f8 31 (by omega)]; exact h31_9))
  have m19 : ∀ k : Nat, σ11 36 k = 0 := (by rw [f13 36 (by omega)]; exact (by rw [f8 36 (by omega)]; exact ha36))
  refine jcallVv (As := [.ref (ad 1), .int 0, .int 0, .int 0, .int 0]) (rest := []) ⟨hx, hb, hml, hown, hts⟩ hK hP hA hS (c_X1_seekFor_1a l D cI cL ad hJ σ11 τ11 m15 m16 m17 m18 m19) cw_RX11_332 (jc_31 cI cL ad σ11 τ11) rfl ⟨Nat.le_of_ble_eq_true rfl, Nat.le_of_ble_eq_true rfl⟩ rfl rfl rfl hl.1 rfl (Nat.le_of_ble_eq_true rfl) dX11_turnOrder_77 ⟨Nat.zero_le _, Nat.zero_le _⟩ (fun σ20 τ20 H locs h20 hP hS => ?_)
  obtain ⟨f22, m23, m24, m25, m26, m27, m28, m29, m30, m31, m32, m33, h20⟩ := h20
  refine lv_aload_n hx hb dX11_turnOrder_80 rfl (lv_at hl 5 rfl) ?_
  refine va_get (D := D) hx hb hts inlX11 hown hK hP 0 (jc_0 cI cL ad σ20 τ20) rfl 6 (by decide) (hts _ kw_2_13) (fun _ h9 => h9) rfl dX11_turnOrder_81 ?_
  refine lv_iconst (v := 0) hx hb dX11_turnOrder_84 (by decide) ?_
  refine lv_iconst (v := 0) hx hb dX11_turnOrder_85 (by decide) ?_
  have m34 : σ20 16 0 = 1 := (by rw [f22 16 (by omega)]; exact m15)
  refine jcallV (As := [.int 0, .int 0]) (rest := []) ⟨hx, hb, hml, hown, hts⟩ hK hP hA hS (c_X1_valueAt_31 l D cI cL ad hJ σ20 τ20 m34 m23 m33) cw_RX11_215 (jc_31 cI cL ad σ20 τ20) rfl ⟨Nat.le_of_ble_eq_true rfl, Nat.le_of_ble_eq_true rfl⟩ rfl rfl rfl hl.1 rfl (Nat.le_of_ble_eq_true rfl) dX11_turnOrder_86 ⟨Nat.zero_le _, Nat.zero_le _⟩ (fun r36 σ35 τ35 H locs h35 hP hS => ?_)
  obtain ⟨⟨rfl, rfl⟩, h35⟩ := h35
  have h37 := h35
  obtain ⟨q39, k38⟩ := h37
  have q39 := q39.symm
  subst q39
  refine lv_istore (lv' := [(7, .int 0), (6, .int 0), (5, .int 0), (4, .int (-1)), (3, .int 0), (2, .int 0), (0, .ref (ad 0)), (1, .int a1)]) hx hb dX11_turnOrder_89 hl (by decide) rfl (fun ls hl => ?_)
  refine lv_aload_n hx hb dX11_turnOrder_91 rfl (lv_at hl 6 rfl) ?_
  refine va_get (D := D) hx hb hts inlX11 hown hK hP 0 (jc_0 cI cL ad σ20 τ20) rfl 11 (by decide) (hts _ kw_3_7) (fun _ h9 => h9) rfl dX11_turnOrder_92 ?_
  refine lv_aload_n hx hb dX11_turnOrder_95 rfl (lv_at hl 6 rfl) ?_
  refine va_get (D := D) hx hb hts inlX11 hown hK hP 0 (jc_0 cI cL ad σ20 τ20) rfl 2 (by decide) (hts _ kw_2_0) (fun _ h9 => h9) rfl dX11_turnOrder_96 ?_
  refine va_get (D := D) hx hb hts inlX6 hown hK hP 16 (jc_16 cI cL ad σ20 τ20) rfl 0 (by decide) (hts _ kw_13_12) (fun _ h9 => h9) rfl dX11_turnOrder_99 ?_
  refine jtopr m34 ?_
  have m40 : σ20 1 0 = 0 := (by rw [f22 1 (by omega)]; exact m14)
  refine jcallS (As := [.ref (ad 1), .int 1]) (rest := []) ⟨hx, hb, hml, hown, hts⟩ hK hP hA hS (c_X6_digits l D cI cL ad hJ σ20 τ20 m40) cw_RX11_336 ⟨Nat.le_of_ble_eq_true rfl, Nat.le_of_ble_eq_true rfl⟩ rfl rfl rfl hl.1 rfl (Nat.le_of_ble_eq_true rfl) dX11_turnOrder_102 ⟨Nat.zero_le _, Nat.zero_le _⟩ (fun r42 σ41 τ41 H locs h41 hP hS => ?_)
  obtain ⟨⟨rfl, rfl⟩, h41⟩ := h41
  have h43 := h41
  obtain ⟨q45, k44⟩ := h43
  have q45 := q45.symm
  subst q45
  refine lv_istore (lv' := [(8, .int 0), (7, .int 0), (6, .int 0), (5, .int 0), (4, .int (-1)), (3, .int 0), (2, .int 0), (0, .ref (ad 0)), (1, .int a1)]) hx hb dX11_turnOrder_105 hl (by decide) rfl (fun ls hl => ?_)
  refine lv_iload hx hb dX11_turnOrder_107 (lv_at hl 1 rfl) ?_
  refine lv_iload hx hb dX11_turnOrder_109 (lv_at hl 4 rfl) ?_
  refine lv_icmp_gt (tgt := 127) hx hb dX11_turnOrder_111 (by decide) (fun _ => ?_) (fun c => absurd (by decide) c)
  refine lv_iload hx hb dX11_turnOrder_127 (lv_at hl 1 rfl) ?_
  refine lv_istore (lv' := [(4, .int 0), (8, .int 0), (7, .int 0), (6, .int 0), (5, .int 0), (3, .int 0), (2, .int 0), (0, .ref (ad 0)), (1, .int a1)]) hx hb dX11_turnOrder_129 hl (by decide) rfl (fun ls hl => ?_)
  refine lv_iload hx hb dX11_turnOrder_131 (lv_at hl 1 rfl) ?_
  refine lv_istore_n (lv' := [(3, .int 0), (4, .int 0), (8, .int 0), (7, .int 0), (6, .int 0), (5, .int 0), (2, .int 0), (0, .ref (ad 0)), (1, .int a1)]) hx hb dX11_turnOrder_133 rfl hl (by decide) rfl (fun ls hl => ?_)
  refine lv_aload_n hx hb dX11_turnOrder_134 rfl (lv_at hl 7 rfl) ?_
  refine va_get (D := D) hx hb hts inlX11 hown hK hP 0 (jc_0 cI cL ad σ20 τ20) rfl 11 (by decide) (hts _ kw_3_7) (fun _ h9 => h9) rfl dX11_turnOrder_135 ?_
  refine lv_aload_n hx hb dX11_turnOrder_138 rfl (lv_at hl 7 rfl) ?_
  refine va_get (D := D) hx hb hts inlX11 hown hK hP 0 (jc_0 cI cL ad σ20 τ20) rfl 2 (by decide) (hts _ kw_2_0) (fun _ h9 => h9) rfl dX11_turnOrder_139 ?_
  refine va_get (D := D) hx hb hts inlX6 hown hK hP 16 (jc_16 cI cL ad σ20 τ20) rfl 0 (by decide) (hts _ kw_13_12) (fun _ h9 => h9) rfl dX11_turnOrder_142 ?_
  refine jtopr m34 ?_
  refine jcallS (As := [.ref (ad 1), .int 1]) (rest := []) ⟨hx, hb, hml, hown, hts⟩ hK hP hA hS (c_X6_turnOn l D cI cL ad hJ σ20 τ20) cw_RX11_340 ⟨Nat.le_of_ble_eq_true rfl, Nat.le_of_ble_eq_true rfl⟩ rfl rfl rfl hl.1 rfl (Nat.le_of_ble_eq_true rfl) dX11_turnOrder_145 ⟨Nat.zero_le _, Nat.zero_le _⟩ (fun r47 σ46 τ46 H locs h46 hP hS => ?_)
  obtain ⟨⟨rfl, rfl⟩, h46⟩ := h46
  have h48 := h46
  obtain ⟨q50, k49⟩ := h48
  have q50 := q50.symm
  subst q50
  refine lv_istore (lv' := [(5, .int (-1)), (3, .int 0), (4, .int 0), (8, .int 0), (7, .int 0), (6, .int 0), (2, .int 0), (0, .ref (ad 0)), (1, .int a1)]) hx hb dX11_turnOrder_148 hl (by decide) rfl (fun ls hl => ?_)
  refine lv_iinc (v := 1) (lv' := [(6, .int 1), (5, .int (-1)), (3, .int 0), (4, .int 0), (8, .int 0), (7, .int 0), (2, .int 0), (0, .ref (ad 0)), (1, .int a1)]) hx hb dX11_turnOrder_150 hl (k := 5) rfl (by decide) (by decide) rfl (fun ls hl => ?_)
  refine lv_goto (tgt := 52) hx hb dX11_turnOrder_153 (by decide) ?_
  refine lv_iload hx hb dX11_turnOrder_52 (lv_at hl 0 rfl) ?_
  refine lv_bipush (v := 120) hx hb dX11_turnOrder_54 (by decide) ?_
  refine lv_icmp_ge (tgt := 156) hx hb dX11_turnOrder_56 (by decide) (fun c => absurd c (by decide)) (fun _ => ?_)
  refine lv_iload hx hb dX11_turnOrder_59 (lv_at hl 1 rfl) ?_
  refine lv_if_lt (tgt := 156) hx hb dX11_turnOrder_61 (by decide) (fun _ => ?_) (fun c => absurd (by decide) c)
  refine lv_iload_n hx hb dX11_turnOrder_156 rfl (lv_at hl 8 rfl) ?_
  refine lv_if_ne (tgt := 164) hx hb dX11_turnOrder_157 (by decide) (fun c51 => ?_) (fun c51 => ?_)
  · have kc51 := jne c51 t1 jz_0
    refine lv_iload hx hb dX11_turnOrder_164 (lv_at hl 3 rfl) ?_
    exact hret 0 σ20 τ20 _ _ _ _ rfl ⟨(fun i hi => by rw [f22 i (by omega), f13 i (by omega), f8 i (by omega)]), ⟨rfl, trivial⟩⟩ hP hS dX11_turnOrder_166
  · have kc51 := jeq c51 t1 jz_0
    refine lv_iload_n hx hb dX11_turnOrder_160 rfl (lv_at hl 2 rfl) ?_
    refine lv_goto (tgt := 166) hx hb dX11_turnOrder_161 (by decide) ?_
    exact hret 0 σ20 τ20 _ _ _ _ rfl ⟨(fun i hi => by rw [f22 i (by omega), f13 i (by omega), f8 i (by omega)]), ⟨rfl, trivial⟩⟩ hP hS dX11_turnOrder_166
set_option maxHeartbeats 4000000 in
set_option maxRecDepth 100000 in
theorem c_X11_theirs (l : Launch) (D : va_G) (cI cL : ClassId) (ad : Nat → Nat) (hJ : jD ad) (σ : Nat → Nat → Int32) (τ : Nat → Nat → Int64) (a1 : Int32) (A1 : Int) (t1 : a1.toInt = A1) (h2_0 : σ 2 0 = 0) (h2_1 : σ 2 1 = 0) (h16_0 : σ 16 0 = 1) (h16_1 : σ 16 1 = 8) (h22_1 : σ 22 1 = 0) (h31_9 : σ 31 9 = (-1)) (ha3 : ∀ k : Nat, σ 3 k = 0) (ha4 : ∀ k : Nat, σ 4 k = 0) (ha5 : ∀ k : Nat, σ 5 k = 0) (ha17 : ∀ k : Nat, σ 17 k = 0) (ha36 : ∀ k : Nat, σ 36 k = 0) : jM l yX11_theirs cX11_theirs 2 (some .int) ({ frames := 6, cells := 0, slots := 0, locals := 155 }) D cI cL ad [.ref (ad 0), .int a1] σ τ (fun r σ' τ' => (∀ i : Nat, (i < 0 ∨ 54 < i) → σ' i = σ i) ∧ r = (if 0 ≤ A1 ∧ A1 ≤ 1 then 0 else -1)) := by
  refine jM.of hJ (by decide +kernel) (nt := .int) rfl (Nat.le_of_ble_eq_true rfl) ?_
  intro p e s m args below meth c Q ls hC hret hl hP
  obtain ⟨hx, hb, hr, hml, hown, hts, hK, -, hlocks⟩ := hC
  have hown : s.vm.findClass RX11 = some m.cls := hown
  have hS : va_S (jA ad) s.heap s.heap [] := va_S.rf
  have hA : ∀ q, jA ad q → jA ad q := fun _ h => h
  have hl : lv_has ls 2 [(0, .ref (ad 0)), (1, .int a1)] := hl
  have g1 := jrg t1
  refine lv_iload_n hx hb dX11_theirs_0 rfl (lv_at hl 1 rfl) ?_
  refine lv_iconst (v := 0) hx hb dX11_theirs_1 (by decide) ?_
  refine lv_iconst (v := 1) hx hb dX11_theirs_2 (by decide) ?_
  refine jcallS (As := [.int a1, .int 0, .int 1]) (rest := []) ⟨hx, hb, hml, hown, hts⟩ hK hP hA hS (c_X11_outside l D cI cL ad hJ σ τ a1 (A1) t1 0 (0) jz_0 1 (1) jz_1) cw_RX11_94 ⟨Nat.le_of_ble_eq_true rfl, Nat.le_of_ble_eq_true rfl⟩ rfl rfl rfl hl.1 rfl (Nat.le_of_ble_eq_true rfl) dX11_theirs_3 ⟨Nat.zero_le _, Nat.zero_le _⟩ (fun r2 σ1 τ1 H locs h1 hP hS => ?_)
  obtain ⟨⟨rfl, rfl⟩, h1⟩ := h1
  rcases h1 with h3 | h4
  · obtain ⟨q6, k5⟩ := h3
    have q6 := q6.symm
    subst q6
    refine lv_if_eq (tgt := 11) hx hb dX11_theirs_6 (by decide) (fun c => absurd c (by decide)) (fun _ => ?_)
    refine lv_iconst (v := (-1)) hx hb dX11_theirs_9 (by decide) ?_
    exact hret (-1) σ τ _ _ _ _ rfl ⟨(fun _ _ => rfl), (by (repeat' split) <;> first | rfl | omega | exact jsame jz_m1 t1 (by omega) | (exfalso; omega))⟩ hP hS dX11_theirs_10
  · obtain ⟨q8, k7⟩ := h4
    have q8 := q8.symm
    subst q8
    refine lv_if_eq (tgt := 11) hx hb dX11_theirs_6 (by decide) (fun _ => ?_) (fun c => absurd (by decide) c)
    refine lv_aload_n hx hb dX11_theirs_11 rfl (lv_at hl 0 rfl) ?_
    refine va_get (D := D) hx hb hts inlX11 hown hK hP 0 (jc_0 cI cL ad σ τ) rfl 2 (by decide) (hts _ kw_2_0) (fun _ h9 => h9) rfl dX11_theirs_12 ?_
    refine va_get (D := D) hx hb hts inlX6 hown hK hP 16 (jc_16 cI cL ad σ τ) rfl 0 (by decide) (hts _ kw_13_12) (fun _ h9 => h9) rfl dX11_theirs_15 ?_
    refine jtopr h16_0 ?_
    refine lv_iconst (v := 5) hx hb dX11_theirs_18 (by decide) ?_
    refine lv_icmp_gt (tgt := 34) hx hb dX11_theirs_19 (by decide) (fun c => absurd c (by decide)) (fun _ => ?_)
    refine lv_aload_n hx hb dX11_theirs_22 rfl (lv_at hl 0 rfl) ?_
    refine va_get (D := D) hx hb hts inlX11 hown hK hP 0 (jc_0 cI cL ad σ τ) rfl 2 (by decide) (hts _ kw_2_0) (fun _ h9 => h9) rfl dX11_theirs_23 ?_
    refine va_get (D := D) hx hb hts inlX6 hown hK hP 16 (jc_16 cI cL ad σ τ) rfl 1 (by decide) (hts _ kw_20_5) (fun _ h9 => h9) rfl dX11_theirs_26 ?_
    refine jtopr h16_1 ?_
    refine lv_bipush (v := 8) hx hb dX11_theirs_29 (by decide) ?_
    refine lv_icmp_le (tgt := 37) hx hb dX11_theirs_31 (by decide) (fun _ => ?_) (fun c => absurd (by decide) c)
    refine lv_aload_n hx hb dX11_theirs_37 rfl (lv_at hl 0 rfl) ?_
    refine lv_iload_n hx hb dX11_theirs_38 rfl (lv_at hl 1 rfl) ?_
    refine jcallV (As := [.int a1]) (rest := []) ⟨hx, hb, hml, hown, hts⟩ hK hP hA hS (c_X11_turnOrder l D cI cL ad hJ σ τ a1 (A1) t1 h2_0 h2_1 h16_0 h16_1 h22_1 h31_9 ha3 ha4 ha5 ha17 ha36) cw_RX11_235 (jc_0 cI cL ad σ τ) rfl ⟨Nat.le_of_ble_eq_true rfl, Nat.le_of_ble_eq_true rfl⟩ rfl rfl rfl hl.1 rfl (Nat.le_of_ble_eq_true rfl) dX11_theirs_39 ⟨Nat.zero_le _, Nat.zero_le _⟩ (fun r10 σ9 τ9 H locs h9 hP hS => ?_)
    obtain ⟨f11, h9⟩ := h9
    have h12 := h9
    obtain ⟨q14, k13⟩ := h12
    have q14 := q14.symm
    subst q14
    exact hret 0 σ9 τ9 _ _ _ _ rfl ⟨(fun i hi => by rw [f11 i (by omega)]), (by (repeat' split) <;> first | rfl | omega | exact jsame jz_0 t1 (by omega) | (exfalso; omega))⟩ hP hS dX11_theirs_42
set_option maxHeartbeats 4000000 in
set_option maxRecDepth 100000 in
theorem c_X8_rowIsRight (l : Launch) (D : va_G) (cI cL : ClassId) (ad : Nat → Nat) (hJ : jD ad) (σ : Nat → Nat → Int32) (τ : Nat → Nat → Int64) (a1 : Int32) (A1 : Int) (t1 : a1.toInt = A1) : jM l yX8_rowIsRight cX8_rowIsRight 3 (some .boolean) ({ frames := 0, cells := 0, slots := 0, locals := 0 }) D cI cL ad [.int a1] σ τ (fun r σ' τ' => (σ = σ' ∧ τ = τ') ∧ ((r = 1 ∧ (0 ≤ A1) ∧ (A1 ≤ 99999999) ∧ ((A1 ≤ 0) ∨ (1 ≤ (A1 % 10) ∧ (A1 % 10) ≤ 4)) ∧ (((A1 / 10) ≤ 0) ∨ (1 ≤ (((A1 / 10)) % 10) ∧ (((A1 / 10)) % 10) ≤ 4)) ∧ (((((A1 / 10)) / 10) ≤ 0) ∨ (1 ≤ (((((A1 / 10)) / 10)) % 10) ∧ (((((A1 / 10)) / 10)) % 10) ≤ 4)) ∧ (((((((A1 / 10)) / 10)) / 10) ≤ 0) ∨ (1 ≤ (((((((A1 / 10)) / 10)) / 10)) % 10) ∧ (((((((A1 / 10)) / 10)) / 10)) % 10) ≤ 4)) ∧ (((((((((A1 / 10)) / 10)) / 10)) / 10) ≤ 0) ∨ (1 ≤ (((((((((A1 / 10)) / 10)) / 10)) / 10)) % 10) ∧ (((((((((A1 / 10)) / 10)) / 10)) / 10)) % 10) ≤ 4)) ∧ (((((((((((A1 / 10)) / 10)) / 10)) / 10)) / 10) ≤ 0) ∨ (1 ≤ (((((((((((A1 / 10)) / 10)) / 10)) / 10)) / 10)) % 10) ∧ (((((((((((A1 / 10)) / 10)) / 10)) / 10)) / 10)) % 10) ≤ 4)) ∧ (((((((((((((A1 / 10)) / 10)) / 10)) / 10)) / 10)) / 10) ≤ 0) ∨ (1 ≤ (((((((((((((A1 / 10)) / 10)) / 10)) / 10)) / 10)) / 10)) % 10) ∧ (((((((((((((A1 / 10)) / 10)) / 10)) / 10)) / 10)) / 10)) % 10) ≤ 4)) ∧ (((((((((((((((A1 / 10)) / 10)) / 10)) / 10)) / 10)) / 10)) / 10) ≤ 0) ∨ (1 ≤ (((((((((((((((A1 / 10)) / 10)) / 10)) / 10)) / 10)) / 10)) / 10)) % 10) ∧ (((((((((((((((A1 / 10)) / 10)) / 10)) / 10)) / 10)) / 10)) / 10)) % 10) ≤ 4))) ∨ (r = 0 ∧ ((A1 < 0) ∨ (99999999 < A1) ∨ (0 < A1 ∧ (A1 % 10) < 1) ∨ (0 < A1 ∧ 4 < (A1 % 10)) ∨ (0 < (A1 / 10) ∧ (((A1 / 10)) % 10) < 1) ∨ (0 < (A1 / 10) ∧ 4 < (((A1 / 10)) % 10)) ∨ (0 < (((A1 / 10)) / 10) ∧ (((((A1 / 10)) / 10)) % 10) < 1) ∨ (0 < (((A1 / 10)) / 10) ∧ 4 < (((((A1 / 10)) / 10)) % 10)) ∨ (0 < (((((A1 / 10)) / 10)) / 10) ∧ (((((((A1 / 10)) / 10)) / 10)) % 10) < 1) ∨ (0 < (((((A1 / 10)) / 10)) / 10) ∧ 4 < (((((((A1 / 10)) / 10)) / 10)) % 10)) ∨ (0 < (((((((A1 / 10)) / 10)) / 10)) / 10) ∧ (((((((((A1 / 10)) / 10)) / 10)) / 10)) % 10) < 1) ∨ (0 < (((((((A1 / 10)) / 10)) / 10)) / 10) ∧ 4 < (((((((((A1 / 10)) / 10)) / 10)) / 10)) % 10)) ∨ (0 < (((((((((A1 / 10)) / 10)) / 10)) / 10)) / 10) ∧ (((((((((((A1 / 10)) / 10)) / 10)) / 10)) / 10)) % 10) < 1) ∨ (0 < (((((((((A1 / 10)) / 10)) / 10)) / 10)) / 10) ∧ 4 < (((((((((((A1 / 10)) / 10)) / 10)) / 10)) / 10)) % 10)) ∨ (0 < (((((((((((A1 / 10)) / 10)) / 10)) / 10)) / 10)) / 10) ∧ (((((((((((((A1 / 10)) / 10)) / 10)) / 10)) / 10)) / 10)) % 10) < 1) ∨ (0 < (((((((((((A1 / 10)) / 10)) / 10)) / 10)) / 10)) / 10) ∧ 4 < (((((((((((((A1 / 10)) / 10)) / 10)) / 10)) / 10)) / 10)) % 10)) ∨ (0 < (((((((((((((A1 / 10)) / 10)) / 10)) / 10)) / 10)) / 10)) / 10) ∧ (((((((((((((((A1 / 10)) / 10)) / 10)) / 10)) / 10)) / 10)) / 10)) % 10) < 1) ∨ (0 < (((((((((((((A1 / 10)) / 10)) / 10)) / 10)) / 10)) / 10)) / 10) ∧ 4 < (((((((((((((((A1 / 10)) / 10)) / 10)) / 10)) / 10)) / 10)) / 10)) % 10)))))) := by
  refine jM.of hJ (by decide +kernel) (nt := .boolean) rfl (Nat.le_of_ble_eq_true rfl) ?_
  intro p e s m args below meth c Q ls hC hret hl hP
  obtain ⟨hx, hb, hr, hml, hown, hts, hK, -, hlocks⟩ := hC
  have hown : s.vm.findClass RX8 = some m.cls := hown
  have hS : va_S (jA ad) s.heap s.heap [] := va_S.rf
  have hA : ∀ q, jA ad q → jA ad q := fun _ h => h
  have hl : lv_has ls 3 [(0, .int a1)] := hl
  have g1 := jrg t1
  refine lv_iload_n hx hb dX8_rowIsRight_0 rfl (lv_at hl 0 rfl) ?_
  refine lv_if_lt (tgt := 10) hx hb dX8_rowIsRight_1 (by decide) (fun c1 => ?_) (fun c1 => ?_)
  · have kc1 := jlt c1 t1 jz_0
    refine lv_iconst (v := 0) hx hb dX8_rowIsRight_10 (by decide) ?_
    exact hret 0 σ τ _ _ _ _ rfl ⟨⟨rfl, rfl⟩, Or.inr (⟨rfl, by omega⟩)⟩ hP hS dX8_rowIsRight_11
  · have kc1 := jnlt c1 t1 jz_0
    refine lv_iload_n hx hb dX8_rowIsRight_4 rfl (lv_at hl 0 rfl) ?_
    refine lv_ldc (v := 99999999) hx hb hown (hts _ kw_24_12) dX8_rowIsRight_5 ?_
    refine lv_icmp_le (tgt := 12) hx hb dX8_rowIsRight_7 (by decide) (fun c2 => ?_) (fun c2 => ?_)
    · have kc2 := jle c2 t1 jz_99999999
      refine lv_iload_n hx hb dX8_rowIsRight_12 rfl (lv_at hl 0 rfl) ?_
      refine lv_istore_n (lv' := [(1, .int a1), (0, .int a1)]) hx hb dX8_rowIsRight_13 rfl hl (by decide) rfl (fun ls hl => ?_)
      refine lv_iconst (v := 0) hx hb dX8_rowIsRight_14 (by decide) ?_
      refine lv_istore_n (lv' := [(2, .int 0), (1, .int a1), (0, .int a1)]) hx hb dX8_rowIsRight_15 rfl hl (by decide) rfl (fun ls hl => ?_)
      refine lv_iload_n hx hb dX8_rowIsRight_16 rfl (lv_at hl 1 rfl) ?_
      refine lv_if_le (tgt := 55) hx hb dX8_rowIsRight_17 (by decide) (fun c3 => ?_) (fun c3 => ?_)
      · have kc3 := jle c3 t1 jz_0
        refine lv_iconst (v := 1) hx hb dX8_rowIsRight_55 (by decide) ?_
        exact hret 1 σ τ _ _ _ _ rfl ⟨⟨rfl, rfl⟩, Or.inl ⟨rfl, by omega⟩⟩ hP hS dX8_rowIsRight_56
      · have kc3 := jnle c3 t1 jz_0
        refine lv_iload_n hx hb dX8_rowIsRight_20 rfl (lv_at hl 0 rfl) ?_
        refine lv_bipush (v := 8) hx hb dX8_rowIsRight_21 (by decide) ?_
        refine lv_icmp_ge (tgt := 55) hx hb dX8_rowIsRight_23 (by decide) (fun c => absurd c (by decide)) (fun _ => ?_)
        refine lv_iload_n hx hb dX8_rowIsRight_26 rfl (lv_at hl 1 rfl) ?_
        refine lv_bipush (v := 10) hx hb dX8_rowIsRight_27 (by decide) ?_
        refine lv_irem hx hb dX8_rowIsRight_29 (by decide) ?_
        refine lv_topi (fun x4 ex4 => ?_)
        have tx4 : x4.toInt = (A1 % 10) := jrem ex4 t1 jz_10 (by omega)
        refine lv_iconst (v := 1) hx hb dX8_rowIsRight_30 (by decide) ?_
        refine lv_icmp_lt (tgt := 42) hx hb dX8_rowIsRight_31 (by decide) (fun c5 => ?_) (fun c5 => ?_)
        · have kc5 := jlt c5 tx4 jz_1
          refine lv_iconst (v := 0) hx hb dX8_rowIsRight_42 (by decide) ?_
          exact hret 0 σ τ _ _ _ _ rfl ⟨⟨rfl, rfl⟩, Or.inr (⟨rfl, by omega⟩)⟩ hP hS dX8_rowIsRight_43
        · have kc5 := jnlt c5 tx4 jz_1
          refine lv_iload_n hx hb dX8_rowIsRight_34 rfl (lv_at hl 1 rfl) ?_
          refine lv_bipush (v := 10) hx hb dX8_rowIsRight_35 (by decide) ?_
          refine lv_irem hx hb dX8_rowIsRight_37 (by decide) ?_
          refine lv_topi (fun x6 ex6 => ?_)
          have tx6 : x6.toInt = (A1 % 10) := jrem ex6 t1 jz_10 (by omega)
          refine lv_iconst (v := 4) hx hb dX8_rowIsRight_38 (by decide) ?_
          refine lv_icmp_le (tgt := 44) hx hb dX8_rowIsRight_39 (by decide) (fun c7 => ?_) (fun c7 => ?_)
          · have kc7 := jle c7 tx6 jz_4
            refine lv_iload_n hx hb dX8_rowIsRight_44 rfl (lv_at hl 1 rfl) ?_
            refine lv_bipush (v := 10) hx hb dX8_rowIsRight_45 (by decide) ?_
            refine lv_idiv hx hb dX8_rowIsRight_47 (by decide) ?_
            refine lv_topi (fun x8 ex8 => ?_)
            have tx8 : x8.toInt = (A1 / 10) := jdiv ex8 t1 jz_10 (by omega) (by omega)
            refine lv_istore_n (lv' := [(1, .int x8), (2, .int 0), (0, .int a1)]) hx hb dX8_rowIsRight_48 rfl hl (by decide) rfl (fun ls hl => ?_)
            refine lv_iinc (v := 1) (lv' := [(2, .int 1), (1, .int x8), (0, .int a1)]) hx hb dX8_rowIsRight_49 hl (k := 1) rfl (by decide) (by decide) rfl (fun ls hl => ?_)
            refine lv_goto (tgt := 16) hx hb dX8_rowIsRight_52 (by decide) ?_
            refine lv_iload_n hx hb dX8_rowIsRight_16 rfl (lv_at hl 1 rfl) ?_
            refine lv_if_le (tgt := 55) hx hb dX8_rowIsRight_17 (by decide) (fun c9 => ?_) (fun c9 => ?_)
            · have kc9 := jle c9 tx8 jz_0
              refine lv_iconst (v := 1) hx hb dX8_rowIsRight_55 (by decide) ?_
              exact hret 1 σ τ _ _ _ _ rfl ⟨⟨rfl, rfl⟩, Or.inl ⟨rfl, by omega⟩⟩ hP hS dX8_rowIsRight_56
            · have kc9 := jnle c9 tx8 jz_0
              refine lv_iload_n hx hb dX8_rowIsRight_20 rfl (lv_at hl 0 rfl) ?_
              refine lv_bipush (v := 8) hx hb dX8_rowIsRight_21 (by decide) ?_
              refine lv_icmp_ge (tgt := 55) hx hb dX8_rowIsRight_23 (by decide) (fun c => absurd c (by decide)) (fun _ => ?_)
              refine lv_iload_n hx hb dX8_rowIsRight_26 rfl (lv_at hl 1 rfl) ?_
              refine lv_bipush (v := 10) hx hb dX8_rowIsRight_27 (by decide) ?_
              refine lv_irem hx hb dX8_rowIsRight_29 (by decide) ?_
              refine lv_topi (fun x10 ex10 => ?_)
              have tx10 : x10.toInt = (((A1 / 10)) % 10) := jrem ex10 tx8 jz_10 (by omega)
              refine lv_iconst (v := 1) hx hb dX8_rowIsRight_30 (by decide) ?_
              refine lv_icmp_lt (tgt := 42) hx hb dX8_rowIsRight_31 (by decide) (fun c11 => ?_) (fun c11 => ?_)
              · have kc11 := jlt c11 tx10 jz_1
                refine lv_iconst (v := 0) hx hb dX8_rowIsRight_42 (by decide) ?_
                exact hret 0 σ τ _ _ _ _ rfl ⟨⟨rfl, rfl⟩, Or.inr (⟨rfl, by omega⟩)⟩ hP hS dX8_rowIsRight_43
              · have kc11 := jnlt c11 tx10 jz_1
                refine lv_iload_n hx hb dX8_rowIsRight_34 rfl (lv_at hl 1 rfl) ?_
                refine lv_bipush (v := 10) hx hb dX8_rowIsRight_35 (by decide) ?_
                refine lv_irem hx hb dX8_rowIsRight_37 (by decide) ?_
                refine lv_topi (fun x12 ex12 => ?_)
                have tx12 : x12.toInt = (((A1 / 10)) % 10) := jrem ex12 tx8 jz_10 (by omega)
                refine lv_iconst (v := 4) hx hb dX8_rowIsRight_38 (by decide) ?_
                refine lv_icmp_le (tgt := 44) hx hb dX8_rowIsRight_39 (by decide) (fun c13 => ?_) (fun c13 => ?_)
                · have kc13 := jle c13 tx12 jz_4
                  refine lv_iload_n hx hb dX8_rowIsRight_44 rfl (lv_at hl 1 rfl) ?_
                  refine lv_bipush (v := 10) hx hb dX8_rowIsRight_45 (by decide) ?_
                  refine lv_idiv hx hb dX8_rowIsRight_47 (by decide) ?_
                  refine lv_topi (fun x14 ex14 => ?_)
                  have tx14 : x14.toInt = (((A1 / 10)) / 10) := jdiv ex14 tx8 jz_10 (by omega) (by omega)
                  refine lv_istore_n (lv' := [(1, .int x14), (2, .int 1), (0, .int a1)]) hx hb dX8_rowIsRight_48 rfl hl (by decide) rfl (fun ls hl => ?_)
                  refine lv_iinc (v := 2) (lv' := [(2, .int 2), (1, .int x14), (0, .int a1)]) hx hb dX8_rowIsRight_49 hl (k := 1) rfl (by decide) (by decide) rfl (fun ls hl => ?_)
                  refine lv_goto (tgt := 16) hx hb dX8_rowIsRight_52 (by decide) ?_
                  refine lv_iload_n hx hb dX8_rowIsRight_16 rfl (lv_at hl 1 rfl) ?_
                  refine lv_if_le (tgt := 55) hx hb dX8_rowIsRight_17 (by decide) (fun c15 => ?_) (fun c15 => ?_)
                  · have kc15 := jle c15 tx14 jz_0
                    refine lv_iconst (v := 1) hx hb dX8_rowIsRight_55 (by decide) ?_
                    exact hret 1 σ τ _ _ _ _ rfl ⟨⟨rfl, rfl⟩, Or.inl ⟨rfl, by omega⟩⟩ hP hS dX8_rowIsRight_56
                  · have kc15 := jnle c15 tx14 jz_0
                    refine lv_iload_n hx hb dX8_rowIsRight_20 rfl (lv_at hl 0 rfl) ?_
                    refine lv_bipush (v := 8) hx hb dX8_rowIsRight_21 (by decide) ?_
                    refine lv_icmp_ge (tgt := 55) hx hb dX8_rowIsRight_23 (by decide) (fun c => absurd c (by decide)) (fun _ => ?_)
                    refine lv_iload_n hx hb dX8_rowIsRight_26 rfl (lv_at hl 1 rfl) ?_
                    refine lv_bipush (v := 10) hx hb dX8_rowIsRight_27 (by decide) ?_
                    refine lv_irem hx hb dX8_rowIsRight_29 (by decide) ?_
                    refine lv_topi (fun x16 ex16 => ?_)
                    have tx16 : x16.toInt = (((((A1 / 10)) / 10)) % 10) := jrem ex16 tx14 jz_10 (by omega)
                    refine lv_iconst (v := 1) hx hb dX8_rowIsRight_30 (by decide) ?_
                    refine lv_icmp_lt (tgt := 42) hx hb dX8_rowIsRight_31 (by decide) (fun c17 => ?_) (fun c17 => ?_)
                    · have kc17 := jlt c17 tx16 jz_1
                      refine lv_iconst (v := 0) hx hb dX8_rowIsRight_42 (by decide) ?_
                      exact hret 0 σ τ _ _ _ _ rfl ⟨⟨rfl, rfl⟩, Or.inr (⟨rfl, by omega⟩)⟩ hP hS dX8_rowIsRight_43
                    · have kc17 := jnlt c17 tx16 jz_1
                      refine lv_iload_n hx hb dX8_rowIsRight_34 rfl (lv_at hl 1 rfl) ?_
                      refine lv_bipush (v := 10) hx hb dX8_rowIsRight_35 (by decide) ?_
                      refine lv_irem hx hb dX8_rowIsRight_37 (by decide) ?_
                      refine lv_topi (fun x18 ex18 => ?_)
                      have tx18 : x18.toInt = (((((A1 / 10)) / 10)) % 10) := jrem ex18 tx14 jz_10 (by omega)
                      refine lv_iconst (v := 4) hx hb dX8_rowIsRight_38 (by decide) ?_
                      refine lv_icmp_le (tgt := 44) hx hb dX8_rowIsRight_39 (by decide) (fun c19 => ?_) (fun c19 => ?_)
                      · have kc19 := jle c19 tx18 jz_4
                        refine lv_iload_n hx hb dX8_rowIsRight_44 rfl (lv_at hl 1 rfl) ?_
                        refine lv_bipush (v := 10) hx hb dX8_rowIsRight_45 (by decide) ?_
                        refine lv_idiv hx hb dX8_rowIsRight_47 (by decide) ?_
                        refine lv_topi (fun x20 ex20 => ?_)
                        have tx20 : x20.toInt = (((((A1 / 10)) / 10)) / 10) := jdiv ex20 tx14 jz_10 (by omega) (by omega)
                        refine lv_istore_n (lv' := [(1, .int x20), (2, .int 2), (0, .int a1)]) hx hb dX8_rowIsRight_48 rfl hl (by decide) rfl (fun ls hl => ?_)
                        refine lv_iinc (v := 3) (lv' := [(2, .int 3), (1, .int x20), (0, .int a1)]) hx hb dX8_rowIsRight_49 hl (k := 1) rfl (by decide) (by decide) rfl (fun ls hl => ?_)
                        refine lv_goto (tgt := 16) hx hb dX8_rowIsRight_52 (by decide) ?_
                        refine lv_iload_n hx hb dX8_rowIsRight_16 rfl (lv_at hl 1 rfl) ?_
                        refine lv_if_le (tgt := 55) hx hb dX8_rowIsRight_17 (by decide) (fun c21 => ?_) (fun c21 => ?_)
                        · have kc21 := jle c21 tx20 jz_0
                          refine lv_iconst (v := 1) hx hb dX8_rowIsRight_55 (by decide) ?_
                          exact hret 1 σ τ _ _ _ _ rfl ⟨⟨rfl, rfl⟩, Or.inl ⟨rfl, by omega⟩⟩ hP hS dX8_rowIsRight_56
                        · have kc21 := jnle c21 tx20 jz_0
                          refine lv_iload_n hx hb dX8_rowIsRight_20 rfl (lv_at hl 0 rfl) ?_
                          refine lv_bipush (v := 8) hx hb dX8_rowIsRight_21 (by decide) ?_
                          refine lv_icmp_ge (tgt := 55) hx hb dX8_rowIsRight_23 (by decide) (fun c => absurd c (by decide)) (fun _ => ?_)
                          refine lv_iload_n hx hb dX8_rowIsRight_26 rfl (lv_at hl 1 rfl) ?_
                          refine lv_bipush (v := 10) hx hb dX8_rowIsRight_27 (by decide) ?_
                          refine lv_irem hx hb dX8_rowIsRight_29 (by decide) ?_
                          refine lv_topi (fun x22 ex22 => ?_)
                          have tx22 : x22.toInt = (((((((A1 / 10)) / 10)) / 10)) % 10) := jrem ex22 tx20 jz_10 (by omega)
                          refine lv_iconst (v := 1) hx hb dX8_rowIsRight_30 (by decide) ?_
                          refine lv_icmp_lt (tgt := 42) hx hb dX8_rowIsRight_31 (by decide) (fun c23 => ?_) (fun c23 => ?_)
                          · have kc23 := jlt c23 tx22 jz_1
                            refine lv_iconst (v := 0) hx hb dX8_rowIsRight_42 (by decide) ?_
                            exact hret 0 σ τ _ _ _ _ rfl ⟨⟨rfl, rfl⟩, Or.inr (⟨rfl, by omega⟩)⟩ hP hS dX8_rowIsRight_43
                          · have kc23 := jnlt c23 tx22 jz_1
                            refine lv_iload_n hx hb dX8_rowIsRight_34 rfl (lv_at hl 1 rfl) ?_
                            refine lv_bipush (v := 10) hx hb dX8_rowIsRight_35 (by decide) ?_
                            refine lv_irem hx hb dX8_rowIsRight_37 (by decide) ?_
                            refine lv_topi (fun x24 ex24 => ?_)
                            have tx24 : x24.toInt = (((((((A1 / 10)) / 10)) / 10)) % 10) := jrem ex24 tx20 jz_10 (by omega)
                            refine lv_iconst (v := 4) hx hb dX8_rowIsRight_38 (by decide) ?_
                            refine lv_icmp_le (tgt := 44) hx hb dX8_rowIsRight_39 (by decide) (fun c25 => ?_) (fun c25 => ?_)
                            · have kc25 := jle c25 tx24 jz_4
                              refine lv_iload_n hx hb dX8_rowIsRight_44 rfl (lv_at hl 1 rfl) ?_
                              refine lv_bipush (v := 10) hx hb dX8_rowIsRight_45 (by decide) ?_
                              refine lv_idiv hx hb dX8_rowIsRight_47 (by decide) ?_
                              refine lv_topi (fun x26 ex26 => ?_)
                              have tx26 : x26.toInt = (((((((A1 / 10)) / 10)) / 10)) / 10) := jdiv ex26 tx20 jz_10 (by omega) (by omega)
                              refine lv_istore_n (lv' := [(1, .int x26), (2, .int 3), (0, .int a1)]) hx hb dX8_rowIsRight_48 rfl hl (by decide) rfl (fun ls hl => ?_)
                              refine lv_iinc (v := 4) (lv' := [(2, .int 4), (1, .int x26), (0, .int a1)]) hx hb dX8_rowIsRight_49 hl (k := 1) rfl (by decide) (by decide) rfl (fun ls hl => ?_)
                              refine lv_goto (tgt := 16) hx hb dX8_rowIsRight_52 (by decide) ?_
                              refine lv_iload_n hx hb dX8_rowIsRight_16 rfl (lv_at hl 1 rfl) ?_
                              refine lv_if_le (tgt := 55) hx hb dX8_rowIsRight_17 (by decide) (fun c27 => ?_) (fun c27 => ?_)
                              · have kc27 := jle c27 tx26 jz_0
                                refine lv_iconst (v := 1) hx hb dX8_rowIsRight_55 (by decide) ?_
                                exact hret 1 σ τ _ _ _ _ rfl ⟨⟨rfl, rfl⟩, Or.inl ⟨rfl, by omega⟩⟩ hP hS dX8_rowIsRight_56
                              · have kc27 := jnle c27 tx26 jz_0
                                refine lv_iload_n hx hb dX8_rowIsRight_20 rfl (lv_at hl 0 rfl) ?_
                                refine lv_bipush (v := 8) hx hb dX8_rowIsRight_21 (by decide) ?_
                                refine lv_icmp_ge (tgt := 55) hx hb dX8_rowIsRight_23 (by decide) (fun c => absurd c (by decide)) (fun _ => ?_)
                                refine lv_iload_n hx hb dX8_rowIsRight_26 rfl (lv_at hl 1 rfl) ?_
                                refine lv_bipush (v := 10) hx hb dX8_rowIsRight_27 (by decide) ?_
                                refine lv_irem hx hb dX8_rowIsRight_29 (by decide) ?_
                                refine lv_topi (fun x28 ex28 => ?_)
                                have tx28 : x28.toInt = (((((((((A1 / 10)) / 10)) / 10)) / 10)) % 10) := jrem ex28 tx26 jz_10 (by omega)
                                refine lv_iconst (v := 1) hx hb dX8_rowIsRight_30 (by decide) ?_
                                refine lv_icmp_lt (tgt := 42) hx hb dX8_rowIsRight_31 (by decide) (fun c29 => ?_) (fun c29 => ?_)
                                · have kc29 := jlt c29 tx28 jz_1
                                  refine lv_iconst (v := 0) hx hb dX8_rowIsRight_42 (by decide) ?_
                                  exact hret 0 σ τ _ _ _ _ rfl ⟨⟨rfl, rfl⟩, Or.inr (⟨rfl, by omega⟩)⟩ hP hS dX8_rowIsRight_43
                                · have kc29 := jnlt c29 tx28 jz_1
                                  refine lv_iload_n hx hb dX8_rowIsRight_34 rfl (lv_at hl 1 rfl) ?_
                                  refine lv_bipush (v := 10) hx hb dX8_rowIsRight_35 (by decide) ?_
                                  refine lv_irem hx hb dX8_rowIsRight_37 (by decide) ?_
                                  refine lv_topi (fun x30 ex30 => ?_)
                                  have tx30 : x30.toInt = (((((((((A1 / 10)) / 10)) / 10)) / 10)) % 10) := jrem ex30 tx26 jz_10 (by omega)
                                  refine lv_iconst (v := 4) hx hb dX8_rowIsRight_38 (by decide) ?_
                                  refine lv_icmp_le (tgt := 44) hx hb dX8_rowIsRight_39 (by decide) (fun c31 => ?_) (fun c31 => ?_)
                                  · have kc31 := jle c31 tx30 jz_4
                                    refine lv_iload_n hx hb dX8_rowIsRight_44 rfl (lv_at hl 1 rfl) ?_
                                    refine lv_bipush (v := 10) hx hb dX8_rowIsRight_45 (by decide) ?_
                                    refine lv_idiv hx hb dX8_rowIsRight_47 (by decide) ?_
                                    refine lv_topi (fun x32 ex32 => ?_)
                                    have tx32 : x32.toInt = (((((((((A1 / 10)) / 10)) / 10)) / 10)) / 10) := jdiv ex32 tx26 jz_10 (by omega) (by omega)
                                    refine lv_istore_n (lv' := [(1, .int x32), (2, .int 4), (0, .int a1)]) hx hb dX8_rowIsRight_48 rfl hl (by decide) rfl (fun ls hl => ?_)
                                    refine lv_iinc (v := 5) (lv' := [(2, .int 5), (1, .int x32), (0, .int a1)]) hx hb dX8_rowIsRight_49 hl (k := 1) rfl (by decide) (by decide) rfl (fun ls hl => ?_)
                                    refine lv_goto (tgt := 16) hx hb dX8_rowIsRight_52 (by decide) ?_
                                    refine lv_iload_n hx hb dX8_rowIsRight_16 rfl (lv_at hl 1 rfl) ?_
                                    refine lv_if_le (tgt := 55) hx hb dX8_rowIsRight_17 (by decide) (fun c33 => ?_) (fun c33 => ?_)
                                    · have kc33 := jle c33 tx32 jz_0
                                      refine lv_iconst (v := 1) hx hb dX8_rowIsRight_55 (by decide) ?_
                                      exact hret 1 σ τ _ _ _ _ rfl ⟨⟨rfl, rfl⟩, Or.inl ⟨rfl, by omega⟩⟩ hP hS dX8_rowIsRight_56
                                    · have kc33 := jnle c33 tx32 jz_0
                                      refine lv_iload_n hx hb dX8_rowIsRight_20 rfl (lv_at hl 0 rfl) ?_
                                      refine lv_bipush (v := 8) hx hb dX8_rowIsRight_21 (by decide) ?_
                                      refine lv_icmp_ge (tgt := 55) hx hb dX8_rowIsRight_23 (by decide) (fun c => absurd c (by decide)) (fun _ => ?_)
                                      refine lv_iload_n hx hb dX8_rowIsRight_26 rfl (lv_at hl 1 rfl) ?_
                                      refine lv_bipush (v := 10) hx hb dX8_rowIsRight_27 (by decide) ?_
                                      refine lv_irem hx hb dX8_rowIsRight_29 (by decide) ?_
                                      refine lv_topi (fun x34 ex34 => ?_)
                                      have tx34 : x34.toInt = (((((((((((A1 / 10)) / 10)) / 10)) / 10)) / 10)) % 10) := jrem ex34 tx32 jz_10 (by omega)
                                      refine lv_iconst (v := 1) hx hb dX8_rowIsRight_30 (by decide) ?_
                                      refine lv_icmp_lt (tgt := 42) hx hb dX8_rowIsRight_31 (by decide) (fun c35 => ?_) (fun c35 => ?_)
                                      · have kc35 := jlt c35 tx34 jz_1
                                        refine lv_iconst (v := 0) hx hb dX8_rowIsRight_42 (by decide) ?_
                                        exact hret 0 σ τ _ _ _ _ rfl ⟨⟨rfl, rfl⟩, Or.inr (⟨rfl, by omega⟩)⟩ hP hS dX8_rowIsRight_43
                                      · have kc35 := jnlt c35 tx34 jz_1
                                        refine lv_iload_n hx hb dX8_rowIsRight_34 rfl (lv_at hl 1 rfl) ?_
                                        refine lv_bipush (v := 10) hx hb dX8_rowIsRight_35 (by decide) ?_
                                        refine lv_irem hx hb dX8_rowIsRight_37 (by decide) ?_
                                        refine lv_topi (fun x36 ex36 => ?_)
                                        have tx36 : x36.toInt = (((((((((((A1 / 10)) / 10)) / 10)) / 10)) / 10)) % 10) := jrem ex36 tx32 jz_10 (by omega)
                                        refine lv_iconst (v := 4) hx hb dX8_rowIsRight_38 (by decide) ?_
                                        refine lv_icmp_le (tgt := 44) hx hb dX8_rowIsRight_39 (by decide) (fun c37 => ?_) (fun c37 => ?_)
                                        · have kc37 := jle c37 tx36 jz_4
                                          refine lv_iload_n hx hb dX8_rowIsRight_44 rfl (lv_at hl 1 rfl) ?_
                                          refine lv_bipush (v := 10) hx hb dX8_rowIsRight_45 (by decide) ?_
                                          refine lv_idiv hx hb dX8_rowIsRight_47 (by decide) ?_
                                          refine lv_topi (fun x38 ex38 => ?_)
                                          have tx38 : x38.toInt = (((((((((((A1 / 10)) / 10)) / 10)) / 10)) / 10)) / 10) := jdiv ex38 tx32 jz_10 (by omega) (by omega)
                                          refine lv_istore_n (lv' := [(1, .int x38), (2, .int 5), (0, .int a1)]) hx hb dX8_rowIsRight_48 rfl hl (by decide) rfl (fun ls hl => ?_)
                                          refine lv_iinc (v := 6) (lv' := [(2, .int 6), (1, .int x38), (0, .int a1)]) hx hb dX8_rowIsRight_49 hl (k := 1) rfl (by decide) (by decide) rfl (fun ls hl => ?_)
                                          refine lv_goto (tgt := 16) hx hb dX8_rowIsRight_52 (by decide) ?_
                                          refine lv_iload_n hx hb dX8_rowIsRight_16 rfl (lv_at hl 1 rfl) ?_
                                          refine lv_if_le (tgt := 55) hx hb dX8_rowIsRight_17 (by decide) (fun c39 => ?_) (fun c39 => ?_)
                                          · have kc39 := jle c39 tx38 jz_0
                                            refine lv_iconst (v := 1) hx hb dX8_rowIsRight_55 (by decide) ?_
                                            exact hret 1 σ τ _ _ _ _ rfl ⟨⟨rfl, rfl⟩, Or.inl ⟨rfl, by omega⟩⟩ hP hS dX8_rowIsRight_56
                                          · have kc39 := jnle c39 tx38 jz_0
                                            refine lv_iload_n hx hb dX8_rowIsRight_20 rfl (lv_at hl 0 rfl) ?_
                                            refine lv_bipush (v := 8) hx hb dX8_rowIsRight_21 (by decide) ?_
                                            refine lv_icmp_ge (tgt := 55) hx hb dX8_rowIsRight_23 (by decide) (fun c => absurd c (by decide)) (fun _ => ?_)
                                            refine lv_iload_n hx hb dX8_rowIsRight_26 rfl (lv_at hl 1 rfl) ?_
                                            refine lv_bipush (v := 10) hx hb dX8_rowIsRight_27 (by decide) ?_
                                            refine lv_irem hx hb dX8_rowIsRight_29 (by decide) ?_
                                            refine lv_topi (fun x40 ex40 => ?_)
                                            have tx40 : x40.toInt = (((((((((((((A1 / 10)) / 10)) / 10)) / 10)) / 10)) / 10)) % 10) := jrem ex40 tx38 jz_10 (by omega)
                                            refine lv_iconst (v := 1) hx hb dX8_rowIsRight_30 (by decide) ?_
                                            refine lv_icmp_lt (tgt := 42) hx hb dX8_rowIsRight_31 (by decide) (fun c41 => ?_) (fun c41 => ?_)
                                            · have kc41 := jlt c41 tx40 jz_1
                                              refine lv_iconst (v := 0) hx hb dX8_rowIsRight_42 (by decide) ?_
                                              exact hret 0 σ τ _ _ _ _ rfl ⟨⟨rfl, rfl⟩, Or.inr (⟨rfl, by omega⟩)⟩ hP hS dX8_rowIsRight_43
                                            · have kc41 := jnlt c41 tx40 jz_1
                                              refine lv_iload_n hx hb dX8_rowIsRight_34 rfl (lv_at hl 1 rfl) ?_
                                              refine lv_bipush (v := 10) hx hb dX8_rowIsRight_35 (by decide) ?_
                                              refine lv_irem hx hb dX8_rowIsRight_37 (by decide) ?_
                                              refine lv_topi (fun x42 ex42 => ?_)
                                              have tx42 : x42.toInt = (((((((((((((A1 / 10)) / 10)) / 10)) / 10)) / 10)) / 10)) % 10) := jrem ex42 tx38 jz_10 (by omega)
                                              refine lv_iconst (v := 4) hx hb dX8_rowIsRight_38 (by decide) ?_
                                              refine lv_icmp_le (tgt := 44) hx hb dX8_rowIsRight_39 (by decide) (fun c43 => ?_) (fun c43 => ?_)
                                              · have kc43 := jle c43 tx42 jz_4
                                                refine lv_iload_n hx hb dX8_rowIsRight_44 rfl (lv_at hl 1 rfl) ?_
                                                refine lv_bipush (v := 10) hx hb dX8_rowIsRight_45 (by decide) ?_
                                                refine lv_idiv hx hb dX8_rowIsRight_47 (by decide) ?_
                                                refine lv_topi (fun x44 ex44 => ?_)
                                                have tx44 : x44.toInt = (((((((((((((A1 / 10)) / 10)) / 10)) / 10)) / 10)) / 10)) / 10) := jdiv ex44 tx38 jz_10 (by omega) (by omega)
                                                refine lv_istore_n (lv' := [(1, .int x44), (2, .int 6), (0, .int a1)]) hx hb dX8_rowIsRight_48 rfl hl (by decide) rfl (fun ls hl => ?_)
                                                refine lv_iinc (v := 7) (lv' := [(2, .int 7), (1, .int x44), (0, .int a1)]) hx hb dX8_rowIsRight_49 hl (k := 1) rfl (by decide) (by decide) rfl (fun ls hl => ?_)
                                                refine lv_goto (tgt := 16) hx hb dX8_rowIsRight_52 (by decide) ?_
                                                refine lv_iload_n hx hb dX8_rowIsRight_16 rfl (lv_at hl 1 rfl) ?_
                                                refine lv_if_le (tgt := 55) hx hb dX8_rowIsRight_17 (by decide) (fun c45 => ?_) (fun c45 => ?_)
                                                · have kc45 := jle c45 tx44 jz_0
                                                  refine lv_iconst (v := 1) hx hb dX8_rowIsRight_55 (by decide) ?_
                                                  exact hret 1 σ τ _ _ _ _ rfl ⟨⟨rfl, rfl⟩, Or.inl ⟨rfl, by omega⟩⟩ hP hS dX8_rowIsRight_56
                                                · have kc45 := jnle c45 tx44 jz_0
                                                  refine lv_iload_n hx hb dX8_rowIsRight_20 rfl (lv_at hl 0 rfl) ?_
                                                  refine lv_bipush (v := 8) hx hb dX8_rowIsRight_21 (by decide) ?_
                                                  refine lv_icmp_ge (tgt := 55) hx hb dX8_rowIsRight_23 (by decide) (fun c => absurd c (by decide)) (fun _ => ?_)
                                                  refine lv_iload_n hx hb dX8_rowIsRight_26 rfl (lv_at hl 1 rfl) ?_
                                                  refine lv_bipush (v := 10) hx hb dX8_rowIsRight_27 (by decide) ?_
                                                  refine lv_irem hx hb dX8_rowIsRight_29 (by decide) ?_
                                                  refine lv_topi (fun x46 ex46 => ?_)
                                                  have tx46 : x46.toInt = (((((((((((((((A1 / 10)) / 10)) / 10)) / 10)) / 10)) / 10)) / 10)) % 10) := jrem ex46 tx44 jz_10 (by omega)
                                                  refine lv_iconst (v := 1) hx hb dX8_rowIsRight_30 (by decide) ?_
                                                  refine lv_icmp_lt (tgt := 42) hx hb dX8_rowIsRight_31 (by decide) (fun c => absurd (jlt c tx46 jz_1) (by omega)) (fun c47 => ?_)
                                                  have kc47 := jnlt c47 tx46 jz_1
                                                  refine lv_iload_n hx hb dX8_rowIsRight_34 rfl (lv_at hl 1 rfl) ?_
                                                  refine lv_bipush (v := 10) hx hb dX8_rowIsRight_35 (by decide) ?_
                                                  refine lv_irem hx hb dX8_rowIsRight_37 (by decide) ?_
                                                  refine lv_topi (fun x48 ex48 => ?_)
                                                  have tx48 : x48.toInt = (((((((((((((((A1 / 10)) / 10)) / 10)) / 10)) / 10)) / 10)) / 10)) % 10) := jrem ex48 tx44 jz_10 (by omega)
                                                  refine lv_iconst (v := 4) hx hb dX8_rowIsRight_38 (by decide) ?_
                                                  refine lv_icmp_le (tgt := 44) hx hb dX8_rowIsRight_39 (by decide) (fun c49 => ?_) (fun c49 => ?_)
                                                  · have kc49 := jle c49 tx48 jz_4
                                                    refine lv_iload_n hx hb dX8_rowIsRight_44 rfl (lv_at hl 1 rfl) ?_
                                                    refine lv_bipush (v := 10) hx hb dX8_rowIsRight_45 (by decide) ?_
                                                    refine lv_idiv hx hb dX8_rowIsRight_47 (by decide) ?_
                                                    refine lv_topi (fun x50 ex50 => ?_)
                                                    have tx50 : x50.toInt = (((((((((((((((A1 / 10)) / 10)) / 10)) / 10)) / 10)) / 10)) / 10)) / 10) := jdiv ex50 tx44 jz_10 (by omega) (by omega)
                                                    refine lv_istore_n (lv' := [(1, .int x50), (2, .int 7), (0, .int a1)]) hx hb dX8_rowIsRight_48 rfl hl (by decide) rfl (fun ls hl => ?_)
                                                    refine lv_iinc (v := 8) (lv' := [(2, .int 8), (1, .int x50), (0, .int a1)]) hx hb dX8_rowIsRight_49 hl (k := 1) rfl (by decide) (by decide) rfl (fun ls hl => ?_)
                                                    refine lv_goto (tgt := 16) hx hb dX8_rowIsRight_52 (by decide) ?_
                                                    refine lv_iload_n hx hb dX8_rowIsRight_16 rfl (lv_at hl 1 rfl) ?_
                                                    refine lv_if_le (tgt := 55) hx hb dX8_rowIsRight_17 (by decide) (fun c51 => ?_) (fun c => absurd (jnle c tx50 jz_0) (by omega))
                                                    have kc51 := jle c51 tx50 jz_0
                                                    refine lv_iconst (v := 1) hx hb dX8_rowIsRight_55 (by decide) ?_
                                                    exact hret 1 σ τ _ _ _ _ rfl ⟨⟨rfl, rfl⟩, Or.inl ⟨rfl, by omega⟩⟩ hP hS dX8_rowIsRight_56
                                                  · have kc49 := jnle c49 tx48 jz_4
                                                    refine lv_iconst (v := 0) hx hb dX8_rowIsRight_42 (by decide) ?_
                                                    exact hret 0 σ τ _ _ _ _ rfl ⟨⟨rfl, rfl⟩, Or.inr (⟨rfl, by omega⟩)⟩ hP hS dX8_rowIsRight_43
                                              · have kc43 := jnle c43 tx42 jz_4
                                                refine lv_iconst (v := 0) hx hb dX8_rowIsRight_42 (by decide) ?_
                                                exact hret 0 σ τ _ _ _ _ rfl ⟨⟨rfl, rfl⟩, Or.inr (⟨rfl, by omega⟩)⟩ hP hS dX8_rowIsRight_43
                                        · have kc37 := jnle c37 tx36 jz_4
                                          refine lv_iconst (v := 0) hx hb dX8_rowIsRight_42 (by decide) ?_
                                          exact hret 0 σ τ _ _ _ _ rfl ⟨⟨rfl, rfl⟩, Or.inr (⟨rfl, by omega⟩)⟩ hP hS dX8_rowIsRight_43
                                  · have kc31 := jnle c31 tx30 jz_4
                                    refine lv_iconst (v := 0) hx hb dX8_rowIsRight_42 (by decide) ?_
                                    exact hret 0 σ τ _ _ _ _ rfl ⟨⟨rfl, rfl⟩, Or.inr (⟨rfl, by omega⟩)⟩ hP hS dX8_rowIsRight_43
                            · have kc25 := jnle c25 tx24 jz_4
                              refine lv_iconst (v := 0) hx hb dX8_rowIsRight_42 (by decide) ?_
                              exact hret 0 σ τ _ _ _ _ rfl ⟨⟨rfl, rfl⟩, Or.inr (⟨rfl, by omega⟩)⟩ hP hS dX8_rowIsRight_43
                      · have kc19 := jnle c19 tx18 jz_4
                        refine lv_iconst (v := 0) hx hb dX8_rowIsRight_42 (by decide) ?_
                        exact hret 0 σ τ _ _ _ _ rfl ⟨⟨rfl, rfl⟩, Or.inr (⟨rfl, by omega⟩)⟩ hP hS dX8_rowIsRight_43
                · have kc13 := jnle c13 tx12 jz_4
                  refine lv_iconst (v := 0) hx hb dX8_rowIsRight_42 (by decide) ?_
                  exact hret 0 σ τ _ _ _ _ rfl ⟨⟨rfl, rfl⟩, Or.inr (⟨rfl, by omega⟩)⟩ hP hS dX8_rowIsRight_43
          · have kc7 := jnle c7 tx6 jz_4
            refine lv_iconst (v := 0) hx hb dX8_rowIsRight_42 (by decide) ?_
            exact hret 0 σ τ _ _ _ _ rfl ⟨⟨rfl, rfl⟩, Or.inr (⟨rfl, by omega⟩)⟩ hP hS dX8_rowIsRight_43
    · have kc2 := jnle c2 t1 jz_99999999
      refine lv_iconst (v := 0) hx hb dX8_rowIsRight_10 (by decide) ?_
      exact hret 0 σ τ _ _ _ _ rfl ⟨⟨rfl, rfl⟩, Or.inr (⟨rfl, by omega⟩)⟩ hP hS dX8_rowIsRight_11
set_option maxHeartbeats 4000000 in
set_option maxRecDepth 100000 in
theorem c_X8_make_38 (l : Launch) (D : va_G) (cI cL : ClassId) (ad : Nat → Nat) (hJ : jD ad) (σ : Nat → Nat → Int32) (τ : Nat → Nat → Int64) (a1 : Int32) (A1 : Int) (t1 : a1.toInt = A1) (a2 : Int32) (A2 : Int) (t2 : a2.toInt = A2) (a3 : Int32) (A3 : Int) (t3 : a3.toInt = A3) (h38_0 : σ 38 0 = 0) : jM l yX8_make cX8_make 4 (some .int) ({ frames := 0, cells := 0, slots := 0, locals := 0 }) D cI cL ad [.ref (ad 38), .int a1, .int a2, .int a3] σ τ (fun r σ' τ' => (∀ i : Nat, (i < 38 ∨ 41 < i) → σ' i = σ i) ∧ ((r = 0 ∧ True))) := by
  refine jM.of hJ (by decide +kernel) (nt := .int) rfl (Nat.le_of_ble_eq_true rfl) ?_
  intro p e s m args below meth c Q ls hC hret hl hP
  obtain ⟨hx, hb, hr, hml, hown, hts, hK, -, hlocks⟩ := hC
  have hown : s.vm.findClass RX8 = some m.cls := hown
  have hS : va_S (jA ad) s.heap s.heap [] := va_S.rf
  have hA : ∀ q, jA ad q → jA ad q := fun _ h => h
  have hl : lv_has ls 4 [(0, .ref (ad 38)), (1, .int a1), (2, .int a2), (3, .int a3)] := hl
  have g1 := jrg t1
  have g2 := jrg t2
  have g3 := jrg t3
  refine lv_aload_n hx hb dX8_make_0 rfl (lv_at hl 0 rfl) ?_
  refine va_get (D := D) hx hb hts inlX8 hown hK hP 38 (jc_38 cI cL ad σ τ) rfl 0 (by decide) (hts _ kw_24_17) (fun _ h9 => h9) rfl dX8_make_1 ?_
  refine jtopr h38_0 ?_
  refine lv_bipush (v := 20) hx hb dX8_make_4 (by decide) ?_
  refine lv_icmp_lt (tgt := 12) hx hb dX8_make_6 (by decide) (fun _ => ?_) (fun c => absurd (by decide) c)
  refine lv_aload_n hx hb dX8_make_12 rfl (lv_at hl 0 rfl) ?_
  refine va_get (D := D) hx hb hts inlX8 hown hK hP 38 (jc_38 cI cL ad σ τ) rfl 2 (by decide) (hts _ kw_5_15) (fun _ h9 => h9) rfl dX8_make_13 ?_
  refine lv_aload_n hx hb dX8_make_16 rfl (lv_at hl 0 rfl) ?_
  refine va_get (D := D) hx hb hts inlX8 hown hK hP 38 (jc_38 cI cL ad σ τ) rfl 0 (by decide) (hts _ kw_24_17) (fun _ h9 => h9) rfl dX8_make_17 ?_
  refine jtopr h38_0 ?_
  refine lv_iload_n hx hb dX8_make_20 rfl (lv_at hl 1 rfl) ?_
  refine jast hx hb hK hP hJ hA hS (jc_39 cI cL ad σ τ) (ja_39 cI cL ad σ τ _ _) (jin jz_0 (by omega) (by omega)) dX8_make_21 (fun σ1 H locs eσ1 hP hS => ?_)
  have eσ1 : σ1 = jup σ 39 0 a1 := eσ1
  refine lv_aload_n hx hb dX8_make_22 rfl (lv_at hl 0 rfl) ?_
  refine va_get (D := D) hx hb hts inlX8 hown hK hP 38 (jc_38 cI cL ad σ1 τ) rfl 3 (by decide) (hts _ kw_5_16) (fun _ h9 => h9) rfl dX8_make_23 ?_
  refine lv_aload_n hx hb dX8_make_26 rfl (lv_at hl 0 rfl) ?_
  refine va_get (D := D) hx hb hts inlX8 hown hK hP 38 (jc_38 cI cL ad σ1 τ) rfl 0 (by decide) (hts _ kw_24_17) (fun _ h9 => h9) rfl dX8_make_27 ?_
  have m2 : σ1 38 0 = 0 := (by rw [eσ1, jup_n (by decide)]; exact h38_0)
  refine jtopr m2 ?_
  refine lv_iload_n hx hb dX8_make_30 rfl (lv_at hl 2 rfl) ?_
  refine jast hx hb hK hP hJ hA hS (jc_40 cI cL ad σ1 τ) (ja_40 cI cL ad σ1 τ _ _) (jin jz_0 (by omega) (by omega)) dX8_make_31 (fun σ3 H locs eσ3 hP hS => ?_)
  have eσ3 : σ3 = jup σ1 40 0 a2 := eσ3
  refine lv_aload_n hx hb dX8_make_32 rfl (lv_at hl 0 rfl) ?_
  refine va_get (D := D) hx hb hts inlX8 hown hK hP 38 (jc_38 cI cL ad σ3 τ) rfl 4 (by decide) (hts _ kw_5_17) (fun _ h9 => h9) rfl dX8_make_33 ?_
  refine lv_aload_n hx hb dX8_make_36 rfl (lv_at hl 0 rfl) ?_
  refine va_get (D := D) hx hb hts inlX8 hown hK hP 38 (jc_38 cI cL ad σ3 τ) rfl 0 (by decide) (hts _ kw_24_17) (fun _ h9 => h9) rfl dX8_make_37 ?_
  have m4 : σ3 38 0 = 0 := (by rw [eσ3, jup_n (by decide)]; exact m2)
  refine jtopr m4 ?_
  refine lv_iload_n hx hb dX8_make_40 rfl (lv_at hl 3 rfl) ?_
  refine jast hx hb hK hP hJ hA hS (jc_41 cI cL ad σ3 τ) (ja_41 cI cL ad σ3 τ _ _) (jin jz_0 (by omega) (by omega)) dX8_make_41 (fun σ5 H locs eσ5 hP hS => ?_)
  have eσ5 : σ5 = jup σ3 41 0 a3 := eσ5
  refine lv_aload_n hx hb dX8_make_42 rfl (lv_at hl 0 rfl) ?_
  refine lv_dup hx hb dX8_make_43 rfl ?_
  refine va_get (D := D) hx hb hts inlX8 hown hK hP 38 (jc_38 cI cL ad σ5 τ) rfl 0 (by decide) (hts _ kw_24_17) (fun _ h9 => h9) rfl dX8_make_44 ?_
  have m6 : σ5 38 0 = 0 := (by rw [eσ5, jup_n (by decide)]; exact m4)
  refine jtopr m6 ?_
  refine lv_dup_x1 hx hb dX8_make_47 rfl rfl ?_
  refine lv_iconst (v := 1) hx hb dX8_make_48 (by decide) ?_
  refine lv_iadd hx hb dX8_make_49 ?_
  refine jtopr (y := 1) (by decide) ?_
  refine jput (ty := .int) hx hb hts inlX8 tyX8 tyX8_ok nmX8 hown hK hP hJ hA hS (jc_38 cI cL ad σ5 τ) rfl (k := 0) (by decide) (Nat.le_of_ble_eq_true rfl) (jp_38_0 cI cL ad σ5 τ 1) (hts _ kw_24_17) (fun _ h9 => h9) rfl (by decide +kernel) rfl rfl dX8_make_50 (fun σ7 H locs eσ7 hP hS => ?_)
  exact hret 0 σ7 τ _ _ _ _ rfl ⟨(fun i hi => by rw [eσ7, jup_n (by omega), eσ5, jup_n (by omega), eσ3, jup_n (by omega), eσ1, jup_n (by omega)]), ⟨rfl, trivial⟩⟩ hP hS dX8_make_53
set_option maxHeartbeats 4000000 in
set_option maxRecDepth 100000 in
theorem c_X11_rule (l : Launch) (D : va_G) (cI cL : ClassId) (ad : Nat → Nat) (hJ : jD ad) (σ : Nat → Nat → Int32) (τ : Nat → Nat → Int64) (a1 : Int32) (A1 : Int) (t1 : a1.toInt = A1) (a2 : Int32) (A2 : Int) (t2 : a2.toInt = A2) (a3 : Int32) (A3 : Int) (t3 : a3.toInt = A3) (h38_0 : σ 38 0 = 0) : jM l yX11_rule cX11_rule 4 (some .int) ({ frames := 1, cells := 0, slots := 0, locals := 23 }) D cI cL ad [.ref (ad 0), .int a1, .int a2, .int a3] σ τ (fun r σ' τ' => (∀ i : Nat, (i < 0 ∨ 54 < i) → σ' i = σ i) ∧ r = (if 0 ≤ A1 ∧ A1 ≤ 6 ∧ (0 ≤ A2) ∧ (A2 ≤ 99999999) ∧ ((A2 ≤ 0) ∨ (1 ≤ (A2 % 10) ∧ (A2 % 10) ≤ 4)) ∧ (((A2 / 10) ≤ 0) ∨ (1 ≤ (((A2 / 10)) % 10) ∧ (((A2 / 10)) % 10) ≤ 4)) ∧ (((((A2 / 10)) / 10) ≤ 0) ∨ (1 ≤ (((((A2 / 10)) / 10)) % 10) ∧ (((((A2 / 10)) / 10)) % 10) ≤ 4)) ∧ (((((((A2 / 10)) / 10)) / 10) ≤ 0) ∨ (1 ≤ (((((((A2 / 10)) / 10)) / 10)) % 10) ∧ (((((((A2 / 10)) / 10)) / 10)) % 10) ≤ 4)) ∧ (((((((((A2 / 10)) / 10)) / 10)) / 10) ≤ 0) ∨ (1 ≤ (((((((((A2 / 10)) / 10)) / 10)) / 10)) % 10) ∧ (((((((((A2 / 10)) / 10)) / 10)) / 10)) % 10) ≤ 4)) ∧ (((((((((((A2 / 10)) / 10)) / 10)) / 10)) / 10) ≤ 0) ∨ (1 ≤ (((((((((((A2 / 10)) / 10)) / 10)) / 10)) / 10)) % 10) ∧ (((((((((((A2 / 10)) / 10)) / 10)) / 10)) / 10)) % 10) ≤ 4)) ∧ (((((((((((((A2 / 10)) / 10)) / 10)) / 10)) / 10)) / 10) ≤ 0) ∨ (1 ≤ (((((((((((((A2 / 10)) / 10)) / 10)) / 10)) / 10)) / 10)) % 10) ∧ (((((((((((((A2 / 10)) / 10)) / 10)) / 10)) / 10)) / 10)) % 10) ≤ 4)) ∧ (((((((((((((((A2 / 10)) / 10)) / 10)) / 10)) / 10)) / 10)) / 10) ≤ 0) ∨ (1 ≤ (((((((((((((((A2 / 10)) / 10)) / 10)) / 10)) / 10)) / 10)) / 10)) % 10) ∧ (((((((((((((((A2 / 10)) / 10)) / 10)) / 10)) / 10)) / 10)) / 10)) % 10) ≤ 4)) ∧ 0 ≤ A3 ∧ A3 ≤ 12 then 0 else -1)) := by
  refine jM.of hJ (by decide +kernel) (nt := .int) rfl (Nat.le_of_ble_eq_true rfl) ?_
  intro p e s m args below meth c Q ls hC hret hl hP
  obtain ⟨hx, hb, hr, hml, hown, hts, hK, -, hlocks⟩ := hC
  have hown : s.vm.findClass RX11 = some m.cls := hown
  have hS : va_S (jA ad) s.heap s.heap [] := va_S.rf
  have hA : ∀ q, jA ad q → jA ad q := fun _ h => h
  have hl : lv_has ls 4 [(0, .ref (ad 0)), (1, .int a1), (2, .int a2), (3, .int a3)] := hl
  have g1 := jrg t1
  have g2 := jrg t2
  have g3 := jrg t3
  refine lv_iload_n hx hb dX11_rule_0 rfl (lv_at hl 1 rfl) ?_
  refine lv_iconst (v := 0) hx hb dX11_rule_1 (by decide) ?_
  refine lv_bipush (v := 6) hx hb dX11_rule_2 (by decide) ?_
  refine jcallS (As := [.int a1, .int 0, .int 6]) (rest := []) ⟨hx, hb, hml, hown, hts⟩ hK hP hA hS (c_X11_outside l D cI cL ad hJ σ τ a1 (A1) t1 0 (0) jz_0 6 (6) jz_6) cw_RX11_94 ⟨Nat.le_of_ble_eq_true rfl, Nat.le_of_ble_eq_true rfl⟩ rfl rfl rfl hl.1 rfl (Nat.le_of_ble_eq_true rfl) dX11_rule_4 ⟨Nat.zero_le _, Nat.zero_le _⟩ (fun r2 σ1 τ1 H locs h1 hP hS => ?_)
  obtain ⟨⟨rfl, rfl⟩, h1⟩ := h1
  rcases h1 with h3 | h4
  · obtain ⟨q6, k5⟩ := h3
    have q6 := q6.symm
    subst q6
    refine lv_if_ne (tgt := 27) hx hb dX11_rule_7 (by decide) (fun _ => ?_) (fun c => absurd c (by decide))
    refine lv_iconst (v := (-1)) hx hb dX11_rule_27 (by decide) ?_
    exact hret (-1) σ τ _ _ _ _ rfl ⟨(fun _ _ => rfl), (by (repeat' split) <;> first | rfl | omega | exact jsame jz_m1 t1 (by omega) | exact jsame jz_m1 t2 (by omega) | exact jsame jz_m1 t3 (by omega) | (exfalso; omega))⟩ hP hS dX11_rule_28
  · obtain ⟨q8, k7⟩ := h4
    have q8 := q8.symm
    subst q8
    refine lv_if_ne (tgt := 27) hx hb dX11_rule_7 (by decide) (fun c => absurd (by decide) c) (fun _ => ?_)
    refine lv_iload_n hx hb dX11_rule_10 rfl (lv_at hl 2 rfl) ?_
    refine jcallS (As := [.int a2]) (rest := []) ⟨hx, hb, hml, hown, hts⟩ hK hP hA hS (c_X8_rowIsRight l D cI cL ad hJ σ τ a2 (A2) t2) cw_RX11_170 ⟨Nat.le_of_ble_eq_true rfl, Nat.le_of_ble_eq_true rfl⟩ rfl rfl rfl hl.1 rfl (Nat.le_of_ble_eq_true rfl) dX11_rule_11 ⟨Nat.zero_le _, Nat.zero_le _⟩ (fun r10 σ9 τ9 H locs h9 hP hS => ?_)
    obtain ⟨⟨rfl, rfl⟩, h9⟩ := h9
    rcases h9 with h11 | h12
    · obtain ⟨q14, k13⟩ := h11
      have q14 := q14.symm
      subst q14
      refine lv_if_eq (tgt := 27) hx hb dX11_rule_14 (by decide) (fun c => absurd c (by decide)) (fun _ => ?_)
      refine lv_iload_n hx hb dX11_rule_17 rfl (lv_at hl 3 rfl) ?_
      refine lv_iconst (v := 0) hx hb dX11_rule_18 (by decide) ?_
      refine lv_bipush (v := 12) hx hb dX11_rule_19 (by decide) ?_
      refine jcallS (As := [.int a3, .int 0, .int 12]) (rest := []) ⟨hx, hb, hml, hown, hts⟩ hK hP hA hS (c_X11_outside l D cI cL ad hJ σ τ a3 (A3) t3 0 (0) jz_0 12 (12) jz_12) cw_RX11_94 ⟨Nat.le_of_ble_eq_true rfl, Nat.le_of_ble_eq_true rfl⟩ rfl rfl rfl hl.1 rfl (Nat.le_of_ble_eq_true rfl) dX11_rule_21 ⟨Nat.zero_le _, Nat.zero_le _⟩ (fun r16 σ15 τ15 H locs h15 hP hS => ?_)
      obtain ⟨⟨rfl, rfl⟩, h15⟩ := h15
      rcases h15 with h17 | h18
      · obtain ⟨q20, k19⟩ := h17
        have q20 := q20.symm
        subst q20
        refine lv_if_eq (tgt := 29) hx hb dX11_rule_24 (by decide) (fun c => absurd c (by decide)) (fun _ => ?_)
        refine lv_iconst (v := (-1)) hx hb dX11_rule_27 (by decide) ?_
        exact hret (-1) σ τ _ _ _ _ rfl ⟨(fun _ _ => rfl), (by (repeat' split) <;> first | rfl | omega | exact jsame jz_m1 t1 (by omega) | exact jsame jz_m1 t2 (by omega) | exact jsame jz_m1 t3 (by omega) | (exfalso; omega))⟩ hP hS dX11_rule_28
      · obtain ⟨q22, k21⟩ := h18
        have q22 := q22.symm
        subst q22
        refine lv_if_eq (tgt := 29) hx hb dX11_rule_24 (by decide) (fun _ => ?_) (fun c => absurd (by decide) c)
        refine lv_aload_n hx hb dX11_rule_29 rfl (lv_at hl 0 rfl) ?_
        refine va_get (D := D) hx hb hts inlX11 hown hK hP 0 (jc_0 cI cL ad σ τ) rfl 7 (by decide) (hts _ kw_2_17) (fun _ h9 => h9) rfl dX11_rule_30 ?_
        refine va_get (D := D) hx hb hts inlX8 hown hK hP 38 (jc_38 cI cL ad σ τ) rfl 0 (by decide) (hts _ kw_24_8) (fun _ h9 => h9) rfl dX11_rule_33 ?_
        refine jtopr h38_0 ?_
        refine lv_bipush (v := 20) hx hb dX11_rule_36 (by decide) ?_
        refine lv_icmp_lt (tgt := 44) hx hb dX11_rule_38 (by decide) (fun _ => ?_) (fun c => absurd (by decide) c)
        refine lv_aload_n hx hb dX11_rule_44 rfl (lv_at hl 0 rfl) ?_
        refine va_get (D := D) hx hb hts inlX11 hown hK hP 0 (jc_0 cI cL ad σ τ) rfl 7 (by decide) (hts _ kw_2_17) (fun _ h9 => h9) rfl dX11_rule_45 ?_
        refine lv_iload_n hx hb dX11_rule_48 rfl (lv_at hl 1 rfl) ?_
        refine lv_iload_n hx hb dX11_rule_49 rfl (lv_at hl 2 rfl) ?_
        refine lv_iload_n hx hb dX11_rule_50 rfl (lv_at hl 3 rfl) ?_
        refine jcallV (As := [.int a1, .int a2, .int a3]) (rest := []) ⟨hx, hb, hml, hown, hts⟩ hK hP hA hS (c_X8_make_38 l D cI cL ad hJ σ τ a1 (A1) t1 a2 (A2) t2 a3 (A3) t3 h38_0) cw_RX11_174 (jc_38 cI cL ad σ τ) rfl ⟨Nat.le_of_ble_eq_true rfl, Nat.le_of_ble_eq_true rfl⟩ rfl rfl rfl hl.1 rfl (Nat.le_of_ble_eq_true rfl) dX11_rule_51 ⟨Nat.zero_le _, Nat.zero_le _⟩ (fun r24 σ23 τ23 H locs h23 hP hS => ?_)
        obtain ⟨f25, h23⟩ := h23
        have h26 := h23
        obtain ⟨q28, k27⟩ := h26
        have q28 := q28.symm
        subst q28
        exact hret 0 σ23 τ23 _ _ _ _ rfl ⟨(fun i hi => by rw [f25 i (by omega)]), (by (repeat' split) <;> first | rfl | omega | exact jsame jz_0 t1 (by omega) | exact jsame jz_0 t2 (by omega) | exact jsame jz_0 t3 (by omega) | (exfalso; omega))⟩ hP hS dX11_rule_54
    · obtain ⟨q30, k29⟩ := h12
      have q30 := q30.symm
      subst q30
      refine lv_if_eq (tgt := 27) hx hb dX11_rule_14 (by decide) (fun _ => ?_) (fun c => absurd (by decide) c)
      refine lv_iconst (v := (-1)) hx hb dX11_rule_27 (by decide) ?_
      exact hret (-1) σ τ _ _ _ _ rfl ⟨(fun _ _ => rfl), (by (repeat' split) <;> first | rfl | omega | exact jsame jz_m1 t1 (by omega) | exact jsame jz_m1 t2 (by omega) | exact jsame jz_m1 t3 (by omega) | (exfalso; omega))⟩ hP hS dX11_rule_28
