set_option maxHeartbeats 4000000 in
set_option maxRecDepth 100000 in
theorem c_X11_bowler (l : Launch) (D : va_G) (cI cL : ClassId) (ad zz : Nat → Nat) (hJ : jD ad) (σ : Nat → Nat → Int32) (τ : Nat → Nat → Int64) (a1 : Int32) (A1 : Int) (t1 : a1.toInt = A1) (a2 : Int32) (A2 : Int) (t2 : a2.toInt = A2) (a3 : Int32) (A3 : Int) (t3 : a3.toInt = A3) (hI2 : jI2 σ) : jM l yX11_bowler cX11_bowler 4 (some .int) ({ frames := 1, cells := 0, slots := 0, locals := 25 }) D cI cL ad zz [.ref (ad 0), .int a1, .int a2, .int a3] σ τ (fun r σ' τ' => τ = τ' ∧ (∀ i : Nat, (i < 2 ∨ 5 < i) → σ' i = σ i) ∧ (∀ k : Nat, (k < 0 ∨ 0 < k) → σ' 2 k = σ 2 k) ∧ (jI2 σ') ∧ ((r = (-1) ∧ ((A1 < 0) ∨ (8 < A1) ∨ (A2 < 0) ∨ (50 < A2) ∨ (A3 < 0) ∨ (20 < A3)) ∧ ((σ' 2 0).toInt = (σ 2 0).toInt) ∧ (σ' 3 = σ 3 ∧ σ' 4 = σ 4 ∧ σ' 5 = σ 5)) ∨ (r = (-3) ∧ (0 ≤ A1 ∧ A1 ≤ 8) ∧ (0 ≤ A2 ∧ A2 ≤ 50) ∧ (0 ≤ A3 ∧ A3 ≤ 20) ∧ ((σ 2 0).toInt = 4) ∧ ((σ' 2 0).toInt = 4) ∧ (σ' 3 = σ 3 ∧ σ' 4 = σ 4 ∧ σ' 5 = σ 5)) ∨ (True ∧ (0 ≤ A1 ∧ A1 ≤ 8) ∧ (0 ≤ A2 ∧ A2 ≤ 50) ∧ (0 ≤ A3 ∧ A3 ≤ 20) ∧ ((σ 2 0).toInt < 4) ∧ (r.toInt = (σ 2 0).toInt) ∧ ((σ' 2 0).toInt = (σ 2 0).toInt + 1) ∧ (jJn ((σ 2 0).toInt) a1 (σ 3) (σ' 3)) ∧ (σ' 4 = jupd (σ 4) ((σ 2 0).toInt).toNat a2 ∧ σ' 5 = jupd (σ 5) ((σ 2 0).toInt).toNat a3)))) := by
  refine jM.of hJ (by decide +kernel) (nt := .int) rfl (Nat.le_of_ble_eq_true rfl) ?_
  intro p e s m args below meth c Q ls hC hret hl hP
  obtain ⟨hx, hb, hr, hml, hown, hts, hK, -, hlocks, hZ⟩ := hC
  have hown : s.vm.findClass RX11 = some m.cls := hown
  have hS : va_S (jA ad) s.heap s.heap [] := va_S.rf
  have hA : ∀ q, jA ad q → jA ad q := fun _ h => h
  have hl : lv_has ls 4 [(0, .ref (ad 0)), (1, .int a1), (2, .int a2), (3, .int a3)] := hl
  have g1 := jrg t1
  have g2 := jrg t2
  have g3 := jrg t3
  obtain ⟨i1, i2, i3, i4, i5, w6, w7⟩ : (0 ≤ (σ 2 0).toInt ∧ (σ 2 0).toInt ≤ 4) ∧ (0 ≤ (σ 2 1).toInt ∧ (σ 2 1).toInt ≤ 3) ∧ (0 ≤ (σ 2 2).toInt) ∧ (0 ≤ (σ 2 3).toInt) ∧ ((σ 2 2).toInt + (σ 2 3).toInt ≤ 40) ∧ (∀ k : Nat, k < 40 → 0 ≤ (σ 6 k).toInt ∧ (σ 6 k).toInt ≤ 67) ∧ (∀ k : Nat, k < 4 → 0 ≤ (σ 5 k).toInt ∧ (σ 5 k).toInt ≤ 20) := id hI2
  refine lv_iload_n hx hb dX11_bowler_0 rfl (lv_at hl 1 rfl) ?_
  refine lv_iconst (v := 0) hx hb dX11_bowler_1 (of_decide_eq_true rfl) ?_
  refine lv_bipush (v := 8) hx hb dX11_bowler_2 (of_decide_eq_true rfl) ?_
  refine jcallS (As := [.int a1, .int 0, .int 8]) (rest := []) ⟨hx, hb, hml, hown, hts⟩ hK hP hA hS hZ (c_X11_outside l D cI cL ad zz hJ σ τ a1 (A1) t1 0 (0) jz_0 8 (8) jz_8) cw_RX11_94 ⟨Nat.le_of_ble_eq_true rfl, Nat.le_of_ble_eq_true rfl⟩ rfl rfl rfl hl.1 rfl (Nat.le_of_ble_eq_true rfl) dX11_bowler_4 ⟨Nat.zero_le _, Nat.zero_le _⟩ (fun r9 σ8 τ8 H locs h8 hP hS => ?_)
  obtain ⟨⟨rfl, rfl⟩, h8⟩ := h8
  rcases h8 with h10 | h11
  · obtain ⟨q13, k12⟩ := h10
    have q13 := q13.symm
    subst q13
    refine lv_if_ne (tgt := 30) hx hb dX11_bowler_7 (of_decide_eq_true rfl) (fun _ => ?_) (fun c => absurd c (of_decide_eq_true rfl))
    refine lv_iconst (v := (-1)) hx hb dX11_bowler_30 (of_decide_eq_true rfl) ?_
    exact by exact hret (-1) σ τ _ _ _ _ rfl ⟨rfl, (fun _ _ => rfl), (fun _ _ => rfl), hI2, Or.inl ⟨rfl, (by have h9 := jz_m1; omega), (by have h9 := jz_m1; omega), ⟨rfl, rfl, rfl⟩⟩⟩ hP hS dX11_bowler_31
  · obtain ⟨q15, k14⟩ := h11
    have q15 := q15.symm
    subst q15
    refine lv_if_ne (tgt := 30) hx hb dX11_bowler_7 (of_decide_eq_true rfl) (fun c => absurd (of_decide_eq_true rfl) c) (fun _ => ?_)
    refine lv_iload_n hx hb dX11_bowler_10 rfl (lv_at hl 2 rfl) ?_
    refine lv_iconst (v := 0) hx hb dX11_bowler_11 (of_decide_eq_true rfl) ?_
    refine lv_bipush (v := 50) hx hb dX11_bowler_12 (of_decide_eq_true rfl) ?_
    refine jcallS (As := [.int a2, .int 0, .int 50]) (rest := []) ⟨hx, hb, hml, hown, hts⟩ hK hP hA hS hZ (c_X11_outside l D cI cL ad zz hJ σ τ a2 (A2) t2 0 (0) jz_0 50 (50) jz_50) cw_RX11_94 ⟨Nat.le_of_ble_eq_true rfl, Nat.le_of_ble_eq_true rfl⟩ rfl rfl rfl hl.1 rfl (Nat.le_of_ble_eq_true rfl) dX11_bowler_14 ⟨Nat.zero_le _, Nat.zero_le _⟩ (fun r17 σ16 τ16 H locs h16 hP hS => ?_)
    obtain ⟨⟨rfl, rfl⟩, h16⟩ := h16
    rcases h16 with h18 | h19
    · obtain ⟨q21, k20⟩ := h18
      have q21 := q21.symm
      subst q21
      refine lv_if_ne (tgt := 30) hx hb dX11_bowler_17 (of_decide_eq_true rfl) (fun _ => ?_) (fun c => absurd c (of_decide_eq_true rfl))
      refine lv_iconst (v := (-1)) hx hb dX11_bowler_30 (of_decide_eq_true rfl) ?_
      exact by exact hret (-1) σ τ _ _ _ _ rfl ⟨rfl, (fun _ _ => rfl), (fun _ _ => rfl), hI2, Or.inl ⟨rfl, (by have h9 := jz_m1; omega), (by have h9 := jz_m1; omega), ⟨rfl, rfl, rfl⟩⟩⟩ hP hS dX11_bowler_31
    · obtain ⟨q23, k22⟩ := h19
      have q23 := q23.symm
      subst q23
      refine lv_if_ne (tgt := 30) hx hb dX11_bowler_17 (of_decide_eq_true rfl) (fun c => absurd (of_decide_eq_true rfl) c) (fun _ => ?_)
      refine lv_iload_n hx hb dX11_bowler_20 rfl (lv_at hl 3 rfl) ?_
      refine lv_iconst (v := 0) hx hb dX11_bowler_21 (of_decide_eq_true rfl) ?_
      refine lv_bipush (v := 20) hx hb dX11_bowler_22 (of_decide_eq_true rfl) ?_
      refine jcallS (As := [.int a3, .int 0, .int 20]) (rest := []) ⟨hx, hb, hml, hown, hts⟩ hK hP hA hS hZ (c_X11_outside l D cI cL ad zz hJ σ τ a3 (A3) t3 0 (0) jz_0 20 (20) jz_20) cw_RX11_94 ⟨Nat.le_of_ble_eq_true rfl, Nat.le_of_ble_eq_true rfl⟩ rfl rfl rfl hl.1 rfl (Nat.le_of_ble_eq_true rfl) dX11_bowler_24 ⟨Nat.zero_le _, Nat.zero_le _⟩ (fun r25 σ24 τ24 H locs h24 hP hS => ?_)
      obtain ⟨⟨rfl, rfl⟩, h24⟩ := h24
      rcases h24 with h26 | h27
      · obtain ⟨q29, k28⟩ := h26
        have q29 := q29.symm
        subst q29
        refine lv_if_eq (tgt := 32) hx hb dX11_bowler_27 (of_decide_eq_true rfl) (fun c => absurd c (of_decide_eq_true rfl)) (fun _ => ?_)
        refine lv_iconst (v := (-1)) hx hb dX11_bowler_30 (of_decide_eq_true rfl) ?_
        exact by exact hret (-1) σ τ _ _ _ _ rfl ⟨rfl, (fun _ _ => rfl), (fun _ _ => rfl), hI2, Or.inl ⟨rfl, (by have h9 := jz_m1; omega), (by have h9 := jz_m1; omega), ⟨rfl, rfl, rfl⟩⟩⟩ hP hS dX11_bowler_31
      · obtain ⟨q31, k30⟩ := h27
        have q31 := q31.symm
        subst q31
        refine lv_if_eq (tgt := 32) hx hb dX11_bowler_27 (of_decide_eq_true rfl) (fun _ => ?_) (fun c => absurd (of_decide_eq_true rfl) c)
        refine lv_aload_n hx hb dX11_bowler_32 rfl (lv_at hl 0 rfl) ?_
        refine va_get (D := D) hx hb hts inlX11 hown hK hP 0 (jc_0 cI cL ad σ τ) rfl 0 (of_decide_eq_true rfl) (hts _ kw_1_16) (fun _ h9 => h9) rfl dX11_bowler_33 ?_
        refine va_get (D := D) hx hb hts inlX4 hown hK hP 2 (jc_2 cI cL ad σ τ) rfl 0 (of_decide_eq_true rfl) (hts _ kw_8_21) (fun _ h9 => h9) rfl dX11_bowler_36 ?_
        refine lv_iconst (v := 4) hx hb dX11_bowler_39 (of_decide_eq_true rfl) ?_
        refine lv_icmp_lt (tgt := 46) hx hb dX11_bowler_40 (of_decide_eq_true rfl) (fun c32 => ?_) (fun c32 => ?_)
        · have kc32 := jlt c32 rfl jz_4
          refine lv_aload_n hx hb dX11_bowler_46 rfl (lv_at hl 0 rfl) ?_
          refine va_get (D := D) hx hb hts inlX11 hown hK hP 0 (jc_0 cI cL ad σ τ) rfl 0 (of_decide_eq_true rfl) (hts _ kw_1_16) (fun _ h9 => h9) rfl dX11_bowler_47 ?_
          refine lv_iload_n hx hb dX11_bowler_50 rfl (lv_at hl 1 rfl) ?_
          refine lv_iload_n hx hb dX11_bowler_51 rfl (lv_at hl 2 rfl) ?_
          refine lv_iload_n hx hb dX11_bowler_52 rfl (lv_at hl 3 rfl) ?_
          exact by
           refine jcallV (As := [.int a1, .int a2, .int a3]) (rest := []) ⟨hx, hb, hml, hown, hts⟩ hK hP hA hS hZ (c_X4_join_2 l D cI cL ad zz hJ σ τ a1 (A1) t1 a2 (A2) t2 a3 (A3) t3 hI2 (by omega)) cw_RX11_102 (jc_2 cI cL ad σ τ) rfl ⟨Nat.le_of_ble_eq_true rfl, Nat.le_of_ble_eq_true rfl⟩ rfl rfl rfl hl.1 rfl (Nat.le_of_ble_eq_true rfl) dX11_bowler_53 ⟨Nat.zero_le _, Nat.zero_le _⟩ (fun r34 σ33 τ33 H locs h33 hP hS => ?_)
           obtain ⟨rfl, f35, f36, I37, h33⟩ := h33
           obtain ⟨i39, i40, i41, i42, i43, w44, w45⟩ : (0 ≤ (σ33 2 0).toInt ∧ (σ33 2 0).toInt ≤ 4) ∧ (0 ≤ (σ33 2 1).toInt ∧ (σ33 2 1).toInt ≤ 3) ∧ (0 ≤ (σ33 2 2).toInt) ∧ (0 ≤ (σ33 2 3).toInt) ∧ ((σ33 2 2).toInt + (σ33 2 3).toInt ≤ 40) ∧ (∀ k : Nat, k < 40 → 0 ≤ (σ33 6 k).toInt ∧ (σ33 6 k).toInt ≤ 67) ∧ (∀ k : Nat, k < 4 → 0 ≤ (σ33 5 k).toInt ∧ (σ33 5 k).toInt ≤ 20) := id I37
           have z46 : (σ33 2 1).toInt = (σ 2 1).toInt := (congrArg Int32.toInt (show σ33 2 1 = (σ 2 1) from (f36 1 (of_decide_eq_true rfl))))
           have z47 : (σ33 2 2).toInt = (σ 2 2).toInt := (congrArg Int32.toInt (show σ33 2 2 = (σ 2 2) from (f36 2 (of_decide_eq_true rfl))))
           have z48 : (σ33 2 3).toInt = (σ 2 3).toInt := (congrArg Int32.toInt (show σ33 2 3 = (σ 2 3) from (f36 3 (of_decide_eq_true rfl))))
           rcases h33 with h49 | h50
           · obtain ⟨q54, k51, k52, k53⟩ := h49
             exact absurd (by omega : False) id
           · obtain ⟨q60, k55, k56, k57, k58, k59⟩ := h50
             exact by exact hret r34 σ33 τ _ _ _ _ rfl ⟨rfl, (fun i hi => (f35 i hi)), (fun i hi => (f36 i hi)), I37, Or.inr (Or.inr (⟨trivial, (by omega), (by omega), (by omega), (by omega), (by omega), (by omega), k58, k59⟩))⟩ hP hS dX11_bowler_56
        · have kc32 := jnlt c32 rfl jz_4
          refine lv_bipush (v := (-3)) hx hb dX11_bowler_43 (of_decide_eq_true rfl) ?_
          exact by exact hret (-3) σ τ _ _ _ _ rfl ⟨rfl, (fun _ _ => rfl), (fun _ _ => rfl), hI2, Or.inr (Or.inl ⟨rfl, (by have h9 := jz_m3; omega), (by have h9 := jz_m3; omega), (by have h9 := jz_m3; omega), (by have h9 := jz_m3; omega), (by have h9 := jz_m3; omega), ⟨rfl, rfl, rfl⟩⟩)⟩ hP hS dX11_bowler_45
set_option maxHeartbeats 4000000 in
set_option maxRecDepth 100000 in
theorem c_X11_edgePlace (l : Launch) (D : va_G) (cI cL : ClassId) (ad zz : Nat → Nat) (hJ : jD ad) (σ : Nat → Nat → Int32) (τ : Nat → Nat → Int64) (a1 : Int32) (A1 : Int) (t1 : a1.toInt = A1) (a2 : Int32) (A2 : Int) (t2 : a2.toInt = A2) (hI2 : jI2 σ) : jM l yX11_edgePlace cX11_edgePlace 3 (some .int) ({ frames := 2, cells := 0, slots := 0, locals := 43 }) D cI cL ad zz [.ref (ad 0), .int a1, .int a2] σ τ (fun r σ' τ' => (σ = σ' ∧ τ = τ') ∧ ((True ∧ (A2 = 0) ∧ (0 ≤ A1) ∧ ((A1 / 10) < (σ 2 0).toInt) ∧ ((A1 % 10) ≤ 3) ∧ (r.toInt = 4 * (A1 / 10) + (A1 % 10))) ∨ (True ∧ (A2 = 1) ∧ (0 ≤ A1) ∧ ((A1 / 10) < (σ 2 0).toInt) ∧ ((A1 % 10) ≤ 3) ∧ (r.toInt = 4 * (A1 / 10) + (A1 % 10) + 16)) ∨ (True ∧ (A2 = 2) ∧ (0 ≤ A1) ∧ ((A1 / 10) < (σ 2 0).toInt) ∧ (r.toInt = (A1 / 10) + 32)) ∨ (r = (-1) ∧ ((A1 < 0) ∨ (0 ≤ A1 ∧ (σ 2 0).toInt ≤ (A1 / 10)) ∨ (A2 < 0) ∨ (2 < A2) ∨ (A2 = 0 ∧ 3 < (A1 % 10)) ∨ (A2 = 1 ∧ 3 < (A1 % 10)))))) := by
  refine jM.of hJ (by decide +kernel) (nt := .int) rfl (Nat.le_of_ble_eq_true rfl) ?_
  intro p e s m args below meth c Q ls hC hret hl hP
  obtain ⟨hx, hb, hr, hml, hown, hts, hK, -, hlocks, hZ⟩ := hC
  have hown : s.vm.findClass RX11 = some m.cls := hown
  have hS : va_S (jA ad) s.heap s.heap [] := va_S.rf
  have hA : ∀ q, jA ad q → jA ad q := fun _ h => h
  have hl : lv_has ls 3 [(0, .ref (ad 0)), (1, .int a1), (2, .int a2)] := hl
  have g1 := jrg t1
  have g2 := jrg t2
  obtain ⟨i1, i2, i3, i4, i5, w6, w7⟩ : (0 ≤ (σ 2 0).toInt ∧ (σ 2 0).toInt ≤ 4) ∧ (0 ≤ (σ 2 1).toInt ∧ (σ 2 1).toInt ≤ 3) ∧ (0 ≤ (σ 2 2).toInt) ∧ (0 ≤ (σ 2 3).toInt) ∧ ((σ 2 2).toInt + (σ 2 3).toInt ≤ 40) ∧ (∀ k : Nat, k < 40 → 0 ≤ (σ 6 k).toInt ∧ (σ 6 k).toInt ≤ 67) ∧ (∀ k : Nat, k < 4 → 0 ≤ (σ 5 k).toInt ∧ (σ 5 k).toInt ≤ 20) := id hI2
  refine lv_iload_n hx hb dX11_edgePlace_0 rfl (lv_at hl 1 rfl) ?_
  refine lv_if_lt (tgt := 15) hx hb dX11_edgePlace_1 (of_decide_eq_true rfl) (fun c8 => ?_) (fun c8 => ?_)
  · have kc8 := jlt c8 t1 jz_0
    refine lv_iconst (v := (-1)) hx hb dX11_edgePlace_15 (of_decide_eq_true rfl) ?_
    exact hret (-1) σ τ _ _ _ _ rfl ⟨⟨rfl, rfl⟩, Or.inr (Or.inr (Or.inr (⟨rfl, (by have h9 := jz_m1; omega)⟩)))⟩ hP hS dX11_edgePlace_16
  · have kc8 := jnlt c8 t1 jz_0
    refine lv_aload_n hx hb dX11_edgePlace_4 rfl (lv_at hl 0 rfl) ?_
    refine lv_iload_n hx hb dX11_edgePlace_5 rfl (lv_at hl 1 rfl) ?_
    refine lv_bipush (v := 10) hx hb dX11_edgePlace_6 (of_decide_eq_true rfl) ?_
    refine lv_idiv hx hb dX11_edgePlace_8 (of_decide_eq_true rfl) ?_
    refine lv_topi (fun x9 ex9 => ?_)
    exact by
     have tx9 : x9.toInt = (A1 / 10) := jdiv ex9 t1 jz_10 (by omega) (by omega)
     refine jcallV (As := [.int x9]) (rest := []) ⟨hx, hb, hml, hown, hts⟩ hK hP hA hS hZ (c_X11_noBowler l D cI cL ad zz hJ σ τ x9 ((A1 / 10)) tx9 hI2) cw_RX11_152 (jc_0 cI cL ad σ τ) rfl ⟨Nat.le_of_ble_eq_true rfl, Nat.le_of_ble_eq_true rfl⟩ rfl rfl rfl hl.1 rfl (Nat.le_of_ble_eq_true rfl) dX11_edgePlace_9 ⟨Nat.zero_le _, Nat.zero_le _⟩ (fun r11 σ10 τ10 H locs h10 hP hS => ?_)
     obtain ⟨⟨rfl, rfl⟩, h10⟩ := h10
     rcases h10 with h12 | h13
     · obtain ⟨q15, k14⟩ := h12
       have q15 := q15.symm
       subst q15
       refine lv_if_eq (tgt := 17) hx hb dX11_edgePlace_12 (of_decide_eq_true rfl) (fun c => absurd c (of_decide_eq_true rfl)) (fun _ => ?_)
       refine lv_iconst (v := (-1)) hx hb dX11_edgePlace_15 (of_decide_eq_true rfl) ?_
       exact hret (-1) σ τ _ _ _ _ rfl ⟨⟨rfl, rfl⟩, Or.inr (Or.inr (Or.inr (⟨rfl, (by have h9 := jz_m1; omega)⟩)))⟩ hP hS dX11_edgePlace_16
     · obtain ⟨q17, k16⟩ := h13
       have q17 := q17.symm
       subst q17
       refine lv_if_eq (tgt := 17) hx hb dX11_edgePlace_12 (of_decide_eq_true rfl) (fun _ => ?_) (fun c => absurd (of_decide_eq_true rfl) c)
       refine lv_iload_n hx hb dX11_edgePlace_17 rfl (lv_at hl 2 rfl) ?_
       refine lv_iconst (v := 2) hx hb dX11_edgePlace_18 (of_decide_eq_true rfl) ?_
       refine lv_icmp_ne (tgt := 30) hx hb dX11_edgePlace_19 (of_decide_eq_true rfl) (fun c18 => ?_) (fun c18 => ?_)
       · have kc18 := jne c18 t2 jz_2
         refine lv_iload_n hx hb dX11_edgePlace_30 rfl (lv_at hl 2 rfl) ?_
         refine lv_iconst (v := 0) hx hb dX11_edgePlace_31 (of_decide_eq_true rfl) ?_
         refine lv_iconst (v := 1) hx hb dX11_edgePlace_32 (of_decide_eq_true rfl) ?_
         refine jcallS (As := [.int a2, .int 0, .int 1]) (rest := []) ⟨hx, hb, hml, hown, hts⟩ hK hP hA hS hZ (c_X11_outside l D cI cL ad zz hJ σ τ a2 (A2) t2 0 (0) jz_0 1 (1) jz_1) cw_RX11_94 ⟨Nat.le_of_ble_eq_true rfl, Nat.le_of_ble_eq_true rfl⟩ rfl rfl rfl hl.1 rfl (Nat.le_of_ble_eq_true rfl) dX11_edgePlace_33 ⟨Nat.zero_le _, Nat.zero_le _⟩ (fun r20 σ19 τ19 H locs h19 hP hS => ?_)
         obtain ⟨⟨rfl, rfl⟩, h19⟩ := h19
         rcases h19 with h21 | h22
         · obtain ⟨q24, k23⟩ := h21
           have q24 := q24.symm
           subst q24
           refine lv_if_ne (tgt := 51) hx hb dX11_edgePlace_36 (of_decide_eq_true rfl) (fun _ => ?_) (fun c => absurd c (of_decide_eq_true rfl))
           refine lv_iconst (v := (-1)) hx hb dX11_edgePlace_51 (of_decide_eq_true rfl) ?_
           exact hret (-1) σ τ _ _ _ _ rfl ⟨⟨rfl, rfl⟩, Or.inr (Or.inr (Or.inr (⟨rfl, (by have h9 := jz_m1; omega)⟩)))⟩ hP hS dX11_edgePlace_52
         · obtain ⟨q26, k25⟩ := h22
           have q26 := q26.symm
           subst q26
           refine lv_if_ne (tgt := 51) hx hb dX11_edgePlace_36 (of_decide_eq_true rfl) (fun c => absurd (of_decide_eq_true rfl) c) (fun _ => ?_)
           refine lv_iload_n hx hb dX11_edgePlace_39 rfl (lv_at hl 1 rfl) ?_
           refine lv_bipush (v := 10) hx hb dX11_edgePlace_40 (of_decide_eq_true rfl) ?_
           refine lv_irem hx hb dX11_edgePlace_42 (of_decide_eq_true rfl) ?_
           refine lv_topi (fun x27 ex27 => ?_)
           exact by
            have tx27 : x27.toInt = (A1 % 10) := jrem ex27 t1 jz_10 (by omega)
            refine lv_iconst (v := 0) hx hb dX11_edgePlace_43 (of_decide_eq_true rfl) ?_
            refine lv_iconst (v := 3) hx hb dX11_edgePlace_44 (of_decide_eq_true rfl) ?_
            refine jcallS (As := [.int x27, .int 0, .int 3]) (rest := []) ⟨hx, hb, hml, hown, hts⟩ hK hP hA hS hZ (c_X11_outside l D cI cL ad zz hJ σ τ x27 ((A1 % 10)) tx27 0 (0) jz_0 3 (3) jz_3) cw_RX11_94 ⟨Nat.le_of_ble_eq_true rfl, Nat.le_of_ble_eq_true rfl⟩ rfl rfl rfl hl.1 rfl (Nat.le_of_ble_eq_true rfl) dX11_edgePlace_45 ⟨Nat.zero_le _, Nat.zero_le _⟩ (fun r29 σ28 τ28 H locs h28 hP hS => ?_)
            obtain ⟨⟨rfl, rfl⟩, h28⟩ := h28
            rcases h28 with h30 | h31
            · obtain ⟨q33, k32⟩ := h30
              have q33 := q33.symm
              subst q33
              refine lv_if_eq (tgt := 53) hx hb dX11_edgePlace_48 (of_decide_eq_true rfl) (fun c => absurd c (of_decide_eq_true rfl)) (fun _ => ?_)
              refine lv_iconst (v := (-1)) hx hb dX11_edgePlace_51 (of_decide_eq_true rfl) ?_
              exact hret (-1) σ τ _ _ _ _ rfl ⟨⟨rfl, rfl⟩, Or.inr (Or.inr (Or.inr (⟨rfl, (by have h9 := jz_m1; omega)⟩)))⟩ hP hS dX11_edgePlace_52
            · obtain ⟨q35, k34⟩ := h31
              have q35 := q35.symm
              subst q35
              refine lv_if_eq (tgt := 53) hx hb dX11_edgePlace_48 (of_decide_eq_true rfl) (fun _ => ?_) (fun c => absurd (of_decide_eq_true rfl) c)
              refine lv_iload_n hx hb dX11_edgePlace_53 rfl (lv_at hl 2 rfl) ?_
              refine lv_if_ne (tgt := 61) hx hb dX11_edgePlace_54 (of_decide_eq_true rfl) (fun c36 => ?_) (fun c36 => ?_)
              · have kc36 := jne c36 t2 jz_0
                refine lv_bipush (v := 16) hx hb dX11_edgePlace_61 (of_decide_eq_true rfl) ?_
                refine lv_iload_n hx hb dX11_edgePlace_63 rfl (lv_at hl 1 rfl) ?_
                refine lv_bipush (v := 10) hx hb dX11_edgePlace_64 (of_decide_eq_true rfl) ?_
                refine lv_idiv hx hb dX11_edgePlace_66 (of_decide_eq_true rfl) ?_
                refine lv_topi (fun x37 ex37 => ?_)
                exact by
                 have tx37 : x37.toInt = (A1 / 10) := jdiv ex37 t1 jz_10 (by omega) (by omega)
                 refine lv_iconst (v := 4) hx hb dX11_edgePlace_67 (of_decide_eq_true rfl) ?_
                 refine lv_imul hx hb dX11_edgePlace_68 ?_
                 refine lv_topi (fun x38 ex38 => ?_)
                 have tx38 : x38.toInt = 4 * (A1 / 10) := (jmul ex38 tx37 jz_4 (by omega) (by omega)).trans (by omega)
                 refine lv_iadd hx hb dX11_edgePlace_69 ?_
                 refine lv_topi (fun x39 ex39 => ?_)
                 have tx39 : x39.toInt = 4 * (A1 / 10) + 16 := (jadd ex39 jz_16 tx38 (by omega) (by omega)).trans (by omega)
                 refine lv_iload_n hx hb dX11_edgePlace_70 rfl (lv_at hl 1 rfl) ?_
                 exact by
                  refine lv_bipush (v := 10) hx hb dX11_edgePlace_71 (of_decide_eq_true rfl) ?_
                  refine lv_irem hx hb dX11_edgePlace_73 (of_decide_eq_true rfl) ?_
                  refine lv_topi (fun x40 ex40 => ?_)
                  have tx40 : x40.toInt = (A1 % 10) := jrem ex40 t1 jz_10 (by omega)
                  refine lv_iadd hx hb dX11_edgePlace_74 ?_
                  refine lv_topi (fun x41 ex41 => ?_)
                  have tx41 : x41.toInt = 4 * (A1 / 10) + (A1 % 10) + 16 := (jadd ex41 tx39 tx40 (by omega) (by omega)).trans (by omega)
                  exact by exact hret x41 σ τ _ _ _ _ rfl ⟨⟨rfl, rfl⟩, Or.inr (Or.inl ⟨trivial, (by have h9 := tx41; omega), (by have h9 := tx41; omega), (by have h9 := tx41; omega), (by have h9 := tx41; omega), (by have h9 := tx41; omega)⟩)⟩ hP hS dX11_edgePlace_75
              · have kc36 := jeq c36 t2 jz_0
                exact by
                 refine lv_iconst (v := 0) hx hb dX11_edgePlace_57 (of_decide_eq_true rfl) ?_
                 refine lv_goto (tgt := 63) hx hb dX11_edgePlace_58 (of_decide_eq_true rfl) ?_
                 refine lv_iload_n hx hb dX11_edgePlace_63 rfl (lv_at hl 1 rfl) ?_
                 refine lv_bipush (v := 10) hx hb dX11_edgePlace_64 (of_decide_eq_true rfl) ?_
                 refine lv_idiv hx hb dX11_edgePlace_66 (of_decide_eq_true rfl) ?_
                 refine lv_topi (fun x42 ex42 => ?_)
                 have tx42 : x42.toInt = (A1 / 10) := jdiv ex42 t1 jz_10 (by omega) (by omega)
                 refine lv_iconst (v := 4) hx hb dX11_edgePlace_67 (of_decide_eq_true rfl) ?_
                 refine lv_imul hx hb dX11_edgePlace_68 ?_
                 exact by
                  refine lv_topi (fun x43 ex43 => ?_)
                  have tx43 : x43.toInt = 4 * (A1 / 10) := (jmul ex43 tx42 jz_4 (by omega) (by omega)).trans (by omega)
                  refine lv_iadd hx hb dX11_edgePlace_69 ?_
                  refine jtopr (y := x43) (by rw [Int32.zero_add]) ?_
                  refine lv_iload_n hx hb dX11_edgePlace_70 rfl (lv_at hl 1 rfl) ?_
                  refine lv_bipush (v := 10) hx hb dX11_edgePlace_71 (of_decide_eq_true rfl) ?_
                  refine lv_irem hx hb dX11_edgePlace_73 (of_decide_eq_true rfl) ?_
                  refine lv_topi (fun x44 ex44 => ?_)
                  have tx44 : x44.toInt = (A1 % 10) := jrem ex44 t1 jz_10 (by omega)
                  exact by
                   refine lv_iadd hx hb dX11_edgePlace_74 ?_
                   refine lv_topi (fun x45 ex45 => ?_)
                   have tx45 : x45.toInt = 4 * (A1 / 10) + (A1 % 10) := (jadd ex45 tx43 tx44 (by omega) (by omega)).trans (by omega)
                   exact by exact hret x45 σ τ _ _ _ _ rfl ⟨⟨rfl, rfl⟩, Or.inl ⟨trivial, (by have h9 := tx45; omega), (by have h9 := tx45; omega), (by have h9 := tx45; omega), (by have h9 := tx45; omega), (by have h9 := tx45; omega)⟩⟩ hP hS dX11_edgePlace_75
       · have kc18 := jeq c18 t2 jz_2
         refine lv_bipush (v := 32) hx hb dX11_edgePlace_22 (of_decide_eq_true rfl) ?_
         refine lv_iload_n hx hb dX11_edgePlace_24 rfl (lv_at hl 1 rfl) ?_
         refine lv_bipush (v := 10) hx hb dX11_edgePlace_25 (of_decide_eq_true rfl) ?_
         refine lv_idiv hx hb dX11_edgePlace_27 (of_decide_eq_true rfl) ?_
         exact by
          refine lv_topi (fun x46 ex46 => ?_)
          have tx46 : x46.toInt = (A1 / 10) := jdiv ex46 t1 jz_10 (by omega) (by omega)
          refine lv_iadd hx hb dX11_edgePlace_28 ?_
          refine lv_topi (fun x47 ex47 => ?_)
          have tx47 : x47.toInt = (A1 / 10) + 32 := (jadd ex47 jz_32 tx46 (by omega) (by omega)).trans (by omega)
          exact by exact hret x47 σ τ _ _ _ _ rfl ⟨⟨rfl, rfl⟩, Or.inr (Or.inr (Or.inl ⟨trivial, (by have h9 := tx47; omega), (by have h9 := tx47; omega), (by have h9 := tx47; omega), (by have h9 := tx47; omega)⟩))⟩ hP hS dX11_edgePlace_29
set_option maxHeartbeats 4000000 in
set_option maxRecDepth 100000 in
theorem c_X11_edgePlace_0 (l : Launch) (D : va_G) (cI cL : ClassId) (ad zz : Nat → Nat) (hJ : jD ad) (σ : Nat → Nat → Int32) (τ : Nat → Nat → Int64) (a1 : Int32) (A1 : Int) (t1 : a1.toInt = A1) (hI2 : jI2 σ) : jM l yX11_edgePlace cX11_edgePlace 3 (some .int) ({ frames := 2, cells := 0, slots := 0, locals := 43 }) D cI cL ad zz [.ref (ad 0), .int a1, .int 0] σ τ (fun r σ' τ' => (σ = σ' ∧ τ = τ') ∧ ((True ∧ (0 ≤ r.toInt ∧ r.toInt ≤ 67) ∧ (0 ≤ A1) ∧ ((A1 / 10) < (σ 2 0).toInt) ∧ ((A1 % 10) ≤ 3) ∧ (r.toInt = 4 * (A1 / 10) + (A1 % 10))) ∨ (r = (-1) ∧ ((A1 < 0) ∨ (0 ≤ A1 ∧ (σ 2 0).toInt ≤ (A1 / 10)) ∨ (0 ≤ A1 ∧ 3 < (A1 % 10)))))) := by
  refine jM.of hJ (by decide +kernel) (nt := .int) rfl (Nat.le_of_ble_eq_true rfl) ?_
  intro p e s m args below meth c Q ls hC hret hl hP
  obtain ⟨hx, hb, hr, hml, hown, hts, hK, -, hlocks, hZ⟩ := hC
  have hown : s.vm.findClass RX11 = some m.cls := hown
  have hS : va_S (jA ad) s.heap s.heap [] := va_S.rf
  have hA : ∀ q, jA ad q → jA ad q := fun _ h => h
  have hl : lv_has ls 3 [(0, .ref (ad 0)), (1, .int a1), (2, .int 0)] := hl
  have g1 := jrg t1
  obtain ⟨i1, i2, i3, i4, i5, w6, w7⟩ : (0 ≤ (σ 2 0).toInt ∧ (σ 2 0).toInt ≤ 4) ∧ (0 ≤ (σ 2 1).toInt ∧ (σ 2 1).toInt ≤ 3) ∧ (0 ≤ (σ 2 2).toInt) ∧ (0 ≤ (σ 2 3).toInt) ∧ ((σ 2 2).toInt + (σ 2 3).toInt ≤ 40) ∧ (∀ k : Nat, k < 40 → 0 ≤ (σ 6 k).toInt ∧ (σ 6 k).toInt ≤ 67) ∧ (∀ k : Nat, k < 4 → 0 ≤ (σ 5 k).toInt ∧ (σ 5 k).toInt ≤ 20) := id hI2
  refine lv_iload_n hx hb dX11_edgePlace_0 rfl (lv_at hl 1 rfl) ?_
  refine lv_if_lt (tgt := 15) hx hb dX11_edgePlace_1 (of_decide_eq_true rfl) (fun c8 => ?_) (fun c8 => ?_)
  · have kc8 := jlt c8 t1 jz_0
    refine lv_iconst (v := (-1)) hx hb dX11_edgePlace_15 (of_decide_eq_true rfl) ?_
    exact hret (-1) σ τ _ _ _ _ rfl ⟨⟨rfl, rfl⟩, Or.inr (⟨rfl, (by have h9 := jz_m1; omega)⟩)⟩ hP hS dX11_edgePlace_16
  · have kc8 := jnlt c8 t1 jz_0
    refine lv_aload_n hx hb dX11_edgePlace_4 rfl (lv_at hl 0 rfl) ?_
    refine lv_iload_n hx hb dX11_edgePlace_5 rfl (lv_at hl 1 rfl) ?_
    refine lv_bipush (v := 10) hx hb dX11_edgePlace_6 (of_decide_eq_true rfl) ?_
    refine lv_idiv hx hb dX11_edgePlace_8 (of_decide_eq_true rfl) ?_
    refine lv_topi (fun x9 ex9 => ?_)
    exact by
     have tx9 : x9.toInt = (A1 / 10) := jdiv ex9 t1 jz_10 (by omega) (by omega)
     refine jcallV (As := [.int x9]) (rest := []) ⟨hx, hb, hml, hown, hts⟩ hK hP hA hS hZ (c_X11_noBowler l D cI cL ad zz hJ σ τ x9 ((A1 / 10)) tx9 hI2) cw_RX11_152 (jc_0 cI cL ad σ τ) rfl ⟨Nat.le_of_ble_eq_true rfl, Nat.le_of_ble_eq_true rfl⟩ rfl rfl rfl hl.1 rfl (Nat.le_of_ble_eq_true rfl) dX11_edgePlace_9 ⟨Nat.zero_le _, Nat.zero_le _⟩ (fun r11 σ10 τ10 H locs h10 hP hS => ?_)
     obtain ⟨⟨rfl, rfl⟩, h10⟩ := h10
     rcases h10 with h12 | h13
     · obtain ⟨q15, k14⟩ := h12
       have q15 := q15.symm
       subst q15
       refine lv_if_eq (tgt := 17) hx hb dX11_edgePlace_12 (of_decide_eq_true rfl) (fun c => absurd c (of_decide_eq_true rfl)) (fun _ => ?_)
       refine lv_iconst (v := (-1)) hx hb dX11_edgePlace_15 (of_decide_eq_true rfl) ?_
       exact hret (-1) σ τ _ _ _ _ rfl ⟨⟨rfl, rfl⟩, Or.inr (⟨rfl, (by have h9 := jz_m1; omega)⟩)⟩ hP hS dX11_edgePlace_16
     · obtain ⟨q17, k16⟩ := h13
       have q17 := q17.symm
       subst q17
       refine lv_if_eq (tgt := 17) hx hb dX11_edgePlace_12 (of_decide_eq_true rfl) (fun _ => ?_) (fun c => absurd (of_decide_eq_true rfl) c)
       refine lv_iload_n hx hb dX11_edgePlace_17 rfl (lv_at hl 2 rfl) ?_
       refine lv_iconst (v := 2) hx hb dX11_edgePlace_18 (of_decide_eq_true rfl) ?_
       refine lv_icmp_ne (tgt := 30) hx hb dX11_edgePlace_19 (of_decide_eq_true rfl) (fun _ => ?_) (fun c => absurd c (of_decide_eq_true rfl))
       refine lv_iload_n hx hb dX11_edgePlace_30 rfl (lv_at hl 2 rfl) ?_
       refine lv_iconst (v := 0) hx hb dX11_edgePlace_31 (of_decide_eq_true rfl) ?_
       refine lv_iconst (v := 1) hx hb dX11_edgePlace_32 (of_decide_eq_true rfl) ?_
       refine jcallS (As := [.int 0, .int 0, .int 1]) (rest := []) ⟨hx, hb, hml, hown, hts⟩ hK hP hA hS hZ (c_X11_outside l D cI cL ad zz hJ σ τ 0 (0) jz_0 0 (0) jz_0 1 (1) jz_1) cw_RX11_94 ⟨Nat.le_of_ble_eq_true rfl, Nat.le_of_ble_eq_true rfl⟩ rfl rfl rfl hl.1 rfl (Nat.le_of_ble_eq_true rfl) dX11_edgePlace_33 ⟨Nat.zero_le _, Nat.zero_le _⟩ (fun r19 σ18 τ18 H locs h18 hP hS => ?_)
       obtain ⟨⟨rfl, rfl⟩, h18⟩ := h18
       rcases h18 with h20 | h21
       · obtain ⟨q23, k22⟩ := h20
         exact absurd (by omega : False) id
       · obtain ⟨q25, k24⟩ := h21
         have q25 := q25.symm
         subst q25
         refine lv_if_ne (tgt := 51) hx hb dX11_edgePlace_36 (of_decide_eq_true rfl) (fun c => absurd (of_decide_eq_true rfl) c) (fun _ => ?_)
         refine lv_iload_n hx hb dX11_edgePlace_39 rfl (lv_at hl 1 rfl) ?_
         refine lv_bipush (v := 10) hx hb dX11_edgePlace_40 (of_decide_eq_true rfl) ?_
         refine lv_irem hx hb dX11_edgePlace_42 (of_decide_eq_true rfl) ?_
         refine lv_topi (fun x26 ex26 => ?_)
         exact by
          have tx26 : x26.toInt = (A1 % 10) := jrem ex26 t1 jz_10 (by omega)
          refine lv_iconst (v := 0) hx hb dX11_edgePlace_43 (of_decide_eq_true rfl) ?_
          refine lv_iconst (v := 3) hx hb dX11_edgePlace_44 (of_decide_eq_true rfl) ?_
          refine jcallS (As := [.int x26, .int 0, .int 3]) (rest := []) ⟨hx, hb, hml, hown, hts⟩ hK hP hA hS hZ (c_X11_outside l D cI cL ad zz hJ σ τ x26 ((A1 % 10)) tx26 0 (0) jz_0 3 (3) jz_3) cw_RX11_94 ⟨Nat.le_of_ble_eq_true rfl, Nat.le_of_ble_eq_true rfl⟩ rfl rfl rfl hl.1 rfl (Nat.le_of_ble_eq_true rfl) dX11_edgePlace_45 ⟨Nat.zero_le _, Nat.zero_le _⟩ (fun r28 σ27 τ27 H locs h27 hP hS => ?_)
          obtain ⟨⟨rfl, rfl⟩, h27⟩ := h27
          rcases h27 with h29 | h30
          · obtain ⟨q32, k31⟩ := h29
            have q32 := q32.symm
            subst q32
            refine lv_if_eq (tgt := 53) hx hb dX11_edgePlace_48 (of_decide_eq_true rfl) (fun c => absurd c (of_decide_eq_true rfl)) (fun _ => ?_)
            refine lv_iconst (v := (-1)) hx hb dX11_edgePlace_51 (of_decide_eq_true rfl) ?_
            exact hret (-1) σ τ _ _ _ _ rfl ⟨⟨rfl, rfl⟩, Or.inr (⟨rfl, (by have h9 := jz_m1; omega)⟩)⟩ hP hS dX11_edgePlace_52
          · obtain ⟨q34, k33⟩ := h30
            have q34 := q34.symm
            subst q34
            refine lv_if_eq (tgt := 53) hx hb dX11_edgePlace_48 (of_decide_eq_true rfl) (fun _ => ?_) (fun c => absurd (of_decide_eq_true rfl) c)
            refine lv_iload_n hx hb dX11_edgePlace_53 rfl (lv_at hl 2 rfl) ?_
            refine lv_if_ne (tgt := 61) hx hb dX11_edgePlace_54 (of_decide_eq_true rfl) (fun c => absurd (of_decide_eq_true rfl) c) (fun _ => ?_)
            refine lv_iconst (v := 0) hx hb dX11_edgePlace_57 (of_decide_eq_true rfl) ?_
            refine lv_goto (tgt := 63) hx hb dX11_edgePlace_58 (of_decide_eq_true rfl) ?_
            refine lv_iload_n hx hb dX11_edgePlace_63 rfl (lv_at hl 1 rfl) ?_
            refine lv_bipush (v := 10) hx hb dX11_edgePlace_64 (of_decide_eq_true rfl) ?_
            refine lv_idiv hx hb dX11_edgePlace_66 (of_decide_eq_true rfl) ?_
            refine lv_topi (fun x35 ex35 => ?_)
            exact by
             have tx35 : x35.toInt = (A1 / 10) := jdiv ex35 t1 jz_10 (by omega) (by omega)
             refine lv_iconst (v := 4) hx hb dX11_edgePlace_67 (of_decide_eq_true rfl) ?_
             refine lv_imul hx hb dX11_edgePlace_68 ?_
             refine lv_topi (fun x36 ex36 => ?_)
             have tx36 : x36.toInt = 4 * (A1 / 10) := (jmul ex36 tx35 jz_4 (by omega) (by omega)).trans (by omega)
             refine lv_iadd hx hb dX11_edgePlace_69 ?_
             refine jtopr (y := x36) (by rw [Int32.zero_add]) ?_
             refine lv_iload_n hx hb dX11_edgePlace_70 rfl (lv_at hl 1 rfl) ?_
             refine lv_bipush (v := 10) hx hb dX11_edgePlace_71 (of_decide_eq_true rfl) ?_
             exact by
              refine lv_irem hx hb dX11_edgePlace_73 (of_decide_eq_true rfl) ?_
              refine lv_topi (fun x37 ex37 => ?_)
              have tx37 : x37.toInt = (A1 % 10) := jrem ex37 t1 jz_10 (by omega)
              refine lv_iadd hx hb dX11_edgePlace_74 ?_
              refine lv_topi (fun x38 ex38 => ?_)
              have tx38 : x38.toInt = 4 * (A1 / 10) + (A1 % 10) := (jadd ex38 tx36 tx37 (by omega) (by omega)).trans (by omega)
              exact by exact hret x38 σ τ _ _ _ _ rfl ⟨⟨rfl, rfl⟩, Or.inl ⟨trivial, (by have h9 := tx38; omega), (by have h9 := tx38; omega), (by have h9 := tx38; omega), (by have h9 := tx38; omega), (by have h9 := tx38; omega)⟩⟩ hP hS dX11_edgePlace_75
set_option maxHeartbeats 4000000 in
set_option maxRecDepth 100000 in
theorem c_X11_edge (l : Launch) (D : va_G) (cI cL : ClassId) (ad zz : Nat → Nat) (hJ : jD ad) (σ : Nat → Nat → Int32) (τ : Nat → Nat → Int64) (a1 : Int32) (A1 : Int) (t1 : a1.toInt = A1) (a2 : Int32) (A2 : Int) (t2 : a2.toInt = A2) (a3 : Int32) (A3 : Int) (t3 : a3.toInt = A3) (hI2 : jI2 σ) : jM l yX11_edge cX11_edge 5 (some .int) ({ frames := 3, cells := 0, slots := 0, locals := 65 }) D cI cL ad zz [.ref (ad 0), .int a1, .int a2, .int a3] σ τ (fun r σ' τ' => τ = τ' ∧ (∀ i : Nat, (i < 2 ∨ 3 < i) ∧ (i < 6 ∨ 8 < i) → σ' i = σ i) ∧ (∀ k : Nat, (k < 2 ∨ 2 < k) ∧ (k < 3 ∨ 3 < k) → σ' 2 k = σ 2 k) ∧ (jI2 σ') ∧ ((r = (-2000000000) ∧ ((σ' 2 2).toInt = (σ 2 2).toInt) ∧ ((σ' 2 3).toInt = (σ 2 3).toInt) ∧ (¬ jEok (A1) (A2) (A3) ((σ 2 0).toInt)) ∧ (σ' 3 = σ 3 ∧ σ' 6 = σ 6 ∧ σ' 7 = σ 7 ∧ σ' 8 = σ 8)) ∨ (True ∧ (jEok (A1) (A2) (A3) ((σ 2 0).toInt) ∧ ∃ q : Int, jEpl (A1) (A2) q ∧ jChg (q) a3 r (σ 3) (σ' 3) (σ 6) (σ' 6) (σ 7) (σ' 7) (σ 8) (σ' 8) (σ 2 2).toInt (σ' 2 2).toInt ((σ 2 2).toInt + (σ 2 3).toInt) ((σ' 2 2).toInt + (σ' 2 3).toInt))))) := by
  refine jM.of hJ (by decide +kernel) (nt := .int) rfl (Nat.le_of_ble_eq_true rfl) ?_
  intro p e s m args below meth c Q ls hC hret hl hP
  obtain ⟨hx, hb, hr, hml, hown, hts, hK, -, hlocks, hZ⟩ := hC
  have hown : s.vm.findClass RX11 = some m.cls := hown
  have hS : va_S (jA ad) s.heap s.heap [] := va_S.rf
  have hA : ∀ q, jA ad q → jA ad q := fun _ h => h
  have hl : lv_has ls 5 [(0, .ref (ad 0)), (1, .int a1), (2, .int a2), (3, .int a3)] := hl
  have g1 := jrg t1
  have g2 := jrg t2
  have g3 := jrg t3
  obtain ⟨i1, i2, i3, i4, i5, w6, w7⟩ : (0 ≤ (σ 2 0).toInt ∧ (σ 2 0).toInt ≤ 4) ∧ (0 ≤ (σ 2 1).toInt ∧ (σ 2 1).toInt ≤ 3) ∧ (0 ≤ (σ 2 2).toInt) ∧ (0 ≤ (σ 2 3).toInt) ∧ ((σ 2 2).toInt + (σ 2 3).toInt ≤ 40) ∧ (∀ k : Nat, k < 40 → 0 ≤ (σ 6 k).toInt ∧ (σ 6 k).toInt ≤ 67) ∧ (∀ k : Nat, k < 4 → 0 ≤ (σ 5 k).toInt ∧ (σ 5 k).toInt ≤ 20) := id hI2
  refine lv_aload_n hx hb dX11_edge_0 rfl (lv_at hl 0 rfl) ?_
  refine lv_iload_n hx hb dX11_edge_1 rfl (lv_at hl 1 rfl) ?_
  refine lv_iload_n hx hb dX11_edge_2 rfl (lv_at hl 2 rfl) ?_
  refine jcallV (As := [.int a1, .int a2]) (rest := []) ⟨hx, hb, hml, hown, hts⟩ hK hP hA hS hZ (c_X11_edgePlace l D cI cL ad zz hJ σ τ a1 (A1) t1 a2 (A2) t2 hI2) cw_RX11_106 (jc_0 cI cL ad σ τ) rfl ⟨Nat.le_of_ble_eq_true rfl, Nat.le_of_ble_eq_true rfl⟩ rfl rfl rfl hl.1 rfl (Nat.le_of_ble_eq_true rfl) dX11_edge_3 ⟨Nat.zero_le _, Nat.zero_le _⟩ (fun r9 σ8 τ8 H locs h8 hP hS => ?_)
  obtain ⟨⟨rfl, rfl⟩, h8⟩ := h8
  rcases h8 with h10 | h11 | h12 | h13
  · obtain ⟨q19, k14, k15, k16, k17, k18⟩ := h10
    refine lv_istore (lv' := [(4, .int r9), (0, .ref (ad 0)), (1, .int a1), (2, .int a2), (3, .int a3)]) hx hb dX11_edge_6 hl (of_decide_eq_true rfl) rfl (fun ls hl => ?_)
    refine lv_iload hx hb dX11_edge_8 (lv_at hl 0 rfl) ?_
    refine lv_if_lt (tgt := 30) hx hb dX11_edge_10 (of_decide_eq_true rfl) (fun c20 => ?_) (fun c20 => ?_)
    · have kc20 := jlt c20 rfl jz_0
      refine lv_ldc (v := (-2000000000)) hx hb hown (hts _ kw_9_21) dX11_edge_30 ?_
      exact by exact hret (-2000000000) σ τ _ _ _ _ rfl ⟨rfl, (fun _ _ => rfl), (fun _ _ => rfl), hI2, Or.inl ⟨rfl, (by have h9 := jz_m2000000000; omega), (by have h9 := jz_m2000000000; omega), (fun h => by unfold jEok at h; omega), ⟨rfl, rfl, rfl, rfl⟩⟩⟩ hP hS dX11_edge_32
    · have kc20 := jnlt c20 rfl jz_0
      refine lv_iload_n hx hb dX11_edge_13 rfl (lv_at hl 4 rfl) ?_
      refine lv_iload hx hb dX11_edge_14 (lv_at hl 0 rfl) ?_
      refine jcallS (As := [.int r9]) (rest := [.int a3]) ⟨hx, hb, hml, hown, hts⟩ hK hP hA hS hZ (c_X4_lowest l D cI cL ad zz hJ σ τ r9 (r9.toInt) rfl) cw_RX11_110 ⟨Nat.le_of_ble_eq_true rfl, Nat.le_of_ble_eq_true rfl⟩ rfl rfl rfl hl.1 rfl (Nat.le_of_ble_eq_true rfl) dX11_edge_16 ⟨Nat.zero_le _, Nat.zero_le _⟩ (fun r22 σ21 τ21 H locs h21 hP hS => ?_)
      obtain ⟨⟨rfl, rfl⟩, h21⟩ := h21
      rcases h21 with h23 | h24 | h25
      · obtain ⟨q27, k26⟩ := h23
        have q27 := q27.symm
        subst q27
        refine lv_iload hx hb dX11_edge_19 (lv_at hl 0 rfl) ?_
        refine jcallS (As := [.int r9]) (rest := [.int 0, .int a3]) ⟨hx, hb, hml, hown, hts⟩ hK hP hA hS hZ (c_X4_highest l D cI cL ad zz hJ σ τ r9 (r9.toInt) rfl) cw_RX11_114 ⟨Nat.le_of_ble_eq_true rfl, Nat.le_of_ble_eq_true rfl⟩ rfl rfl rfl hl.1 rfl (Nat.le_of_ble_eq_true rfl) dX11_edge_21 ⟨Nat.zero_le _, Nat.zero_le _⟩ (fun r29 σ28 τ28 H locs h28 hP hS => ?_)
        obtain ⟨⟨rfl, rfl⟩, h28⟩ := h28
        rcases h28 with h30 | h31 | h32 | h33
        · obtain ⟨q35, k34⟩ := h30
          have q35 := q35.symm
          subst q35
          refine jcallS (As := [.int a3, .int 0, .int 500]) (rest := []) ⟨hx, hb, hml, hown, hts⟩ hK hP hA hS hZ (c_X11_outside l D cI cL ad zz hJ σ τ a3 (A3) t3 0 (0) jz_0 500 (500) jz_500) cw_RX11_94 ⟨Nat.le_of_ble_eq_true rfl, Nat.le_of_ble_eq_true rfl⟩ rfl rfl rfl hl.1 rfl (Nat.le_of_ble_eq_true rfl) dX11_edge_24 ⟨Nat.zero_le _, Nat.zero_le _⟩ (fun r37 σ36 τ36 H locs h36 hP hS => ?_)
          obtain ⟨⟨rfl, rfl⟩, h36⟩ := h36
          rcases h36 with h38 | h39
          · obtain ⟨q41, k40⟩ := h38
            have q41 := q41.symm
            subst q41
            refine lv_if_eq (tgt := 33) hx hb dX11_edge_27 (of_decide_eq_true rfl) (fun c => absurd c (of_decide_eq_true rfl)) (fun _ => ?_)
            refine lv_ldc (v := (-2000000000)) hx hb hown (hts _ kw_9_21) dX11_edge_30 ?_
            exact by exact hret (-2000000000) σ τ _ _ _ _ rfl ⟨rfl, (fun _ _ => rfl), (fun _ _ => rfl), hI2, Or.inl ⟨rfl, (by have h9 := jz_m2000000000; omega), (by have h9 := jz_m2000000000; omega), (fun h => by unfold jEok at h; omega), ⟨rfl, rfl, rfl, rfl⟩⟩⟩ hP hS dX11_edge_32
          · obtain ⟨q43, k42⟩ := h39
            have q43 := q43.symm
            subst q43
            refine lv_if_eq (tgt := 33) hx hb dX11_edge_27 (of_decide_eq_true rfl) (fun _ => ?_) (fun c => absurd (of_decide_eq_true rfl) c)
            refine lv_aload_n hx hb dX11_edge_33 rfl (lv_at hl 1 rfl) ?_
            refine va_get (D := D) hx hb hts inlX11 hown hK hP 0 (jc_0 cI cL ad σ τ) rfl 0 (of_decide_eq_true rfl) (hts _ kw_1_16) (fun _ h9 => h9) rfl dX11_edge_34 ?_
            refine lv_iload hx hb dX11_edge_37 (lv_at hl 0 rfl) ?_
            refine lv_iload_n hx hb dX11_edge_39 rfl (lv_at hl 4 rfl) ?_
            exact by
             refine jcallV (As := [.int r9, .int a3]) (rest := []) ⟨hx, hb, hml, hown, hts⟩ hK hP hA hS hZ (c_X4_change_2 l D cI cL ad zz hJ σ τ r9 (r9.toInt) rfl a3 (A3) t3 hI2 (by omega)) cw_RX11_118 (jc_2 cI cL ad σ τ) rfl ⟨Nat.le_of_ble_eq_true rfl, Nat.le_of_ble_eq_true rfl⟩ rfl rfl rfl hl.1 rfl (Nat.le_of_ble_eq_true rfl) dX11_edge_40 ⟨Nat.zero_le _, Nat.zero_le _⟩ (fun r45 σ44 τ44 H locs h44 hP hS => ?_)
             obtain ⟨rfl, f46, f47, I48, w49, h44⟩ := h44
             obtain ⟨i51, i52, i53, i54, i55, w56, w57⟩ : (0 ≤ (σ44 2 0).toInt ∧ (σ44 2 0).toInt ≤ 4) ∧ (0 ≤ (σ44 2 1).toInt ∧ (σ44 2 1).toInt ≤ 3) ∧ (0 ≤ (σ44 2 2).toInt) ∧ (0 ≤ (σ44 2 3).toInt) ∧ ((σ44 2 2).toInt + (σ44 2 3).toInt ≤ 40) ∧ (∀ k : Nat, k < 40 → 0 ≤ (σ44 6 k).toInt ∧ (σ44 6 k).toInt ≤ 67) ∧ (∀ k : Nat, k < 4 → 0 ≤ (σ44 5 k).toInt ∧ (σ44 5 k).toInt ≤ 20) := id I48
             have z58 : (σ44 2 0).toInt = (σ 2 0).toInt := (congrArg Int32.toInt (show σ44 2 0 = (σ 2 0) from (f47 0 (of_decide_eq_true rfl))))
             have z59 : (σ44 2 1).toInt = (σ 2 1).toInt := (congrArg Int32.toInt (show σ44 2 1 = (σ 2 1) from (f47 1 (of_decide_eq_true rfl))))
             exact by exact hret r45 σ44 τ _ _ _ _ rfl ⟨rfl, (fun i hi => (f46 i hi)), (fun i hi => (f47 i hi)), I48, Or.inr (⟨trivial, ⟨(by unfold jEok; omega), r9.toInt, (by unfold jEpl; omega), w49⟩⟩)⟩ hP hS dX11_edge_43
        · obtain ⟨q61, k60⟩ := h31
          exact absurd (by omega : False) id
        · obtain ⟨q63, k62⟩ := h32
          exact absurd (by omega : False) id
        · obtain ⟨q65, k64⟩ := h33
          exact absurd (by omega : False) id
      · obtain ⟨q67, k66⟩ := h24
        exact absurd (by omega : False) id
      · obtain ⟨q69, k68⟩ := h25
        exact absurd (by omega : False) id
  · obtain ⟨q75, k70, k71, k72, k73, k74⟩ := h11
    refine lv_istore (lv' := [(4, .int r9), (0, .ref (ad 0)), (1, .int a1), (2, .int a2), (3, .int a3)]) hx hb dX11_edge_6 hl (of_decide_eq_true rfl) rfl (fun ls hl => ?_)
    refine lv_iload hx hb dX11_edge_8 (lv_at hl 0 rfl) ?_
    refine lv_if_lt (tgt := 30) hx hb dX11_edge_10 (of_decide_eq_true rfl) (fun c76 => ?_) (fun c76 => ?_)
    · have kc76 := jlt c76 rfl jz_0
      refine lv_ldc (v := (-2000000000)) hx hb hown (hts _ kw_9_21) dX11_edge_30 ?_
      exact by exact hret (-2000000000) σ τ _ _ _ _ rfl ⟨rfl, (fun _ _ => rfl), (fun _ _ => rfl), hI2, Or.inl ⟨rfl, (by have h9 := jz_m2000000000; omega), (by have h9 := jz_m2000000000; omega), (fun h => by unfold jEok at h; omega), ⟨rfl, rfl, rfl, rfl⟩⟩⟩ hP hS dX11_edge_32
    · have kc76 := jnlt c76 rfl jz_0
      refine lv_iload_n hx hb dX11_edge_13 rfl (lv_at hl 4 rfl) ?_
      refine lv_iload hx hb dX11_edge_14 (lv_at hl 0 rfl) ?_
      refine jcallS (As := [.int r9]) (rest := [.int a3]) ⟨hx, hb, hml, hown, hts⟩ hK hP hA hS hZ (c_X4_lowest l D cI cL ad zz hJ σ τ r9 (r9.toInt) rfl) cw_RX11_110 ⟨Nat.le_of_ble_eq_true rfl, Nat.le_of_ble_eq_true rfl⟩ rfl rfl rfl hl.1 rfl (Nat.le_of_ble_eq_true rfl) dX11_edge_16 ⟨Nat.zero_le _, Nat.zero_le _⟩ (fun r78 σ77 τ77 H locs h77 hP hS => ?_)
      obtain ⟨⟨rfl, rfl⟩, h77⟩ := h77
      rcases h77 with h79 | h80 | h81
      · obtain ⟨q83, k82⟩ := h79
        have q83 := q83.symm
        subst q83
        refine lv_iload hx hb dX11_edge_19 (lv_at hl 0 rfl) ?_
        refine jcallS (As := [.int r9]) (rest := [.int 0, .int a3]) ⟨hx, hb, hml, hown, hts⟩ hK hP hA hS hZ (c_X4_highest l D cI cL ad zz hJ σ τ r9 (r9.toInt) rfl) cw_RX11_114 ⟨Nat.le_of_ble_eq_true rfl, Nat.le_of_ble_eq_true rfl⟩ rfl rfl rfl hl.1 rfl (Nat.le_of_ble_eq_true rfl) dX11_edge_21 ⟨Nat.zero_le _, Nat.zero_le _⟩ (fun r85 σ84 τ84 H locs h84 hP hS => ?_)
        obtain ⟨⟨rfl, rfl⟩, h84⟩ := h84
        rcases h84 with h86 | h87 | h88 | h89
        · obtain ⟨q91, k90⟩ := h86
          have q91 := q91.symm
          subst q91
          refine jcallS (As := [.int a3, .int 0, .int 500]) (rest := []) ⟨hx, hb, hml, hown, hts⟩ hK hP hA hS hZ (c_X11_outside l D cI cL ad zz hJ σ τ a3 (A3) t3 0 (0) jz_0 500 (500) jz_500) cw_RX11_94 ⟨Nat.le_of_ble_eq_true rfl, Nat.le_of_ble_eq_true rfl⟩ rfl rfl rfl hl.1 rfl (Nat.le_of_ble_eq_true rfl) dX11_edge_24 ⟨Nat.zero_le _, Nat.zero_le _⟩ (fun r93 σ92 τ92 H locs h92 hP hS => ?_)
          obtain ⟨⟨rfl, rfl⟩, h92⟩ := h92
          rcases h92 with h94 | h95
          · obtain ⟨q97, k96⟩ := h94
            have q97 := q97.symm
            subst q97
            refine lv_if_eq (tgt := 33) hx hb dX11_edge_27 (of_decide_eq_true rfl) (fun c => absurd c (of_decide_eq_true rfl)) (fun _ => ?_)
            refine lv_ldc (v := (-2000000000)) hx hb hown (hts _ kw_9_21) dX11_edge_30 ?_
            exact by exact hret (-2000000000) σ τ _ _ _ _ rfl ⟨rfl, (fun _ _ => rfl), (fun _ _ => rfl), hI2, Or.inl ⟨rfl, (by have h9 := jz_m2000000000; omega), (by have h9 := jz_m2000000000; omega), (fun h => by unfold jEok at h; omega), ⟨rfl, rfl, rfl, rfl⟩⟩⟩ hP hS dX11_edge_32
          · obtain ⟨q99, k98⟩ := h95
            have q99 := q99.symm
            subst q99
            refine lv_if_eq (tgt := 33) hx hb dX11_edge_27 (of_decide_eq_true rfl) (fun _ => ?_) (fun c => absurd (of_decide_eq_true rfl) c)
            refine lv_aload_n hx hb dX11_edge_33 rfl (lv_at hl 1 rfl) ?_
            refine va_get (D := D) hx hb hts inlX11 hown hK hP 0 (jc_0 cI cL ad σ τ) rfl 0 (of_decide_eq_true rfl) (hts _ kw_1_16) (fun _ h9 => h9) rfl dX11_edge_34 ?_
            refine lv_iload hx hb dX11_edge_37 (lv_at hl 0 rfl) ?_
            refine lv_iload_n hx hb dX11_edge_39 rfl (lv_at hl 4 rfl) ?_
            exact by
             refine jcallV (As := [.int r9, .int a3]) (rest := []) ⟨hx, hb, hml, hown, hts⟩ hK hP hA hS hZ (c_X4_change_2 l D cI cL ad zz hJ σ τ r9 (r9.toInt) rfl a3 (A3) t3 hI2 (by omega)) cw_RX11_118 (jc_2 cI cL ad σ τ) rfl ⟨Nat.le_of_ble_eq_true rfl, Nat.le_of_ble_eq_true rfl⟩ rfl rfl rfl hl.1 rfl (Nat.le_of_ble_eq_true rfl) dX11_edge_40 ⟨Nat.zero_le _, Nat.zero_le _⟩ (fun r101 σ100 τ100 H locs h100 hP hS => ?_)
             obtain ⟨rfl, f102, f103, I104, w105, h100⟩ := h100
             obtain ⟨i107, i108, i109, i110, i111, w112, w113⟩ : (0 ≤ (σ100 2 0).toInt ∧ (σ100 2 0).toInt ≤ 4) ∧ (0 ≤ (σ100 2 1).toInt ∧ (σ100 2 1).toInt ≤ 3) ∧ (0 ≤ (σ100 2 2).toInt) ∧ (0 ≤ (σ100 2 3).toInt) ∧ ((σ100 2 2).toInt + (σ100 2 3).toInt ≤ 40) ∧ (∀ k : Nat, k < 40 → 0 ≤ (σ100 6 k).toInt ∧ (σ100 6 k).toInt ≤ 67) ∧ (∀ k : Nat, k < 4 → 0 ≤ (σ100 5 k).toInt ∧ (σ100 5 k).toInt ≤ 20) := id I104
             have z114 : (σ100 2 0).toInt = (σ 2 0).toInt := (congrArg Int32.toInt (show σ100 2 0 = (σ 2 0) from (f103 0 (of_decide_eq_true rfl))))
             have z115 : (σ100 2 1).toInt = (σ 2 1).toInt := (congrArg Int32.toInt (show σ100 2 1 = (σ 2 1) from (f103 1 (of_decide_eq_true rfl))))
             exact by exact hret r101 σ100 τ _ _ _ _ rfl ⟨rfl, (fun i hi => (f102 i hi)), (fun i hi => (f103 i hi)), I104, Or.inr (⟨trivial, ⟨(by unfold jEok; omega), r9.toInt, (by unfold jEpl; omega), w105⟩⟩)⟩ hP hS dX11_edge_43
        · obtain ⟨q117, k116⟩ := h87
          exact absurd (by omega : False) id
        · obtain ⟨q119, k118⟩ := h88
          exact absurd (by omega : False) id
        · obtain ⟨q121, k120⟩ := h89
          exact absurd (by omega : False) id
      · obtain ⟨q123, k122⟩ := h80
        exact absurd (by omega : False) id
      · obtain ⟨q125, k124⟩ := h81
        have q125 := q125.symm
        subst q125
        refine lv_iload hx hb dX11_edge_19 (lv_at hl 0 rfl) ?_
        refine jcallS (As := [.int r9]) (rest := [.int (-9), .int a3]) ⟨hx, hb, hml, hown, hts⟩ hK hP hA hS hZ (c_X4_highest l D cI cL ad zz hJ σ τ r9 (r9.toInt) rfl) cw_RX11_114 ⟨Nat.le_of_ble_eq_true rfl, Nat.le_of_ble_eq_true rfl⟩ rfl rfl rfl hl.1 rfl (Nat.le_of_ble_eq_true rfl) dX11_edge_21 ⟨Nat.zero_le _, Nat.zero_le _⟩ (fun r127 σ126 τ126 H locs h126 hP hS => ?_)
        obtain ⟨⟨rfl, rfl⟩, h126⟩ := h126
        rcases h126 with h128 | h129 | h130 | h131
        · obtain ⟨q133, k132⟩ := h128
          exact absurd (by omega : False) id
        · obtain ⟨q135, k134⟩ := h129
          have q135 := q135.symm
          subst q135
          refine jcallS (As := [.int a3, .int (-9), .int 9]) (rest := []) ⟨hx, hb, hml, hown, hts⟩ hK hP hA hS hZ (c_X11_outside l D cI cL ad zz hJ σ τ a3 (A3) t3 (-9) ((-9)) jz_m9 9 (9) jz_9) cw_RX11_94 ⟨Nat.le_of_ble_eq_true rfl, Nat.le_of_ble_eq_true rfl⟩ rfl rfl rfl hl.1 rfl (Nat.le_of_ble_eq_true rfl) dX11_edge_24 ⟨Nat.zero_le _, Nat.zero_le _⟩ (fun r137 σ136 τ136 H locs h136 hP hS => ?_)
          obtain ⟨⟨rfl, rfl⟩, h136⟩ := h136
          rcases h136 with h138 | h139
          · obtain ⟨q141, k140⟩ := h138
            have q141 := q141.symm
            subst q141
            refine lv_if_eq (tgt := 33) hx hb dX11_edge_27 (of_decide_eq_true rfl) (fun c => absurd c (of_decide_eq_true rfl)) (fun _ => ?_)
            refine lv_ldc (v := (-2000000000)) hx hb hown (hts _ kw_9_21) dX11_edge_30 ?_
            exact by exact hret (-2000000000) σ τ _ _ _ _ rfl ⟨rfl, (fun _ _ => rfl), (fun _ _ => rfl), hI2, Or.inl ⟨rfl, (by have h9 := jz_m2000000000; omega), (by have h9 := jz_m2000000000; omega), (fun h => by unfold jEok at h; omega), ⟨rfl, rfl, rfl, rfl⟩⟩⟩ hP hS dX11_edge_32
          · obtain ⟨q143, k142⟩ := h139
            have q143 := q143.symm
            subst q143
            refine lv_if_eq (tgt := 33) hx hb dX11_edge_27 (of_decide_eq_true rfl) (fun _ => ?_) (fun c => absurd (of_decide_eq_true rfl) c)
            refine lv_aload_n hx hb dX11_edge_33 rfl (lv_at hl 1 rfl) ?_
            refine va_get (D := D) hx hb hts inlX11 hown hK hP 0 (jc_0 cI cL ad σ τ) rfl 0 (of_decide_eq_true rfl) (hts _ kw_1_16) (fun _ h9 => h9) rfl dX11_edge_34 ?_
            refine lv_iload hx hb dX11_edge_37 (lv_at hl 0 rfl) ?_
            refine lv_iload_n hx hb dX11_edge_39 rfl (lv_at hl 4 rfl) ?_
            exact by
             refine jcallV (As := [.int r9, .int a3]) (rest := []) ⟨hx, hb, hml, hown, hts⟩ hK hP hA hS hZ (c_X4_change_2 l D cI cL ad zz hJ σ τ r9 (r9.toInt) rfl a3 (A3) t3 hI2 (by omega)) cw_RX11_118 (jc_2 cI cL ad σ τ) rfl ⟨Nat.le_of_ble_eq_true rfl, Nat.le_of_ble_eq_true rfl⟩ rfl rfl rfl hl.1 rfl (Nat.le_of_ble_eq_true rfl) dX11_edge_40 ⟨Nat.zero_le _, Nat.zero_le _⟩ (fun r145 σ144 τ144 H locs h144 hP hS => ?_)
             obtain ⟨rfl, f146, f147, I148, w149, h144⟩ := h144
             obtain ⟨i151, i152, i153, i154, i155, w156, w157⟩ : (0 ≤ (σ144 2 0).toInt ∧ (σ144 2 0).toInt ≤ 4) ∧ (0 ≤ (σ144 2 1).toInt ∧ (σ144 2 1).toInt ≤ 3) ∧ (0 ≤ (σ144 2 2).toInt) ∧ (0 ≤ (σ144 2 3).toInt) ∧ ((σ144 2 2).toInt + (σ144 2 3).toInt ≤ 40) ∧ (∀ k : Nat, k < 40 → 0 ≤ (σ144 6 k).toInt ∧ (σ144 6 k).toInt ≤ 67) ∧ (∀ k : Nat, k < 4 → 0 ≤ (σ144 5 k).toInt ∧ (σ144 5 k).toInt ≤ 20) := id I148
             have z158 : (σ144 2 0).toInt = (σ 2 0).toInt := (congrArg Int32.toInt (show σ144 2 0 = (σ 2 0) from (f147 0 (of_decide_eq_true rfl))))
             have z159 : (σ144 2 1).toInt = (σ 2 1).toInt := (congrArg Int32.toInt (show σ144 2 1 = (σ 2 1) from (f147 1 (of_decide_eq_true rfl))))
             exact by exact hret r145 σ144 τ _ _ _ _ rfl ⟨rfl, (fun i hi => (f146 i hi)), (fun i hi => (f147 i hi)), I148, Or.inr (⟨trivial, ⟨(by unfold jEok; omega), r9.toInt, (by unfold jEpl; omega), w149⟩⟩)⟩ hP hS dX11_edge_43
        · obtain ⟨q161, k160⟩ := h130
          exact absurd (by omega : False) id
        · obtain ⟨q163, k162⟩ := h131
          exact absurd (by omega : False) id
  · obtain ⟨q168, k164, k165, k166, k167⟩ := h12
    refine lv_istore (lv' := [(4, .int r9), (0, .ref (ad 0)), (1, .int a1), (2, .int a2), (3, .int a3)]) hx hb dX11_edge_6 hl (of_decide_eq_true rfl) rfl (fun ls hl => ?_)
    refine lv_iload hx hb dX11_edge_8 (lv_at hl 0 rfl) ?_
    refine lv_if_lt (tgt := 30) hx hb dX11_edge_10 (of_decide_eq_true rfl) (fun c169 => ?_) (fun c169 => ?_)
    · have kc169 := jlt c169 rfl jz_0
      refine lv_ldc (v := (-2000000000)) hx hb hown (hts _ kw_9_21) dX11_edge_30 ?_
      exact by exact hret (-2000000000) σ τ _ _ _ _ rfl ⟨rfl, (fun _ _ => rfl), (fun _ _ => rfl), hI2, Or.inl ⟨rfl, (by have h9 := jz_m2000000000; omega), (by have h9 := jz_m2000000000; omega), (fun h => by unfold jEok at h; omega), ⟨rfl, rfl, rfl, rfl⟩⟩⟩ hP hS dX11_edge_32
    · have kc169 := jnlt c169 rfl jz_0
      refine lv_iload_n hx hb dX11_edge_13 rfl (lv_at hl 4 rfl) ?_
      refine lv_iload hx hb dX11_edge_14 (lv_at hl 0 rfl) ?_
      refine jcallS (As := [.int r9]) (rest := [.int a3]) ⟨hx, hb, hml, hown, hts⟩ hK hP hA hS hZ (c_X4_lowest l D cI cL ad zz hJ σ τ r9 (r9.toInt) rfl) cw_RX11_110 ⟨Nat.le_of_ble_eq_true rfl, Nat.le_of_ble_eq_true rfl⟩ rfl rfl rfl hl.1 rfl (Nat.le_of_ble_eq_true rfl) dX11_edge_16 ⟨Nat.zero_le _, Nat.zero_le _⟩ (fun r171 σ170 τ170 H locs h170 hP hS => ?_)
      obtain ⟨⟨rfl, rfl⟩, h170⟩ := h170
      rcases h170 with h172 | h173 | h174
      · obtain ⟨q176, k175⟩ := h172
        have q176 := q176.symm
        subst q176
        refine lv_iload hx hb dX11_edge_19 (lv_at hl 0 rfl) ?_
        refine jcallS (As := [.int r9]) (rest := [.int 0, .int a3]) ⟨hx, hb, hml, hown, hts⟩ hK hP hA hS hZ (c_X4_highest l D cI cL ad zz hJ σ τ r9 (r9.toInt) rfl) cw_RX11_114 ⟨Nat.le_of_ble_eq_true rfl, Nat.le_of_ble_eq_true rfl⟩ rfl rfl rfl hl.1 rfl (Nat.le_of_ble_eq_true rfl) dX11_edge_21 ⟨Nat.zero_le _, Nat.zero_le _⟩ (fun r178 σ177 τ177 H locs h177 hP hS => ?_)
        obtain ⟨⟨rfl, rfl⟩, h177⟩ := h177
        rcases h177 with h179 | h180 | h181 | h182
        · obtain ⟨q184, k183⟩ := h179
          have q184 := q184.symm
          subst q184
          refine jcallS (As := [.int a3, .int 0, .int 500]) (rest := []) ⟨hx, hb, hml, hown, hts⟩ hK hP hA hS hZ (c_X11_outside l D cI cL ad zz hJ σ τ a3 (A3) t3 0 (0) jz_0 500 (500) jz_500) cw_RX11_94 ⟨Nat.le_of_ble_eq_true rfl, Nat.le_of_ble_eq_true rfl⟩ rfl rfl rfl hl.1 rfl (Nat.le_of_ble_eq_true rfl) dX11_edge_24 ⟨Nat.zero_le _, Nat.zero_le _⟩ (fun r186 σ185 τ185 H locs h185 hP hS => ?_)
          obtain ⟨⟨rfl, rfl⟩, h185⟩ := h185
          rcases h185 with h187 | h188
          · obtain ⟨q190, k189⟩ := h187
            have q190 := q190.symm
            subst q190
            refine lv_if_eq (tgt := 33) hx hb dX11_edge_27 (of_decide_eq_true rfl) (fun c => absurd c (of_decide_eq_true rfl)) (fun _ => ?_)
            refine lv_ldc (v := (-2000000000)) hx hb hown (hts _ kw_9_21) dX11_edge_30 ?_
            exact by exact hret (-2000000000) σ τ _ _ _ _ rfl ⟨rfl, (fun _ _ => rfl), (fun _ _ => rfl), hI2, Or.inl ⟨rfl, (by have h9 := jz_m2000000000; omega), (by have h9 := jz_m2000000000; omega), (fun h => by unfold jEok at h; omega), ⟨rfl, rfl, rfl, rfl⟩⟩⟩ hP hS dX11_edge_32
          · obtain ⟨q192, k191⟩ := h188
            have q192 := q192.symm
            subst q192
            refine lv_if_eq (tgt := 33) hx hb dX11_edge_27 (of_decide_eq_true rfl) (fun _ => ?_) (fun c => absurd (of_decide_eq_true rfl) c)
            refine lv_aload_n hx hb dX11_edge_33 rfl (lv_at hl 1 rfl) ?_
            refine va_get (D := D) hx hb hts inlX11 hown hK hP 0 (jc_0 cI cL ad σ τ) rfl 0 (of_decide_eq_true rfl) (hts _ kw_1_16) (fun _ h9 => h9) rfl dX11_edge_34 ?_
            refine lv_iload hx hb dX11_edge_37 (lv_at hl 0 rfl) ?_
            refine lv_iload_n hx hb dX11_edge_39 rfl (lv_at hl 4 rfl) ?_
            exact by
             refine jcallV (As := [.int r9, .int a3]) (rest := []) ⟨hx, hb, hml, hown, hts⟩ hK hP hA hS hZ (c_X4_change_2 l D cI cL ad zz hJ σ τ r9 (r9.toInt) rfl a3 (A3) t3 hI2 (by omega)) cw_RX11_118 (jc_2 cI cL ad σ τ) rfl ⟨Nat.le_of_ble_eq_true rfl, Nat.le_of_ble_eq_true rfl⟩ rfl rfl rfl hl.1 rfl (Nat.le_of_ble_eq_true rfl) dX11_edge_40 ⟨Nat.zero_le _, Nat.zero_le _⟩ (fun r194 σ193 τ193 H locs h193 hP hS => ?_)
             obtain ⟨rfl, f195, f196, I197, w198, h193⟩ := h193
             obtain ⟨i200, i201, i202, i203, i204, w205, w206⟩ : (0 ≤ (σ193 2 0).toInt ∧ (σ193 2 0).toInt ≤ 4) ∧ (0 ≤ (σ193 2 1).toInt ∧ (σ193 2 1).toInt ≤ 3) ∧ (0 ≤ (σ193 2 2).toInt) ∧ (0 ≤ (σ193 2 3).toInt) ∧ ((σ193 2 2).toInt + (σ193 2 3).toInt ≤ 40) ∧ (∀ k : Nat, k < 40 → 0 ≤ (σ193 6 k).toInt ∧ (σ193 6 k).toInt ≤ 67) ∧ (∀ k : Nat, k < 4 → 0 ≤ (σ193 5 k).toInt ∧ (σ193 5 k).toInt ≤ 20) := id I197
             have z207 : (σ193 2 0).toInt = (σ 2 0).toInt := (congrArg Int32.toInt (show σ193 2 0 = (σ 2 0) from (f196 0 (of_decide_eq_true rfl))))
             have z208 : (σ193 2 1).toInt = (σ 2 1).toInt := (congrArg Int32.toInt (show σ193 2 1 = (σ 2 1) from (f196 1 (of_decide_eq_true rfl))))
             exact by exact hret r194 σ193 τ _ _ _ _ rfl ⟨rfl, (fun i hi => (f195 i hi)), (fun i hi => (f196 i hi)), I197, Or.inr (⟨trivial, ⟨(by unfold jEok; omega), r9.toInt, (by unfold jEpl; omega), w198⟩⟩)⟩ hP hS dX11_edge_43
        · obtain ⟨q210, k209⟩ := h180
          exact absurd (by omega : False) id
        · obtain ⟨q212, k211⟩ := h181
          have q212 := q212.symm
          subst q212
          refine jcallS (As := [.int a3, .int 0, .int 8]) (rest := []) ⟨hx, hb, hml, hown, hts⟩ hK hP hA hS hZ (c_X11_outside l D cI cL ad zz hJ σ τ a3 (A3) t3 0 (0) jz_0 8 (8) jz_8) cw_RX11_94 ⟨Nat.le_of_ble_eq_true rfl, Nat.le_of_ble_eq_true rfl⟩ rfl rfl rfl hl.1 rfl (Nat.le_of_ble_eq_true rfl) dX11_edge_24 ⟨Nat.zero_le _, Nat.zero_le _⟩ (fun r214 σ213 τ213 H locs h213 hP hS => ?_)
          obtain ⟨⟨rfl, rfl⟩, h213⟩ := h213
          rcases h213 with h215 | h216
          · obtain ⟨q218, k217⟩ := h215
            have q218 := q218.symm
            subst q218
            refine lv_if_eq (tgt := 33) hx hb dX11_edge_27 (of_decide_eq_true rfl) (fun c => absurd c (of_decide_eq_true rfl)) (fun _ => ?_)
            refine lv_ldc (v := (-2000000000)) hx hb hown (hts _ kw_9_21) dX11_edge_30 ?_
            exact by exact hret (-2000000000) σ τ _ _ _ _ rfl ⟨rfl, (fun _ _ => rfl), (fun _ _ => rfl), hI2, Or.inl ⟨rfl, (by have h9 := jz_m2000000000; omega), (by have h9 := jz_m2000000000; omega), (fun h => by unfold jEok at h; omega), ⟨rfl, rfl, rfl, rfl⟩⟩⟩ hP hS dX11_edge_32
          · obtain ⟨q220, k219⟩ := h216
            have q220 := q220.symm
            subst q220
            refine lv_if_eq (tgt := 33) hx hb dX11_edge_27 (of_decide_eq_true rfl) (fun _ => ?_) (fun c => absurd (of_decide_eq_true rfl) c)
            refine lv_aload_n hx hb dX11_edge_33 rfl (lv_at hl 1 rfl) ?_
            refine va_get (D := D) hx hb hts inlX11 hown hK hP 0 (jc_0 cI cL ad σ τ) rfl 0 (of_decide_eq_true rfl) (hts _ kw_1_16) (fun _ h9 => h9) rfl dX11_edge_34 ?_
            refine lv_iload hx hb dX11_edge_37 (lv_at hl 0 rfl) ?_
            refine lv_iload_n hx hb dX11_edge_39 rfl (lv_at hl 4 rfl) ?_
            exact by
             refine jcallV (As := [.int r9, .int a3]) (rest := []) ⟨hx, hb, hml, hown, hts⟩ hK hP hA hS hZ (c_X4_change_2 l D cI cL ad zz hJ σ τ r9 (r9.toInt) rfl a3 (A3) t3 hI2 (by omega)) cw_RX11_118 (jc_2 cI cL ad σ τ) rfl ⟨Nat.le_of_ble_eq_true rfl, Nat.le_of_ble_eq_true rfl⟩ rfl rfl rfl hl.1 rfl (Nat.le_of_ble_eq_true rfl) dX11_edge_40 ⟨Nat.zero_le _, Nat.zero_le _⟩ (fun r222 σ221 τ221 H locs h221 hP hS => ?_)
             obtain ⟨rfl, f223, f224, I225, w226, h221⟩ := h221
             obtain ⟨i228, i229, i230, i231, i232, w233, w234⟩ : (0 ≤ (σ221 2 0).toInt ∧ (σ221 2 0).toInt ≤ 4) ∧ (0 ≤ (σ221 2 1).toInt ∧ (σ221 2 1).toInt ≤ 3) ∧ (0 ≤ (σ221 2 2).toInt) ∧ (0 ≤ (σ221 2 3).toInt) ∧ ((σ221 2 2).toInt + (σ221 2 3).toInt ≤ 40) ∧ (∀ k : Nat, k < 40 → 0 ≤ (σ221 6 k).toInt ∧ (σ221 6 k).toInt ≤ 67) ∧ (∀ k : Nat, k < 4 → 0 ≤ (σ221 5 k).toInt ∧ (σ221 5 k).toInt ≤ 20) := id I225
             have z235 : (σ221 2 0).toInt = (σ 2 0).toInt := (congrArg Int32.toInt (show σ221 2 0 = (σ 2 0) from (f224 0 (of_decide_eq_true rfl))))
             have z236 : (σ221 2 1).toInt = (σ 2 1).toInt := (congrArg Int32.toInt (show σ221 2 1 = (σ 2 1) from (f224 1 (of_decide_eq_true rfl))))
             exact by exact hret r222 σ221 τ _ _ _ _ rfl ⟨rfl, (fun i hi => (f223 i hi)), (fun i hi => (f224 i hi)), I225, Or.inr (⟨trivial, ⟨(by unfold jEok; omega), r9.toInt, (by unfold jEpl; omega), w226⟩⟩)⟩ hP hS dX11_edge_43
        · obtain ⟨q238, k237⟩ := h182
          exact absurd (by omega : False) id
      · obtain ⟨q240, k239⟩ := h173
        exact absurd (by omega : False) id
      · obtain ⟨q242, k241⟩ := h174
        have q242 := q242.symm
        subst q242
        refine lv_iload hx hb dX11_edge_19 (lv_at hl 0 rfl) ?_
        refine jcallS (As := [.int r9]) (rest := [.int (-9), .int a3]) ⟨hx, hb, hml, hown, hts⟩ hK hP hA hS hZ (c_X4_highest l D cI cL ad zz hJ σ τ r9 (r9.toInt) rfl) cw_RX11_114 ⟨Nat.le_of_ble_eq_true rfl, Nat.le_of_ble_eq_true rfl⟩ rfl rfl rfl hl.1 rfl (Nat.le_of_ble_eq_true rfl) dX11_edge_21 ⟨Nat.zero_le _, Nat.zero_le _⟩ (fun r244 σ243 τ243 H locs h243 hP hS => ?_)
        obtain ⟨⟨rfl, rfl⟩, h243⟩ := h243
        rcases h243 with h245 | h246 | h247 | h248
        · obtain ⟨q250, k249⟩ := h245
          exact absurd (by omega : False) id
        · obtain ⟨q252, k251⟩ := h246
          have q252 := q252.symm
          subst q252
          refine jcallS (As := [.int a3, .int (-9), .int 9]) (rest := []) ⟨hx, hb, hml, hown, hts⟩ hK hP hA hS hZ (c_X11_outside l D cI cL ad zz hJ σ τ a3 (A3) t3 (-9) ((-9)) jz_m9 9 (9) jz_9) cw_RX11_94 ⟨Nat.le_of_ble_eq_true rfl, Nat.le_of_ble_eq_true rfl⟩ rfl rfl rfl hl.1 rfl (Nat.le_of_ble_eq_true rfl) dX11_edge_24 ⟨Nat.zero_le _, Nat.zero_le _⟩ (fun r254 σ253 τ253 H locs h253 hP hS => ?_)
          obtain ⟨⟨rfl, rfl⟩, h253⟩ := h253
          rcases h253 with h255 | h256
          · obtain ⟨q258, k257⟩ := h255
            have q258 := q258.symm
            subst q258
            refine lv_if_eq (tgt := 33) hx hb dX11_edge_27 (of_decide_eq_true rfl) (fun c => absurd c (of_decide_eq_true rfl)) (fun _ => ?_)
            refine lv_ldc (v := (-2000000000)) hx hb hown (hts _ kw_9_21) dX11_edge_30 ?_
            exact by exact hret (-2000000000) σ τ _ _ _ _ rfl ⟨rfl, (fun _ _ => rfl), (fun _ _ => rfl), hI2, Or.inl ⟨rfl, (by have h9 := jz_m2000000000; omega), (by have h9 := jz_m2000000000; omega), (fun h => by unfold jEok at h; omega), ⟨rfl, rfl, rfl, rfl⟩⟩⟩ hP hS dX11_edge_32
          · obtain ⟨q260, k259⟩ := h256
            have q260 := q260.symm
            subst q260
            refine lv_if_eq (tgt := 33) hx hb dX11_edge_27 (of_decide_eq_true rfl) (fun _ => ?_) (fun c => absurd (of_decide_eq_true rfl) c)
            refine lv_aload_n hx hb dX11_edge_33 rfl (lv_at hl 1 rfl) ?_
            refine va_get (D := D) hx hb hts inlX11 hown hK hP 0 (jc_0 cI cL ad σ τ) rfl 0 (of_decide_eq_true rfl) (hts _ kw_1_16) (fun _ h9 => h9) rfl dX11_edge_34 ?_
            refine lv_iload hx hb dX11_edge_37 (lv_at hl 0 rfl) ?_
            refine lv_iload_n hx hb dX11_edge_39 rfl (lv_at hl 4 rfl) ?_
            exact by
             refine jcallV (As := [.int r9, .int a3]) (rest := []) ⟨hx, hb, hml, hown, hts⟩ hK hP hA hS hZ (c_X4_change_2 l D cI cL ad zz hJ σ τ r9 (r9.toInt) rfl a3 (A3) t3 hI2 (by omega)) cw_RX11_118 (jc_2 cI cL ad σ τ) rfl ⟨Nat.le_of_ble_eq_true rfl, Nat.le_of_ble_eq_true rfl⟩ rfl rfl rfl hl.1 rfl (Nat.le_of_ble_eq_true rfl) dX11_edge_40 ⟨Nat.zero_le _, Nat.zero_le _⟩ (fun r262 σ261 τ261 H locs h261 hP hS => ?_)
             obtain ⟨rfl, f263, f264, I265, w266, h261⟩ := h261
             obtain ⟨i268, i269, i270, i271, i272, w273, w274⟩ : (0 ≤ (σ261 2 0).toInt ∧ (σ261 2 0).toInt ≤ 4) ∧ (0 ≤ (σ261 2 1).toInt ∧ (σ261 2 1).toInt ≤ 3) ∧ (0 ≤ (σ261 2 2).toInt) ∧ (0 ≤ (σ261 2 3).toInt) ∧ ((σ261 2 2).toInt + (σ261 2 3).toInt ≤ 40) ∧ (∀ k : Nat, k < 40 → 0 ≤ (σ261 6 k).toInt ∧ (σ261 6 k).toInt ≤ 67) ∧ (∀ k : Nat, k < 4 → 0 ≤ (σ261 5 k).toInt ∧ (σ261 5 k).toInt ≤ 20) := id I265
             have z275 : (σ261 2 0).toInt = (σ 2 0).toInt := (congrArg Int32.toInt (show σ261 2 0 = (σ 2 0) from (f264 0 (of_decide_eq_true rfl))))
             have z276 : (σ261 2 1).toInt = (σ 2 1).toInt := (congrArg Int32.toInt (show σ261 2 1 = (σ 2 1) from (f264 1 (of_decide_eq_true rfl))))
             exact by exact hret r262 σ261 τ _ _ _ _ rfl ⟨rfl, (fun i hi => (f263 i hi)), (fun i hi => (f264 i hi)), I265, Or.inr (⟨trivial, ⟨(by unfold jEok; omega), r9.toInt, (by unfold jEpl; omega), w266⟩⟩)⟩ hP hS dX11_edge_43
        · obtain ⟨q278, k277⟩ := h247
          exact absurd (by omega : False) id
        · obtain ⟨q280, k279⟩ := h248
          exact absurd (by omega : False) id
  · obtain ⟨q282, k281⟩ := h13
    have q282 := q282.symm
    subst q282
    refine lv_istore (lv' := [(4, .int (-1)), (0, .ref (ad 0)), (1, .int a1), (2, .int a2), (3, .int a3)]) hx hb dX11_edge_6 hl (of_decide_eq_true rfl) rfl (fun ls hl => ?_)
    refine lv_iload hx hb dX11_edge_8 (lv_at hl 0 rfl) ?_
    refine lv_if_lt (tgt := 30) hx hb dX11_edge_10 (of_decide_eq_true rfl) (fun _ => ?_) (fun c => absurd (of_decide_eq_true rfl) c)
    refine lv_ldc (v := (-2000000000)) hx hb hown (hts _ kw_9_21) dX11_edge_30 ?_
    exact by exact hret (-2000000000) σ τ _ _ _ _ rfl ⟨rfl, (fun _ _ => rfl), (fun _ _ => rfl), hI2, Or.inl ⟨rfl, (by have h9 := jz_m2000000000; omega), (by have h9 := jz_m2000000000; omega), (fun h => by unfold jEok at h; omega), ⟨rfl, rfl, rfl, rfl⟩⟩⟩ hP hS dX11_edge_32
set_option maxHeartbeats 4000000 in
set_option maxRecDepth 100000 in
theorem c_X11_field (l : Launch) (D : va_G) (cI cL : ClassId) (ad zz : Nat → Nat) (hJ : jD ad) (σ : Nat → Nat → Int32) (τ : Nat → Nat → Int64) (a1 : Int32) (A1 : Int) (t1 : a1.toInt = A1) (a2 : Int32) (A2 : Int) (t2 : a2.toInt = A2) (a3 : Int32) (A3 : Int) (t3 : a3.toInt = A3) (hI2 : jI2 σ) : jM l yX11_field cX11_field 5 (some .int) ({ frames := 2, cells := 0, slots := 0, locals := 44 }) D cI cL ad zz [.ref (ad 0), .int a1, .int a2, .int a3] σ τ (fun r σ' τ' => τ = τ' ∧ (∀ i : Nat, (i < 2 ∨ 3 < i) ∧ (i < 6 ∨ 8 < i) → σ' i = σ i) ∧ (∀ k : Nat, (k < 2 ∨ 2 < k) ∧ (k < 3 ∨ 3 < k) → σ' 2 k = σ 2 k) ∧ (jI2 σ') ∧ ((r = (-2000000000) ∧ ((σ' 2 2).toInt = (σ 2 2).toInt) ∧ ((σ' 2 3).toInt = (σ 2 3).toInt) ∧ (¬ jFok (A1) (A2) (A3) ((σ 2 0).toInt)) ∧ (σ' 3 = σ 3 ∧ σ' 6 = σ 6 ∧ σ' 7 = σ 7 ∧ σ' 8 = σ 8)) ∨ (True ∧ (jFok (A1) (A2) (A3) ((σ 2 0).toInt) ∧ ∃ q : Int, jFpl (A1) (A2) q ∧ jChg (q) a3 r (σ 3) (σ' 3) (σ 6) (σ' 6) (σ 7) (σ' 7) (σ 8) (σ' 8) (σ 2 2).toInt (σ' 2 2).toInt ((σ 2 2).toInt + (σ 2 3).toInt) ((σ' 2 2).toInt + (σ' 2 3).toInt))))) := by
  refine jM.of hJ (by decide +kernel) (nt := .int) rfl (Nat.le_of_ble_eq_true rfl) ?_
  intro p e s m args below meth c Q ls hC hret hl hP
  obtain ⟨hx, hb, hr, hml, hown, hts, hK, -, hlocks, hZ⟩ := hC
  have hown : s.vm.findClass RX11 = some m.cls := hown
  have hS : va_S (jA ad) s.heap s.heap [] := va_S.rf
  have hA : ∀ q, jA ad q → jA ad q := fun _ h => h
  have hl : lv_has ls 5 [(0, .ref (ad 0)), (1, .int a1), (2, .int a2), (3, .int a3)] := hl
  have g1 := jrg t1
  have g2 := jrg t2
  have g3 := jrg t3
  obtain ⟨i1, i2, i3, i4, i5, w6, w7⟩ : (0 ≤ (σ 2 0).toInt ∧ (σ 2 0).toInt ≤ 4) ∧ (0 ≤ (σ 2 1).toInt ∧ (σ 2 1).toInt ≤ 3) ∧ (0 ≤ (σ 2 2).toInt) ∧ (0 ≤ (σ 2 3).toInt) ∧ ((σ 2 2).toInt + (σ 2 3).toInt ≤ 40) ∧ (∀ k : Nat, k < 40 → 0 ≤ (σ 6 k).toInt ∧ (σ 6 k).toInt ≤ 67) ∧ (∀ k : Nat, k < 4 → 0 ≤ (σ 5 k).toInt ∧ (σ 5 k).toInt ≤ 20) := id hI2
  refine lv_iload_n hx hb dX11_field_0 rfl (lv_at hl 1 rfl) ?_
  refine lv_if_lt (tgt := 37) hx hb dX11_field_1 (of_decide_eq_true rfl) (fun c8 => ?_) (fun c8 => ?_)
  · have kc8 := jlt c8 t1 jz_0
    refine lv_ldc (v := (-2000000000)) hx hb hown (hts _ kw_9_21) dX11_field_37 ?_
    exact by exact hret (-2000000000) σ τ _ _ _ _ rfl ⟨rfl, (fun _ _ => rfl), (fun _ _ => rfl), hI2, Or.inl ⟨rfl, (by have h9 := jz_m2000000000; omega), (by have h9 := jz_m2000000000; omega), (fun h => by unfold jFok at h; omega), ⟨rfl, rfl, rfl, rfl⟩⟩⟩ hP hS dX11_field_39
  · have kc8 := jnlt c8 t1 jz_0
    refine lv_iload_n hx hb dX11_field_4 rfl (lv_at hl 1 rfl) ?_
    refine lv_bipush (v := 10) hx hb dX11_field_5 (of_decide_eq_true rfl) ?_
    refine lv_idiv hx hb dX11_field_7 (of_decide_eq_true rfl) ?_
    refine lv_topi (fun x9 ex9 => ?_)
    exact by
     have tx9 : x9.toInt = (A1 / 10) := jdiv ex9 t1 jz_10 (by omega) (by omega)
     refine lv_iconst (v := 0) hx hb dX11_field_8 (of_decide_eq_true rfl) ?_
     refine lv_iconst (v := 3) hx hb dX11_field_9 (of_decide_eq_true rfl) ?_
     refine jcallS (As := [.int x9, .int 0, .int 3]) (rest := []) ⟨hx, hb, hml, hown, hts⟩ hK hP hA hS hZ (c_X11_outside l D cI cL ad zz hJ σ τ x9 ((A1 / 10)) tx9 0 (0) jz_0 3 (3) jz_3) cw_RX11_94 ⟨Nat.le_of_ble_eq_true rfl, Nat.le_of_ble_eq_true rfl⟩ rfl rfl rfl hl.1 rfl (Nat.le_of_ble_eq_true rfl) dX11_field_10 ⟨Nat.zero_le _, Nat.zero_le _⟩ (fun r11 σ10 τ10 H locs h10 hP hS => ?_)
     obtain ⟨⟨rfl, rfl⟩, h10⟩ := h10
     rcases h10 with h12 | h13
     · obtain ⟨q15, k14⟩ := h12
       have q15 := q15.symm
       subst q15
       refine lv_if_ne (tgt := 37) hx hb dX11_field_13 (of_decide_eq_true rfl) (fun _ => ?_) (fun c => absurd c (of_decide_eq_true rfl))
       refine lv_ldc (v := (-2000000000)) hx hb hown (hts _ kw_9_21) dX11_field_37 ?_
       exact by exact hret (-2000000000) σ τ _ _ _ _ rfl ⟨rfl, (fun _ _ => rfl), (fun _ _ => rfl), hI2, Or.inl ⟨rfl, (by have h9 := jz_m2000000000; omega), (by have h9 := jz_m2000000000; omega), (fun h => by unfold jFok at h; omega), ⟨rfl, rfl, rfl, rfl⟩⟩⟩ hP hS dX11_field_39
     · obtain ⟨q17, k16⟩ := h13
       have q17 := q17.symm
       subst q17
       refine lv_if_ne (tgt := 37) hx hb dX11_field_13 (of_decide_eq_true rfl) (fun c => absurd (of_decide_eq_true rfl) c) (fun _ => ?_)
       refine lv_iload_n hx hb dX11_field_16 rfl (lv_at hl 1 rfl) ?_
       refine lv_bipush (v := 10) hx hb dX11_field_17 (of_decide_eq_true rfl) ?_
       refine lv_irem hx hb dX11_field_19 (of_decide_eq_true rfl) ?_
       refine lv_topi (fun x18 ex18 => ?_)
       exact by
        have tx18 : x18.toInt = (A1 % 10) := jrem ex18 t1 jz_10 (by omega)
        refine lv_iconst (v := 0) hx hb dX11_field_20 (of_decide_eq_true rfl) ?_
        refine lv_iconst (v := 3) hx hb dX11_field_21 (of_decide_eq_true rfl) ?_
        refine jcallS (As := [.int x18, .int 0, .int 3]) (rest := []) ⟨hx, hb, hml, hown, hts⟩ hK hP hA hS hZ (c_X11_outside l D cI cL ad zz hJ σ τ x18 ((A1 % 10)) tx18 0 (0) jz_0 3 (3) jz_3) cw_RX11_94 ⟨Nat.le_of_ble_eq_true rfl, Nat.le_of_ble_eq_true rfl⟩ rfl rfl rfl hl.1 rfl (Nat.le_of_ble_eq_true rfl) dX11_field_22 ⟨Nat.zero_le _, Nat.zero_le _⟩ (fun r20 σ19 τ19 H locs h19 hP hS => ?_)
        obtain ⟨⟨rfl, rfl⟩, h19⟩ := h19
        rcases h19 with h21 | h22
        · obtain ⟨q24, k23⟩ := h21
          have q24 := q24.symm
          subst q24
          refine lv_if_ne (tgt := 37) hx hb dX11_field_25 (of_decide_eq_true rfl) (fun _ => ?_) (fun c => absurd c (of_decide_eq_true rfl))
          refine lv_ldc (v := (-2000000000)) hx hb hown (hts _ kw_9_21) dX11_field_37 ?_
          exact by exact hret (-2000000000) σ τ _ _ _ _ rfl ⟨rfl, (fun _ _ => rfl), (fun _ _ => rfl), hI2, Or.inl ⟨rfl, (by have h9 := jz_m2000000000; omega), (by have h9 := jz_m2000000000; omega), (fun h => by unfold jFok at h; omega), ⟨rfl, rfl, rfl, rfl⟩⟩⟩ hP hS dX11_field_39
        · obtain ⟨q26, k25⟩ := h22
          have q26 := q26.symm
          subst q26
          refine lv_if_ne (tgt := 37) hx hb dX11_field_25 (of_decide_eq_true rfl) (fun c => absurd (of_decide_eq_true rfl) c) (fun _ => ?_)
          refine lv_iload_n hx hb dX11_field_28 rfl (lv_at hl 2 rfl) ?_
          refine lv_iconst (v := 0) hx hb dX11_field_29 (of_decide_eq_true rfl) ?_
          refine lv_iconst (v := 1) hx hb dX11_field_30 (of_decide_eq_true rfl) ?_
          refine jcallS (As := [.int a2, .int 0, .int 1]) (rest := []) ⟨hx, hb, hml, hown, hts⟩ hK hP hA hS hZ (c_X11_outside l D cI cL ad zz hJ σ τ a2 (A2) t2 0 (0) jz_0 1 (1) jz_1) cw_RX11_94 ⟨Nat.le_of_ble_eq_true rfl, Nat.le_of_ble_eq_true rfl⟩ rfl rfl rfl hl.1 rfl (Nat.le_of_ble_eq_true rfl) dX11_field_31 ⟨Nat.zero_le _, Nat.zero_le _⟩ (fun r28 σ27 τ27 H locs h27 hP hS => ?_)
          obtain ⟨⟨rfl, rfl⟩, h27⟩ := h27
          rcases h27 with h29 | h30
          · obtain ⟨q32, k31⟩ := h29
            have q32 := q32.symm
            subst q32
            refine lv_if_eq (tgt := 40) hx hb dX11_field_34 (of_decide_eq_true rfl) (fun c => absurd c (of_decide_eq_true rfl)) (fun _ => ?_)
            refine lv_ldc (v := (-2000000000)) hx hb hown (hts _ kw_9_21) dX11_field_37 ?_
            exact by exact hret (-2000000000) σ τ _ _ _ _ rfl ⟨rfl, (fun _ _ => rfl), (fun _ _ => rfl), hI2, Or.inl ⟨rfl, (by have h9 := jz_m2000000000; omega), (by have h9 := jz_m2000000000; omega), (fun h => by unfold jFok at h; omega), ⟨rfl, rfl, rfl, rfl⟩⟩⟩ hP hS dX11_field_39
          · obtain ⟨q34, k33⟩ := h30
            have q34 := q34.symm
            subst q34
            refine lv_if_eq (tgt := 40) hx hb dX11_field_34 (of_decide_eq_true rfl) (fun _ => ?_) (fun c => absurd (of_decide_eq_true rfl) c)
            refine lv_iload_n hx hb dX11_field_40 rfl (lv_at hl 2 rfl) ?_
            refine lv_if_ne (tgt := 49) hx hb dX11_field_41 (of_decide_eq_true rfl) (fun c35 => ?_) (fun c35 => ?_)
            · have kc35 := jne c35 t2 jz_0
              refine lv_bipush (v := 52) hx hb dX11_field_49 (of_decide_eq_true rfl) ?_
              refine lv_iload_n hx hb dX11_field_51 rfl (lv_at hl 1 rfl) ?_
              refine lv_bipush (v := 10) hx hb dX11_field_52 (of_decide_eq_true rfl) ?_
              refine lv_idiv hx hb dX11_field_54 (of_decide_eq_true rfl) ?_
              refine lv_topi (fun x36 ex36 => ?_)
              exact by
               have tx36 : x36.toInt = (A1 / 10) := jdiv ex36 t1 jz_10 (by omega) (by omega)
               refine lv_iconst (v := 4) hx hb dX11_field_55 (of_decide_eq_true rfl) ?_
               refine lv_imul hx hb dX11_field_56 ?_
               refine lv_topi (fun x37 ex37 => ?_)
               have tx37 : x37.toInt = 4 * (A1 / 10) := (jmul ex37 tx36 jz_4 (by omega) (by omega)).trans (by omega)
               refine lv_iadd hx hb dX11_field_57 ?_
               refine lv_topi (fun x38 ex38 => ?_)
               have tx38 : x38.toInt = 4 * (A1 / 10) + 52 := (jadd ex38 jz_52 tx37 (by omega) (by omega)).trans (by omega)
               refine lv_iload_n hx hb dX11_field_58 rfl (lv_at hl 1 rfl) ?_
               exact by
                refine lv_bipush (v := 10) hx hb dX11_field_59 (of_decide_eq_true rfl) ?_
                refine lv_irem hx hb dX11_field_61 (of_decide_eq_true rfl) ?_
                refine lv_topi (fun x39 ex39 => ?_)
                have tx39 : x39.toInt = (A1 % 10) := jrem ex39 t1 jz_10 (by omega)
                refine lv_iadd hx hb dX11_field_62 ?_
                refine lv_topi (fun x40 ex40 => ?_)
                have tx40 : x40.toInt = 4 * (A1 / 10) + (A1 % 10) + 52 := (jadd ex40 tx38 tx39 (by omega) (by omega)).trans (by omega)
                refine lv_istore (lv' := [(4, .int x40), (0, .ref (ad 0)), (1, .int a1), (2, .int a2), (3, .int a3)]) hx hb dX11_field_63 hl (of_decide_eq_true rfl) rfl (fun ls hl => ?_)
                refine lv_iload_n hx hb dX11_field_65 rfl (lv_at hl 4 rfl) ?_
                exact by
                 refine lv_iload hx hb dX11_field_66 (lv_at hl 0 rfl) ?_
                 refine jcallS (As := [.int x40]) (rest := [.int a3]) ⟨hx, hb, hml, hown, hts⟩ hK hP hA hS hZ (c_X4_lowest l D cI cL ad zz hJ σ τ x40 (4 * (A1 / 10) + (A1 % 10) + 52) tx40) cw_RX11_110 ⟨Nat.le_of_ble_eq_true rfl, Nat.le_of_ble_eq_true rfl⟩ rfl rfl rfl hl.1 rfl (Nat.le_of_ble_eq_true rfl) dX11_field_68 ⟨Nat.zero_le _, Nat.zero_le _⟩ (fun r42 σ41 τ41 H locs h41 hP hS => ?_)
                 obtain ⟨⟨rfl, rfl⟩, h41⟩ := h41
                 rcases h41 with h43 | h44 | h45
                 · obtain ⟨q47, k46⟩ := h43
                   exact absurd (by omega : False) id
                 · obtain ⟨q49, k48⟩ := h44
                   exact absurd (by omega : False) id
                 · obtain ⟨q51, k50⟩ := h45
                   have q51 := q51.symm
                   subst q51
                   refine lv_iload hx hb dX11_field_71 (lv_at hl 0 rfl) ?_
                   refine jcallS (As := [.int x40]) (rest := [.int (-9), .int a3]) ⟨hx, hb, hml, hown, hts⟩ hK hP hA hS hZ (c_X4_highest l D cI cL ad zz hJ σ τ x40 (4 * (A1 / 10) + (A1 % 10) + 52) tx40) cw_RX11_114 ⟨Nat.le_of_ble_eq_true rfl, Nat.le_of_ble_eq_true rfl⟩ rfl rfl rfl hl.1 rfl (Nat.le_of_ble_eq_true rfl) dX11_field_73 ⟨Nat.zero_le _, Nat.zero_le _⟩ (fun r53 σ52 τ52 H locs h52 hP hS => ?_)
                   obtain ⟨⟨rfl, rfl⟩, h52⟩ := h52
                   rcases h52 with h54 | h55 | h56 | h57
                   · obtain ⟨q59, k58⟩ := h54
                     exact absurd (by omega : False) id
                   · obtain ⟨q61, k60⟩ := h55
                     have q61 := q61.symm
                     subst q61
                     refine jcallS (As := [.int a3, .int (-9), .int 9]) (rest := []) ⟨hx, hb, hml, hown, hts⟩ hK hP hA hS hZ (c_X11_outside l D cI cL ad zz hJ σ τ a3 (A3) t3 (-9) ((-9)) jz_m9 9 (9) jz_9) cw_RX11_94 ⟨Nat.le_of_ble_eq_true rfl, Nat.le_of_ble_eq_true rfl⟩ rfl rfl rfl hl.1 rfl (Nat.le_of_ble_eq_true rfl) dX11_field_76 ⟨Nat.zero_le _, Nat.zero_le _⟩ (fun r63 σ62 τ62 H locs h62 hP hS => ?_)
                     obtain ⟨⟨rfl, rfl⟩, h62⟩ := h62
                     rcases h62 with h64 | h65
                     · obtain ⟨q67, k66⟩ := h64
                       have q67 := q67.symm
                       subst q67
                       refine lv_if_eq (tgt := 85) hx hb dX11_field_79 (of_decide_eq_true rfl) (fun c => absurd c (of_decide_eq_true rfl)) (fun _ => ?_)
                       refine lv_ldc (v := (-2000000000)) hx hb hown (hts _ kw_9_21) dX11_field_82 ?_
                       exact by exact hret (-2000000000) σ τ _ _ _ _ rfl ⟨rfl, (fun _ _ => rfl), (fun _ _ => rfl), hI2, Or.inl ⟨rfl, (by have h9 := jz_m2000000000; omega), (by have h9 := jz_m2000000000; omega), (fun h => by unfold jFok at h; omega), ⟨rfl, rfl, rfl, rfl⟩⟩⟩ hP hS dX11_field_84
                     · obtain ⟨q69, k68⟩ := h65
                       have q69 := q69.symm
                       subst q69
                       refine lv_if_eq (tgt := 85) hx hb dX11_field_79 (of_decide_eq_true rfl) (fun _ => ?_) (fun c => absurd (of_decide_eq_true rfl) c)
                       refine lv_aload_n hx hb dX11_field_85 rfl (lv_at hl 1 rfl) ?_
                       refine va_get (D := D) hx hb hts inlX11 hown hK hP 0 (jc_0 cI cL ad σ τ) rfl 0 (of_decide_eq_true rfl) (hts _ kw_1_16) (fun _ h9 => h9) rfl dX11_field_86 ?_
                       refine lv_iload hx hb dX11_field_89 (lv_at hl 0 rfl) ?_
                       refine lv_iload_n hx hb dX11_field_91 rfl (lv_at hl 4 rfl) ?_
                       exact by
                        refine jcallV (As := [.int x40, .int a3]) (rest := []) ⟨hx, hb, hml, hown, hts⟩ hK hP hA hS hZ (c_X4_change_2 l D cI cL ad zz hJ σ τ x40 (4 * (A1 / 10) + (A1 % 10) + 52) tx40 a3 (A3) t3 hI2 (by omega)) cw_RX11_118 (jc_2 cI cL ad σ τ) rfl ⟨Nat.le_of_ble_eq_true rfl, Nat.le_of_ble_eq_true rfl⟩ rfl rfl rfl hl.1 rfl (Nat.le_of_ble_eq_true rfl) dX11_field_92 ⟨Nat.zero_le _, Nat.zero_le _⟩ (fun r71 σ70 τ70 H locs h70 hP hS => ?_)
                        obtain ⟨rfl, f72, f73, I74, w75, h70⟩ := h70
                        obtain ⟨i77, i78, i79, i80, i81, w82, w83⟩ : (0 ≤ (σ70 2 0).toInt ∧ (σ70 2 0).toInt ≤ 4) ∧ (0 ≤ (σ70 2 1).toInt ∧ (σ70 2 1).toInt ≤ 3) ∧ (0 ≤ (σ70 2 2).toInt) ∧ (0 ≤ (σ70 2 3).toInt) ∧ ((σ70 2 2).toInt + (σ70 2 3).toInt ≤ 40) ∧ (∀ k : Nat, k < 40 → 0 ≤ (σ70 6 k).toInt ∧ (σ70 6 k).toInt ≤ 67) ∧ (∀ k : Nat, k < 4 → 0 ≤ (σ70 5 k).toInt ∧ (σ70 5 k).toInt ≤ 20) := id I74
                        have z84 : (σ70 2 0).toInt = (σ 2 0).toInt := (congrArg Int32.toInt (show σ70 2 0 = (σ 2 0) from (f73 0 (of_decide_eq_true rfl))))
                        have z85 : (σ70 2 1).toInt = (σ 2 1).toInt := (congrArg Int32.toInt (show σ70 2 1 = (σ 2 1) from (f73 1 (of_decide_eq_true rfl))))
                        exact by exact hret r71 σ70 τ _ _ _ _ rfl ⟨rfl, (fun i hi => (f72 i hi)), (fun i hi => (f73 i hi)), I74, Or.inr (⟨trivial, ⟨(by unfold jFok; omega), 4 * (A1 / 10) + (A1 % 10) + 52, (by unfold jFpl; omega), w75⟩⟩)⟩ hP hS dX11_field_95
                   · obtain ⟨q87, k86⟩ := h56
                     exact absurd (by omega : False) id
                   · obtain ⟨q89, k88⟩ := h57
                     exact absurd (by omega : False) id
            · have kc35 := jeq c35 t2 jz_0
              refine lv_bipush (v := 36) hx hb dX11_field_44 (of_decide_eq_true rfl) ?_
              refine lv_goto (tgt := 51) hx hb dX11_field_46 (of_decide_eq_true rfl) ?_
              refine lv_iload_n hx hb dX11_field_51 rfl (lv_at hl 1 rfl) ?_
              refine lv_bipush (v := 10) hx hb dX11_field_52 (of_decide_eq_true rfl) ?_
              refine lv_idiv hx hb dX11_field_54 (of_decide_eq_true rfl) ?_
              refine lv_topi (fun x90 ex90 => ?_)
              exact by
               have tx90 : x90.toInt = (A1 / 10) := jdiv ex90 t1 jz_10 (by omega) (by omega)
               refine lv_iconst (v := 4) hx hb dX11_field_55 (of_decide_eq_true rfl) ?_
               refine lv_imul hx hb dX11_field_56 ?_
               refine lv_topi (fun x91 ex91 => ?_)
               have tx91 : x91.toInt = 4 * (A1 / 10) := (jmul ex91 tx90 jz_4 (by omega) (by omega)).trans (by omega)
               refine lv_iadd hx hb dX11_field_57 ?_
               refine lv_topi (fun x92 ex92 => ?_)
               have tx92 : x92.toInt = 4 * (A1 / 10) + 36 := (jadd ex92 jz_36 tx91 (by omega) (by omega)).trans (by omega)
               refine lv_iload_n hx hb dX11_field_58 rfl (lv_at hl 1 rfl) ?_
               exact by
                refine lv_bipush (v := 10) hx hb dX11_field_59 (of_decide_eq_true rfl) ?_
                refine lv_irem hx hb dX11_field_61 (of_decide_eq_true rfl) ?_
                refine lv_topi (fun x93 ex93 => ?_)
                have tx93 : x93.toInt = (A1 % 10) := jrem ex93 t1 jz_10 (by omega)
                refine lv_iadd hx hb dX11_field_62 ?_
                refine lv_topi (fun x94 ex94 => ?_)
                have tx94 : x94.toInt = 4 * (A1 / 10) + (A1 % 10) + 36 := (jadd ex94 tx92 tx93 (by omega) (by omega)).trans (by omega)
                refine lv_istore (lv' := [(4, .int x94), (0, .ref (ad 0)), (1, .int a1), (2, .int a2), (3, .int a3)]) hx hb dX11_field_63 hl (of_decide_eq_true rfl) rfl (fun ls hl => ?_)
                refine lv_iload_n hx hb dX11_field_65 rfl (lv_at hl 4 rfl) ?_
                exact by
                 refine lv_iload hx hb dX11_field_66 (lv_at hl 0 rfl) ?_
                 refine jcallS (As := [.int x94]) (rest := [.int a3]) ⟨hx, hb, hml, hown, hts⟩ hK hP hA hS hZ (c_X4_lowest l D cI cL ad zz hJ σ τ x94 (4 * (A1 / 10) + (A1 % 10) + 36) tx94) cw_RX11_110 ⟨Nat.le_of_ble_eq_true rfl, Nat.le_of_ble_eq_true rfl⟩ rfl rfl rfl hl.1 rfl (Nat.le_of_ble_eq_true rfl) dX11_field_68 ⟨Nat.zero_le _, Nat.zero_le _⟩ (fun r96 σ95 τ95 H locs h95 hP hS => ?_)
                 obtain ⟨⟨rfl, rfl⟩, h95⟩ := h95
                 rcases h95 with h97 | h98 | h99
                 · obtain ⟨q101, k100⟩ := h97
                   exact absurd (by omega : False) id
                 · obtain ⟨q103, k102⟩ := h98
                   have q103 := q103.symm
                   subst q103
                   refine lv_iload hx hb dX11_field_71 (lv_at hl 0 rfl) ?_
                   refine jcallS (As := [.int x94]) (rest := [.int (-200), .int a3]) ⟨hx, hb, hml, hown, hts⟩ hK hP hA hS hZ (c_X4_highest l D cI cL ad zz hJ σ τ x94 (4 * (A1 / 10) + (A1 % 10) + 36) tx94) cw_RX11_114 ⟨Nat.le_of_ble_eq_true rfl, Nat.le_of_ble_eq_true rfl⟩ rfl rfl rfl hl.1 rfl (Nat.le_of_ble_eq_true rfl) dX11_field_73 ⟨Nat.zero_le _, Nat.zero_le _⟩ (fun r105 σ104 τ104 H locs h104 hP hS => ?_)
                   obtain ⟨⟨rfl, rfl⟩, h104⟩ := h104
                   rcases h104 with h106 | h107 | h108 | h109
                   · obtain ⟨q111, k110⟩ := h106
                     exact absurd (by omega : False) id
                   · obtain ⟨q113, k112⟩ := h107
                     exact absurd (by omega : False) id
                   · obtain ⟨q115, k114⟩ := h108
                     exact absurd (by omega : False) id
                   · obtain ⟨q117, k116⟩ := h109
                     have q117 := q117.symm
                     subst q117
                     refine jcallS (As := [.int a3, .int (-200), .int 200]) (rest := []) ⟨hx, hb, hml, hown, hts⟩ hK hP hA hS hZ (c_X11_outside l D cI cL ad zz hJ σ τ a3 (A3) t3 (-200) ((-200)) jz_m200 200 (200) jz_200) cw_RX11_94 ⟨Nat.le_of_ble_eq_true rfl, Nat.le_of_ble_eq_true rfl⟩ rfl rfl rfl hl.1 rfl (Nat.le_of_ble_eq_true rfl) dX11_field_76 ⟨Nat.zero_le _, Nat.zero_le _⟩ (fun r119 σ118 τ118 H locs h118 hP hS => ?_)
                     obtain ⟨⟨rfl, rfl⟩, h118⟩ := h118
                     rcases h118 with h120 | h121
                     · obtain ⟨q123, k122⟩ := h120
                       have q123 := q123.symm
                       subst q123
                       refine lv_if_eq (tgt := 85) hx hb dX11_field_79 (of_decide_eq_true rfl) (fun c => absurd c (of_decide_eq_true rfl)) (fun _ => ?_)
                       refine lv_ldc (v := (-2000000000)) hx hb hown (hts _ kw_9_21) dX11_field_82 ?_
                       exact by exact hret (-2000000000) σ τ _ _ _ _ rfl ⟨rfl, (fun _ _ => rfl), (fun _ _ => rfl), hI2, Or.inl ⟨rfl, (by have h9 := jz_m2000000000; omega), (by have h9 := jz_m2000000000; omega), (fun h => by unfold jFok at h; omega), ⟨rfl, rfl, rfl, rfl⟩⟩⟩ hP hS dX11_field_84
                     · obtain ⟨q125, k124⟩ := h121
                       have q125 := q125.symm
                       subst q125
                       refine lv_if_eq (tgt := 85) hx hb dX11_field_79 (of_decide_eq_true rfl) (fun _ => ?_) (fun c => absurd (of_decide_eq_true rfl) c)
                       refine lv_aload_n hx hb dX11_field_85 rfl (lv_at hl 1 rfl) ?_
                       refine va_get (D := D) hx hb hts inlX11 hown hK hP 0 (jc_0 cI cL ad σ τ) rfl 0 (of_decide_eq_true rfl) (hts _ kw_1_16) (fun _ h9 => h9) rfl dX11_field_86 ?_
                       refine lv_iload hx hb dX11_field_89 (lv_at hl 0 rfl) ?_
                       refine lv_iload_n hx hb dX11_field_91 rfl (lv_at hl 4 rfl) ?_
                       exact by
                        refine jcallV (As := [.int x94, .int a3]) (rest := []) ⟨hx, hb, hml, hown, hts⟩ hK hP hA hS hZ (c_X4_change_2 l D cI cL ad zz hJ σ τ x94 (4 * (A1 / 10) + (A1 % 10) + 36) tx94 a3 (A3) t3 hI2 (by omega)) cw_RX11_118 (jc_2 cI cL ad σ τ) rfl ⟨Nat.le_of_ble_eq_true rfl, Nat.le_of_ble_eq_true rfl⟩ rfl rfl rfl hl.1 rfl (Nat.le_of_ble_eq_true rfl) dX11_field_92 ⟨Nat.zero_le _, Nat.zero_le _⟩ (fun r127 σ126 τ126 H locs h126 hP hS => ?_)
                        obtain ⟨rfl, f128, f129, I130, w131, h126⟩ := h126
                        obtain ⟨i133, i134, i135, i136, i137, w138, w139⟩ : (0 ≤ (σ126 2 0).toInt ∧ (σ126 2 0).toInt ≤ 4) ∧ (0 ≤ (σ126 2 1).toInt ∧ (σ126 2 1).toInt ≤ 3) ∧ (0 ≤ (σ126 2 2).toInt) ∧ (0 ≤ (σ126 2 3).toInt) ∧ ((σ126 2 2).toInt + (σ126 2 3).toInt ≤ 40) ∧ (∀ k : Nat, k < 40 → 0 ≤ (σ126 6 k).toInt ∧ (σ126 6 k).toInt ≤ 67) ∧ (∀ k : Nat, k < 4 → 0 ≤ (σ126 5 k).toInt ∧ (σ126 5 k).toInt ≤ 20) := id I130
                        have z140 : (σ126 2 0).toInt = (σ 2 0).toInt := (congrArg Int32.toInt (show σ126 2 0 = (σ 2 0) from (f129 0 (of_decide_eq_true rfl))))
                        have z141 : (σ126 2 1).toInt = (σ 2 1).toInt := (congrArg Int32.toInt (show σ126 2 1 = (σ 2 1) from (f129 1 (of_decide_eq_true rfl))))
                        exact by exact hret r127 σ126 τ _ _ _ _ rfl ⟨rfl, (fun i hi => (f128 i hi)), (fun i hi => (f129 i hi)), I130, Or.inr (⟨trivial, ⟨(by unfold jFok; omega), 4 * (A1 / 10) + (A1 % 10) + 36, (by unfold jFpl; omega), w131⟩⟩)⟩ hP hS dX11_field_95
                 · obtain ⟨q143, k142⟩ := h99
                   exact absurd (by omega : False) id
set_option maxHeartbeats 4000000 in
set_option maxRecDepth 100000 in
theorem c_X11_set (l : Launch) (D : va_G) (cI cL : ClassId) (ad zz : Nat → Nat) (hJ : jD ad) (σ : Nat → Nat → Int32) (τ : Nat → Nat → Int64) (a1 : Int32) (A1 : Int) (t1 : a1.toInt = A1) (hI2 : jI2 σ) : jM l yX11_set cX11_set 3 (some .int) ({ frames := 1, cells := 0, slots := 0, locals := 22 }) D cI cL ad zz [.ref (ad 0), .int a1] σ τ (fun r σ' τ' => τ = τ' ∧ (∀ i : Nat, (i < 2 ∨ 2 < i) → σ' i = σ i) ∧ (∀ k : Nat, (k < 1 ∨ 1 < k) → σ' 2 k = σ 2 k) ∧ (jI2 σ') ∧ ((True ∧ (0 ≤ A1 ∧ A1 ≤ 3) ∧ (r.toInt = (σ 2 1).toInt) ∧ ((σ' 2 1).toInt = A1)) ∨ (r = (-1) ∧ ((A1 < 0) ∨ (3 < A1)) ∧ ((σ' 2 1).toInt = (σ 2 1).toInt)))) := by
  refine jM.of hJ (by decide +kernel) (nt := .int) rfl (Nat.le_of_ble_eq_true rfl) ?_
  intro p e s m args below meth c Q ls hC hret hl hP
  obtain ⟨hx, hb, hr, hml, hown, hts, hK, -, hlocks, hZ⟩ := hC
  have hown : s.vm.findClass RX11 = some m.cls := hown
  have hS : va_S (jA ad) s.heap s.heap [] := va_S.rf
  have hA : ∀ q, jA ad q → jA ad q := fun _ h => h
  have hl : lv_has ls 3 [(0, .ref (ad 0)), (1, .int a1)] := hl
  have g1 := jrg t1
  obtain ⟨i1, i2, i3, i4, i5, w6, w7⟩ : (0 ≤ (σ 2 0).toInt ∧ (σ 2 0).toInt ≤ 4) ∧ (0 ≤ (σ 2 1).toInt ∧ (σ 2 1).toInt ≤ 3) ∧ (0 ≤ (σ 2 2).toInt) ∧ (0 ≤ (σ 2 3).toInt) ∧ ((σ 2 2).toInt + (σ 2 3).toInt ≤ 40) ∧ (∀ k : Nat, k < 40 → 0 ≤ (σ 6 k).toInt ∧ (σ 6 k).toInt ≤ 67) ∧ (∀ k : Nat, k < 4 → 0 ≤ (σ 5 k).toInt ∧ (σ 5 k).toInt ≤ 20) := id hI2
  refine lv_iload_n hx hb dX11_set_0 rfl (lv_at hl 1 rfl) ?_
  refine lv_iconst (v := 0) hx hb dX11_set_1 (of_decide_eq_true rfl) ?_
  refine lv_iconst (v := 3) hx hb dX11_set_2 (of_decide_eq_true rfl) ?_
  refine jcallS (As := [.int a1, .int 0, .int 3]) (rest := []) ⟨hx, hb, hml, hown, hts⟩ hK hP hA hS hZ (c_X11_outside l D cI cL ad zz hJ σ τ a1 (A1) t1 0 (0) jz_0 3 (3) jz_3) cw_RX11_94 ⟨Nat.le_of_ble_eq_true rfl, Nat.le_of_ble_eq_true rfl⟩ rfl rfl rfl hl.1 rfl (Nat.le_of_ble_eq_true rfl) dX11_set_3 ⟨Nat.zero_le _, Nat.zero_le _⟩ (fun r9 σ8 τ8 H locs h8 hP hS => ?_)
  obtain ⟨⟨rfl, rfl⟩, h8⟩ := h8
  rcases h8 with h10 | h11
  · obtain ⟨q13, k12⟩ := h10
    have q13 := q13.symm
    subst q13
    refine lv_if_eq (tgt := 11) hx hb dX11_set_6 (of_decide_eq_true rfl) (fun c => absurd c (of_decide_eq_true rfl)) (fun _ => ?_)
    refine lv_iconst (v := (-1)) hx hb dX11_set_9 (of_decide_eq_true rfl) ?_
    exact by exact hret (-1) σ τ _ _ _ _ rfl ⟨rfl, (fun _ _ => rfl), (fun _ _ => rfl), hI2, Or.inr (⟨rfl, (by have h9 := jz_m1; omega), (by have h9 := jz_m1; omega)⟩)⟩ hP hS dX11_set_10
  · obtain ⟨q15, k14⟩ := h11
    have q15 := q15.symm
    subst q15
    refine lv_if_eq (tgt := 11) hx hb dX11_set_6 (of_decide_eq_true rfl) (fun _ => ?_) (fun c => absurd (of_decide_eq_true rfl) c)
    refine lv_aload_n hx hb dX11_set_11 rfl (lv_at hl 0 rfl) ?_
    refine va_get (D := D) hx hb hts inlX11 hown hK hP 0 (jc_0 cI cL ad σ τ) rfl 0 (of_decide_eq_true rfl) (hts _ kw_1_16) (fun _ h9 => h9) rfl dX11_set_12 ?_
    refine va_get (D := D) hx hb hts inlX4 hown hK hP 2 (jc_2 cI cL ad σ τ) rfl 1 (of_decide_eq_true rfl) (hts _ kw_12_8) (fun _ h9 => h9) rfl dX11_set_15 ?_
    refine lv_istore_n (lv' := [(2, .int (σ 2 1)), (0, .ref (ad 0)), (1, .int a1)]) hx hb dX11_set_18 rfl hl (of_decide_eq_true rfl) rfl (fun ls hl => ?_)
    refine lv_aload_n hx hb dX11_set_19 rfl (lv_at hl 1 rfl) ?_
    refine va_get (D := D) hx hb hts inlX11 hown hK hP 0 (jc_0 cI cL ad σ τ) rfl 0 (of_decide_eq_true rfl) (hts _ kw_1_16) (fun _ h9 => h9) rfl dX11_set_20 ?_
    refine lv_iload_n hx hb dX11_set_23 rfl (lv_at hl 2 rfl) ?_
    refine jput (ty := .int) hx hb hts inlX4 tyX4 tyX4_ok nmX4 hown hK hP hJ hA hS (jc_2 cI cL ad σ τ) rfl (k := 1) (of_decide_eq_true rfl) (Nat.le_of_ble_eq_true rfl) (jp_2_1 cI cL ad σ τ a1) (hts _ kw_12_8) (fun _ h9 => h9) rfl (by decide +kernel) rfl rfl dX11_set_24 (fun σ16 H locs eσ16 hP hS => ?_)
    refine lv_iload_n hx hb dX11_set_27 rfl (lv_at hl 0 rfl) ?_
    have z17 : (σ16 2 0).toInt = (σ 2 0).toInt := (congrArg Int32.toInt (show σ16 2 0 = (σ 2 0) from (jkp 0 eσ16 (of_decide_eq_true rfl))))
    have z18 : (σ16 2 1).toInt = A1 := ((congrArg Int32.toInt (show σ16 2 1 = a1 from (jsp eσ16))).trans t1)
    have z19 : (σ16 2 2).toInt = (σ 2 2).toInt := (congrArg Int32.toInt (show σ16 2 2 = (σ 2 2) from (jkp 2 eσ16 (of_decide_eq_true rfl))))
    have z20 : (σ16 2 3).toInt = (σ 2 3).toInt := (congrArg Int32.toInt (show σ16 2 3 = (σ 2 3) from (jkp 3 eσ16 (of_decide_eq_true rfl))))
    have w21 : ∀ k : Nat, k < 40 → 0 ≤ (σ16 6 k).toInt ∧ (σ16 6 k).toInt ≤ 67 := (jrr_fr (jnp 6 eσ16 (of_decide_eq_true rfl)) w6)
    have w22 : ∀ k : Nat, k < 4 → 0 ≤ (σ16 5 k).toInt ∧ (σ16 5 k).toInt ≤ 20 := (jrr_fr (jnp 5 eσ16 (of_decide_eq_true rfl)) w7)
    exact by
     have I23 : jI2 σ16 := ⟨(by omega), (by omega), (by omega), (by omega), (by omega), w21, w22⟩
     exact by exact hret (σ 2 1) σ16 τ _ _ _ _ rfl ⟨rfl, (fun i hi => (jnp i eσ16 (imp_7 i hi))), (fun i hi => (jkp i eσ16 (imp_42 i hi))), I23, Or.inl ⟨trivial, (by omega), (by omega), (by omega)⟩⟩ hP hS dX11_set_28
set_option maxHeartbeats 4000000 in
set_option maxRecDepth 100000 in
theorem c_X11_learn (l : Launch) (D : va_G) (cI cL : ClassId) (ad zz : Nat → Nat) (hJ : jD ad) (σ : Nat → Nat → Int32) (τ : Nat → Nat → Int64) (a1 : Int32) (A1 : Int) (t1 : a1.toInt = A1) (a2 : Int32) (A2 : Int) (t2 : a2.toInt = A2) (hI2 : jI2 σ) : jM l yX11_learn cX11_learn 5 (some .int) ({ frames := 3, cells := 0, slots := 0, locals := 65 }) D cI cL ad zz [.ref (ad 0), .int a1, .int a2] σ τ (fun r σ' τ' => τ = τ' ∧ (∀ i : Nat, (i < 2 ∨ 3 < i) ∧ (i < 6 ∨ 8 < i) → σ' i = σ i) ∧ (∀ k : Nat, (k < 2 ∨ 2 < k) ∧ (k < 3 ∨ 3 < k) → σ' 2 k = σ 2 k) ∧ (jI2 σ') ∧ ((r = (-1) ∧ ((A1 < 0) ∨ (0 ≤ A1 ∧ (σ 2 0).toInt ≤ (A1 / 10)) ∨ (0 ≤ A1 ∧ 3 < (A1 % 10)) ∨ (A2 < 0) ∨ (9999 < A2) ∨ (0 ≤ A2 ∧ (A2 / 100) < (A2 % 100))) ∧ ((σ' 2 2).toInt = (σ 2 2).toInt) ∧ ((σ' 2 3).toInt = (σ 2 3).toInt) ∧ (σ' 3 = σ 3 ∧ σ' 6 = σ 6 ∧ σ' 7 = σ 7 ∧ σ' 8 = σ 8)) ∨ (True ∧ (0 ≤ A1) ∧ ((A1 / 10) < (σ 2 0).toInt) ∧ ((A1 % 10) ≤ 3) ∧ (0 ≤ A2 ∧ A2 ≤ 9999) ∧ ((A2 % 100) ≤ (A2 / 100)) ∧ ((((1000 * (A2 % 100) + 1000) / ((A2 / 100) + 2)) ≤ 500 ∧ r.toInt = ((1000 * (A2 % 100) + 1000) / ((A2 / 100) + 2))) ∨ (500 < ((1000 * (A2 % 100) + 1000) / ((A2 / 100) + 2)) ∧ r.toInt = 500)) ∧ (∃ (q : Int) (w : Int32), q = 4 * ((A1) / 10) + (A1) % 10 ∧ jChg (q) r w (σ 3) (σ' 3) (σ 6) (σ' 6) (σ 7) (σ' 7) (σ 8) (σ' 8) (σ 2 2).toInt (σ' 2 2).toInt ((σ 2 2).toInt + (σ 2 3).toInt) ((σ' 2 2).toInt + (σ' 2 3).toInt))))) := by
  refine jM.of hJ (by decide +kernel) (nt := .int) rfl (Nat.le_of_ble_eq_true rfl) ?_
  intro p e s m args below meth c Q ls hC hret hl hP
  obtain ⟨hx, hb, hr, hml, hown, hts, hK, -, hlocks, hZ⟩ := hC
  have hown : s.vm.findClass RX11 = some m.cls := hown
  have hS : va_S (jA ad) s.heap s.heap [] := va_S.rf
  have hA : ∀ q, jA ad q → jA ad q := fun _ h => h
  have hl : lv_has ls 5 [(0, .ref (ad 0)), (1, .int a1), (2, .int a2)] := hl
  have g1 := jrg t1
  have g2 := jrg t2
  obtain ⟨i1, i2, i3, i4, i5, w6, w7⟩ : (0 ≤ (σ 2 0).toInt ∧ (σ 2 0).toInt ≤ 4) ∧ (0 ≤ (σ 2 1).toInt ∧ (σ 2 1).toInt ≤ 3) ∧ (0 ≤ (σ 2 2).toInt) ∧ (0 ≤ (σ 2 3).toInt) ∧ ((σ 2 2).toInt + (σ 2 3).toInt ≤ 40) ∧ (∀ k : Nat, k < 40 → 0 ≤ (σ 6 k).toInt ∧ (σ 6 k).toInt ≤ 67) ∧ (∀ k : Nat, k < 4 → 0 ≤ (σ 5 k).toInt ∧ (σ 5 k).toInt ≤ 20) := id hI2
  refine lv_aload_n hx hb dX11_learn_0 rfl (lv_at hl 0 rfl) ?_
  refine lv_iload_n hx hb dX11_learn_1 rfl (lv_at hl 1 rfl) ?_
  refine lv_iconst (v := 0) hx hb dX11_learn_2 (of_decide_eq_true rfl) ?_
  refine jcallV (As := [.int a1, .int 0]) (rest := []) ⟨hx, hb, hml, hown, hts⟩ hK hP hA hS hZ (c_X11_edgePlace_0 l D cI cL ad zz hJ σ τ a1 (A1) t1 hI2) cw_RX11_106 (jc_0 cI cL ad σ τ) rfl ⟨Nat.le_of_ble_eq_true rfl, Nat.le_of_ble_eq_true rfl⟩ rfl rfl rfl hl.1 rfl (Nat.le_of_ble_eq_true rfl) dX11_learn_3 ⟨Nat.zero_le _, Nat.zero_le _⟩ (fun r9 σ8 τ8 H locs h8 hP hS => ?_)
  obtain ⟨⟨rfl, rfl⟩, h8⟩ := h8
  rcases h8 with h10 | h11
  · obtain ⟨q17, k12, k13, k14, k15, k16⟩ := h10
    refine lv_istore_n (lv' := [(3, .int r9), (0, .ref (ad 0)), (1, .int a1), (2, .int a2)]) hx hb dX11_learn_6 rfl hl (of_decide_eq_true rfl) rfl (fun ls hl => ?_)
    refine lv_iload_n hx hb dX11_learn_7 rfl (lv_at hl 0 rfl) ?_
    exact by
     refine lv_if_lt (tgt := 33) hx hb dX11_learn_8 (of_decide_eq_true rfl) (fun c => absurd (jlt c rfl jz_0) (by omega)) (fun c18 => ?_)
     have kc18 := jnlt c18 rfl jz_0
     refine lv_iload_n hx hb dX11_learn_11 rfl (lv_at hl 3 rfl) ?_
     refine lv_iconst (v := 0) hx hb dX11_learn_12 (of_decide_eq_true rfl) ?_
     refine lv_sipush (v := 9999) hx hb dX11_learn_13 (of_decide_eq_true rfl) ?_
     refine jcallS (As := [.int a2, .int 0, .int 9999]) (rest := []) ⟨hx, hb, hml, hown, hts⟩ hK hP hA hS hZ (c_X11_outside l D cI cL ad zz hJ σ τ a2 (A2) t2 0 (0) jz_0 9999 (9999) jz_9999) cw_RX11_94 ⟨Nat.le_of_ble_eq_true rfl, Nat.le_of_ble_eq_true rfl⟩ rfl rfl rfl hl.1 rfl (Nat.le_of_ble_eq_true rfl) dX11_learn_16 ⟨Nat.zero_le _, Nat.zero_le _⟩ (fun r20 σ19 τ19 H locs h19 hP hS => ?_)
     obtain ⟨⟨rfl, rfl⟩, h19⟩ := h19
     rcases h19 with h21 | h22
     · obtain ⟨q24, k23⟩ := h21
       have q24 := q24.symm
       subst q24
       refine lv_if_ne (tgt := 33) hx hb dX11_learn_19 (of_decide_eq_true rfl) (fun _ => ?_) (fun c => absurd c (of_decide_eq_true rfl))
       refine lv_iconst (v := (-1)) hx hb dX11_learn_33 (of_decide_eq_true rfl) ?_
       exact by exact hret (-1) σ τ _ _ _ _ rfl ⟨rfl, (fun _ _ => rfl), (fun _ _ => rfl), hI2, Or.inl ⟨rfl, (by have h9 := jz_m1; omega), (by have h9 := jz_m1; omega), (by have h9 := jz_m1; omega), ⟨rfl, rfl, rfl, rfl⟩⟩⟩ hP hS dX11_learn_34
     · obtain ⟨q26, k25⟩ := h22
       have q26 := q26.symm
       subst q26
       refine lv_if_ne (tgt := 33) hx hb dX11_learn_19 (of_decide_eq_true rfl) (fun c => absurd (of_decide_eq_true rfl) c) (fun _ => ?_)
       refine lv_iload_n hx hb dX11_learn_22 rfl (lv_at hl 3 rfl) ?_
       refine lv_bipush (v := 100) hx hb dX11_learn_23 (of_decide_eq_true rfl) ?_
       refine lv_irem hx hb dX11_learn_25 (of_decide_eq_true rfl) ?_
       refine lv_topi (fun x27 ex27 => ?_)
       exact by
        have tx27 : x27.toInt = (A2 % 100) := jrem ex27 t2 jz_100 (by omega)
        refine lv_iload_n hx hb dX11_learn_26 rfl (lv_at hl 3 rfl) ?_
        refine lv_bipush (v := 100) hx hb dX11_learn_27 (of_decide_eq_true rfl) ?_
        refine lv_idiv hx hb dX11_learn_29 (of_decide_eq_true rfl) ?_
        refine lv_topi (fun x28 ex28 => ?_)
        have tx28 : x28.toInt = (A2 / 100) := jdiv ex28 t2 jz_100 (by omega) (by omega)
        refine lv_icmp_le (tgt := 35) hx hb dX11_learn_30 (of_decide_eq_true rfl) (fun c29 => ?_) (fun c29 => ?_)
        · have kc29 := jle c29 tx27 tx28
          refine lv_sipush (v := 500) hx hb dX11_learn_35 (of_decide_eq_true rfl) ?_
          exact by
           refine lv_sipush (v := 1000) hx hb dX11_learn_38 (of_decide_eq_true rfl) ?_
           refine lv_iload_n hx hb dX11_learn_41 rfl (lv_at hl 3 rfl) ?_
           refine lv_bipush (v := 100) hx hb dX11_learn_42 (of_decide_eq_true rfl) ?_
           refine lv_irem hx hb dX11_learn_44 (of_decide_eq_true rfl) ?_
           refine lv_topi (fun x30 ex30 => ?_)
           have tx30 : x30.toInt = (A2 % 100) := jrem ex30 t2 jz_100 (by omega)
           refine lv_iconst (v := 1) hx hb dX11_learn_45 (of_decide_eq_true rfl) ?_
           refine lv_iadd hx hb dX11_learn_46 ?_
           refine lv_topi (fun x31 ex31 => ?_)
           exact by
            have tx31 : x31.toInt = (A2 % 100) + 1 := (jadd ex31 tx30 jz_1 (by omega) (by omega)).trans (by omega)
            refine lv_imul hx hb dX11_learn_47 ?_
            refine lv_topi (fun x32 ex32 => ?_)
            have tx32 : x32.toInt = 1000 * (A2 % 100) + 1000 := (jmul ex32 jz_1000 tx31 (by omega) (by omega)).trans (by omega)
            refine lv_iload_n hx hb dX11_learn_48 rfl (lv_at hl 3 rfl) ?_
            refine lv_bipush (v := 100) hx hb dX11_learn_49 (of_decide_eq_true rfl) ?_
            refine lv_idiv hx hb dX11_learn_51 (of_decide_eq_true rfl) ?_
            refine lv_topi (fun x33 ex33 => ?_)
            have tx33 : x33.toInt = (A2 / 100) := jdiv ex33 t2 jz_100 (by omega) (by omega)
            exact by
             refine lv_iconst (v := 2) hx hb dX11_learn_52 (of_decide_eq_true rfl) ?_
             refine lv_iadd hx hb dX11_learn_53 ?_
             refine lv_topi (fun x34 ex34 => ?_)
             have tx34 : x34.toInt = (A2 / 100) + 2 := (jadd ex34 tx33 jz_2 (by omega) (by omega)).trans (by omega)
             refine lv_idiv hx hb dX11_learn_54 (fun h => absurd (jeq h tx34 jz_0) (by omega)) ?_
             have g35 := jdivv (a := x32) (b := x34) tx32 tx34 (by omega) (by omega)
             refine lv_topi (fun x36 ex36 => ?_)
             have tx36 : x36.toInt = ((1000 * (A2 % 100) + 1000) / ((A2 / 100) + 2)) := jdiv ex36 tx32 tx34 (by omega) (by omega)
             refine va_mmin hx hb (hml.trans hl.1.symm) hown (hts _ kw_41_3) (hts _ kw_22_11) (hts _ kw_21_1) (hts _ kw_22_12) (Nat.le_of_ble_eq_true rfl) (Nat.le_of_ble_eq_true rfl) (Nat.le_of_ble_eq_true rfl) (Nat.le_of_ble_eq_true rfl) dX11_learn_55 ?_
             exact by
              refine lv_topi (fun x37 ex37 => ?_)
              have g38 := jmin ex37 jz_500 tx36
              refine lv_istore (lv' := [(4, .int x37), (3, .int r9), (0, .ref (ad 0)), (1, .int a1), (2, .int a2)]) hx hb dX11_learn_58 hl (of_decide_eq_true rfl) rfl (fun ls hl => ?_)
              refine lv_aload_n hx hb dX11_learn_60 rfl (lv_at hl 2 rfl) ?_
              refine va_get (D := D) hx hb hts inlX11 hown hK hP 0 (jc_0 cI cL ad σ τ) rfl 0 (of_decide_eq_true rfl) (hts _ kw_1_16) (fun _ h9 => h9) rfl dX11_learn_61 ?_
              refine lv_iload_n hx hb dX11_learn_64 rfl (lv_at hl 1 rfl) ?_
              refine lv_iload hx hb dX11_learn_65 (lv_at hl 0 rfl) ?_
              refine jcallV (As := [.int r9, .int x37]) (rest := []) ⟨hx, hb, hml, hown, hts⟩ hK hP hA hS hZ (c_X4_change_2 l D cI cL ad zz hJ σ τ r9 (r9.toInt) rfl x37 (x37.toInt) rfl hI2 (by omega)) cw_RX11_118 (jc_2 cI cL ad σ τ) rfl ⟨Nat.le_of_ble_eq_true rfl, Nat.le_of_ble_eq_true rfl⟩ rfl rfl rfl hl.1 rfl (Nat.le_of_ble_eq_true rfl) dX11_learn_67 ⟨Nat.zero_le _, Nat.zero_le _⟩ (fun r40 σ39 τ39 H locs h39 hP hS => ?_)
              obtain ⟨rfl, f41, f42, I43, w44, h39⟩ := h39
              exact by
               obtain ⟨i46, i47, i48, i49, i50, w51, w52⟩ : (0 ≤ (σ39 2 0).toInt ∧ (σ39 2 0).toInt ≤ 4) ∧ (0 ≤ (σ39 2 1).toInt ∧ (σ39 2 1).toInt ≤ 3) ∧ (0 ≤ (σ39 2 2).toInt) ∧ (0 ≤ (σ39 2 3).toInt) ∧ ((σ39 2 2).toInt + (σ39 2 3).toInt ≤ 40) ∧ (∀ k : Nat, k < 40 → 0 ≤ (σ39 6 k).toInt ∧ (σ39 6 k).toInt ≤ 67) ∧ (∀ k : Nat, k < 4 → 0 ≤ (σ39 5 k).toInt ∧ (σ39 5 k).toInt ≤ 20) := id I43
               have z53 : (σ39 2 0).toInt = (σ 2 0).toInt := (congrArg Int32.toInt (show σ39 2 0 = (σ 2 0) from (f42 0 (of_decide_eq_true rfl))))
               have z54 : (σ39 2 1).toInt = (σ 2 1).toInt := (congrArg Int32.toInt (show σ39 2 1 = (σ 2 1) from (f42 1 (of_decide_eq_true rfl))))
               refine lv_pop hx hb dX11_learn_70 rfl ?_
               refine lv_iload hx hb dX11_learn_71 (lv_at hl 0 rfl) ?_
               exact by exact hret x37 σ39 τ _ _ _ _ rfl ⟨rfl, (fun i hi => (f41 i hi)), (fun i hi => (f42 i hi)), I43, Or.inr (⟨trivial, (by omega), (by omega), (by omega), (by omega), (by omega), (by omega), ⟨r9.toInt, _, (by omega), w44⟩⟩)⟩ hP hS dX11_learn_73
        · have kc29 := jnle c29 tx27 tx28
          refine lv_iconst (v := (-1)) hx hb dX11_learn_33 (of_decide_eq_true rfl) ?_
          exact by exact hret (-1) σ τ _ _ _ _ rfl ⟨rfl, (fun _ _ => rfl), (fun _ _ => rfl), hI2, Or.inl ⟨rfl, (by have h9 := jz_m1; omega), (by have h9 := jz_m1; omega), (by have h9 := jz_m1; omega), ⟨rfl, rfl, rfl, rfl⟩⟩⟩ hP hS dX11_learn_34
  · obtain ⟨q56, k55⟩ := h11
    have q56 := q56.symm
    subst q56
    refine lv_istore_n (lv' := [(3, .int (-1)), (0, .ref (ad 0)), (1, .int a1), (2, .int a2)]) hx hb dX11_learn_6 rfl hl (of_decide_eq_true rfl) rfl (fun ls hl => ?_)
    refine lv_iload_n hx hb dX11_learn_7 rfl (lv_at hl 0 rfl) ?_
    refine lv_if_lt (tgt := 33) hx hb dX11_learn_8 (of_decide_eq_true rfl) (fun _ => ?_) (fun c => absurd (of_decide_eq_true rfl) c)
    refine lv_iconst (v := (-1)) hx hb dX11_learn_33 (of_decide_eq_true rfl) ?_
    exact by exact hret (-1) σ τ _ _ _ _ rfl ⟨rfl, (fun _ _ => rfl), (fun _ _ => rfl), hI2, Or.inl ⟨rfl, (by have h9 := jz_m1; omega), (by have h9 := jz_m1; omega), (by have h9 := jz_m1; omega), ⟨rfl, rfl, rfl, rfl⟩⟩⟩ hP hS dX11_learn_34
set_option maxHeartbeats 4000000 in
set_option maxRecDepth 100000 in
theorem c_X11_feed (l : Launch) (D : va_G) (cI cL : ClassId) (ad zz : Nat → Nat) (hJ : jD ad) (σ : Nat → Nat → Int32) (τ : Nat → Nat → Int64) (a1 : Int32) (A1 : Int) (t1 : a1.toInt = A1) (a2 : Int32) (A2 : Int) (t2 : a2.toInt = A2) (hI9 : jI9 σ) : jM l yX11_feed cX11_feed 3 (some .int) ({ frames := 1, cells := 0, slots := 0, locals := 23 }) D cI cL ad zz [.ref (ad 0), .int a1, .int a2] σ τ (fun r σ' τ' => τ = τ' ∧ (∀ i : Nat, (i < 9 ∨ 10 < i) → σ' i = σ i) ∧ (∀ k : Nat, (k < 0 ∨ 0 < k) → σ' 9 k = σ 9 k) ∧ (jI9 σ') ∧ ((r = (-1) ∧ ((A1 < 1) ∨ (4 < A1)) ∧ ((σ' 9 0).toInt = (σ 9 0).toInt) ∧ (σ' 10 = σ 10)) ∨ (r = (-3) ∧ (1 ≤ A1 ∧ A1 ≤ 4) ∧ (80 < (σ 9 0).toInt + A1) ∧ ((σ' 9 0).toInt = (σ 9 0).toInt) ∧ (σ' 10 = σ 10)) ∨ (True ∧ (1 ≤ A1 ∧ A1 ≤ 4) ∧ ((σ 9 0).toInt + A1 ≤ 80) ∧ (r.toInt = (σ 9 0).toInt + A1) ∧ ((σ' 9 0).toInt = (σ 9 0).toInt + A1) ∧ (jFd jBc (σ 10) (σ' 10) ((σ 9 0).toInt) (A1) a2)))) := by
  refine jM.of hJ (by decide +kernel) (nt := .int) rfl (Nat.le_of_ble_eq_true rfl) ?_
  intro p e s m args below meth c Q ls hC hret hl hP
  obtain ⟨hx, hb, hr, hml, hown, hts, hK, -, hlocks, hZ⟩ := hC
  have hown : s.vm.findClass RX11 = some m.cls := hown
  have hS : va_S (jA ad) s.heap s.heap [] := va_S.rf
  have hA : ∀ q, jA ad q → jA ad q := fun _ h => h
  have hl : lv_has ls 3 [(0, .ref (ad 0)), (1, .int a1), (2, .int a2)] := hl
  have g1 := jrg t1
  have g2 := jrg t2
  obtain ⟨i1, w2, w3⟩ : (0 ≤ (σ 9 0).toInt ∧ (σ 9 0).toInt ≤ 80) ∧ (∀ k : Nat, k < 80 → 0 ≤ (σ 10 k).toInt ∧ (σ 10 k).toInt ≤ 255) ∧ (∀ k : Nat, k < 8 → 0 ≤ (σ 11 k).toInt ∧ (σ 11 k).toInt ≤ 3) := id hI9
  refine lv_iload_n hx hb dX11_feed_0 rfl (lv_at hl 1 rfl) ?_
  refine lv_iconst (v := 1) hx hb dX11_feed_1 (of_decide_eq_true rfl) ?_
  refine lv_iconst (v := 4) hx hb dX11_feed_2 (of_decide_eq_true rfl) ?_
  refine jcallS (As := [.int a1, .int 1, .int 4]) (rest := []) ⟨hx, hb, hml, hown, hts⟩ hK hP hA hS hZ (c_X11_outside l D cI cL ad zz hJ σ τ a1 (A1) t1 1 (1) jz_1 4 (4) jz_4) cw_RX11_94 ⟨Nat.le_of_ble_eq_true rfl, Nat.le_of_ble_eq_true rfl⟩ rfl rfl rfl hl.1 rfl (Nat.le_of_ble_eq_true rfl) dX11_feed_3 ⟨Nat.zero_le _, Nat.zero_le _⟩ (fun r5 σ4 τ4 H locs h4 hP hS => ?_)
  obtain ⟨⟨rfl, rfl⟩, h4⟩ := h4
  rcases h4 with h6 | h7
  · obtain ⟨q9, k8⟩ := h6
    have q9 := q9.symm
    subst q9
    refine lv_if_eq (tgt := 11) hx hb dX11_feed_6 (of_decide_eq_true rfl) (fun c => absurd c (of_decide_eq_true rfl)) (fun _ => ?_)
    refine lv_iconst (v := (-1)) hx hb dX11_feed_9 (of_decide_eq_true rfl) ?_
    exact by exact hret (-1) σ τ _ _ _ _ rfl ⟨rfl, (fun _ _ => rfl), (fun _ _ => rfl), hI9, Or.inl ⟨rfl, (by have h9 := jz_m1; omega), (by have h9 := jz_m1; omega), rfl⟩⟩ hP hS dX11_feed_10
  · obtain ⟨q11, k10⟩ := h7
    have q11 := q11.symm
    subst q11
    refine lv_if_eq (tgt := 11) hx hb dX11_feed_6 (of_decide_eq_true rfl) (fun _ => ?_) (fun c => absurd (of_decide_eq_true rfl) c)
    refine lv_aload_n hx hb dX11_feed_11 rfl (lv_at hl 0 rfl) ?_
    refine va_get (D := D) hx hb hts inlX11 hown hK hP 0 (jc_0 cI cL ad σ τ) rfl 1 (of_decide_eq_true rfl) (hts _ kw_1_20) (fun _ h9 => h9) rfl dX11_feed_12 ?_
    refine va_get (D := D) hx hb hts inlX7 hown hK hP 9 (jc_9 cI cL ad σ τ) rfl 0 (of_decide_eq_true rfl) (hts _ kw_12_19) (fun _ h9 => h9) rfl dX11_feed_15 ?_
    refine lv_iload_n hx hb dX11_feed_18 rfl (lv_at hl 1 rfl) ?_
    have g12 := jrg (rfl : (σ 9 0).toInt = (σ 9 0).toInt)
    refine lv_iadd hx hb dX11_feed_19 ?_
    refine lv_topi (fun x13 ex13 => ?_)
    exact by
     have tx13 : x13.toInt = (σ 9 0).toInt + A1 := (jadd ex13 rfl t1 (by omega) (by omega)).trans (by omega)
     refine lv_bipush (v := 80) hx hb dX11_feed_20 (of_decide_eq_true rfl) ?_
     refine lv_icmp_le (tgt := 28) hx hb dX11_feed_22 (of_decide_eq_true rfl) (fun c14 => ?_) (fun c14 => ?_)
     · have kc14 := jle c14 tx13 jz_80
       refine lv_aload_n hx hb dX11_feed_28 rfl (lv_at hl 0 rfl) ?_
       refine va_get (D := D) hx hb hts inlX11 hown hK hP 0 (jc_0 cI cL ad σ τ) rfl 1 (of_decide_eq_true rfl) (hts _ kw_1_20) (fun _ h9 => h9) rfl dX11_feed_29 ?_
       refine lv_iload_n hx hb dX11_feed_32 rfl (lv_at hl 1 rfl) ?_
       refine lv_iload_n hx hb dX11_feed_33 rfl (lv_at hl 2 rfl) ?_
       refine jcallV (As := [.int a1, .int a2]) (rest := []) ⟨hx, hb, hml, hown, hts⟩ hK hP hA hS hZ (c_X7_take_9 l D cI cL ad zz hJ σ τ a1 (A1) t1 a2 (A2) t2 hI9 (by omega) (by omega)) cw_RX11_127 (jc_9 cI cL ad σ τ) rfl ⟨Nat.le_of_ble_eq_true rfl, Nat.le_of_ble_eq_true rfl⟩ rfl rfl rfl hl.1 rfl (Nat.le_of_ble_eq_true rfl) dX11_feed_34 ⟨Nat.zero_le _, Nat.zero_le _⟩ (fun r16 σ15 τ15 H locs h15 hP hS => ?_)
       exact by
        obtain ⟨rfl, f17, f18, I19, h15⟩ := h15
        obtain ⟨i21, w22, w23⟩ : (0 ≤ (σ15 9 0).toInt ∧ (σ15 9 0).toInt ≤ 80) ∧ (∀ k : Nat, k < 80 → 0 ≤ (σ15 10 k).toInt ∧ (σ15 10 k).toInt ≤ 255) ∧ (∀ k : Nat, k < 8 → 0 ≤ (σ15 11 k).toInt ∧ (σ15 11 k).toInt ≤ 3) := id I19
        have h24 := h15
        obtain ⟨q28, k25, k26, k27⟩ := h24
        exact by exact hret r16 σ15 τ _ _ _ _ rfl ⟨rfl, (fun i hi => (f17 i hi)), (fun i hi => (f18 i hi)), I19, Or.inr (Or.inr (⟨trivial, (by omega), (by omega), (by omega), (by omega), k27⟩))⟩ hP hS dX11_feed_37
     · have kc14 := jnle c14 tx13 jz_80
       refine lv_bipush (v := (-3)) hx hb dX11_feed_25 (of_decide_eq_true rfl) ?_
       exact by exact hret (-3) σ τ _ _ _ _ rfl ⟨rfl, (fun _ _ => rfl), (fun _ _ => rfl), hI9, Or.inr (Or.inl ⟨rfl, (by have h9 := jz_m3; omega), (by have h9 := jz_m3; omega), (by have h9 := jz_m3; omega), rfl⟩)⟩ hP hS dX11_feed_27
set_option maxHeartbeats 4000000 in
set_option maxRecDepth 100000 in
theorem c_X11_undo (l : Launch) (D : va_G) (cI cL : ClassId) (ad zz : Nat → Nat) (hJ : jD ad) (σ : Nat → Nat → Int32) (τ : Nat → Nat → Int64) (hI2 : jI2 σ) : jM l yX11_undo cX11_undo 1 (some .int) ({ frames := 1, cells := 0, slots := 0, locals := 20 }) D cI cL ad zz [.ref (ad 0)] σ τ (fun r σ' τ' => τ = τ' ∧ (∀ i : Nat, (i < 2 ∨ 3 < i) → σ' i = σ i) ∧ (∀ k : Nat, (k < 2 ∨ 2 < k) ∧ (k < 3 ∨ 3 < k) → σ' 2 k = σ 2 k) ∧ (jI2 σ') ∧ ((r = (-5) ∧ ((σ 2 2).toInt = 0) ∧ ((σ' 2 2).toInt = (σ 2 2).toInt) ∧ ((σ' 2 3).toInt = (σ 2 3).toInt) ∧ (σ' 3 = σ 3)) ∨ (True ∧ (1 ≤ (σ 2 2).toInt) ∧ ((σ 2 2).toInt ≤ 40) ∧ (r.toInt = (σ 2 2).toInt - 1) ∧ ((σ' 2 2).toInt = (σ 2 2).toInt - 1) ∧ ((σ' 2 3).toInt = (σ 2 3).toInt + 1) ∧ (σ' 3 = jupd (σ 3) (σ 6 (r.toInt).toNat).toInt.toNat (σ 7 (r.toInt).toNat))))) := by
  refine jM.of hJ (by decide +kernel) (nt := .int) rfl (Nat.le_of_ble_eq_true rfl) ?_
  intro p e s m args below meth c Q ls hC hret hl hP
  obtain ⟨hx, hb, hr, hml, hown, hts, hK, -, hlocks, hZ⟩ := hC
  have hown : s.vm.findClass RX11 = some m.cls := hown
  have hS : va_S (jA ad) s.heap s.heap [] := va_S.rf
  have hA : ∀ q, jA ad q → jA ad q := fun _ h => h
  have hl : lv_has ls 1 [(0, .ref (ad 0))] := hl
  obtain ⟨i1, i2, i3, i4, i5, w6, w7⟩ : (0 ≤ (σ 2 0).toInt ∧ (σ 2 0).toInt ≤ 4) ∧ (0 ≤ (σ 2 1).toInt ∧ (σ 2 1).toInt ≤ 3) ∧ (0 ≤ (σ 2 2).toInt) ∧ (0 ≤ (σ 2 3).toInt) ∧ ((σ 2 2).toInt + (σ 2 3).toInt ≤ 40) ∧ (∀ k : Nat, k < 40 → 0 ≤ (σ 6 k).toInt ∧ (σ 6 k).toInt ≤ 67) ∧ (∀ k : Nat, k < 4 → 0 ≤ (σ 5 k).toInt ∧ (σ 5 k).toInt ≤ 20) := id hI2
  refine lv_aload_n hx hb dX11_undo_0 rfl (lv_at hl 0 rfl) ?_
  refine va_get (D := D) hx hb hts inlX11 hown hK hP 0 (jc_0 cI cL ad σ τ) rfl 0 (of_decide_eq_true rfl) (hts _ kw_1_16) (fun _ h9 => h9) rfl dX11_undo_1 ?_
  refine va_get (D := D) hx hb hts inlX4 hown hK hP 2 (jc_2 cI cL ad σ τ) rfl 2 (of_decide_eq_true rfl) (hts _ kw_47_8) (fun _ h9 => h9) rfl dX11_undo_4 ?_
  refine lv_if_ne (tgt := 15) hx hb dX11_undo_7 (of_decide_eq_true rfl) (fun c8 => ?_) (fun c8 => ?_)
  · have kc8 := jne c8 rfl jz_0
    refine lv_aload_n hx hb dX11_undo_15 rfl (lv_at hl 0 rfl) ?_
    refine va_get (D := D) hx hb hts inlX11 hown hK hP 0 (jc_0 cI cL ad σ τ) rfl 0 (of_decide_eq_true rfl) (hts _ kw_1_16) (fun _ h9 => h9) rfl dX11_undo_16 ?_
    refine jcallV (As := []) (rest := []) ⟨hx, hb, hml, hown, hts⟩ hK hP hA hS hZ (c_X4_stepBack_2 l D cI cL ad zz hJ σ τ hI2) cw_RX11_280 (jc_2 cI cL ad σ τ) rfl ⟨Nat.le_of_ble_eq_true rfl, Nat.le_of_ble_eq_true rfl⟩ rfl rfl rfl hl.1 rfl (Nat.le_of_ble_eq_true rfl) dX11_undo_19 ⟨Nat.zero_le _, Nat.zero_le _⟩ (fun r10 σ9 τ9 H locs h9 hP hS => ?_)
    obtain ⟨rfl, f11, f12, I13, h9⟩ := h9
    obtain ⟨i15, i16, i17, i18, i19, w20, w21⟩ : (0 ≤ (σ9 2 0).toInt ∧ (σ9 2 0).toInt ≤ 4) ∧ (0 ≤ (σ9 2 1).toInt ∧ (σ9 2 1).toInt ≤ 3) ∧ (0 ≤ (σ9 2 2).toInt) ∧ (0 ≤ (σ9 2 3).toInt) ∧ ((σ9 2 2).toInt + (σ9 2 3).toInt ≤ 40) ∧ (∀ k : Nat, k < 40 → 0 ≤ (σ9 6 k).toInt ∧ (σ9 6 k).toInt ≤ 67) ∧ (∀ k : Nat, k < 4 → 0 ≤ (σ9 5 k).toInt ∧ (σ9 5 k).toInt ≤ 20) := id I13
    have z22 : (σ9 2 0).toInt = (σ 2 0).toInt := (congrArg Int32.toInt (show σ9 2 0 = (σ 2 0) from (f12 0 (of_decide_eq_true rfl))))
    have z23 : (σ9 2 1).toInt = (σ 2 1).toInt := (congrArg Int32.toInt (show σ9 2 1 = (σ 2 1) from (f12 1 (of_decide_eq_true rfl))))
    rcases h9 with h24 | h25
    · obtain ⟨q30, k26, k27, k28, k29⟩ := h24
      exact absurd (by omega : False) id
    · obtain ⟨q37, k31, k32, k33, k34, k35, k36⟩ := h25
      exact by exact hret r10 σ9 τ _ _ _ _ rfl ⟨rfl, (fun i hi => (f11 i hi)), (fun i hi => (f12 i hi)), I13, Or.inr (⟨trivial, (by omega), (by omega), (by omega), (by omega), (by omega), k36⟩)⟩ hP hS dX11_undo_22
  · have kc8 := jeq c8 rfl jz_0
    refine lv_bipush (v := (-5)) hx hb dX11_undo_10 (of_decide_eq_true rfl) ?_
    refine lv_goto (tgt := 22) hx hb dX11_undo_12 (of_decide_eq_true rfl) ?_
    exact by exact hret (-5) σ τ _ _ _ _ rfl ⟨rfl, (fun _ _ => rfl), (fun _ _ => rfl), hI2, Or.inl ⟨rfl, (by have h9 := jz_m5; omega), (by have h9 := jz_m5; omega), (by have h9 := jz_m5; omega), rfl⟩⟩ hP hS dX11_undo_22
set_option maxHeartbeats 4000000 in
set_option maxRecDepth 100000 in
theorem c_X11_redo (l : Launch) (D : va_G) (cI cL : ClassId) (ad zz : Nat → Nat) (hJ : jD ad) (σ : Nat → Nat → Int32) (τ : Nat → Nat → Int64) (hI2 : jI2 σ) : jM l yX11_redo cX11_redo 1 (some .int) ({ frames := 1, cells := 0, slots := 0, locals := 20 }) D cI cL ad zz [.ref (ad 0)] σ τ (fun r σ' τ' => τ = τ' ∧ (∀ i : Nat, (i < 2 ∨ 3 < i) → σ' i = σ i) ∧ (∀ k : Nat, (k < 2 ∨ 2 < k) ∧ (k < 3 ∨ 3 < k) → σ' 2 k = σ 2 k) ∧ (jI2 σ') ∧ ((r = (-5) ∧ ((σ 2 3).toInt = 0) ∧ ((σ' 2 2).toInt = (σ 2 2).toInt) ∧ ((σ' 2 3).toInt = (σ 2 3).toInt) ∧ (σ' 3 = σ 3)) ∨ (True ∧ (1 ≤ (σ 2 3).toInt) ∧ ((σ 2 2).toInt < 40) ∧ (r.toInt = (σ 2 3).toInt - 1) ∧ ((σ' 2 2).toInt = (σ 2 2).toInt + 1) ∧ ((σ' 2 3).toInt = (σ 2 3).toInt - 1) ∧ (σ' 3 = jupd (σ 3) (σ 6 ((σ 2 2).toInt).toNat).toInt.toNat (σ 8 ((σ 2 2).toInt).toNat))))) := by
  refine jM.of hJ (by decide +kernel) (nt := .int) rfl (Nat.le_of_ble_eq_true rfl) ?_
  intro p e s m args below meth c Q ls hC hret hl hP
  obtain ⟨hx, hb, hr, hml, hown, hts, hK, -, hlocks, hZ⟩ := hC
  have hown : s.vm.findClass RX11 = some m.cls := hown
  have hS : va_S (jA ad) s.heap s.heap [] := va_S.rf
  have hA : ∀ q, jA ad q → jA ad q := fun _ h => h
  have hl : lv_has ls 1 [(0, .ref (ad 0))] := hl
  obtain ⟨i1, i2, i3, i4, i5, w6, w7⟩ : (0 ≤ (σ 2 0).toInt ∧ (σ 2 0).toInt ≤ 4) ∧ (0 ≤ (σ 2 1).toInt ∧ (σ 2 1).toInt ≤ 3) ∧ (0 ≤ (σ 2 2).toInt) ∧ (0 ≤ (σ 2 3).toInt) ∧ ((σ 2 2).toInt + (σ 2 3).toInt ≤ 40) ∧ (∀ k : Nat, k < 40 → 0 ≤ (σ 6 k).toInt ∧ (σ 6 k).toInt ≤ 67) ∧ (∀ k : Nat, k < 4 → 0 ≤ (σ 5 k).toInt ∧ (σ 5 k).toInt ≤ 20) := id hI2
  refine lv_aload_n hx hb dX11_redo_0 rfl (lv_at hl 0 rfl) ?_
  refine va_get (D := D) hx hb hts inlX11 hown hK hP 0 (jc_0 cI cL ad σ τ) rfl 0 (of_decide_eq_true rfl) (hts _ kw_1_16) (fun _ h9 => h9) rfl dX11_redo_1 ?_
  refine va_get (D := D) hx hb hts inlX4 hown hK hP 2 (jc_2 cI cL ad σ τ) rfl 3 (of_decide_eq_true rfl) (hts _ kw_47_21) (fun _ h9 => h9) rfl dX11_redo_4 ?_
  refine lv_if_ne (tgt := 15) hx hb dX11_redo_7 (of_decide_eq_true rfl) (fun c8 => ?_) (fun c8 => ?_)
  · have kc8 := jne c8 rfl jz_0
    refine lv_aload_n hx hb dX11_redo_15 rfl (lv_at hl 0 rfl) ?_
    refine va_get (D := D) hx hb hts inlX11 hown hK hP 0 (jc_0 cI cL ad σ τ) rfl 0 (of_decide_eq_true rfl) (hts _ kw_1_16) (fun _ h9 => h9) rfl dX11_redo_16 ?_
    refine jcallV (As := []) (rest := []) ⟨hx, hb, hml, hown, hts⟩ hK hP hA hS hZ (c_X4_stepAgain_2 l D cI cL ad zz hJ σ τ hI2) cw_RX11_286 (jc_2 cI cL ad σ τ) rfl ⟨Nat.le_of_ble_eq_true rfl, Nat.le_of_ble_eq_true rfl⟩ rfl rfl rfl hl.1 rfl (Nat.le_of_ble_eq_true rfl) dX11_redo_19 ⟨Nat.zero_le _, Nat.zero_le _⟩ (fun r10 σ9 τ9 H locs h9 hP hS => ?_)
    obtain ⟨rfl, f11, f12, I13, h9⟩ := h9
    obtain ⟨i15, i16, i17, i18, i19, w20, w21⟩ : (0 ≤ (σ9 2 0).toInt ∧ (σ9 2 0).toInt ≤ 4) ∧ (0 ≤ (σ9 2 1).toInt ∧ (σ9 2 1).toInt ≤ 3) ∧ (0 ≤ (σ9 2 2).toInt) ∧ (0 ≤ (σ9 2 3).toInt) ∧ ((σ9 2 2).toInt + (σ9 2 3).toInt ≤ 40) ∧ (∀ k : Nat, k < 40 → 0 ≤ (σ9 6 k).toInt ∧ (σ9 6 k).toInt ≤ 67) ∧ (∀ k : Nat, k < 4 → 0 ≤ (σ9 5 k).toInt ∧ (σ9 5 k).toInt ≤ 20) := id I13
    have z22 : (σ9 2 0).toInt = (σ 2 0).toInt := (congrArg Int32.toInt (show σ9 2 0 = (σ 2 0) from (f12 0 (of_decide_eq_true rfl))))
    have z23 : (σ9 2 1).toInt = (σ 2 1).toInt := (congrArg Int32.toInt (show σ9 2 1 = (σ 2 1) from (f12 1 (of_decide_eq_true rfl))))
    rcases h9 with h24 | h25
    · obtain ⟨q30, k26, k27, k28, k29⟩ := h24
      exact absurd (by omega : False) id
    · obtain ⟨q37, k31, k32, k33, k34, k35, k36⟩ := h25
      exact by exact hret r10 σ9 τ _ _ _ _ rfl ⟨rfl, (fun i hi => (f11 i hi)), (fun i hi => (f12 i hi)), I13, Or.inr (⟨trivial, (by omega), (by omega), (by omega), (by omega), (by omega), k36⟩)⟩ hP hS dX11_redo_22
  · have kc8 := jeq c8 rfl jz_0
    refine lv_bipush (v := (-5)) hx hb dX11_redo_10 (of_decide_eq_true rfl) ?_
    refine lv_goto (tgt := 22) hx hb dX11_redo_12 (of_decide_eq_true rfl) ?_
    exact by exact hret (-5) σ τ _ _ _ _ rfl ⟨rfl, (fun _ _ => rfl), (fun _ _ => rfl), hI2, Or.inl ⟨rfl, (by have h9 := jz_m5; omega), (by have h9 := jz_m5; omega), (by have h9 := jz_m5; omega), rfl⟩⟩ hP hS dX11_redo_22
set_option maxHeartbeats 4000000 in
set_option maxRecDepth 100000 in
theorem c_X11_order (l : Launch) (D : va_G) (cI cL : ClassId) (ad zz : Nat → Nat) (hJ : jD ad) (σ : Nat → Nat → Int32) (τ : Nat → Nat → Int64) (hI9 : jI9 σ) (hI16 : jI16 σ) (hI47 : jI47 σ) : jM l yX11_order cX11_order 2 (some .int) ({ frames := 3, cells := 0, slots := 0, locals := 69 }) D cI cL ad zz [.ref (ad 0)] σ τ (fun r σ' τ' => τ = τ' ∧ (∀ i : Nat, (i < 9 ∨ 9 < i) ∧ (i < 11 ∨ 11 < i) ∧ (i < 16 ∨ 17 < i) ∧ (i < 47 ∨ 47 < i) → σ' i = σ i) ∧ (∀ k : Nat, (k < 0 ∨ 0 < k) ∧ (k < 1 ∨ 1 < k) ∧ (k < 2 ∨ 2 < k) → σ' 9 k = σ 9 k) ∧ (∀ k : Nat, (k < 0 ∨ 0 < k) ∧ (k < 1 ∨ 1 < k) ∧ (k < 2 ∨ 2 < k) → σ' 16 k = σ 16 k) ∧ (∀ k : Nat, (k < 0 ∨ 0 < k) → σ' 47 k = σ 47 k) ∧ (jI9 σ') ∧ (jI16 σ') ∧ (jI47 σ') ∧ (jOrA (σ 10) (σ' 17) (σ 17) (σ 9 0).toInt (r.toInt) ((σ' 16 0).toInt) ((σ' 16 1).toInt) ((σ' 16 2).toInt) ((σ 16 0).toInt) ((σ 16 1).toInt) ((σ 16 2).toInt)) ∧ ((σ' 9 0).toInt = 0) ∧ ((True ∧ (r.toInt ≤ (-100)) ∧ ((σ' 47 0).toInt = (σ 47 0).toInt)) ∨ (True ∧ (1 ≤ r.toInt) ∧ ((σ' 47 0).toInt = 0)))) := by
  refine jM.of hJ (by decide +kernel) (nt := .int) rfl (Nat.le_of_ble_eq_true rfl) ?_
  intro p e s m args below meth c Q ls hC hret hl hP
  obtain ⟨hx, hb, hr, hml, hown, hts, hK, -, hlocks, hZ⟩ := hC
  have hown : s.vm.findClass RX11 = some m.cls := hown
  have hS : va_S (jA ad) s.heap s.heap [] := va_S.rf
  have hA : ∀ q, jA ad q → jA ad q := fun _ h => h
  have hl : lv_has ls 2 [(0, .ref (ad 0))] := hl
  obtain ⟨i1, w2, w3⟩ : (0 ≤ (σ 9 0).toInt ∧ (σ 9 0).toInt ≤ 80) ∧ (∀ k : Nat, k < 80 → 0 ≤ (σ 10 k).toInt ∧ (σ 10 k).toInt ≤ 255) ∧ (∀ k : Nat, k < 8 → 0 ≤ (σ 11 k).toInt ∧ (σ 11 k).toInt ≤ 3) := id hI9
  obtain ⟨i4, i5, i6, w7⟩ : (1 ≤ (σ 16 0).toInt ∧ (σ 16 0).toInt ≤ 8) ∧ (1 ≤ (σ 16 1).toInt ∧ (σ 16 1).toInt ≤ 12) ∧ (0 ≤ (σ 16 2).toInt ∧ (σ 16 2).toInt ≤ 999) ∧ (∀ k : Nat, k < 8 → 0 ≤ (σ 17 k).toInt ∧ (σ 17 k).toInt ≤ 3) := id hI16
  obtain ⟨i8, w9, w10⟩ : (0 ≤ (σ 47 0).toInt ∧ (σ 47 0).toInt ≤ 12) ∧ (∀ k : Nat, k < 12 → 0 ≤ (σ 48 k).toInt ∧ (σ 48 k).toInt ≤ 3) ∧ (∀ k : Nat, k < 12 → 0 ≤ (σ 49 k).toInt ∧ (σ 49 k).toInt ≤ 1) := id hI47
  refine lv_aload_n hx hb dX11_order_0 rfl (lv_at hl 0 rfl) ?_
  refine va_get (D := D) hx hb hts inlX11 hown hK hP 0 (jc_0 cI cL ad σ τ) rfl 1 (of_decide_eq_true rfl) (hts _ kw_1_20) (fun _ h9 => h9) rfl dX11_order_1 ?_
  refine lv_aload_n hx hb dX11_order_4 rfl (lv_at hl 0 rfl) ?_
  refine va_get (D := D) hx hb hts inlX11 hown hK hP 0 (jc_0 cI cL ad σ τ) rfl 2 (of_decide_eq_true rfl) (hts _ kw_2_0) (fun _ h9 => h9) rfl dX11_order_5 ?_
  refine jcallV (As := [.ref (ad 16)]) (rest := []) ⟨hx, hb, hml, hown, hts⟩ hK hP hA hS hZ (c_X7_readOrder_9 l D cI cL ad zz hJ σ τ hI9 hI16) cw_RX11_130 (jc_9 cI cL ad σ τ) rfl ⟨Nat.le_of_ble_eq_true rfl, Nat.le_of_ble_eq_true rfl⟩ rfl rfl rfl hl.1 rfl (Nat.le_of_ble_eq_true rfl) dX11_order_8 ⟨Nat.zero_le _, Nat.zero_le _⟩ (fun r12 σ11 τ11 H locs h11 hP hS => ?_)
  obtain ⟨rfl, f13, f14, f15, I16, I17, w18, h11⟩ := h11
  obtain ⟨i20, w21, w22⟩ : (0 ≤ (σ11 9 0).toInt ∧ (σ11 9 0).toInt ≤ 80) ∧ (∀ k : Nat, k < 80 → 0 ≤ (σ11 10 k).toInt ∧ (σ11 10 k).toInt ≤ 255) ∧ (∀ k : Nat, k < 8 → 0 ≤ (σ11 11 k).toInt ∧ (σ11 11 k).toInt ≤ 3) := id I16
  obtain ⟨i23, i24, i25, w26⟩ : (1 ≤ (σ11 16 0).toInt ∧ (σ11 16 0).toInt ≤ 8) ∧ (1 ≤ (σ11 16 1).toInt ∧ (σ11 16 1).toInt ≤ 12) ∧ (0 ≤ (σ11 16 2).toInt ∧ (σ11 16 2).toInt ≤ 999) ∧ (∀ k : Nat, k < 8 → 0 ≤ (σ11 17 k).toInt ∧ (σ11 17 k).toInt ≤ 3) := id I17
  obtain ⟨k27, h11⟩ := h11
  have h28 := h11
  obtain ⟨q30, k29⟩ := h28
  refine lv_istore_n (lv' := [(1, .int r12), (0, .ref (ad 0))]) hx hb dX11_order_11 rfl hl (of_decide_eq_true rfl) rfl (fun ls hl => ?_)
  refine lv_iload_n hx hb dX11_order_12 rfl (lv_at hl 0 rfl) ?_
  refine lv_if_lt (tgt := 21) hx hb dX11_order_13 (of_decide_eq_true rfl) (fun c31 => ?_) (fun c31 => ?_)
  · have kc31 := jlt c31 rfl jz_0
    refine lv_aload_n hx hb dX11_order_21 rfl (lv_at hl 1 rfl) ?_
    refine va_get (D := D) hx hb hts inlX11 hown hK hP 0 (jc_0 cI cL ad σ11 τ) rfl 9 (of_decide_eq_true rfl) (hts _ kw_3_1) (fun _ h9 => h9) rfl dX11_order_22 ?_
    refine lv_iconst (v := 0) hx hb dX11_order_25 (of_decide_eq_true rfl) ?_
    refine jput (ty := .int) hx hb hts inlX2 tyX2 tyX2_ok nmX2 hown hK hP hJ hA hS (jc_47 cI cL ad σ11 τ) rfl (k := 0) (of_decide_eq_true rfl) (Nat.le_of_ble_eq_true rfl) (jp_47_0 cI cL ad σ11 τ 0) (hts _ kw_13_11) (fun _ h9 => h9) rfl (by decide +kernel) rfl rfl dX11_order_26 (fun σ32 H locs eσ32 hP hS => ?_)
    refine lv_aload_n hx hb dX11_order_29 rfl (lv_at hl 1 rfl) ?_
    refine va_get (D := D) hx hb hts inlX11 hown hK hP 0 (jc_0 cI cL ad σ32 τ) rfl 2 (of_decide_eq_true rfl) (hts _ kw_2_0) (fun _ h9 => h9) rfl dX11_order_30 ?_
    refine va_get (D := D) hx hb hts inlX6 hown hK hP 16 (jc_16 cI cL ad σ32 τ) rfl 0 (of_decide_eq_true rfl) (hts _ kw_13_12) (fun _ h9 => h9) rfl dX11_order_33 ?_
    have m33 : σ32 16 0 = (σ11 16 0) := (congrFun (jnp 16 eσ32 (of_decide_eq_true rfl)) 0)
    refine jtopr m33 ?_
    have I34 : jI9 σ32 := jI9_fr (congrFun (jnp 9 eσ32 (of_decide_eq_true rfl)) 0) (jnp 10 eσ32 (of_decide_eq_true rfl)) (jnp 11 eσ32 (of_decide_eq_true rfl)) I16
    have I35 : jI16 σ32 := jI16_fr (congrFun (jnp 16 eσ32 (of_decide_eq_true rfl)) 0) (congrFun (jnp 16 eσ32 (of_decide_eq_true rfl)) 1) (congrFun (jnp 16 eσ32 (of_decide_eq_true rfl)) 2) (jnp 17 eσ32 (of_decide_eq_true rfl)) I17
    have z36 : (σ32 47 0).toInt = 0 := ((congrArg Int32.toInt (show σ32 47 0 = 0 from (jsp eσ32))).trans jz_0)
    have w37 : ∀ k : Nat, k < 12 → 0 ≤ (σ32 48 k).toInt ∧ (σ32 48 k).toInt ≤ 3 := (jrr_fr (jnp 48 eσ32 (of_decide_eq_true rfl)) (jrr_fr (f13 48 (of_decide_eq_true rfl)) w9))
    have w38 : ∀ k : Nat, k < 12 → 0 ≤ (σ32 49 k).toInt ∧ (σ32 49 k).toInt ≤ 1 := (jrr_fr (jnp 49 eσ32 (of_decide_eq_true rfl)) (jrr_fr (f13 49 (of_decide_eq_true rfl)) w10))
    exact by
     have I39 : jI47 σ32 := ⟨(by omega), w37, w38⟩
     have z46 : (σ32 16 0).toInt = (σ11 16 0).toInt := (congrArg Int32.toInt (show σ32 16 0 = (σ11 16 0) from m33))
     have z47 : (σ32 16 1).toInt = (σ11 16 1).toInt := (congrArg Int32.toInt (show σ32 16 1 = (σ11 16 1) from (congrFun (jnp 16 eσ32 (of_decide_eq_true rfl)) 1)))
     have z48 : (σ32 16 2).toInt = (σ11 16 2).toInt := (congrArg Int32.toInt (show σ32 16 2 = (σ11 16 2) from (congrFun (jnp 16 eσ32 (of_decide_eq_true rfl)) 2)))
     obtain ⟨m40, t41, r42, x43, a44, b45⟩ := w18
     have z49 : (σ32 9 0).toInt = (σ11 9 0).toInt := (congrArg Int32.toInt (show σ32 9 0 = (σ11 9 0) from (congrFun (jnp 9 eσ32 (of_decide_eq_true rfl)) 0)))
     exact by exact hret (σ11 16 0) σ32 τ _ _ _ _ rfl ⟨rfl, (fun i hi => ((jnp i eσ32 (imp_124 i hi)).trans (f13 i (imp_125 i hi)))), (fun i hi => ((congrFun (jnp 9 eσ32 (of_decide_eq_true rfl)) i).trans (f14 i hi))), (fun i hi => ((congrFun (jnp 16 eσ32 (of_decide_eq_true rfl)) i).trans (f15 i hi))), (fun i hi => ((jkp i eσ32 (imp_4 i hi)).trans (congrFun (f13 47 (of_decide_eq_true rfl)) i))), I34, I35, I39, ⟨m40, t41, r42, x43, a44, b45.elim (fun w => Or.inl ⟨w.1, (by omega), by omega, by omega, by omega, (by rw [show σ32 17 = σ11 17 from (jnp 17 eσ32 (of_decide_eq_true rfl))]; exact w.2.2.2.2.2)⟩) (fun w => Or.inr ⟨w.1, (by omega), by omega, by omega, by omega, (by rw [show σ32 17 = σ11 17 from (jnp 17 eσ32 (of_decide_eq_true rfl))]; exact w.2.2.2.2.2)⟩)⟩, (by omega), Or.inr (⟨trivial, (by omega), (by omega)⟩)⟩ hP hS dX11_order_36
  · have kc31 := jnlt c31 rfl jz_0
    refine lv_bipush (v := (-100)) hx hb dX11_order_16 (of_decide_eq_true rfl) ?_
    refine lv_iload_n hx hb dX11_order_18 rfl (lv_at hl 0 rfl) ?_
    have g50 := jrg (rfl : r12.toInt = r12.toInt)
    refine lv_isub hx hb dX11_order_19 ?_
    refine lv_topi (fun x51 ex51 => ?_)
    exact by
     have tx51 : x51.toInt = -r12.toInt - 100 := (jsub ex51 jz_m100 rfl (by omega) (by omega)).trans (by omega)
     have I52 : jI47 σ11 := jI47_fr (congrFun (f13 47 (of_decide_eq_true rfl)) 0) (f13 48 (of_decide_eq_true rfl)) (f13 49 (of_decide_eq_true rfl)) hI47
     obtain ⟨m53, t54, r55, x56, a57, b58⟩ := w18
     have z59 : (σ11 47 0).toInt = (σ 47 0).toInt := (congrArg Int32.toInt (show σ11 47 0 = (σ 47 0) from (congrFun (f13 47 (of_decide_eq_true rfl)) 0)))
     exact by exact hret x51 σ11 τ _ _ _ _ rfl ⟨rfl, (fun i hi => (f13 i (imp_125 i hi))), (fun i hi => (f14 i hi)), (fun i hi => (f15 i hi)), (fun i hi => (congrFun (f13 47 (of_decide_eq_true rfl)) i)), I16, I17, I52, ⟨m53, t54, r55, x56, a57, b58.elim (fun w => Or.inl ⟨w.1, (by have h9 := tx51; omega), by omega, by omega, by omega, (by exact w.2.2.2.2.2)⟩) (fun w => Or.inr ⟨w.1, (by have h9 := tx51; omega), by omega, by omega, by omega, (by exact w.2.2.2.2.2)⟩)⟩, (by omega), Or.inl ⟨trivial, (by have h9 := tx51; omega), (by have h9 := tx51; omega)⟩⟩ hP hS dX11_order_20
set_option maxHeartbeats 4000000 in
set_option maxRecDepth 100000 in
theorem c_X11_text (l : Launch) (D : va_G) (cI cL : ClassId) (ad zz : Nat → Nat) (hJ : jD ad) (σ : Nat → Nat → Int32) (τ : Nat → Nat → Int64) (a1 : Int32) (A1 : Int) (t1 : a1.toInt = A1) (hI9 : jI9 σ) (hI12 : jI12 σ) (hI18 : jI18 σ) (hI22 : jI22 σ) (hI26 : jI26 σ) (hs_jNd12 : jNd12 σ) (hs_jBl : jBl σ) (hp0 : (σ 26 6).toInt ≤ 7999) : jM l yX11_text cX11_text 3 (some .int) ({ frames := 67, cells := 0, slots := 0, locals := 2867 }) D cI cL ad zz [.ref (ad 0), .int a1] σ τ (fun r σ' τ' => τ = τ' ∧ (∀ i : Nat, (i < 9 ∨ 9 < i) ∧ (i < 12 ∨ 13 < i) ∧ (i < 18 ∨ 19 < i) ∧ (i < 22 ∨ 23 < i) ∧ (i < 26 ∨ 26 < i) → σ' i = σ i) ∧ (∀ k : Nat, (k < 0 ∨ 0 < k) ∧ (k < 1 ∨ 1 < k) ∧ (k < 2 ∨ 2 < k) → σ' 9 k = σ 9 k) ∧ (∀ k : Nat, (k < 0 ∨ 0 < k) ∧ (k < 1 ∨ 1 < k) → σ' 12 k = σ 12 k) ∧ (∀ k : Nat, (k < 0 ∨ 0 < k) ∧ (k < 1 ∨ 1 < k) → σ' 18 k = σ 18 k) ∧ (∀ k : Nat, (k < 0 ∨ 0 < k) ∧ (k < 1 ∨ 1 < k) → σ' 22 k = σ 22 k) ∧ (∀ k : Nat, (k < 6 ∨ 6 < k) ∧ (k < 7 ∨ 7 < k) → σ' 26 k = σ 26 k) ∧ (jI9 σ') ∧ (jI12 σ') ∧ (jI18 σ') ∧ (jI22 σ') ∧ (jI26 σ') ∧ (jNd12 σ') ∧ (jBl σ') ∧ (((0 ≤ A1 ∧ A1 ≤ 1) ∧ jXa (σ 10) (σ 9 0).toInt (r.toInt)) ∨ (¬ (0 ≤ A1 ∧ A1 ≤ 1) ∧ r.toInt = -1)) ∧ (((A1 = 0 ∧ (∃ e : Int, ((e = -1 ∧ r.toInt = 1) ∨ (0 ≤ e ∧ r.toInt ≤ -100)) ∧ jTn (σ 10) (σ 9 0).toInt (e) (σ' 19) (σ 19) (σ' 18 0).toInt (σ 18 0).toInt (σ' 18 1) (σ 18 1)) ∧ (σ' 23 = σ 23 ∧ (σ' 22 0).toInt = (σ 22 0).toInt)) ∨ (A1 = 1 ∧ (∃ e : Int, ((e = -1 ∧ r.toInt = 1) ∨ (0 ≤ e ∧ r.toInt ≤ -100)) ∧ jTn (σ 10) (σ 9 0).toInt (e) (σ' 23) (σ 23) (σ' 22 0).toInt (σ 22 0).toInt (σ' 22 1) (σ 22 1)) ∧ (σ' 19 = σ 19 ∧ (σ' 18 0).toInt = (σ 18 0).toInt)) ∨ (A1 ≠ 0 ∧ A1 ≠ 1 ∧ r.toInt ≤ -1 ∧ (σ' 19 = σ 19 ∧ (σ' 18 0).toInt = (σ 18 0).toInt) ∧ (σ' 23 = σ 23 ∧ (σ' 22 0).toInt = (σ 22 0).toInt)))) ∧ ((0 ≤ A1 ∧ A1 ≤ 1 ∧ (σ' 9 0).toInt = 0) ∨ (A1 < 0 ∧ (σ' 9 0).toInt = (σ 9 0).toInt) ∨ (1 < A1 ∧ (σ' 9 0).toInt = (σ 9 0).toInt)) ∧ ((σ' 26 6).toInt ≤ (σ 26 6).toInt + 1) ∧ True) := by
  refine jM.of hJ (by decide +kernel) (nt := .int) rfl (Nat.le_of_ble_eq_true rfl) ?_
  intro p e s m args below meth c Q ls hC hret hl hP
  obtain ⟨hx, hb, hr, hml, hown, hts, hK, -, hlocks, hZ⟩ := hC
  have hown : s.vm.findClass RX11 = some m.cls := hown
  have hS : va_S (jA ad) s.heap s.heap [] := va_S.rf
  have hA : ∀ q, jA ad q → jA ad q := fun _ h => h
  have hl : lv_has ls 3 [(0, .ref (ad 0)), (1, .int a1)] := hl
  have g1 := jrg t1
  obtain ⟨i1, w2, w3⟩ : (0 ≤ (σ 9 0).toInt ∧ (σ 9 0).toInt ≤ 80) ∧ (∀ k : Nat, k < 80 → 0 ≤ (σ 10 k).toInt ∧ (σ 10 k).toInt ≤ 255) ∧ (∀ k : Nat, k < 8 → 0 ≤ (σ 11 k).toInt ∧ (σ 11 k).toInt ≤ 3) := id hI9
  have i4 : 1 ≤ (σ 26 6).toInt ∧ (σ 26 6).toInt ≤ 8000 := hI26
  refine lv_iload_n hx hb dX11_text_0 rfl (lv_at hl 1 rfl) ?_
  refine lv_iconst (v := 0) hx hb dX11_text_1 (of_decide_eq_true rfl) ?_
  refine lv_iconst (v := 1) hx hb dX11_text_2 (of_decide_eq_true rfl) ?_
  refine jcallS (As := [.int a1, .int 0, .int 1]) (rest := []) ⟨hx, hb, hml, hown, hts⟩ hK hP hA hS hZ (c_X11_outside l D cI cL ad zz hJ σ τ a1 (A1) t1 0 (0) jz_0 1 (1) jz_1) cw_RX11_94 ⟨Nat.le_of_ble_eq_true rfl, Nat.le_of_ble_eq_true rfl⟩ rfl rfl rfl hl.1 rfl (Nat.le_of_ble_eq_true rfl) dX11_text_3 ⟨Nat.zero_le _, Nat.zero_le _⟩ (fun r6 σ5 τ5 H locs h5 hP hS => ?_)
  obtain ⟨⟨rfl, rfl⟩, h5⟩ := h5
  rcases h5 with h7 | h8
  · obtain ⟨q10, k9⟩ := h7
    have q10 := q10.symm
    subst q10
    refine lv_if_eq (tgt := 11) hx hb dX11_text_6 (of_decide_eq_true rfl) (fun c => absurd c (of_decide_eq_true rfl)) (fun _ => ?_)
    refine lv_iconst (v := (-1)) hx hb dX11_text_9 (of_decide_eq_true rfl) ?_
    exact by exact hret (-1) σ τ _ _ _ _ rfl ⟨rfl, (fun _ _ => rfl), (fun _ _ => rfl), (fun _ _ => rfl), (fun _ _ => rfl), (fun _ _ => rfl), (fun _ _ => rfl), hI9, hI12, hI18, hI22, hI26, hs_jNd12, hs_jBl, (Or.inr ⟨by omega, (by have h9 := jz_m1; omega)⟩), (Or.inr (Or.inr ⟨by omega, by omega, (by have h9 := jz_m1; omega), ⟨rfl, by omega⟩, ⟨rfl, by omega⟩⟩)), (by omega), (by omega), trivial⟩ hP hS dX11_text_10
  · obtain ⟨q12, k11⟩ := h8
    have q12 := q12.symm
    subst q12
    refine lv_if_eq (tgt := 11) hx hb dX11_text_6 (of_decide_eq_true rfl) (fun _ => ?_) (fun c => absurd (of_decide_eq_true rfl) c)
    refine lv_aload_n hx hb dX11_text_11 rfl (lv_at hl 0 rfl) ?_
    refine va_get (D := D) hx hb hts inlX11 hown hK hP 0 (jc_0 cI cL ad σ τ) rfl 1 (of_decide_eq_true rfl) (hts _ kw_1_20) (fun _ h9 => h9) rfl dX11_text_12 ?_
    refine lv_iload_n hx hb dX11_text_15 rfl (lv_at hl 1 rfl) ?_
    refine lv_if_ne (tgt := 26) hx hb dX11_text_16 (of_decide_eq_true rfl) (fun c13 => ?_) (fun c13 => ?_)
    · have kc13 := jne c13 t1 jz_0
      refine lv_aload_n hx hb dX11_text_26 rfl (lv_at hl 0 rfl) ?_
      refine va_get (D := D) hx hb hts inlX11 hown hK hP 0 (jc_0 cI cL ad σ τ) rfl 4 (of_decide_eq_true rfl) (hts _ kw_2_5) (fun _ h9 => h9) rfl dX11_text_27 ?_
      refine jcallV (As := [.ref (ad 22)]) (rest := []) ⟨hx, hb, hml, hown, hts⟩ hK hP hA hS hZ (c_X7_readText_9_v1 l D cI cL ad zz hJ σ τ hI9 hI12 hI22 hs_jNd12) cw_RX11_136 (jc_9 cI cL ad σ τ) rfl ⟨Nat.le_of_ble_eq_true rfl, Nat.le_of_ble_eq_true rfl⟩ rfl rfl rfl hl.1 rfl (Nat.le_of_ble_eq_true rfl) dX11_text_30 ⟨Nat.zero_le _, Nat.zero_le _⟩ (fun r15 σ14 τ14 H locs h14 hP hS => ?_)
      obtain ⟨rfl, f16, f17, f18, f19, I20, I21, I22, p23, w24, w25, h14⟩ := h14
      obtain ⟨i27, w28, w29⟩ : (0 ≤ (σ14 9 0).toInt ∧ (σ14 9 0).toInt ≤ 80) ∧ (∀ k : Nat, k < 80 → 0 ≤ (σ14 10 k).toInt ∧ (σ14 10 k).toInt ≤ 255) ∧ (∀ k : Nat, k < 8 → 0 ≤ (σ14 11 k).toInt ∧ (σ14 11 k).toInt ≤ 3) := id I20
      obtain ⟨k30, h14⟩ := h14
      have h31 := h14
      obtain ⟨q33, k32⟩ := h31
      refine lv_istore_n (lv' := [(2, .int r15), (0, .ref (ad 0)), (1, .int a1)]) hx hb dX11_text_33 rfl hl (of_decide_eq_true rfl) rfl (fun ls hl => ?_)
      refine lv_iload_n hx hb dX11_text_34 rfl (lv_at hl 0 rfl) ?_
      refine lv_if_lt (tgt := 43) hx hb dX11_text_35 (of_decide_eq_true rfl) (fun c34 => ?_) (fun c34 => ?_)
      · have kc34 := jlt c34 rfl jz_0
        refine lv_iload_n hx hb dX11_text_43 rfl (lv_at hl 2 rfl) ?_
        refine lv_iconst (v := 1) hx hb dX11_text_44 (of_decide_eq_true rfl) ?_
        exact by
         refine lv_icmp_ne (tgt := 55) hx hb dX11_text_45 (of_decide_eq_true rfl) (fun c => absurd (jne c t1 jz_1) (by omega)) (fun c35 => ?_)
         have kc35 := jeq c35 t1 jz_1
         refine lv_aload_n hx hb dX11_text_48 rfl (lv_at hl 1 rfl) ?_
         refine va_get (D := D) hx hb hts inlX11 hown hK hP 0 (jc_0 cI cL ad σ14 τ) rfl 5 (of_decide_eq_true rfl) (hts _ kw_2_9) (fun _ h9 => h9) rfl dX11_text_49 ?_
         have I36 : jI26 σ14 := jI26_fr (congrFun (f16 26 (of_decide_eq_true rfl)) 6) hI26
         have z37 : (σ14 26 6).toInt = (σ 26 6).toInt := (congrArg Int32.toInt (show σ14 26 6 = (σ 26 6) from (congrFun (f16 26 (of_decide_eq_true rfl)) 6)))
         refine jcallVv (As := []) (rest := []) ⟨hx, hb, hml, hown, hts⟩ hK hP hA hS hZ (c_X5_forget_26 l D cI cL ad zz hJ σ14 τ I36 (by omega)) cw_RX11_140 (jc_26 cI cL ad σ14 τ) rfl ⟨Nat.le_of_ble_eq_true rfl, Nat.le_of_ble_eq_true rfl⟩ rfl rfl rfl hl.1 rfl (Nat.le_of_ble_eq_true rfl) dX11_text_52 ⟨Nat.zero_le _, Nat.zero_le _⟩ (fun σ38 τ38 H locs h38 hP hS => ?_)
         obtain ⟨rfl, f40, f41, I42, w43, h38⟩ := h38
         have i45 : 1 ≤ (σ38 26 6).toInt ∧ (σ38 26 6).toInt ≤ 8000 := I42
         exact by
          obtain ⟨k46, h38⟩ := h38
          refine lv_iconst (v := 1) hx hb dX11_text_55 (of_decide_eq_true rfl) ?_
          have z47 : (σ38 22 0).toInt = (σ14 22 0).toInt := (congrArg Int32.toInt (show σ38 22 0 = (σ14 22 0) from (congrFun (f40 22 (of_decide_eq_true rfl)) 0)))
          have d48 : jDep (jGb σ38) (σ38 22 1) := by
            unfold jGb; rw [show σ38 23 = σ14 23 from (f40 23 (of_decide_eq_true rfl)), show σ38 22 0 = σ14 22 0 from (congrFun (f40 22 (of_decide_eq_true rfl)) 0), show σ38 22 1 = σ14 22 1 from (congrFun (f40 22 (of_decide_eq_true rfl)) 1)]
            have w := w25
            rw [show r15.toInt = -1 from by omega] at w
            exact w.dep
          have a49 : jAskn (σ38 26 7) (σ38 22 1) 6 := by rw [show σ38 22 1 = σ14 22 1 from (congrFun (f40 22 (of_decide_eq_true rfl)) 1), show σ38 26 7 = σ38 26 7 from rfl]; exact w43
          exact by
           have p50 : jBl σ38 := (jBl.new hs_jBl d48 a49 ((f40 29 (of_decide_eq_true rfl)).trans (f16 29 (of_decide_eq_true rfl))) ((f40 30 (of_decide_eq_true rfl)).trans (f16 30 (of_decide_eq_true rfl))) (by omega) (by omega) (by omega))
           have I51 : jI9 σ38 := jI9_fr (congrFun (f40 9 (of_decide_eq_true rfl)) 0) (f40 10 (of_decide_eq_true rfl)) (f40 11 (of_decide_eq_true rfl)) I20
           have I52 : jI12 σ38 := jI12_fr (congrFun (f40 12 (of_decide_eq_true rfl)) 0) (f40 13 (of_decide_eq_true rfl)) I21
           have I53 : jI18 σ38 := jI18_fr ((congrFun (f40 18 (of_decide_eq_true rfl)) 0).trans (congrFun (f16 18 (of_decide_eq_true rfl)) 0)) ((f40 19 (of_decide_eq_true rfl)).trans (f16 19 (of_decide_eq_true rfl))) hI18
           have I54 : jI22 σ38 := jI22_fr (congrFun (f40 22 (of_decide_eq_true rfl)) 0) (f40 23 (of_decide_eq_true rfl)) I22
           have p55 : jNd12 σ38 := jNd12.fr (congrFun (f40 12 (of_decide_eq_true rfl)) 0) (congrFun (f40 12 (of_decide_eq_true rfl)) 1) (f40 13 (of_decide_eq_true rfl)) p23
           have z56 : (σ38 18 0).toInt = (σ 18 0).toInt := (congrArg Int32.toInt (show σ38 18 0 = (σ 18 0) from ((congrFun (f40 18 (of_decide_eq_true rfl)) 0).trans (congrFun (f16 18 (of_decide_eq_true rfl)) 0))))
           have z57 : (σ38 9 0).toInt = (σ14 9 0).toInt := (congrArg Int32.toInt (show σ38 9 0 = (σ14 9 0) from (congrFun (f40 9 (of_decide_eq_true rfl)) 0)))
           exact by exact hret 1 σ38 τ _ _ _ _ rfl ⟨rfl, (fun i hi => ((f40 i (imp_126 i hi)).trans (f16 i (imp_127 i hi)))), (fun i hi => ((congrFun (f40 9 (of_decide_eq_true rfl)) i).trans (f17 i hi))), (fun i hi => ((congrFun (f40 12 (of_decide_eq_true rfl)) i).trans (f18 i hi))), (fun i hi => ((congrFun (f40 18 (of_decide_eq_true rfl)) i).trans (congrFun (f16 18 (of_decide_eq_true rfl)) i))), (fun i hi => ((congrFun (f40 22 (of_decide_eq_true rfl)) i).trans (f19 i hi))), (fun i hi => ((f41 i hi).trans (congrFun (f16 26 (of_decide_eq_true rfl)) i))), I51, I52, I53, I54, I42, p55, p50, (Or.inl ⟨⟨by omega, by omega⟩, _, _, _, _, w24, (by have h9 := jz_1; omega)⟩), (Or.inr (Or.inl ⟨by omega, ⟨r15.toInt, (by have h9 := jz_1; omega), (by rw [show σ38 23 = σ14 23 from (f40 23 (of_decide_eq_true rfl)), show (σ38 22 0).toInt = (σ14 22 0).toInt from by omega, show σ38 22 1 = σ14 22 1 from (congrFun (f40 22 (of_decide_eq_true rfl)) 1)]; exact w25)⟩, ⟨((f40 19 (of_decide_eq_true rfl)).trans (f16 19 (of_decide_eq_true rfl))), by omega⟩⟩)), (by omega), (by omega), trivial⟩ hP hS dX11_text_56
      · have kc34 := jnlt c34 rfl jz_0
        refine lv_bipush (v := (-100)) hx hb dX11_text_38 (of_decide_eq_true rfl) ?_
        refine lv_iload_n hx hb dX11_text_40 rfl (lv_at hl 0 rfl) ?_
        have g58 := jrg (rfl : r15.toInt = r15.toInt)
        refine lv_isub hx hb dX11_text_41 ?_
        refine lv_topi (fun x59 ex59 => ?_)
        exact by
         have tx59 : x59.toInt = -r15.toInt - 100 := (jsub ex59 jz_m100 rfl (by omega) (by omega)).trans (by omega)
         have z60 : (σ14 26 6).toInt = (σ 26 6).toInt := (congrArg Int32.toInt (show σ14 26 6 = (σ 26 6) from (congrFun (f16 26 (of_decide_eq_true rfl)) 6)))
         have w61 : σ14 23 = σ 23 ∧ (σ14 22 0).toInt = (σ 22 0).toInt ∧ σ14 22 1 = σ 22 1 := by
           rcases w25 with q | q
           · exact absurd q.1 (by omega)
           · exact q.2
         have p62 : jBl σ14 := (jBl.fr (Int32.toInt_inj.mp w61.2.1) w61.2.2 w61.1 (congrFun (f16 26 (of_decide_eq_true rfl)) 6) (congrFun (f16 26 (of_decide_eq_true rfl)) 7) (f16 29 (of_decide_eq_true rfl)) (f16 30 (of_decide_eq_true rfl)) hs_jBl)
         have I63 : jI18 σ14 := jI18_fr (congrFun (f16 18 (of_decide_eq_true rfl)) 0) (f16 19 (of_decide_eq_true rfl)) hI18
         have I64 : jI26 σ14 := jI26_fr (congrFun (f16 26 (of_decide_eq_true rfl)) 6) hI26
         have z65 : (σ14 18 0).toInt = (σ 18 0).toInt := (congrArg Int32.toInt (show σ14 18 0 = (σ 18 0) from (congrFun (f16 18 (of_decide_eq_true rfl)) 0)))
         exact by exact hret x59 σ14 τ _ _ _ _ rfl ⟨rfl, (fun i hi => (f16 i (imp_127 i hi))), (fun i hi => (f17 i hi)), (fun i hi => (f18 i hi)), (fun i hi => (congrFun (f16 18 (of_decide_eq_true rfl)) i)), (fun i hi => (f19 i hi)), (fun i hi => (congrFun (f16 26 (of_decide_eq_true rfl)) i)), I20, I21, I63, I22, I64, p23, p62, (Or.inl ⟨⟨by omega, by omega⟩, _, _, _, _, w24, (by have h9 := tx59; omega)⟩), (Or.inr (Or.inl ⟨by omega, ⟨r15.toInt, (by have h9 := tx59; omega), w25⟩, ⟨(f16 19 (of_decide_eq_true rfl)), by omega⟩⟩)), (by omega), (by omega), trivial⟩ hP hS dX11_text_42
    · have kc13 := jeq c13 t1 jz_0
      refine lv_aload_n hx hb dX11_text_19 rfl (lv_at hl 0 rfl) ?_
      refine va_get (D := D) hx hb hts inlX11 hown hK hP 0 (jc_0 cI cL ad σ τ) rfl 3 (of_decide_eq_true rfl) (hts _ kw_2_4) (fun _ h9 => h9) rfl dX11_text_20 ?_
      refine lv_goto (tgt := 30) hx hb dX11_text_23 (of_decide_eq_true rfl) ?_
      refine jcallV (As := [.ref (ad 18)]) (rest := []) ⟨hx, hb, hml, hown, hts⟩ hK hP hA hS hZ (c_X7_readText_9 l D cI cL ad zz hJ σ τ hI9 hI12 hI18 hs_jNd12) cw_RX11_136 (jc_9 cI cL ad σ τ) rfl ⟨Nat.le_of_ble_eq_true rfl, Nat.le_of_ble_eq_true rfl⟩ rfl rfl rfl hl.1 rfl (Nat.le_of_ble_eq_true rfl) dX11_text_30 ⟨Nat.zero_le _, Nat.zero_le _⟩ (fun r67 σ66 τ66 H locs h66 hP hS => ?_)
      obtain ⟨rfl, f68, f69, f70, f71, I72, I73, I74, p75, w76, w77, h66⟩ := h66
      obtain ⟨i79, w80, w81⟩ : (0 ≤ (σ66 9 0).toInt ∧ (σ66 9 0).toInt ≤ 80) ∧ (∀ k : Nat, k < 80 → 0 ≤ (σ66 10 k).toInt ∧ (σ66 10 k).toInt ≤ 255) ∧ (∀ k : Nat, k < 8 → 0 ≤ (σ66 11 k).toInt ∧ (σ66 11 k).toInt ≤ 3) := id I72
      obtain ⟨k82, h66⟩ := h66
      have h83 := h66
      obtain ⟨q85, k84⟩ := h83
      refine lv_istore_n (lv' := [(2, .int r67), (0, .ref (ad 0)), (1, .int a1)]) hx hb dX11_text_33 rfl hl (of_decide_eq_true rfl) rfl (fun ls hl => ?_)
      refine lv_iload_n hx hb dX11_text_34 rfl (lv_at hl 0 rfl) ?_
      refine lv_if_lt (tgt := 43) hx hb dX11_text_35 (of_decide_eq_true rfl) (fun c86 => ?_) (fun c86 => ?_)
      · have kc86 := jlt c86 rfl jz_0
        refine lv_iload_n hx hb dX11_text_43 rfl (lv_at hl 2 rfl) ?_
        refine lv_iconst (v := 1) hx hb dX11_text_44 (of_decide_eq_true rfl) ?_
        exact by
         refine lv_icmp_ne (tgt := 55) hx hb dX11_text_45 (of_decide_eq_true rfl) (fun c87 => ?_) (fun c => absurd (jeq c t1 jz_1) (by omega))
         have kc87 := jne c87 t1 jz_1
         refine lv_iconst (v := 1) hx hb dX11_text_55 (of_decide_eq_true rfl) ?_
         have I88 : jI22 σ66 := jI22_fr (congrFun (f68 22 (of_decide_eq_true rfl)) 0) (f68 23 (of_decide_eq_true rfl)) hI22
         have I89 : jI26 σ66 := jI26_fr (congrFun (f68 26 (of_decide_eq_true rfl)) 6) hI26
         have p90 : jBl σ66 := jBl.fr (congrFun (f68 22 (of_decide_eq_true rfl)) 0) (congrFun (f68 22 (of_decide_eq_true rfl)) 1) (f68 23 (of_decide_eq_true rfl)) (congrFun (f68 26 (of_decide_eq_true rfl)) 6) (congrFun (f68 26 (of_decide_eq_true rfl)) 7) (f68 29 (of_decide_eq_true rfl)) (f68 30 (of_decide_eq_true rfl)) hs_jBl
         have z91 : (σ66 22 0).toInt = (σ 22 0).toInt := (congrArg Int32.toInt (show σ66 22 0 = (σ 22 0) from (congrFun (f68 22 (of_decide_eq_true rfl)) 0)))
         have z92 : (σ66 26 6).toInt = (σ 26 6).toInt := (congrArg Int32.toInt (show σ66 26 6 = (σ 26 6) from (congrFun (f68 26 (of_decide_eq_true rfl)) 6)))
         exact by exact hret 1 σ66 τ _ _ _ _ rfl ⟨rfl, (fun i hi => (f68 i (imp_128 i hi))), (fun i hi => (f69 i hi)), (fun i hi => (f70 i hi)), (fun i hi => (f71 i hi)), (fun i hi => (congrFun (f68 22 (of_decide_eq_true rfl)) i)), (fun i hi => (congrFun (f68 26 (of_decide_eq_true rfl)) i)), I72, I73, I74, I88, I89, p75, p90, (Or.inl ⟨⟨by omega, by omega⟩, _, _, _, _, w76, (by have h9 := jz_1; omega)⟩), (Or.inl ⟨by omega, ⟨r67.toInt, (by have h9 := jz_1; omega), w77⟩, ⟨(f68 23 (of_decide_eq_true rfl)), by omega⟩⟩), (by omega), (by omega), trivial⟩ hP hS dX11_text_56
      · have kc86 := jnlt c86 rfl jz_0
        refine lv_bipush (v := (-100)) hx hb dX11_text_38 (of_decide_eq_true rfl) ?_
        refine lv_iload_n hx hb dX11_text_40 rfl (lv_at hl 0 rfl) ?_
        have g93 := jrg (rfl : r67.toInt = r67.toInt)
        refine lv_isub hx hb dX11_text_41 ?_
        refine lv_topi (fun x94 ex94 => ?_)
        exact by
         have tx94 : x94.toInt = -r67.toInt - 100 := (jsub ex94 jz_m100 rfl (by omega) (by omega)).trans (by omega)
         have I95 : jI22 σ66 := jI22_fr (congrFun (f68 22 (of_decide_eq_true rfl)) 0) (f68 23 (of_decide_eq_true rfl)) hI22
         have I96 : jI26 σ66 := jI26_fr (congrFun (f68 26 (of_decide_eq_true rfl)) 6) hI26
         have p97 : jBl σ66 := jBl.fr (congrFun (f68 22 (of_decide_eq_true rfl)) 0) (congrFun (f68 22 (of_decide_eq_true rfl)) 1) (f68 23 (of_decide_eq_true rfl)) (congrFun (f68 26 (of_decide_eq_true rfl)) 6) (congrFun (f68 26 (of_decide_eq_true rfl)) 7) (f68 29 (of_decide_eq_true rfl)) (f68 30 (of_decide_eq_true rfl)) hs_jBl
         have z98 : (σ66 22 0).toInt = (σ 22 0).toInt := (congrArg Int32.toInt (show σ66 22 0 = (σ 22 0) from (congrFun (f68 22 (of_decide_eq_true rfl)) 0)))
         have z99 : (σ66 26 6).toInt = (σ 26 6).toInt := (congrArg Int32.toInt (show σ66 26 6 = (σ 26 6) from (congrFun (f68 26 (of_decide_eq_true rfl)) 6)))
         exact by exact hret x94 σ66 τ _ _ _ _ rfl ⟨rfl, (fun i hi => (f68 i (imp_128 i hi))), (fun i hi => (f69 i hi)), (fun i hi => (f70 i hi)), (fun i hi => (f71 i hi)), (fun i hi => (congrFun (f68 22 (of_decide_eq_true rfl)) i)), (fun i hi => (congrFun (f68 26 (of_decide_eq_true rfl)) i)), I72, I73, I74, I95, I96, p75, p97, (Or.inl ⟨⟨by omega, by omega⟩, _, _, _, _, w76, (by have h9 := tx94; omega)⟩), (Or.inl ⟨by omega, ⟨r67.toInt, (by have h9 := tx94; omega), w77⟩, ⟨(f68 23 (of_decide_eq_true rfl)), by omega⟩⟩), (by omega), (by omega), trivial⟩ hP hS dX11_text_42
set_option maxHeartbeats 4000000 in
set_option maxRecDepth 100000 in
theorem c_X11_of (l : Launch) (D : va_G) (cI cL : ClassId) (ad zz : Nat → Nat) (hJ : jD ad) (σ : Nat → Nat → Int32) (τ : Nat → Nat → Int64) (a1 : Int32) (A1 : Int) (t1 : a1.toInt = A1) (hI16 : jI16 σ) : jM l yX11_of cX11_of 2 (some .int) ({ frames := 1, cells := 0, slots := 0, locals := 21 }) D cI cL ad zz [.ref (ad 0), .int a1] σ τ (fun r σ' τ' => (σ = σ' ∧ τ = τ') ∧ ((True ∧ (A1 = 0) ∧ (r.toInt = (σ 16 0).toInt)) ∨ (True ∧ (A1 = 1) ∧ (r.toInt = (σ 16 1).toInt)) ∨ (True ∧ (A1 = 2) ∧ (r.toInt = (σ 16 2).toInt)) ∨ (True ∧ (10 ≤ A1) ∧ (A1 < (σ 16 0).toInt + 10) ∧ (r = σ 17 ((A1) - 10).toNat)) ∨ (r = (-1) ∧ ((A1 < 0) ∨ (2 < A1 ∧ A1 < 10) ∨ (10 ≤ A1 ∧ (σ 16 0).toInt + 10 ≤ A1))))) := by
  refine jM.of hJ (by decide +kernel) (nt := .int) rfl (Nat.le_of_ble_eq_true rfl) ?_
  intro p e s m args below meth c Q ls hC hret hl hP
  obtain ⟨hx, hb, hr, hml, hown, hts, hK, -, hlocks, hZ⟩ := hC
  have hown : s.vm.findClass RX11 = some m.cls := hown
  have hS : va_S (jA ad) s.heap s.heap [] := va_S.rf
  have hA : ∀ q, jA ad q → jA ad q := fun _ h => h
  have hl : lv_has ls 2 [(0, .ref (ad 0)), (1, .int a1)] := hl
  have g1 := jrg t1
  obtain ⟨i1, i2, i3, w4⟩ : (1 ≤ (σ 16 0).toInt ∧ (σ 16 0).toInt ≤ 8) ∧ (1 ≤ (σ 16 1).toInt ∧ (σ 16 1).toInt ≤ 12) ∧ (0 ≤ (σ 16 2).toInt ∧ (σ 16 2).toInt ≤ 999) ∧ (∀ k : Nat, k < 8 → 0 ≤ (σ 17 k).toInt ∧ (σ 17 k).toInt ≤ 3) := id hI16
  refine lv_iload_n hx hb dX11_of_0 rfl (lv_at hl 1 rfl) ?_
  refine lv_if_ne (tgt := 12) hx hb dX11_of_1 (of_decide_eq_true rfl) (fun c5 => ?_) (fun c5 => ?_)
  · have kc5 := jne c5 t1 jz_0
    refine lv_iload_n hx hb dX11_of_12 rfl (lv_at hl 1 rfl) ?_
    refine lv_iconst (v := 1) hx hb dX11_of_13 (of_decide_eq_true rfl) ?_
    refine lv_icmp_ne (tgt := 25) hx hb dX11_of_14 (of_decide_eq_true rfl) (fun c6 => ?_) (fun c6 => ?_)
    · have kc6 := jne c6 t1 jz_1
      refine lv_iload_n hx hb dX11_of_25 rfl (lv_at hl 1 rfl) ?_
      refine lv_iconst (v := 2) hx hb dX11_of_26 (of_decide_eq_true rfl) ?_
      refine lv_icmp_ne (tgt := 38) hx hb dX11_of_27 (of_decide_eq_true rfl) (fun c7 => ?_) (fun c7 => ?_)
      · have kc7 := jne c7 t1 jz_2
        refine lv_iload_n hx hb dX11_of_38 rfl (lv_at hl 1 rfl) ?_
        refine lv_bipush (v := 10) hx hb dX11_of_39 (of_decide_eq_true rfl) ?_
        refine lv_icmp_lt (tgt := 58) hx hb dX11_of_41 (of_decide_eq_true rfl) (fun c8 => ?_) (fun c8 => ?_)
        · have kc8 := jlt c8 t1 jz_10
          refine lv_iconst (v := (-1)) hx hb dX11_of_58 (of_decide_eq_true rfl) ?_
          exact hret (-1) σ τ _ _ _ _ rfl ⟨⟨rfl, rfl⟩, Or.inr (Or.inr (Or.inr (Or.inr (⟨rfl, (by have h9 := jz_m1; omega)⟩))))⟩ hP hS dX11_of_59
        · have kc8 := jnlt c8 t1 jz_10
          refine lv_iload_n hx hb dX11_of_44 rfl (lv_at hl 1 rfl) ?_
          refine lv_bipush (v := 10) hx hb dX11_of_45 (of_decide_eq_true rfl) ?_
          refine lv_isub hx hb dX11_of_47 ?_
          refine lv_topi (fun x9 ex9 => ?_)
          exact by
           have tx9 : x9.toInt = A1 - 10 := (jsub ex9 t1 jz_10 (by omega) (by omega)).trans (by omega)
           refine lv_aload_n hx hb dX11_of_48 rfl (lv_at hl 0 rfl) ?_
           refine va_get (D := D) hx hb hts inlX11 hown hK hP 0 (jc_0 cI cL ad σ τ) rfl 2 (of_decide_eq_true rfl) (hts _ kw_2_0) (fun _ h9 => h9) rfl dX11_of_49 ?_
           refine va_get (D := D) hx hb hts inlX6 hown hK hP 16 (jc_16 cI cL ad σ τ) rfl 0 (of_decide_eq_true rfl) (hts _ kw_13_12) (fun _ h9 => h9) rfl dX11_of_52 ?_
           refine lv_icmp_lt (tgt := 60) hx hb dX11_of_55 (of_decide_eq_true rfl) (fun c10 => ?_) (fun c10 => ?_)
           · have kc10 := jlt c10 tx9 rfl
             refine lv_aload_n hx hb dX11_of_60 rfl (lv_at hl 0 rfl) ?_
             refine va_get (D := D) hx hb hts inlX11 hown hK hP 0 (jc_0 cI cL ad σ τ) rfl 2 (of_decide_eq_true rfl) (hts _ kw_2_0) (fun _ h9 => h9) rfl dX11_of_61 ?_
             refine lv_iload_n hx hb dX11_of_64 rfl (lv_at hl 1 rfl) ?_
             refine lv_bipush (v := 10) hx hb dX11_of_65 (of_decide_eq_true rfl) ?_
             refine lv_isub hx hb dX11_of_67 ?_
             refine lv_topi (fun x11 ex11 => ?_)
             exact by
              have tx11 : x11.toInt = A1 - 10 := (jsub ex11 t1 jz_10 (by omega) (by omega)).trans (by omega)
              refine jcallV (As := [.int x11]) (rest := []) ⟨hx, hb, hml, hown, hts⟩ hK hP hA hS hZ (c_X6_sortAt_16 l D cI cL ad zz hJ σ τ x11 (A1 - 10) tx11 hI16) cw_RX11_149 (jc_16 cI cL ad σ τ) rfl ⟨Nat.le_of_ble_eq_true rfl, Nat.le_of_ble_eq_true rfl⟩ rfl rfl rfl hl.1 rfl (Nat.le_of_ble_eq_true rfl) dX11_of_68 ⟨Nat.zero_le _, Nat.zero_le _⟩ (fun r13 σ12 τ12 H locs h12 hP hS => ?_)
              obtain ⟨⟨rfl, rfl⟩, h12⟩ := h12
              rcases h12 with h14 | h15
              · obtain ⟨q18, k16, k17⟩ := h14
                have q19 : r13 = (σ 17 x11.toNatClampNeg) := q18.trans rfl
                have q19 := q19.symm
                subst q19
                exact by exact hret (σ 17 x11.toNatClampNeg) σ τ _ _ _ _ rfl ⟨⟨rfl, rfl⟩, Or.inr (Or.inr (Or.inr (Or.inl ⟨trivial, (by omega), (by omega), (by rw [jnc (show x11.toInt = A1 - 10 by omega)])⟩)))⟩ hP hS dX11_of_71
              · obtain ⟨q21, k20⟩ := h15
                exact absurd (by omega : False) id
           · have kc10 := jnlt c10 tx9 rfl
             refine lv_iconst (v := (-1)) hx hb dX11_of_58 (of_decide_eq_true rfl) ?_
             exact hret (-1) σ τ _ _ _ _ rfl ⟨⟨rfl, rfl⟩, Or.inr (Or.inr (Or.inr (Or.inr (⟨rfl, (by have h9 := jz_m1; omega)⟩))))⟩ hP hS dX11_of_59
      · have kc7 := jeq c7 t1 jz_2
        refine lv_aload_n hx hb dX11_of_30 rfl (lv_at hl 0 rfl) ?_
        refine va_get (D := D) hx hb hts inlX11 hown hK hP 0 (jc_0 cI cL ad σ τ) rfl 2 (of_decide_eq_true rfl) (hts _ kw_2_0) (fun _ h9 => h9) rfl dX11_of_31 ?_
        refine va_get (D := D) hx hb hts inlX6 hown hK hP 16 (jc_16 cI cL ad σ τ) rfl 2 (of_decide_eq_true rfl) (hts _ kw_20_6) (fun _ h9 => h9) rfl dX11_of_34 ?_
        exact by exact hret (σ 16 2) σ τ _ _ _ _ rfl ⟨⟨rfl, rfl⟩, Or.inr (Or.inr (Or.inl ⟨trivial, (by omega), (by omega)⟩))⟩ hP hS dX11_of_37
    · have kc6 := jeq c6 t1 jz_1
      refine lv_aload_n hx hb dX11_of_17 rfl (lv_at hl 0 rfl) ?_
      refine va_get (D := D) hx hb hts inlX11 hown hK hP 0 (jc_0 cI cL ad σ τ) rfl 2 (of_decide_eq_true rfl) (hts _ kw_2_0) (fun _ h9 => h9) rfl dX11_of_18 ?_
      refine va_get (D := D) hx hb hts inlX6 hown hK hP 16 (jc_16 cI cL ad σ τ) rfl 1 (of_decide_eq_true rfl) (hts _ kw_20_5) (fun _ h9 => h9) rfl dX11_of_21 ?_
      exact by exact hret (σ 16 1) σ τ _ _ _ _ rfl ⟨⟨rfl, rfl⟩, Or.inr (Or.inl ⟨trivial, (by omega), (by omega)⟩)⟩ hP hS dX11_of_24
  · have kc5 := jeq c5 t1 jz_0
    refine lv_aload_n hx hb dX11_of_4 rfl (lv_at hl 0 rfl) ?_
    refine va_get (D := D) hx hb hts inlX11 hown hK hP 0 (jc_0 cI cL ad σ τ) rfl 2 (of_decide_eq_true rfl) (hts _ kw_2_0) (fun _ h9 => h9) rfl dX11_of_5 ?_
    refine va_get (D := D) hx hb hts inlX6 hown hK hP 16 (jc_16 cI cL ad σ τ) rfl 0 (of_decide_eq_true rfl) (hts _ kw_13_12) (fun _ h9 => h9) rfl dX11_of_8 ?_
    exact by exact hret (σ 16 0) σ τ _ _ _ _ rfl ⟨⟨rfl, rfl⟩, Or.inl ⟨trivial, (by omega), (by omega)⟩⟩ hP hS dX11_of_11
set_option maxHeartbeats 4000000 in
set_option maxRecDepth 100000 in
theorem c_X11_over (l : Launch) (D : va_G) (cI cL : ClassId) (ad zz : Nat → Nat) (hJ : jD ad) (σ : Nat → Nat → Int32) (τ : Nat → Nat → Int64) (a1 : Int32) (A1 : Int) (t1 : a1.toInt = A1) (a2 : Int32) (A2 : Int) (t2 : a2.toInt = A2) (a3 : Int32) (A3 : Int) (t3 : a3.toInt = A3) (hI2 : jI2 σ) (hI22 : jI22 σ) (hI26 : jI26 σ) (hs_jOk3 : jOk3 σ) (hs_jN67 : jN67 σ) (hs_jBl : jBl σ) : jM l yX11_over cX11_over 7 (some .int) ({ frames := 3, cells := 0, slots := 0, locals := 76 }) D cI cL ad zz [.ref (ad 0), .int a1, .int a2, .int a3] σ τ (fun r σ' τ' => τ = τ' ∧ (∀ i : Nat, (i < 24 ∨ 25 < i) ∧ (i < 27 ∨ 30 < i) → σ' i = σ i) ∧ (jOk3 σ') ∧ (jN67 σ') ∧ (jBl σ') ∧ (((jOvB (σ 2 0).toInt (A1) (A2) (A3) ∧ r = jOvV (σ 3) (σ 4) (σ 5) (jGb σ) (σ 2 1).toInt (A1) (A2) (A3)) ∨ (¬ jOvB (σ 2 0).toInt (A1) (A2) (A3) ∧ r = -1))) ∧ True) := by
  refine jM.of hJ (by decide +kernel) (nt := .int) rfl (Nat.le_of_ble_eq_true rfl) ?_
  intro p e s m args below meth c Q ls hC hret hl hP
  obtain ⟨hx, hb, hr, hml, hown, hts, hK, -, hlocks, hZ⟩ := hC
  have hown : s.vm.findClass RX11 = some m.cls := hown
  have hS : va_S (jA ad) s.heap s.heap [] := va_S.rf
  have hA : ∀ q, jA ad q → jA ad q := fun _ h => h
  have hl : lv_has ls 7 [(0, .ref (ad 0)), (1, .int a1), (2, .int a2), (3, .int a3)] := hl
  have g1 := jrg t1
  have g2 := jrg t2
  have g3 := jrg t3
  obtain ⟨i1, i2, i3, i4, i5, w6, w7⟩ : (0 ≤ (σ 2 0).toInt ∧ (σ 2 0).toInt ≤ 4) ∧ (0 ≤ (σ 2 1).toInt ∧ (σ 2 1).toInt ≤ 3) ∧ (0 ≤ (σ 2 2).toInt) ∧ (0 ≤ (σ 2 3).toInt) ∧ ((σ 2 2).toInt + (σ 2 3).toInt ≤ 40) ∧ (∀ k : Nat, k < 40 → 0 ≤ (σ 6 k).toInt ∧ (σ 6 k).toInt ≤ 67) ∧ (∀ k : Nat, k < 4 → 0 ≤ (σ 5 k).toInt ∧ (σ 5 k).toInt ≤ 20) := id hI2
  refine lv_iload_n hx hb dX11_over_0 rfl (lv_at hl 1 rfl) ?_
  refine lv_if_lt (tgt := 17) hx hb dX11_over_1 (of_decide_eq_true rfl) (fun c8 => ?_) (fun c8 => ?_)
  · have kc8 := jlt c8 t1 jz_0
    refine lv_iconst (v := (-1)) hx hb dX11_over_17 (of_decide_eq_true rfl) ?_
    exact hret (-1) σ τ _ _ _ _ rfl ⟨rfl, (fun _ _ => rfl), hs_jOk3, hs_jN67, hs_jBl, (Or.inr ⟨(fun w => by unfold jOvB at w; omega), rfl⟩), trivial⟩ hP hS dX11_over_18
  · have kc8 := jnlt c8 t1 jz_0
    refine lv_iload_n hx hb dX11_over_4 rfl (lv_at hl 2 rfl) ?_
    refine lv_if_lt (tgt := 17) hx hb dX11_over_5 (of_decide_eq_true rfl) (fun c9 => ?_) (fun c9 => ?_)
    · have kc9 := jlt c9 t2 jz_0
      refine lv_iconst (v := (-1)) hx hb dX11_over_17 (of_decide_eq_true rfl) ?_
      exact hret (-1) σ τ _ _ _ _ rfl ⟨rfl, (fun _ _ => rfl), hs_jOk3, hs_jN67, hs_jBl, (Or.inr ⟨(fun w => by unfold jOvB at w; omega), rfl⟩), trivial⟩ hP hS dX11_over_18
    · have kc9 := jnlt c9 t2 jz_0
      refine lv_iload_n hx hb dX11_over_8 rfl (lv_at hl 3 rfl) ?_
      refine lv_iconst (v := 0) hx hb dX11_over_9 (of_decide_eq_true rfl) ?_
      refine lv_iconst (v := 1) hx hb dX11_over_10 (of_decide_eq_true rfl) ?_
      refine jcallS (As := [.int a3, .int 0, .int 1]) (rest := []) ⟨hx, hb, hml, hown, hts⟩ hK hP hA hS hZ (c_X11_outside l D cI cL ad zz hJ σ τ a3 (A3) t3 0 (0) jz_0 1 (1) jz_1) cw_RX11_94 ⟨Nat.le_of_ble_eq_true rfl, Nat.le_of_ble_eq_true rfl⟩ rfl rfl rfl hl.1 rfl (Nat.le_of_ble_eq_true rfl) dX11_over_11 ⟨Nat.zero_le _, Nat.zero_le _⟩ (fun r11 σ10 τ10 H locs h10 hP hS => ?_)
      obtain ⟨⟨rfl, rfl⟩, h10⟩ := h10
      rcases h10 with h12 | h13
      · obtain ⟨q15, k14⟩ := h12
        have q15 := q15.symm
        subst q15
        refine lv_if_eq (tgt := 19) hx hb dX11_over_14 (of_decide_eq_true rfl) (fun c => absurd c (of_decide_eq_true rfl)) (fun _ => ?_)
        refine lv_iconst (v := (-1)) hx hb dX11_over_17 (of_decide_eq_true rfl) ?_
        exact hret (-1) σ τ _ _ _ _ rfl ⟨rfl, (fun _ _ => rfl), hs_jOk3, hs_jN67, hs_jBl, (Or.inr ⟨(fun w => by unfold jOvB at w; omega), rfl⟩), trivial⟩ hP hS dX11_over_18
      · obtain ⟨q17, k16⟩ := h13
        have q17 := q17.symm
        subst q17
        refine lv_if_eq (tgt := 19) hx hb dX11_over_14 (of_decide_eq_true rfl) (fun _ => ?_) (fun c => absurd (of_decide_eq_true rfl) c)
        refine lv_iload_n hx hb dX11_over_19 rfl (lv_at hl 1 rfl) ?_
        refine lv_bipush (v := 100) hx hb dX11_over_20 (of_decide_eq_true rfl) ?_
        refine lv_idiv hx hb dX11_over_22 (of_decide_eq_true rfl) ?_
        refine lv_topi (fun x18 ex18 => ?_)
        exact by
         have tx18 : x18.toInt = (A1 / 100) := jdiv ex18 t1 jz_100 (by omega) (by omega)
         refine lv_istore (lv' := [(4, .int x18), (0, .ref (ad 0)), (1, .int a1), (2, .int a2), (3, .int a3)]) hx hb dX11_over_23 hl (of_decide_eq_true rfl) rfl (fun ls hl => ?_)
         refine lv_iload_n hx hb dX11_over_25 rfl (lv_at hl 2 rfl) ?_
         refine lv_bipush (v := 10) hx hb dX11_over_26 (of_decide_eq_true rfl) ?_
         refine lv_idiv hx hb dX11_over_28 (of_decide_eq_true rfl) ?_
         refine lv_topi (fun x19 ex19 => ?_)
         have tx19 : x19.toInt = (A1 / 10) := jdiv ex19 t1 jz_10 (by omega) (by omega)
         refine lv_bipush (v := 10) hx hb dX11_over_29 (of_decide_eq_true rfl) ?_
         refine lv_irem hx hb dX11_over_31 (of_decide_eq_true rfl) ?_
         exact by
          refine lv_topi (fun x20 ex20 => ?_)
          have tx20 : x20.toInt = (((A1 / 10)) % 10) := jrem ex20 tx19 jz_10 (by omega)
          refine lv_istore (lv' := [(5, .int x20), (4, .int x18), (0, .ref (ad 0)), (1, .int a1), (2, .int a2), (3, .int a3)]) hx hb dX11_over_32 hl (of_decide_eq_true rfl) rfl (fun ls hl => ?_)
          refine lv_iload_n hx hb dX11_over_34 rfl (lv_at hl 3 rfl) ?_
          refine lv_bipush (v := 10) hx hb dX11_over_35 (of_decide_eq_true rfl) ?_
          refine lv_irem hx hb dX11_over_37 (of_decide_eq_true rfl) ?_
          refine lv_topi (fun x21 ex21 => ?_)
          have tx21 : x21.toInt = (A1 % 10) := jrem ex21 t1 jz_10 (by omega)
          refine lv_istore (lv' := [(6, .int x21), (5, .int x20), (4, .int x18), (0, .ref (ad 0)), (1, .int a1), (2, .int a2), (3, .int a3)]) hx hb dX11_over_38 hl (of_decide_eq_true rfl) rfl (fun ls hl => ?_)
          exact by
           refine lv_aload_n hx hb dX11_over_40 rfl (lv_at hl 3 rfl) ?_
           refine lv_iload hx hb dX11_over_41 (lv_at hl 2 rfl) ?_
           refine jcallV (As := [.int x18]) (rest := []) ⟨hx, hb, hml, hown, hts⟩ hK hP hA hS hZ (c_X11_noBowler l D cI cL ad zz hJ σ τ x18 ((A1 / 100)) tx18 hI2) cw_RX11_152 (jc_0 cI cL ad σ τ) rfl ⟨Nat.le_of_ble_eq_true rfl, Nat.le_of_ble_eq_true rfl⟩ rfl rfl rfl hl.1 rfl (Nat.le_of_ble_eq_true rfl) dX11_over_43 ⟨Nat.zero_le _, Nat.zero_le _⟩ (fun r23 σ22 τ22 H locs h22 hP hS => ?_)
           obtain ⟨⟨rfl, rfl⟩, h22⟩ := h22
           rcases h22 with h24 | h25
           · obtain ⟨q27, k26⟩ := h24
             have q27 := q27.symm
             subst q27
             refine lv_if_ne (tgt := 61) hx hb dX11_over_46 (of_decide_eq_true rfl) (fun _ => ?_) (fun c => absurd c (of_decide_eq_true rfl))
             refine lv_iconst (v := (-1)) hx hb dX11_over_61 (of_decide_eq_true rfl) ?_
             exact hret (-1) σ τ _ _ _ _ rfl ⟨rfl, (fun _ _ => rfl), hs_jOk3, hs_jN67, hs_jBl, (Or.inr ⟨(fun w => by unfold jOvB at w; omega), rfl⟩), trivial⟩ hP hS dX11_over_62
           · obtain ⟨q29, k28⟩ := h25
             have q29 := q29.symm
             subst q29
             refine lv_if_ne (tgt := 61) hx hb dX11_over_46 (of_decide_eq_true rfl) (fun c => absurd (of_decide_eq_true rfl) c) (fun _ => ?_)
             refine lv_iload hx hb dX11_over_49 (lv_at hl 1 rfl) ?_
             refine lv_iconst (v := 4) hx hb dX11_over_51 (of_decide_eq_true rfl) ?_
             refine lv_icmp_ge (tgt := 61) hx hb dX11_over_52 (of_decide_eq_true rfl) (fun c30 => ?_) (fun c30 => ?_)
             · have kc30 := jle c30 jz_4 tx20
               refine lv_iconst (v := (-1)) hx hb dX11_over_61 (of_decide_eq_true rfl) ?_
               exact hret (-1) σ τ _ _ _ _ rfl ⟨rfl, (fun _ _ => rfl), hs_jOk3, hs_jN67, hs_jBl, (Or.inr ⟨(fun w => by unfold jOvB at w; omega), rfl⟩), trivial⟩ hP hS dX11_over_62
             · have kc30 := jnle c30 jz_4 tx20
               refine lv_iload hx hb dX11_over_55 (lv_at hl 0 rfl) ?_
               refine lv_iconst (v := 3) hx hb dX11_over_57 (of_decide_eq_true rfl) ?_
               refine lv_icmp_le (tgt := 63) hx hb dX11_over_58 (of_decide_eq_true rfl) (fun c31 => ?_) (fun c31 => ?_)
               · have kc31 := jle c31 tx21 jz_3
                 refine lv_iload_n hx hb dX11_over_63 rfl (lv_at hl 5 rfl) ?_
                 refine lv_bipush (v := 10) hx hb dX11_over_64 (of_decide_eq_true rfl) ?_
                 refine lv_idiv hx hb dX11_over_66 (of_decide_eq_true rfl) ?_
                 refine lv_topi (fun x32 ex32 => ?_)
                 exact by
                  have tx32 : x32.toInt = (A2 / 10) := jdiv ex32 t2 jz_10 (by omega) (by omega)
                  refine lv_bipush (v := 12) hx hb dX11_over_67 (of_decide_eq_true rfl) ?_
                  refine lv_icmp_gt (tgt := 81) hx hb dX11_over_69 (of_decide_eq_true rfl) (fun c33 => ?_) (fun c33 => ?_)
                  · have kc33 := jlt c33 jz_12 tx32
                    refine lv_iconst (v := (-1)) hx hb dX11_over_81 (of_decide_eq_true rfl) ?_
                    exact hret (-1) σ τ _ _ _ _ rfl ⟨rfl, (fun _ _ => rfl), hs_jOk3, hs_jN67, hs_jBl, (Or.inr ⟨(fun w => by unfold jOvB at w; omega), rfl⟩), trivial⟩ hP hS dX11_over_82
                  · have kc33 := jnlt c33 jz_12 tx32
                    refine lv_iload_n hx hb dX11_over_72 rfl (lv_at hl 5 rfl) ?_
                    refine lv_bipush (v := 10) hx hb dX11_over_73 (of_decide_eq_true rfl) ?_
                    refine lv_irem hx hb dX11_over_75 (of_decide_eq_true rfl) ?_
                    refine lv_topi (fun x34 ex34 => ?_)
                    exact by
                     have tx34 : x34.toInt = (A2 % 10) := jrem ex34 t2 jz_10 (by omega)
                     refine lv_bipush (v := 8) hx hb dX11_over_76 (of_decide_eq_true rfl) ?_
                     refine lv_icmp_le (tgt := 83) hx hb dX11_over_78 (of_decide_eq_true rfl) (fun c35 => ?_) (fun c35 => ?_)
                     · have kc35 := jle c35 tx34 jz_8
                       refine lv_aload_n hx hb dX11_over_83 rfl (lv_at hl 3 rfl) ?_
                       refine va_get (D := D) hx hb hts inlX11 hown hK hP 0 (jc_0 cI cL ad σ τ) rfl 5 (of_decide_eq_true rfl) (hts _ kw_2_9) (fun _ h9 => h9) rfl dX11_over_84 ?_
                       refine lv_aload_n hx hb dX11_over_87 rfl (lv_at hl 3 rfl) ?_
                       refine va_get (D := D) hx hb hts inlX11 hown hK hP 0 (jc_0 cI cL ad σ τ) rfl 0 (of_decide_eq_true rfl) (hts _ kw_1_16) (fun _ h9 => h9) rfl dX11_over_88 ?_
                       refine va_get (D := D) hx hb hts inlX4 hown hK hP 2 (jc_2 cI cL ad σ τ) rfl 1 (of_decide_eq_true rfl) (hts _ kw_12_8) (fun _ h9 => h9) rfl dX11_over_91 ?_
                       exact by
                        refine jcallVv (As := [.int (σ 2 1)]) (rest := []) ⟨hx, hb, hml, hown, hts⟩ hK hP hA hS hZ (c_X5_lay_26 l D cI cL ad zz hJ σ τ (σ 2 1) ((σ 2 1).toInt) rfl (by omega)) cw_RX11_156 (jc_26 cI cL ad σ τ) rfl ⟨Nat.le_of_ble_eq_true rfl, Nat.le_of_ble_eq_true rfl⟩ rfl rfl rfl hl.1 rfl (Nat.le_of_ble_eq_true rfl) dX11_over_94 ⟨Nat.zero_le _, Nat.zero_le _⟩ (fun σ36 τ36 H locs h36 hP hS => ?_)
                        obtain ⟨rfl, f38, w39, h36⟩ := h36
                        refine lv_iload_n hx hb dX11_over_97 rfl (lv_at hl 6 rfl) ?_
                        refine lv_iconst (v := 1) hx hb dX11_over_98 (of_decide_eq_true rfl) ?_
                        refine lv_icmp_ne (tgt := 116) hx hb dX11_over_99 (of_decide_eq_true rfl) (fun c41 => ?_) (fun c41 => ?_)
                        · have kc41 := jne c41 t3 jz_1
                          refine lv_aload_n hx hb dX11_over_116 rfl (lv_at hl 3 rfl) ?_
                          refine va_get (D := D) hx hb hts inlX11 hown hK hP 0 (jc_0 cI cL ad σ36 τ) rfl 5 (of_decide_eq_true rfl) (hts _ kw_2_9) (fun _ h9 => h9) rfl dX11_over_117 ?_
                          refine lv_iload hx hb dX11_over_120 (lv_at hl 2 rfl) ?_
                          refine lv_iload hx hb dX11_over_122 (lv_at hl 1 rfl) ?_
                          refine lv_iload hx hb dX11_over_124 (lv_at hl 0 rfl) ?_
                          refine lv_aload_n hx hb dX11_over_126 rfl (lv_at hl 3 rfl) ?_
                          refine va_get (D := D) hx hb hts inlX11 hown hK hP 0 (jc_0 cI cL ad σ36 τ) rfl 0 (of_decide_eq_true rfl) (hts _ kw_1_16) (fun _ h9 => h9) rfl dX11_over_127 ?_
                          refine lv_iload hx hb dX11_over_130 (lv_at hl 2 rfl) ?_
                          exact by
                           refine jcallV (As := [.int x18]) (rest := [.int x21, .int x20, .int x18, .ref (ad 26)]) ⟨hx, hb, hml, hown, hts⟩ hK hP hA hS hZ (c_X4_oversOf_p l D cI cL ad zz hJ σ36 τ x18 ((A1 / 100)) tx18 (by omega)) cw_RX11_163 (jc_2 cI cL ad σ36 τ) rfl ⟨Nat.le_of_ble_eq_true rfl, Nat.le_of_ble_eq_true rfl⟩ rfl rfl rfl hl.1 rfl (Nat.le_of_ble_eq_true rfl) dX11_over_132 ⟨Nat.zero_le _, Nat.zero_le _⟩ (fun r43 σ42 τ42 H locs h42 hP hS => ?_)
                           obtain ⟨⟨rfl, rfl⟩, w44, h42⟩ := h42
                           have p46 : jOk3 σ36 := jOk3.fr (f38 3 (of_decide_eq_true rfl)) hs_jOk3
                           have k45 := jOk3.at p46 (b := (A1 / 100)) (by omega) (by omega) (w44 (by omega))
                           refine lv_iload_n hx hb dX11_over_135 rfl (lv_at hl 5 rfl) ?_
                           refine lv_bipush (v := 10) hx hb dX11_over_136 (of_decide_eq_true rfl) ?_
                           refine lv_idiv hx hb dX11_over_138 (of_decide_eq_true rfl) ?_
                           refine lv_topi (fun x47 ex47 => ?_)
                           have tx47 : x47.toInt = (A2 / 10) := jdiv ex47 t2 jz_10 (by omega) (by omega)
                           exact by
                            refine lv_iload_n hx hb dX11_over_139 rfl (lv_at hl 5 rfl) ?_
                            refine lv_bipush (v := 10) hx hb dX11_over_140 (of_decide_eq_true rfl) ?_
                            refine lv_irem hx hb dX11_over_142 (of_decide_eq_true rfl) ?_
                            refine lv_topi (fun x48 ex48 => ?_)
                            have tx48 : x48.toInt = (A2 % 10) := jrem ex48 t2 jz_10 (by omega)
                            have I49 : jI22 σ36 := jI22_fr (congrFun (f38 22 (of_decide_eq_true rfl)) 0) (f38 23 (of_decide_eq_true rfl)) hI22
                            have I50 : jI26 σ36 := jI26_fr (congrFun (f38 26 (of_decide_eq_true rfl)) 6) hI26
                            have p51 : jN67 σ36 := jN67.fr (f38 24 (of_decide_eq_true rfl)) hs_jN67
                            have p52 : jBl σ36 := jBl.fr (congrFun (f38 22 (of_decide_eq_true rfl)) 0) (congrFun (f38 22 (of_decide_eq_true rfl)) 1) (f38 23 (of_decide_eq_true rfl)) (congrFun (f38 26 (of_decide_eq_true rfl)) 6) (congrFun (f38 26 (of_decide_eq_true rfl)) 7) (f38 29 (of_decide_eq_true rfl)) (f38 30 (of_decide_eq_true rfl)) hs_jBl
                            exact by
                             refine jcallV (As := [.int x18, .int x20, .int x21, .int r43, .int x47, .int x48]) (rest := []) ⟨hx, hb, hml, hown, hts⟩ hK hP hA hS hZ (c_X5_outOf_26 l D cI cL ad zz hJ σ36 τ x18 ((A1 / 100)) tx18 x20 ((((A1 / 10)) % 10)) tx20 x21 ((A1 % 10)) tx21 r43 (r43.toInt) rfl x47 ((A2 / 10)) tx47 x48 ((A2 % 10)) tx48 I49 I50 p51 p52 (by omega) (by omega) (by omega) (by omega) (by omega) (by omega)) cw_RX11_166 (jc_26 cI cL ad σ36 τ) rfl ⟨Nat.le_of_ble_eq_true rfl, Nat.le_of_ble_eq_true rfl⟩ rfl rfl rfl hl.1 rfl (Nat.le_of_ble_eq_true rfl) dX11_over_143 ⟨Nat.zero_le _, Nat.zero_le _⟩ (fun r54 σ53 τ53 H locs h53 hP hS => ?_)
                             obtain ⟨rfl, f55, p56, p57, w58, h53⟩ := h53
                             have p60 : jOk3 σ53 := jOk3.fr (f55 3 (of_decide_eq_true rfl)) p46
                             exact by exact hret r54 σ53 τ _ _ _ _ rfl ⟨rfl, (fun i hi => ((f55 i (imp_129 i hi)).trans (f38 i (imp_130 i hi)))), p60, p56, p57, (Or.inl ⟨(by unfold jOvB; omega), (by unfold jOvV jChv; rw [if_neg (by omega), w58 (by omega)]; have w := (w39.at (b := (A1 / 100)) (s := (A1 / 10 % 10)) (k := (A1 % 10)) (i := (16 * ((A1 / 100)) + 4 * ((((A1 / 10)) % 10)) + ((A1 % 10))).toNat) (by omega) (by omega) (by omega) (by omega)).1; rw [w, (show jGb σ36 = jGb σ from by unfold jGb; rw [show σ36 23 = σ 23 from (f38 23 (of_decide_eq_true rfl)), show σ36 22 0 = σ 22 0 from (congrFun (f38 22 (of_decide_eq_true rfl)) 0)]), jN6_8 (s := jwd (A1 / 10 % 10)) (b := jwd (A1 / 100)) (t := jwd (A1 % 10)) (by rw [jwd_t (by omega) (by omega), jwd_t (by omega) (by omega), jwd_t (by omega) (by omega), jwd_t (by omega) (by omega)] <;> omega) (by rw [jwd_t (by omega) (by omega)] <;> omega) (by rw [jwd_t (by omega) (by omega)] <;> omega) (by rw [jwd_t (by omega) (by omega)] <;> omega), (show r43 = σ 3 (32 + (A1 / 100)).toNat from (w44 (by omega)).trans (by rw [show σ36 3 = σ 3 from (f38 3 (of_decide_eq_true rfl))])), show x47 = jwd (A2 / 10) from jwd_of (by have h9 := tx47; omega) (by omega) (by omega), show x48 = jwd (A2 % 10) from jwd_of (by have h9 := tx48; omega) (by omega) (by omega)])⟩), trivial⟩ hP hS dX11_over_146
                        · have kc41 := jeq c41 t3 jz_1
                          refine lv_aload_n hx hb dX11_over_102 rfl (lv_at hl 3 rfl) ?_
                          refine va_get (D := D) hx hb hts inlX11 hown hK hP 0 (jc_0 cI cL ad σ36 τ) rfl 5 (of_decide_eq_true rfl) (hts _ kw_2_9) (fun _ h9 => h9) rfl dX11_over_103 ?_
                          refine lv_iload hx hb dX11_over_106 (lv_at hl 2 rfl) ?_
                          refine lv_iload hx hb dX11_over_108 (lv_at hl 1 rfl) ?_
                          refine lv_iload hx hb dX11_over_110 (lv_at hl 0 rfl) ?_
                          exact by
                           refine jcallV (As := [.int x18, .int x20, .int x21]) (rest := []) ⟨hx, hb, hml, hown, hts⟩ hK hP hA hS hZ (c_X5_runsOf_26 l D cI cL ad zz hJ σ36 τ x18 ((A1 / 100)) tx18 x20 ((((A1 / 10)) % 10)) tx20 x21 ((A1 % 10)) tx21 (by omega) (by omega) (by omega)) cw_RX11_160 (jc_26 cI cL ad σ36 τ) rfl ⟨Nat.le_of_ble_eq_true rfl, Nat.le_of_ble_eq_true rfl⟩ rfl rfl rfl hl.1 rfl (Nat.le_of_ble_eq_true rfl) dX11_over_112 ⟨Nat.zero_le _, Nat.zero_le _⟩ (fun r62 σ61 τ61 H locs h61 hP hS => ?_)
                           obtain ⟨⟨rfl, rfl⟩, w63, h61⟩ := h61
                           have p64 : jOk3 σ36 := jOk3.fr (f38 3 (of_decide_eq_true rfl)) hs_jOk3
                           have p65 : jN67 σ36 := jN67.fr (f38 24 (of_decide_eq_true rfl)) hs_jN67
                           have p66 : jBl σ36 := jBl.fr (congrFun (f38 22 (of_decide_eq_true rfl)) 0) (congrFun (f38 22 (of_decide_eq_true rfl)) 1) (f38 23 (of_decide_eq_true rfl)) (congrFun (f38 26 (of_decide_eq_true rfl)) 6) (congrFun (f38 26 (of_decide_eq_true rfl)) 7) (f38 29 (of_decide_eq_true rfl)) (f38 30 (of_decide_eq_true rfl)) hs_jBl
                           exact by exact hret r62 σ36 τ _ _ _ _ rfl ⟨rfl, (fun i hi => (f38 i (imp_130 i hi))), p64, p65, p66, (Or.inl ⟨(by unfold jOvB; omega), (by unfold jOvV; rw [if_pos (by omega), w63 (by omega)]; have w := (w39.at (b := (A1 / 100)) (s := (((A1 / 10)) % 10)) (k := (A1 % 10)) (i := (16 * ((A1 / 100)) + 4 * ((((A1 / 10)) % 10)) + ((A1 % 10))).toNat) (by omega) (by omega) (by omega) (by omega)).2; exact w)⟩), trivial⟩ hP hS dX11_over_115
                     · have kc35 := jnle c35 tx34 jz_8
                       refine lv_iconst (v := (-1)) hx hb dX11_over_81 (of_decide_eq_true rfl) ?_
                       exact hret (-1) σ τ _ _ _ _ rfl ⟨rfl, (fun _ _ => rfl), hs_jOk3, hs_jN67, hs_jBl, (Or.inr ⟨(fun w => by unfold jOvB at w; omega), rfl⟩), trivial⟩ hP hS dX11_over_82
               · have kc31 := jnle c31 tx21 jz_3
                 refine lv_iconst (v := (-1)) hx hb dX11_over_61 (of_decide_eq_true rfl) ?_
                 exact hret (-1) σ τ _ _ _ _ rfl ⟨rfl, (fun _ _ => rfl), hs_jOk3, hs_jN67, hs_jBl, (Or.inr ⟨(fun w => by unfold jOvB at w; omega), rfl⟩), trivial⟩ hP hS dX11_over_62
set_option maxHeartbeats 4000000 in
set_option maxRecDepth 100000 in
theorem c_X11_rule (l : Launch) (D : va_G) (cI cL : ClassId) (ad zz : Nat → Nat) (hJ : jD ad) (σ : Nat → Nat → Int32) (τ : Nat → Nat → Int64) (a1 : Int32) (A1 : Int) (t1 : a1.toInt = A1) (a2 : Int32) (A2 : Int) (t2 : a2.toInt = A2) (a3 : Int32) (A3 : Int) (t3 : a3.toInt = A3) (hI38 : jI38 σ) : jM l yX11_rule cX11_rule 4 (some .int) ({ frames := 1, cells := 0, slots := 0, locals := 23 }) D cI cL ad zz [.ref (ad 0), .int a1, .int a2, .int a3] σ τ (fun r σ' τ' => τ = τ' ∧ (∀ i : Nat, (i < 38 ∨ 41 < i) → σ' i = σ i) ∧ (∀ k : Nat, (k < 0 ∨ 0 < k) → σ' 38 k = σ 38 k) ∧ (jI38 σ') ∧ ((r = (-1) ∧ ((σ' 38 0).toInt = (σ 38 0).toInt) ∧ (¬ (0 ≤ A1 ∧ A1 ≤ 6 ∧ jRow (A2) ∧ 0 ≤ A3 ∧ A3 ≤ 12)) ∧ (σ' 39 = σ 39)) ∨ (r = (-3) ∧ ((σ 38 0).toInt = 20) ∧ ((σ' 38 0).toInt = 20) ∧ ((0 ≤ A1 ∧ A1 ≤ 6 ∧ jRow (A2) ∧ 0 ≤ A3 ∧ A3 ≤ 12)) ∧ (σ' 39 = σ 39)) ∨ (True ∧ ((σ 38 0).toInt < 20) ∧ (r.toInt = (σ 38 0).toInt) ∧ ((σ' 38 0).toInt = (σ 38 0).toInt + 1) ∧ ((0 ≤ A1 ∧ A1 ≤ 6 ∧ jRow (A2) ∧ 0 ≤ A3 ∧ A3 ≤ 12)) ∧ (σ' 39 = jupd (σ 39) ((σ 38 0).toInt).toNat a1)))) := by
  refine jM.of hJ (by decide +kernel) (nt := .int) rfl (Nat.le_of_ble_eq_true rfl) ?_
  intro p e s m args below meth c Q ls hC hret hl hP
  obtain ⟨hx, hb, hr, hml, hown, hts, hK, -, hlocks, hZ⟩ := hC
  have hown : s.vm.findClass RX11 = some m.cls := hown
  have hS : va_S (jA ad) s.heap s.heap [] := va_S.rf
  have hA : ∀ q, jA ad q → jA ad q := fun _ h => h
  have hl : lv_has ls 4 [(0, .ref (ad 0)), (1, .int a1), (2, .int a2), (3, .int a3)] := hl
  have g1 := jrg t1
  have g2 := jrg t2
  have g3 := jrg t3
  obtain ⟨i1, i2, w3⟩ : (0 ≤ (σ 38 0).toInt ∧ (σ 38 0).toInt ≤ 20) ∧ (0 ≤ (σ 38 1).toInt ∧ (σ 38 1).toInt ≤ 1000) ∧ (∀ k : Nat, k < 20 → 0 ≤ (σ 39 k).toInt ∧ (σ 39 k).toInt ≤ 6) := id hI38
  refine lv_iload_n hx hb dX11_rule_0 rfl (lv_at hl 1 rfl) ?_
  refine lv_iconst (v := 0) hx hb dX11_rule_1 (of_decide_eq_true rfl) ?_
  refine lv_bipush (v := 6) hx hb dX11_rule_2 (of_decide_eq_true rfl) ?_
  refine jcallS (As := [.int a1, .int 0, .int 6]) (rest := []) ⟨hx, hb, hml, hown, hts⟩ hK hP hA hS hZ (c_X11_outside l D cI cL ad zz hJ σ τ a1 (A1) t1 0 (0) jz_0 6 (6) jz_6) cw_RX11_94 ⟨Nat.le_of_ble_eq_true rfl, Nat.le_of_ble_eq_true rfl⟩ rfl rfl rfl hl.1 rfl (Nat.le_of_ble_eq_true rfl) dX11_rule_4 ⟨Nat.zero_le _, Nat.zero_le _⟩ (fun r5 σ4 τ4 H locs h4 hP hS => ?_)
  obtain ⟨⟨rfl, rfl⟩, h4⟩ := h4
  rcases h4 with h6 | h7
  · obtain ⟨q9, k8⟩ := h6
    have q9 := q9.symm
    subst q9
    refine lv_if_ne (tgt := 27) hx hb dX11_rule_7 (of_decide_eq_true rfl) (fun _ => ?_) (fun c => absurd c (of_decide_eq_true rfl))
    refine lv_iconst (v := (-1)) hx hb dX11_rule_27 (of_decide_eq_true rfl) ?_
    exact hret (-1) σ τ _ _ _ _ rfl ⟨rfl, (fun _ _ => rfl), (fun _ _ => rfl), hI38, Or.inl ⟨rfl, (by have h9 := jz_m1; omega), (fun h => by omega), rfl⟩⟩ hP hS dX11_rule_28
  · obtain ⟨q11, k10⟩ := h7
    have q11 := q11.symm
    subst q11
    refine lv_if_ne (tgt := 27) hx hb dX11_rule_7 (of_decide_eq_true rfl) (fun c => absurd (of_decide_eq_true rfl) c) (fun _ => ?_)
    refine lv_iload_n hx hb dX11_rule_10 rfl (lv_at hl 2 rfl) ?_
    refine jcallS (As := [.int a2]) (rest := []) ⟨hx, hb, hml, hown, hts⟩ hK hP hA hS hZ (c_X8_rowIsRight l D cI cL ad zz hJ σ τ a2 (A2) t2) cw_RX11_170 ⟨Nat.le_of_ble_eq_true rfl, Nat.le_of_ble_eq_true rfl⟩ rfl rfl rfl hl.1 rfl (Nat.le_of_ble_eq_true rfl) dX11_rule_11 ⟨Nat.zero_le _, Nat.zero_le _⟩ (fun r13 σ12 τ12 H locs h12 hP hS => ?_)
    obtain ⟨⟨rfl, rfl⟩, h12⟩ := h12
    rcases h12 with h14 | h15
    · obtain ⟨q17, k16⟩ := h14
      have q17 := q17.symm
      subst q17
      refine lv_if_eq (tgt := 27) hx hb dX11_rule_14 (of_decide_eq_true rfl) (fun c => absurd c (of_decide_eq_true rfl)) (fun _ => ?_)
      refine lv_iload_n hx hb dX11_rule_17 rfl (lv_at hl 3 rfl) ?_
      refine lv_iconst (v := 0) hx hb dX11_rule_18 (of_decide_eq_true rfl) ?_
      refine lv_bipush (v := 12) hx hb dX11_rule_19 (of_decide_eq_true rfl) ?_
      refine jcallS (As := [.int a3, .int 0, .int 12]) (rest := []) ⟨hx, hb, hml, hown, hts⟩ hK hP hA hS hZ (c_X11_outside l D cI cL ad zz hJ σ τ a3 (A3) t3 0 (0) jz_0 12 (12) jz_12) cw_RX11_94 ⟨Nat.le_of_ble_eq_true rfl, Nat.le_of_ble_eq_true rfl⟩ rfl rfl rfl hl.1 rfl (Nat.le_of_ble_eq_true rfl) dX11_rule_21 ⟨Nat.zero_le _, Nat.zero_le _⟩ (fun r19 σ18 τ18 H locs h18 hP hS => ?_)
      obtain ⟨⟨rfl, rfl⟩, h18⟩ := h18
      rcases h18 with h20 | h21
      · obtain ⟨q23, k22⟩ := h20
        have q23 := q23.symm
        subst q23
        refine lv_if_eq (tgt := 29) hx hb dX11_rule_24 (of_decide_eq_true rfl) (fun c => absurd c (of_decide_eq_true rfl)) (fun _ => ?_)
        refine lv_iconst (v := (-1)) hx hb dX11_rule_27 (of_decide_eq_true rfl) ?_
        exact hret (-1) σ τ _ _ _ _ rfl ⟨rfl, (fun _ _ => rfl), (fun _ _ => rfl), hI38, Or.inl ⟨rfl, (by have h9 := jz_m1; omega), (fun h => by omega), rfl⟩⟩ hP hS dX11_rule_28
      · obtain ⟨q25, k24⟩ := h21
        have q25 := q25.symm
        subst q25
        refine lv_if_eq (tgt := 29) hx hb dX11_rule_24 (of_decide_eq_true rfl) (fun _ => ?_) (fun c => absurd (of_decide_eq_true rfl) c)
        refine lv_aload_n hx hb dX11_rule_29 rfl (lv_at hl 0 rfl) ?_
        refine va_get (D := D) hx hb hts inlX11 hown hK hP 0 (jc_0 cI cL ad σ τ) rfl 7 (of_decide_eq_true rfl) (hts _ kw_2_17) (fun _ h9 => h9) rfl dX11_rule_30 ?_
        refine va_get (D := D) hx hb hts inlX8 hown hK hP 38 (jc_38 cI cL ad σ τ) rfl 0 (of_decide_eq_true rfl) (hts _ kw_24_8) (fun _ h9 => h9) rfl dX11_rule_33 ?_
        refine lv_bipush (v := 20) hx hb dX11_rule_36 (of_decide_eq_true rfl) ?_
        refine lv_icmp_lt (tgt := 44) hx hb dX11_rule_38 (of_decide_eq_true rfl) (fun c26 => ?_) (fun c26 => ?_)
        · have kc26 := jlt c26 rfl jz_20
          refine lv_aload_n hx hb dX11_rule_44 rfl (lv_at hl 0 rfl) ?_
          refine va_get (D := D) hx hb hts inlX11 hown hK hP 0 (jc_0 cI cL ad σ τ) rfl 7 (of_decide_eq_true rfl) (hts _ kw_2_17) (fun _ h9 => h9) rfl dX11_rule_45 ?_
          refine lv_iload_n hx hb dX11_rule_48 rfl (lv_at hl 1 rfl) ?_
          refine lv_iload_n hx hb dX11_rule_49 rfl (lv_at hl 2 rfl) ?_
          refine lv_iload_n hx hb dX11_rule_50 rfl (lv_at hl 3 rfl) ?_
          exact by
           refine jcallV (As := [.int a1, .int a2, .int a3]) (rest := []) ⟨hx, hb, hml, hown, hts⟩ hK hP hA hS hZ (c_X8_make_38 l D cI cL ad zz hJ σ τ a1 (A1) t1 a2 (A2) t2 a3 (A3) t3 hI38 (by omega)) cw_RX11_174 (jc_38 cI cL ad σ τ) rfl ⟨Nat.le_of_ble_eq_true rfl, Nat.le_of_ble_eq_true rfl⟩ rfl rfl rfl hl.1 rfl (Nat.le_of_ble_eq_true rfl) dX11_rule_51 ⟨Nat.zero_le _, Nat.zero_le _⟩ (fun r28 σ27 τ27 H locs h27 hP hS => ?_)
           obtain ⟨rfl, f29, f30, I31, h27⟩ := h27
           obtain ⟨i33, i34, w35⟩ : (0 ≤ (σ27 38 0).toInt ∧ (σ27 38 0).toInt ≤ 20) ∧ (0 ≤ (σ27 38 1).toInt ∧ (σ27 38 1).toInt ≤ 1000) ∧ (∀ k : Nat, k < 20 → 0 ≤ (σ27 39 k).toInt ∧ (σ27 39 k).toInt ≤ 6) := id I31
           have z36 : (σ27 38 1).toInt = (σ 38 1).toInt := (congrArg Int32.toInt (show σ27 38 1 = (σ 38 1) from (f30 1 (of_decide_eq_true rfl))))
           rcases h27 with h37 | h38
           · obtain ⟨q42, k39, k40, k41⟩ := h37
             exact absurd (by omega : False) id
           · obtain ⟨q47, k43, k44, k45, k46⟩ := h38
             exact by exact hret r28 σ27 τ _ _ _ _ rfl ⟨rfl, (fun i hi => (f29 i hi)), (fun i hi => (f30 i hi)), I31, Or.inr (Or.inr (⟨trivial, (by omega), (by omega), (by omega), ⟨by omega, by omega, k16, by omega, by omega⟩, k46⟩))⟩ hP hS dX11_rule_54
        · have kc26 := jnlt c26 rfl jz_20
          refine lv_bipush (v := (-3)) hx hb dX11_rule_41 (of_decide_eq_true rfl) ?_
          exact by exact hret (-3) σ τ _ _ _ _ rfl ⟨rfl, (fun _ _ => rfl), (fun _ _ => rfl), hI38, Or.inr (Or.inl ⟨rfl, (by have h9 := jz_m3; omega), (by have h9 := jz_m3; omega), ⟨by omega, by omega, k16, by omega, by omega⟩, rfl⟩)⟩ hP hS dX11_rule_43
    · obtain ⟨q49, k48⟩ := h15
      have q49 := q49.symm
      subst q49
      refine lv_if_eq (tgt := 27) hx hb dX11_rule_14 (of_decide_eq_true rfl) (fun _ => ?_) (fun c => absurd (of_decide_eq_true rfl) c)
      refine lv_iconst (v := (-1)) hx hb dX11_rule_27 (of_decide_eq_true rfl) ?_
      exact hret (-1) σ τ _ _ _ _ rfl ⟨rfl, (fun _ _ => rfl), (fun _ _ => rfl), hI38, Or.inl ⟨rfl, (by have h9 := jz_m1; omega), (fun h => k48 h.2.2.1), rfl⟩⟩ hP hS dX11_rule_28
set_option maxHeartbeats 4000000 in
set_option maxRecDepth 100000 in
theorem c_X11_makeReady (l : Launch) (D : va_G) (cI cL : ClassId) (ad zz : Nat → Nat) (hJ : jD ad) (σ : Nat → Nat → Int32) (τ : Nat → Nat → Int64) (a1 : Int32) (A1 : Int) (t1 : a1.toInt = A1) (hI2 : jI2 σ) (hI16 : jI16 σ) (hI22 : jI22 σ) (hI31 : jI31 σ) (hI38 : jI38 σ) (hI26 : jI26 σ) (hs_jN67 : jN67 σ) (hs_jBl : jBl σ) (hs_jKb : jKb σ) (hs_jKh : jKh σ) (hs_jKg : jKg σ) (hs_jNz : jNz σ) : jMv l yX11_makeReady cX11_makeReady 2 none ({ frames := 6, cells := 0, slots := 0, locals := 162 }) D cI cL ad zz [.ref (ad 0), .int a1] σ τ (fun σ' τ' => τ = τ' ∧ (∀ i : Nat, (i < 24 ∨ 25 < i) ∧ (i < 27 ∨ 37 < i) → σ' i = σ i) ∧ (∀ k : Nat, (k < 8 ∨ 8 < k) ∧ (k < 9 ∨ 9 < k) ∧ (k < 10 ∨ 10 < k) ∧ (k < 11 ∨ 11 < k) ∧ (k < 12 ∨ 12 < k) → σ' 31 k = σ 31 k) ∧ (jI31 σ') ∧ (jN67 σ') ∧ (jBl σ') ∧ (jKb σ') ∧ (jKh σ') ∧ (jKg σ') ∧ (jNz σ') ∧ True) := by
  refine jMv.of hJ (by decide +kernel) rfl (Nat.le_of_ble_eq_true rfl) ?_
  intro p e s m args below meth c Q ls hC hret hl hP
  obtain ⟨hx, hb, hr, hml, hown, hts, hK, -, hlocks, hZ⟩ := hC
  have hown : s.vm.findClass RX11 = some m.cls := hown
  have hS : va_S (jA ad) s.heap s.heap [] := va_S.rf
  have hA : ∀ q, jA ad q → jA ad q := fun _ h => h
  have hl : lv_has ls 2 [(0, .ref (ad 0)), (1, .int a1)] := hl
  have g1 := jrg t1
  obtain ⟨i1, i2, i3, i4, i5, w6, w7⟩ : (0 ≤ (σ 2 0).toInt ∧ (σ 2 0).toInt ≤ 4) ∧ (0 ≤ (σ 2 1).toInt ∧ (σ 2 1).toInt ≤ 3) ∧ (0 ≤ (σ 2 2).toInt) ∧ (0 ≤ (σ 2 3).toInt) ∧ ((σ 2 2).toInt + (σ 2 3).toInt ≤ 40) ∧ (∀ k : Nat, k < 40 → 0 ≤ (σ 6 k).toInt ∧ (σ 6 k).toInt ≤ 67) ∧ (∀ k : Nat, k < 4 → 0 ≤ (σ 5 k).toInt ∧ (σ 5 k).toInt ≤ 20) := id hI2
  obtain ⟨i8, i9, i10, w11⟩ : (1 ≤ (σ 16 0).toInt ∧ (σ 16 0).toInt ≤ 8) ∧ (1 ≤ (σ 16 1).toInt ∧ (σ 16 1).toInt ≤ 12) ∧ (0 ≤ (σ 16 2).toInt ∧ (σ 16 2).toInt ≤ 999) ∧ (∀ k : Nat, k < 8 → 0 ≤ (σ 17 k).toInt ∧ (σ 17 k).toInt ≤ 3) := id hI16
  obtain ⟨i12, i13, i14, i15, w16, w17, w18⟩ : (0 ≤ (σ 31 8).toInt ∧ (σ 31 8).toInt ≤ 350) ∧ (0 ≤ (σ 31 10).toInt ∧ (σ 31 10).toInt ≤ 12) ∧ (0 ≤ (σ 31 11).toInt ∧ (σ 31 11).toInt ≤ 8) ∧ ((σ 31 10).toInt + (σ 31 11).toInt ≤ 12) ∧ (∀ k : Nat, k < 1400 → (-1) ≤ (σ 33 k).toInt ∧ (σ 33 k).toInt ≤ 350) ∧ (∀ k : Nat, k < 3159 → (-1) ≤ (σ 35 k).toInt ∧ (σ 35 k).toInt ≤ 3) ∧ (∀ k : Nat, k < 1024 → 0 ≤ (σ 36 k).toInt ∧ (σ 36 k).toInt ≤ 349) := id hI31
  obtain ⟨i19, i20, w21⟩ : (0 ≤ (σ 38 0).toInt ∧ (σ 38 0).toInt ≤ 20) ∧ (0 ≤ (σ 38 1).toInt ∧ (σ 38 1).toInt ≤ 1000) ∧ (∀ k : Nat, k < 20 → 0 ≤ (σ 39 k).toInt ∧ (σ 39 k).toInt ≤ 6) := id hI38
  refine lv_aload_n hx hb dX11_makeReady_0 rfl (lv_at hl 0 rfl) ?_
  refine va_get (D := D) hx hb hts inlX11 hown hK hP 0 (jc_0 cI cL ad σ τ) rfl 5 (of_decide_eq_true rfl) (hts _ kw_2_9) (fun _ h9 => h9) rfl dX11_makeReady_1 ?_
  refine lv_aload_n hx hb dX11_makeReady_4 rfl (lv_at hl 0 rfl) ?_
  refine va_get (D := D) hx hb hts inlX11 hown hK hP 0 (jc_0 cI cL ad σ τ) rfl 0 (of_decide_eq_true rfl) (hts _ kw_1_16) (fun _ h9 => h9) rfl dX11_makeReady_5 ?_
  refine va_get (D := D) hx hb hts inlX4 hown hK hP 2 (jc_2 cI cL ad σ τ) rfl 1 (of_decide_eq_true rfl) (hts _ kw_12_8) (fun _ h9 => h9) rfl dX11_makeReady_8 ?_
  exact by
   refine jcallVv (As := [.int (σ 2 1)]) (rest := []) ⟨hx, hb, hml, hown, hts⟩ hK hP hA hS hZ (c_X5_lay_26 l D cI cL ad zz hJ σ τ (σ 2 1) ((σ 2 1).toInt) rfl (by omega)) cw_RX11_156 (jc_26 cI cL ad σ τ) rfl ⟨Nat.le_of_ble_eq_true rfl, Nat.le_of_ble_eq_true rfl⟩ rfl rfl rfl hl.1 rfl (Nat.le_of_ble_eq_true rfl) dX11_makeReady_11 ⟨Nat.zero_le _, Nat.zero_le _⟩ (fun σ22 τ22 H locs h22 hP hS => ?_)
   obtain ⟨rfl, f24, w25, h22⟩ := h22
   refine lv_aload_n hx hb dX11_makeReady_14 rfl (lv_at hl 0 rfl) ?_
   refine va_get (D := D) hx hb hts inlX11 hown hK hP 0 (jc_0 cI cL ad σ22 τ) rfl 7 (of_decide_eq_true rfl) (hts _ kw_2_17) (fun _ h9 => h9) rfl dX11_makeReady_15 ?_
   refine lv_iload_n hx hb dX11_makeReady_18 rfl (lv_at hl 1 rfl) ?_
   have I27 : jI38 σ22 := jI38_fr (congrFun (f24 38 (of_decide_eq_true rfl)) 0) (congrFun (f24 38 (of_decide_eq_true rfl)) 1) (f24 39 (of_decide_eq_true rfl)) hI38
   have z28 : (σ22 38 0).toInt = (σ 38 0).toInt := (congrArg Int32.toInt (show σ22 38 0 = (σ 38 0) from (congrFun (f24 38 (of_decide_eq_true rfl)) 0)))
   refine jcallV (As := [.int a1]) (rest := []) ⟨hx, hb, hml, hown, hts⟩ hK hP hA hS hZ (c_X8_kindOf_e l D cI cL ad zz hJ σ22 τ a1 (A1) t1 I27) cw_RX11_183 (jc_38 cI cL ad σ22 τ) rfl ⟨Nat.le_of_ble_eq_true rfl, Nat.le_of_ble_eq_true rfl⟩ rfl rfl rfl hl.1 rfl (Nat.le_of_ble_eq_true rfl) dX11_makeReady_19 ⟨Nat.zero_le _, Nat.zero_le _⟩ (fun r30 σ29 τ29 H locs h29 hP hS => ?_)
   obtain ⟨⟨rfl, rfl⟩, h29⟩ := h29
   rcases h29 with h31 | h32
   · obtain ⟨q36, k33, k34, k35⟩ := h31
     have z37 : (σ22 39 a1.toNatClampNeg).toInt = (σ 39 a1.toNatClampNeg).toInt := by rw [f24 39 (of_decide_eq_true rfl)]
     exact by
      have q38 : r30 = (σ 39 a1.toNatClampNeg) := q36.trans (by rw [f24 39 (of_decide_eq_true rfl)])
      have q38e : (σ22 39 a1.toNatClampNeg).toInt = (σ 39 a1.toNatClampNeg).toInt := by rw [← q36, ← q38]
      have q38 := q38.symm
      subst q38
      refine lv_iconst (v := 2) hx hb dX11_makeReady_22 (of_decide_eq_true rfl) ?_
      refine lv_icmp_ne (tgt := 42) hx hb dX11_makeReady_23 (of_decide_eq_true rfl) (fun c39 => ?_) (fun c39 => ?_)
      · have kc39 := jne c39 rfl jz_2
        have I40 : jI31 σ22 := jI31_fr (congrFun (f24 31 (of_decide_eq_true rfl)) 8) (congrFun (f24 31 (of_decide_eq_true rfl)) 10) (congrFun (f24 31 (of_decide_eq_true rfl)) 11) (f24 33 (of_decide_eq_true rfl)) (f24 35 (of_decide_eq_true rfl)) (f24 36 (of_decide_eq_true rfl)) hI31
        have p41 : jN67 σ22 := jN67.fr (f24 24 (of_decide_eq_true rfl)) hs_jN67
        have p42 : jBl σ22 := jBl.fr (congrFun (f24 22 (of_decide_eq_true rfl)) 0) (congrFun (f24 22 (of_decide_eq_true rfl)) 1) (f24 23 (of_decide_eq_true rfl)) (congrFun (f24 26 (of_decide_eq_true rfl)) 6) (congrFun (f24 26 (of_decide_eq_true rfl)) 7) (f24 29 (of_decide_eq_true rfl)) (f24 30 (of_decide_eq_true rfl)) hs_jBl
        have p43 : jKb σ22 := jKb.fr (congrFun (f24 31 (of_decide_eq_true rfl)) 8) (congrFun (f24 31 (of_decide_eq_true rfl)) 11) (f24 32 (of_decide_eq_true rfl)) hs_jKb
        have p44 : jKh σ22 := jKh.fr (congrFun (f24 31 (of_decide_eq_true rfl)) 8) (f24 32 (of_decide_eq_true rfl)) (f24 36 (of_decide_eq_true rfl)) (f24 37 (of_decide_eq_true rfl)) hs_jKh
        have p45 : jKg σ22 := jKg.fr (congrFun (f24 31 (of_decide_eq_true rfl)) 8) (congrFun (f24 31 (of_decide_eq_true rfl)) 9) (congrFun (f24 31 (of_decide_eq_true rfl)) 11) (congrFun (f24 31 (of_decide_eq_true rfl)) 12) (f24 32 (of_decide_eq_true rfl)) (f24 33 (of_decide_eq_true rfl)) hs_jKg
        have p46 : jNz σ22 := jNz.fr (f24 34 (of_decide_eq_true rfl)) hs_jNz
        exact hret σ22 τ _ _ _ _ ⟨rfl, (fun i hi => (f24 i (imp_131 i hi))), (fun i hi => (congrFun (f24 31 (of_decide_eq_true rfl)) i)), I40, p41, p42, p43, p44, p45, p46, trivial⟩ hP hS dX11_makeReady_42
      · have kc39 := jeq c39 rfl jz_2
        refine lv_aload_n hx hb dX11_makeReady_26 rfl (lv_at hl 0 rfl) ?_
        refine va_get (D := D) hx hb hts inlX11 hown hK hP 0 (jc_0 cI cL ad σ22 τ) rfl 6 (of_decide_eq_true rfl) (hts _ kw_2_13) (fun _ h9 => h9) rfl dX11_makeReady_27 ?_
        refine lv_aload_n hx hb dX11_makeReady_30 rfl (lv_at hl 0 rfl) ?_
        refine va_get (D := D) hx hb hts inlX11 hown hK hP 0 (jc_0 cI cL ad σ22 τ) rfl 0 (of_decide_eq_true rfl) (hts _ kw_1_16) (fun _ h9 => h9) rfl dX11_makeReady_31 ?_
        have I47 : jI2 σ22 := jI2_fr (congrFun (f24 2 (of_decide_eq_true rfl)) 0) (congrFun (f24 2 (of_decide_eq_true rfl)) 1) (congrFun (f24 2 (of_decide_eq_true rfl)) 2) (congrFun (f24 2 (of_decide_eq_true rfl)) 3) (f24 6 (of_decide_eq_true rfl)) (f24 5 (of_decide_eq_true rfl)) hI2
        refine jcallV (As := []) (rest := [.ref (ad 31)]) ⟨hx, hb, hml, hown, hts⟩ hK hP hA hS hZ (c_X4_freshAttack_2 l D cI cL ad zz hJ σ22 τ I47) cw_RX11_204 (jc_2 cI cL ad σ22 τ) rfl ⟨Nat.le_of_ble_eq_true rfl, Nat.le_of_ble_eq_true rfl⟩ rfl rfl rfl hl.1 rfl (Nat.le_of_ble_eq_true rfl) dX11_makeReady_34 ⟨Nat.zero_le _, Nat.zero_le _⟩ (fun r49 σ48 τ48 H locs h48 hP hS => ?_)
        obtain ⟨⟨rfl, rfl⟩, w50, w51, h48⟩ := h48
        have h52 := h48
        obtain ⟨q54, k53⟩ := h52
        refine lv_iconst (v := 0) hx hb dX11_makeReady_37 (of_decide_eq_true rfl) ?_
        refine lv_iconst (v := 0) hx hb dX11_makeReady_38 (of_decide_eq_true rfl) ?_
        have I55 : jI16 σ22 := jI16_fr (congrFun (f24 16 (of_decide_eq_true rfl)) 0) (congrFun (f24 16 (of_decide_eq_true rfl)) 1) (congrFun (f24 16 (of_decide_eq_true rfl)) 2) (f24 17 (of_decide_eq_true rfl)) hI16
        have I56 : jI22 σ22 := jI22_fr (congrFun (f24 22 (of_decide_eq_true rfl)) 0) (f24 23 (of_decide_eq_true rfl)) hI22
        have I57 : jI31 σ22 := jI31_fr (congrFun (f24 31 (of_decide_eq_true rfl)) 8) (congrFun (f24 31 (of_decide_eq_true rfl)) 10) (congrFun (f24 31 (of_decide_eq_true rfl)) 11) (f24 33 (of_decide_eq_true rfl)) (f24 35 (of_decide_eq_true rfl)) (f24 36 (of_decide_eq_true rfl)) hI31
        have I58 : jI26 σ22 := jI26_fr (congrFun (f24 26 (of_decide_eq_true rfl)) 6) hI26
        have p59 : jN67 σ22 := jN67.fr (f24 24 (of_decide_eq_true rfl)) hs_jN67
        have p60 : jBl σ22 := jBl.fr (congrFun (f24 22 (of_decide_eq_true rfl)) 0) (congrFun (f24 22 (of_decide_eq_true rfl)) 1) (f24 23 (of_decide_eq_true rfl)) (congrFun (f24 26 (of_decide_eq_true rfl)) 6) (congrFun (f24 26 (of_decide_eq_true rfl)) 7) (f24 29 (of_decide_eq_true rfl)) (f24 30 (of_decide_eq_true rfl)) hs_jBl
        have p61 : jKb σ22 := jKb.fr (congrFun (f24 31 (of_decide_eq_true rfl)) 8) (congrFun (f24 31 (of_decide_eq_true rfl)) 11) (f24 32 (of_decide_eq_true rfl)) hs_jKb
        have p62 : jKh σ22 := jKh.fr (congrFun (f24 31 (of_decide_eq_true rfl)) 8) (f24 32 (of_decide_eq_true rfl)) (f24 36 (of_decide_eq_true rfl)) (f24 37 (of_decide_eq_true rfl)) hs_jKh
        have p63 : jKg σ22 := jKg.fr (congrFun (f24 31 (of_decide_eq_true rfl)) 8) (congrFun (f24 31 (of_decide_eq_true rfl)) 9) (congrFun (f24 31 (of_decide_eq_true rfl)) 11) (congrFun (f24 31 (of_decide_eq_true rfl)) 12) (f24 32 (of_decide_eq_true rfl)) (f24 33 (of_decide_eq_true rfl)) hs_jKg
        have p64 : jNz σ22 := jNz.fr (f24 34 (of_decide_eq_true rfl)) hs_jNz
        have z65 : (σ22 16 1).toInt = (σ 16 1).toInt := (congrArg Int32.toInt (show σ22 16 1 = (σ 16 1) from (congrFun (f24 16 (of_decide_eq_true rfl)) 1)))
        exact by
         refine jcallVv (As := [.int r49, .int 0, .int 0]) (rest := []) ⟨hx, hb, hml, hown, hts⟩ hK hP hA hS hZ (c_X1_seek_31 l D cI cL ad zz hJ σ22 τ r49 (r49.toInt) rfl 0 (0) jz_0 0 (0) jz_0 I55 I56 I57 I58 p59 p60 p61 p62 p63 p64 (by omega) (by omega) (by omega)) cw_RX11_193 (jc_31 cI cL ad σ22 τ) rfl ⟨Nat.le_of_ble_eq_true rfl, Nat.le_of_ble_eq_true rfl⟩ rfl rfl rfl hl.1 rfl (Nat.le_of_ble_eq_true rfl) dX11_makeReady_39 ⟨Nat.zero_le _, Nat.zero_le _⟩ (fun σ66 τ66 H locs h66 hP hS => ?_)
         obtain ⟨rfl, f68, f69, I70, p71, p72, p73, p74, p75, p76, h66⟩ := h66
         obtain ⟨i78, i79, i80, i81, w82, w83, w84⟩ : (0 ≤ (σ66 31 8).toInt ∧ (σ66 31 8).toInt ≤ 350) ∧ (0 ≤ (σ66 31 10).toInt ∧ (σ66 31 10).toInt ≤ 12) ∧ (0 ≤ (σ66 31 11).toInt ∧ (σ66 31 11).toInt ≤ 8) ∧ ((σ66 31 10).toInt + (σ66 31 11).toInt ≤ 12) ∧ (∀ k : Nat, k < 1400 → (-1) ≤ (σ66 33 k).toInt ∧ (σ66 33 k).toInt ≤ 350) ∧ (∀ k : Nat, k < 3159 → (-1) ≤ (σ66 35 k).toInt ∧ (σ66 35 k).toInt ≤ 3) ∧ (∀ k : Nat, k < 1024 → 0 ≤ (σ66 36 k).toInt ∧ (σ66 36 k).toInt ≤ 349) := id I70
         obtain ⟨k85, k86, k87, h66⟩ := h66
         exact hret σ66 τ _ _ _ _ ⟨rfl, (fun i hi => ((f68 i (imp_132 i hi)).trans (f24 i (imp_131 i hi)))), (fun i hi => ((f69 i hi).trans (congrFun (f24 31 (of_decide_eq_true rfl)) i))), I70, p71, p72, p73, p74, p75, p76, trivial⟩ hP hS dX11_makeReady_42
   · obtain ⟨q89, k88⟩ := h32
     have z90 : (σ22 39 a1.toNatClampNeg).toInt = (σ 39 a1.toNatClampNeg).toInt := by rw [f24 39 (of_decide_eq_true rfl)]
     have q89 := q89.symm
     subst q89
     refine lv_iconst (v := 2) hx hb dX11_makeReady_22 (of_decide_eq_true rfl) ?_
     refine lv_icmp_ne (tgt := 42) hx hb dX11_makeReady_23 (of_decide_eq_true rfl) (fun _ => ?_) (fun c => absurd c (of_decide_eq_true rfl))
     have I91 : jI31 σ22 := jI31_fr (congrFun (f24 31 (of_decide_eq_true rfl)) 8) (congrFun (f24 31 (of_decide_eq_true rfl)) 10) (congrFun (f24 31 (of_decide_eq_true rfl)) 11) (f24 33 (of_decide_eq_true rfl)) (f24 35 (of_decide_eq_true rfl)) (f24 36 (of_decide_eq_true rfl)) hI31
     have p92 : jN67 σ22 := jN67.fr (f24 24 (of_decide_eq_true rfl)) hs_jN67
     have p93 : jBl σ22 := jBl.fr (congrFun (f24 22 (of_decide_eq_true rfl)) 0) (congrFun (f24 22 (of_decide_eq_true rfl)) 1) (f24 23 (of_decide_eq_true rfl)) (congrFun (f24 26 (of_decide_eq_true rfl)) 6) (congrFun (f24 26 (of_decide_eq_true rfl)) 7) (f24 29 (of_decide_eq_true rfl)) (f24 30 (of_decide_eq_true rfl)) hs_jBl
     have p94 : jKb σ22 := jKb.fr (congrFun (f24 31 (of_decide_eq_true rfl)) 8) (congrFun (f24 31 (of_decide_eq_true rfl)) 11) (f24 32 (of_decide_eq_true rfl)) hs_jKb
     have p95 : jKh σ22 := jKh.fr (congrFun (f24 31 (of_decide_eq_true rfl)) 8) (f24 32 (of_decide_eq_true rfl)) (f24 36 (of_decide_eq_true rfl)) (f24 37 (of_decide_eq_true rfl)) hs_jKh
     have p96 : jKg σ22 := jKg.fr (congrFun (f24 31 (of_decide_eq_true rfl)) 8) (congrFun (f24 31 (of_decide_eq_true rfl)) 9) (congrFun (f24 31 (of_decide_eq_true rfl)) 11) (congrFun (f24 31 (of_decide_eq_true rfl)) 12) (f24 32 (of_decide_eq_true rfl)) (f24 33 (of_decide_eq_true rfl)) hs_jKg
     have p97 : jNz σ22 := jNz.fr (f24 34 (of_decide_eq_true rfl)) hs_jNz
     exact hret σ22 τ _ _ _ _ ⟨rfl, (fun i hi => (f24 i (imp_131 i hi))), (fun i hi => (congrFun (f24 31 (of_decide_eq_true rfl)) i)), I91, p92, p93, p94, p95, p96, p97, trivial⟩ hP hS dX11_makeReady_42
set_option maxHeartbeats 4000000 in
set_option maxRecDepth 100000 in
theorem c_X11_bestOf (l : Launch) (D : va_G) (cI cL : ClassId) (ad zz : Nat → Nat) (hJ : jD ad) (σ : Nat → Nat → Int32) (τ : Nat → Nat → Int64) (a1 : Int32) (A1 : Int) (t1 : a1.toInt = A1) (a2 : Int32) (A2 : Int) (t2 : a2.toInt = A2) (hI2 : jI2 σ) (hI16 : jI16 σ) (hI22 : jI22 σ) (hI31 : jI31 σ) (hI26 : jI26 σ) (hs_jN67 : jN67 σ) (hs_jBl : jBl σ) (hs_jKb : jKb σ) (hs_jKh : jKh σ) (hs_jKg : jKg σ) (hs_jNz : jNz σ) (hp0 : 0 ≤ A1 ∧ A1 ≤ 134217727) (hp1 : 0 ≤ A2 ∧ A2 ≤ 3) : jM l yX11_bestOf cX11_bestOf 3 (some .int) ({ frames := 6, cells := 0, slots := 0, locals := 162 }) D cI cL ad zz [.ref (ad 0), .int a1, .int a2] σ τ (fun r σ' τ' => τ = τ' ∧ (∀ i : Nat, (i < 24 ∨ 25 < i) ∧ (i < 27 ∨ 37 < i) → σ' i = σ i) ∧ (∀ k : Nat, (k < 8 ∨ 8 < k) ∧ (k < 9 ∨ 9 < k) ∧ (k < 10 ∨ 10 < k) ∧ (k < 11 ∨ 11 < k) ∧ (k < 12 ∨ 12 < k) → σ' 31 k = σ 31 k) ∧ (jI31 σ') ∧ (jN67 σ') ∧ (jBl σ') ∧ (jKb σ') ∧ (jKh σ') ∧ (jKg σ') ∧ (jNz σ') ∧ True) := by
  refine jM.of hJ (by decide +kernel) (nt := .int) rfl (Nat.le_of_ble_eq_true rfl) ?_
  intro p e s m args below meth c Q ls hC hret hl hP
  obtain ⟨hx, hb, hr, hml, hown, hts, hK, -, hlocks, hZ⟩ := hC
  have hown : s.vm.findClass RX11 = some m.cls := hown
  have hS : va_S (jA ad) s.heap s.heap [] := va_S.rf
  have hA : ∀ q, jA ad q → jA ad q := fun _ h => h
  have hl : lv_has ls 3 [(0, .ref (ad 0)), (1, .int a1), (2, .int a2)] := hl
  have g1 := jrg t1
  have g2 := jrg t2
  obtain ⟨i1, i2, i3, i4, i5, w6, w7⟩ : (0 ≤ (σ 2 0).toInt ∧ (σ 2 0).toInt ≤ 4) ∧ (0 ≤ (σ 2 1).toInt ∧ (σ 2 1).toInt ≤ 3) ∧ (0 ≤ (σ 2 2).toInt) ∧ (0 ≤ (σ 2 3).toInt) ∧ ((σ 2 2).toInt + (σ 2 3).toInt ≤ 40) ∧ (∀ k : Nat, k < 40 → 0 ≤ (σ 6 k).toInt ∧ (σ 6 k).toInt ≤ 67) ∧ (∀ k : Nat, k < 4 → 0 ≤ (σ 5 k).toInt ∧ (σ 5 k).toInt ≤ 20) := id hI2
  obtain ⟨i8, i9, i10, w11⟩ : (1 ≤ (σ 16 0).toInt ∧ (σ 16 0).toInt ≤ 8) ∧ (1 ≤ (σ 16 1).toInt ∧ (σ 16 1).toInt ≤ 12) ∧ (0 ≤ (σ 16 2).toInt ∧ (σ 16 2).toInt ≤ 999) ∧ (∀ k : Nat, k < 8 → 0 ≤ (σ 17 k).toInt ∧ (σ 17 k).toInt ≤ 3) := id hI16
  obtain ⟨i12, i13, i14, i15, w16, w17, w18⟩ : (0 ≤ (σ 31 8).toInt ∧ (σ 31 8).toInt ≤ 350) ∧ (0 ≤ (σ 31 10).toInt ∧ (σ 31 10).toInt ≤ 12) ∧ (0 ≤ (σ 31 11).toInt ∧ (σ 31 11).toInt ≤ 8) ∧ ((σ 31 10).toInt + (σ 31 11).toInt ≤ 12) ∧ (∀ k : Nat, k < 1400 → (-1) ≤ (σ 33 k).toInt ∧ (σ 33 k).toInt ≤ 350) ∧ (∀ k : Nat, k < 3159 → (-1) ≤ (σ 35 k).toInt ∧ (σ 35 k).toInt ≤ 3) ∧ (∀ k : Nat, k < 1024 → 0 ≤ (σ 36 k).toInt ∧ (σ 36 k).toInt ≤ 349) := id hI31
  refine lv_aload_n hx hb dX11_bestOf_0 rfl (lv_at hl 0 rfl) ?_
  refine va_get (D := D) hx hb hts inlX11 hown hK hP 0 (jc_0 cI cL ad σ τ) rfl 5 (of_decide_eq_true rfl) (hts _ kw_2_9) (fun _ h9 => h9) rfl dX11_bestOf_1 ?_
  refine lv_iload_n hx hb dX11_bestOf_4 rfl (lv_at hl 2 rfl) ?_
  exact by
   refine jcallVv (As := [.int a2]) (rest := []) ⟨hx, hb, hml, hown, hts⟩ hK hP hA hS hZ (c_X5_lay_26 l D cI cL ad zz hJ σ τ a2 (A2) t2 (by omega)) cw_RX11_156 (jc_26 cI cL ad σ τ) rfl ⟨Nat.le_of_ble_eq_true rfl, Nat.le_of_ble_eq_true rfl⟩ rfl rfl rfl hl.1 rfl (Nat.le_of_ble_eq_true rfl) dX11_bestOf_5 ⟨Nat.zero_le _, Nat.zero_le _⟩ (fun σ19 τ19 H locs h19 hP hS => ?_)
   obtain ⟨rfl, f21, w22, h19⟩ := h19
   refine lv_aload_n hx hb dX11_bestOf_8 rfl (lv_at hl 0 rfl) ?_
   refine va_get (D := D) hx hb hts inlX11 hown hK hP 0 (jc_0 cI cL ad σ19 τ) rfl 6 (of_decide_eq_true rfl) (hts _ kw_2_13) (fun _ h9 => h9) rfl dX11_bestOf_9 ?_
   refine lv_iload_n hx hb dX11_bestOf_12 rfl (lv_at hl 1 rfl) ?_
   refine lv_iconst (v := 0) hx hb dX11_bestOf_13 (of_decide_eq_true rfl) ?_
   refine lv_iconst (v := 0) hx hb dX11_bestOf_14 (of_decide_eq_true rfl) ?_
   have I24 : jI16 σ19 := jI16_fr (congrFun (f21 16 (of_decide_eq_true rfl)) 0) (congrFun (f21 16 (of_decide_eq_true rfl)) 1) (congrFun (f21 16 (of_decide_eq_true rfl)) 2) (f21 17 (of_decide_eq_true rfl)) hI16
   have I25 : jI22 σ19 := jI22_fr (congrFun (f21 22 (of_decide_eq_true rfl)) 0) (f21 23 (of_decide_eq_true rfl)) hI22
   have I26 : jI31 σ19 := jI31_fr (congrFun (f21 31 (of_decide_eq_true rfl)) 8) (congrFun (f21 31 (of_decide_eq_true rfl)) 10) (congrFun (f21 31 (of_decide_eq_true rfl)) 11) (f21 33 (of_decide_eq_true rfl)) (f21 35 (of_decide_eq_true rfl)) (f21 36 (of_decide_eq_true rfl)) hI31
   have I27 : jI26 σ19 := jI26_fr (congrFun (f21 26 (of_decide_eq_true rfl)) 6) hI26
   have p28 : jN67 σ19 := jN67.fr (f21 24 (of_decide_eq_true rfl)) hs_jN67
   have p29 : jBl σ19 := jBl.fr (congrFun (f21 22 (of_decide_eq_true rfl)) 0) (congrFun (f21 22 (of_decide_eq_true rfl)) 1) (f21 23 (of_decide_eq_true rfl)) (congrFun (f21 26 (of_decide_eq_true rfl)) 6) (congrFun (f21 26 (of_decide_eq_true rfl)) 7) (f21 29 (of_decide_eq_true rfl)) (f21 30 (of_decide_eq_true rfl)) hs_jBl
   have p30 : jKb σ19 := jKb.fr (congrFun (f21 31 (of_decide_eq_true rfl)) 8) (congrFun (f21 31 (of_decide_eq_true rfl)) 11) (f21 32 (of_decide_eq_true rfl)) hs_jKb
   have p31 : jKh σ19 := jKh.fr (congrFun (f21 31 (of_decide_eq_true rfl)) 8) (f21 32 (of_decide_eq_true rfl)) (f21 36 (of_decide_eq_true rfl)) (f21 37 (of_decide_eq_true rfl)) hs_jKh
   have p32 : jKg σ19 := jKg.fr (congrFun (f21 31 (of_decide_eq_true rfl)) 8) (congrFun (f21 31 (of_decide_eq_true rfl)) 9) (congrFun (f21 31 (of_decide_eq_true rfl)) 11) (congrFun (f21 31 (of_decide_eq_true rfl)) 12) (f21 32 (of_decide_eq_true rfl)) (f21 33 (of_decide_eq_true rfl)) hs_jKg
   have p33 : jNz σ19 := jNz.fr (f21 34 (of_decide_eq_true rfl)) hs_jNz
   have z34 : (σ19 16 1).toInt = (σ 16 1).toInt := (congrArg Int32.toInt (show σ19 16 1 = (σ 16 1) from (congrFun (f21 16 (of_decide_eq_true rfl)) 1)))
   exact by
    refine jcallVv (As := [.int a1, .int 0, .int 0]) (rest := []) ⟨hx, hb, hml, hown, hts⟩ hK hP hA hS hZ (c_X1_seek_31 l D cI cL ad zz hJ σ19 τ a1 (A1) t1 0 (0) jz_0 0 (0) jz_0 I24 I25 I26 I27 p28 p29 p30 p31 p32 p33 (by omega) (by omega) (by omega)) cw_RX11_193 (jc_31 cI cL ad σ19 τ) rfl ⟨Nat.le_of_ble_eq_true rfl, Nat.le_of_ble_eq_true rfl⟩ rfl rfl rfl hl.1 rfl (Nat.le_of_ble_eq_true rfl) dX11_bestOf_15 ⟨Nat.zero_le _, Nat.zero_le _⟩ (fun σ35 τ35 H locs h35 hP hS => ?_)
    obtain ⟨rfl, f37, f38, I39, p40, p41, p42, p43, p44, p45, h35⟩ := h35
    obtain ⟨i47, i48, i49, i50, w51, w52, w53⟩ : (0 ≤ (σ35 31 8).toInt ∧ (σ35 31 8).toInt ≤ 350) ∧ (0 ≤ (σ35 31 10).toInt ∧ (σ35 31 10).toInt ≤ 12) ∧ (0 ≤ (σ35 31 11).toInt ∧ (σ35 31 11).toInt ≤ 8) ∧ ((σ35 31 10).toInt + (σ35 31 11).toInt ≤ 12) ∧ (∀ k : Nat, k < 1400 → (-1) ≤ (σ35 33 k).toInt ∧ (σ35 33 k).toInt ≤ 350) ∧ (∀ k : Nat, k < 3159 → (-1) ≤ (σ35 35 k).toInt ∧ (σ35 35 k).toInt ≤ 3) ∧ (∀ k : Nat, k < 1024 → 0 ≤ (σ35 36 k).toInt ∧ (σ35 36 k).toInt ≤ 349) := id I39
    obtain ⟨k54, k55, k56, h35⟩ := h35
    refine lv_aload_n hx hb dX11_bestOf_18 rfl (lv_at hl 0 rfl) ?_
    refine va_get (D := D) hx hb hts inlX11 hown hK hP 0 (jc_0 cI cL ad σ35 τ) rfl 6 (of_decide_eq_true rfl) (hts _ kw_2_13) (fun _ h9 => h9) rfl dX11_bestOf_19 ?_
    refine lv_iconst (v := 0) hx hb dX11_bestOf_22 (of_decide_eq_true rfl) ?_
    refine lv_iconst (v := 0) hx hb dX11_bestOf_23 (of_decide_eq_true rfl) ?_
    have I57 : jI16 σ35 := jI16_fr (congrFun (f37 16 (of_decide_eq_true rfl)) 0) (congrFun (f37 16 (of_decide_eq_true rfl)) 1) (congrFun (f37 16 (of_decide_eq_true rfl)) 2) (f37 17 (of_decide_eq_true rfl)) I24
    refine jcallV (As := [.int 0, .int 0]) (rest := []) ⟨hx, hb, hml, hown, hts⟩ hK hP hA hS hZ (c_X1_valueAt_31 l D cI cL ad zz hJ σ35 τ 0 (0) jz_0 0 (0) jz_0 I57 I39) cw_RX11_215 (jc_31 cI cL ad σ35 τ) rfl ⟨Nat.le_of_ble_eq_true rfl, Nat.le_of_ble_eq_true rfl⟩ rfl rfl rfl hl.1 rfl (Nat.le_of_ble_eq_true rfl) dX11_bestOf_24 ⟨Nat.zero_le _, Nat.zero_le _⟩ (fun r59 σ58 τ58 H locs h58 hP hS => ?_)
    obtain ⟨⟨rfl, rfl⟩, w60, h58⟩ := h58
    exact hret r59 σ35 τ _ _ _ _ rfl ⟨rfl, (fun i hi => ((f37 i (imp_132 i hi)).trans (f21 i (imp_131 i hi)))), (fun i hi => ((f38 i hi).trans (congrFun (f21 31 (of_decide_eq_true rfl)) i))), I39, p40, p41, p42, p43, p44, p45, trivial⟩ hP hS dX11_bestOf_27
set_option maxHeartbeats 4000000 in
set_option maxRecDepth 100000 in
theorem c_X11_puts (l : Launch) (D : va_G) (cI cL : ClassId) (ad zz : Nat → Nat) (hJ : jD ad) (σ : Nat → Nat → Int32) (τ : Nat → Nat → Int64) (a1 : Int32) (A1 : Int) (t1 : a1.toInt = A1) (hI2 : jI2 σ) (hI16 : jI16 σ) (hI18 : jI18 σ) (hI22 : jI22 σ) (hI31 : jI31 σ) (hI38 : jI38 σ) (hI47 : jI47 σ) (hI26 : jI26 σ) (hs_jN67 : jN67 σ) (hs_jBl : jBl σ) (hs_jKb : jKb σ) (hs_jKh : jKh σ) (hs_jKg : jKg σ) (hs_jNz : jNz σ) (hs_jKh : jKh σ) : jM l yX11_puts cX11_puts 6 (some .int) ({ frames := 6, cells := 0, slots := 0, locals := 162 }) D cI cL ad zz [.ref (ad 0), .int a1] σ τ (fun r σ' τ' => τ = τ' ∧ (∀ i : Nat, (i < 20 ∨ 21 < i) ∧ (i < 24 ∨ 25 < i) ∧ (i < 27 ∨ 37 < i) → σ' i = σ i) ∧ (∀ k : Nat, (k < 8 ∨ 8 < k) ∧ (k < 9 ∨ 9 < k) ∧ (k < 10 ∨ 10 < k) ∧ (k < 11 ∨ 11 < k) ∧ (k < 12 ∨ 12 < k) → σ' 31 k = σ 31 k) ∧ (jI31 σ') ∧ (jN67 σ') ∧ (jBl σ') ∧ (jKb σ') ∧ (jKh σ') ∧ (jKg σ') ∧ (jNz σ') ∧ (jKh σ') ∧ True) := by
  refine jM.of hJ (by decide +kernel) (nt := .int) rfl (Nat.le_of_ble_eq_true rfl) ?_
  intro p e s m args below meth c Q ls hC hret hl hP
  obtain ⟨hx, hb, hr, hml, hown, hts, hK, -, hlocks, hZ⟩ := hC
  have hown : s.vm.findClass RX11 = some m.cls := hown
  have hS : va_S (jA ad) s.heap s.heap [] := va_S.rf
  have hA : ∀ q, jA ad q → jA ad q := fun _ h => h
  have hl : lv_has ls 6 [(0, .ref (ad 0)), (1, .int a1)] := hl
  have g1 := jrg t1
  obtain ⟨i1, i2, i3, i4, i5, w6, w7⟩ : (0 ≤ (σ 2 0).toInt ∧ (σ 2 0).toInt ≤ 4) ∧ (0 ≤ (σ 2 1).toInt ∧ (σ 2 1).toInt ≤ 3) ∧ (0 ≤ (σ 2 2).toInt) ∧ (0 ≤ (σ 2 3).toInt) ∧ ((σ 2 2).toInt + (σ 2 3).toInt ≤ 40) ∧ (∀ k : Nat, k < 40 → 0 ≤ (σ 6 k).toInt ∧ (σ 6 k).toInt ≤ 67) ∧ (∀ k : Nat, k < 4 → 0 ≤ (σ 5 k).toInt ∧ (σ 5 k).toInt ≤ 20) := id hI2
  obtain ⟨i8, i9, i10, w11⟩ : (1 ≤ (σ 16 0).toInt ∧ (σ 16 0).toInt ≤ 8) ∧ (1 ≤ (σ 16 1).toInt ∧ (σ 16 1).toInt ≤ 12) ∧ (0 ≤ (σ 16 2).toInt ∧ (σ 16 2).toInt ≤ 999) ∧ (∀ k : Nat, k < 8 → 0 ≤ (σ 17 k).toInt ∧ (σ 17 k).toInt ≤ 3) := id hI16
  obtain ⟨i12, i13, i14, i15, w16, w17, w18⟩ : (0 ≤ (σ 31 8).toInt ∧ (σ 31 8).toInt ≤ 350) ∧ (0 ≤ (σ 31 10).toInt ∧ (σ 31 10).toInt ≤ 12) ∧ (0 ≤ (σ 31 11).toInt ∧ (σ 31 11).toInt ≤ 8) ∧ ((σ 31 10).toInt + (σ 31 11).toInt ≤ 12) ∧ (∀ k : Nat, k < 1400 → (-1) ≤ (σ 33 k).toInt ∧ (σ 33 k).toInt ≤ 350) ∧ (∀ k : Nat, k < 3159 → (-1) ≤ (σ 35 k).toInt ∧ (σ 35 k).toInt ≤ 3) ∧ (∀ k : Nat, k < 1024 → 0 ≤ (σ 36 k).toInt ∧ (σ 36 k).toInt ≤ 349) := id hI31
  obtain ⟨i19, i20, w21⟩ : (0 ≤ (σ 38 0).toInt ∧ (σ 38 0).toInt ≤ 20) ∧ (0 ≤ (σ 38 1).toInt ∧ (σ 38 1).toInt ≤ 1000) ∧ (∀ k : Nat, k < 20 → 0 ≤ (σ 39 k).toInt ∧ (σ 39 k).toInt ≤ 6) := id hI38
  obtain ⟨i22, w23, w24⟩ : (0 ≤ (σ 47 0).toInt ∧ (σ 47 0).toInt ≤ 12) ∧ (∀ k : Nat, k < 12 → 0 ≤ (σ 48 k).toInt ∧ (σ 48 k).toInt ≤ 3) ∧ (∀ k : Nat, k < 12 → 0 ≤ (σ 49 k).toInt ∧ (σ 49 k).toInt ≤ 1) := id hI47
  refine lv_aload_n hx hb dX11_puts_0 rfl (lv_at hl 0 rfl) ?_
  refine lv_iload_n hx hb dX11_puts_1 rfl (lv_at hl 1 rfl) ?_
  refine jcallV (As := [.int a1]) (rest := []) ⟨hx, hb, hml, hown, hts⟩ hK hP hA hS hZ (c_X11_noRule l D cI cL ad zz hJ σ τ a1 (A1) t1 hI38) cw_RX11_177 (jc_0 cI cL ad σ τ) rfl ⟨Nat.le_of_ble_eq_true rfl, Nat.le_of_ble_eq_true rfl⟩ rfl rfl rfl hl.1 rfl (Nat.le_of_ble_eq_true rfl) dX11_puts_2 ⟨Nat.zero_le _, Nat.zero_le _⟩ (fun r26 σ25 τ25 H locs h25 hP hS => ?_)
  obtain ⟨⟨rfl, rfl⟩, h25⟩ := h25
  rcases h25 with h27 | h28
  · obtain ⟨q30, k29⟩ := h27
    have q30 := q30.symm
    subst q30
    refine lv_if_eq (tgt := 10) hx hb dX11_puts_5 (of_decide_eq_true rfl) (fun c => absurd c (of_decide_eq_true rfl)) (fun _ => ?_)
    refine lv_iconst (v := (-1)) hx hb dX11_puts_8 (of_decide_eq_true rfl) ?_
    exact hret (-1) σ τ _ _ _ _ rfl ⟨rfl, (fun _ _ => rfl), (fun _ _ => rfl), hI31, hs_jN67, hs_jBl, hs_jKb, hs_jKh, hs_jKg, hs_jNz, hs_jKh, trivial⟩ hP hS dX11_puts_9
  · obtain ⟨q32, k31⟩ := h28
    have q32 := q32.symm
    subst q32
    refine lv_if_eq (tgt := 10) hx hb dX11_puts_5 (of_decide_eq_true rfl) (fun _ => ?_) (fun c => absurd (of_decide_eq_true rfl) c)
    refine lv_aload_n hx hb dX11_puts_10 rfl (lv_at hl 0 rfl) ?_
    refine va_get (D := D) hx hb hts inlX11 hown hK hP 0 (jc_0 cI cL ad σ τ) rfl 9 (of_decide_eq_true rfl) (hts _ kw_3_1) (fun _ h9 => h9) rfl dX11_puts_11 ?_
    refine va_get (D := D) hx hb hts inlX2 hown hK hP 47 (jc_47 cI cL ad σ τ) rfl 0 (of_decide_eq_true rfl) (hts _ kw_13_11) (fun _ h9 => h9) rfl dX11_puts_14 ?_
    refine lv_istore_n (lv' := [(2, .int (σ 47 0)), (0, .ref (ad 0)), (1, .int a1)]) hx hb dX11_puts_17 rfl hl (of_decide_eq_true rfl) rfl (fun ls hl => ?_)
    refine lv_aload_n hx hb dX11_puts_18 rfl (lv_at hl 1 rfl) ?_
    refine va_get (D := D) hx hb hts inlX11 hown hK hP 0 (jc_0 cI cL ad σ τ) rfl 9 (of_decide_eq_true rfl) (hts _ kw_3_1) (fun _ h9 => h9) rfl dX11_puts_19 ?_
    refine lv_aload_n hx hb dX11_puts_22 rfl (lv_at hl 1 rfl) ?_
    refine va_get (D := D) hx hb hts inlX11 hown hK hP 0 (jc_0 cI cL ad σ τ) rfl 9 (of_decide_eq_true rfl) (hts _ kw_3_1) (fun _ h9 => h9) rfl dX11_puts_23 ?_
    refine va_get (D := D) hx hb hts inlX2 hown hK hP 47 (jc_47 cI cL ad σ τ) rfl 0 (of_decide_eq_true rfl) (hts _ kw_13_11) (fun _ h9 => h9) rfl dX11_puts_26 ?_
    refine jcallV (As := [.int (σ 47 0)]) (rest := []) ⟨hx, hb, hml, hown, hts⟩ hK hP hA hS hZ (c_X2_outs_47 l D cI cL ad zz hJ σ τ (σ 47 0) ((σ 47 0).toInt) rfl hI47) cw_RX11_180 (jc_47 cI cL ad σ τ) rfl ⟨Nat.le_of_ble_eq_true rfl, Nat.le_of_ble_eq_true rfl⟩ rfl rfl rfl hl.1 rfl (Nat.le_of_ble_eq_true rfl) dX11_puts_29 ⟨Nat.zero_le _, Nat.zero_le _⟩ (fun r34 σ33 τ33 H locs h33 hP hS => ?_)
    obtain ⟨⟨rfl, rfl⟩, w35, h33⟩ := h33
    have h36 := h33
    obtain ⟨q38, k37⟩ := h36
    refine lv_istore_n (lv' := [(3, .int r34), (2, .int (σ 47 0)), (0, .ref (ad 0)), (1, .int a1)]) hx hb dX11_puts_32 rfl hl (of_decide_eq_true rfl) rfl (fun ls hl => ?_)
    refine lv_aload_n hx hb dX11_puts_33 rfl (lv_at hl 2 rfl) ?_
    refine va_get (D := D) hx hb hts inlX11 hown hK hP 0 (jc_0 cI cL ad σ τ) rfl 7 (of_decide_eq_true rfl) (hts _ kw_2_17) (fun _ h9 => h9) rfl dX11_puts_34 ?_
    refine lv_iload_n hx hb dX11_puts_37 rfl (lv_at hl 3 rfl) ?_
    refine jcallV (As := [.int a1]) (rest := []) ⟨hx, hb, hml, hown, hts⟩ hK hP hA hS hZ (c_X8_kindOf_e l D cI cL ad zz hJ σ τ a1 (A1) t1 hI38) cw_RX11_183 (jc_38 cI cL ad σ τ) rfl ⟨Nat.le_of_ble_eq_true rfl, Nat.le_of_ble_eq_true rfl⟩ rfl rfl rfl hl.1 rfl (Nat.le_of_ble_eq_true rfl) dX11_puts_38 ⟨Nat.zero_le _, Nat.zero_le _⟩ (fun r40 σ39 τ39 H locs h39 hP hS => ?_)
    obtain ⟨⟨rfl, rfl⟩, h39⟩ := h39
    rcases h39 with h41 | h42
    · obtain ⟨q46, k43, k44, k45⟩ := h41
      have q47 : r40 = (σ 39 a1.toNatClampNeg) := q46.trans rfl
      have q47 := q47.symm
      subst q47
      refine lv_iconst (v := 2) hx hb dX11_puts_41 (of_decide_eq_true rfl) ?_
      refine lv_icmp_ne (tgt := 49) hx hb dX11_puts_42 (of_decide_eq_true rfl) (fun c48 => ?_) (fun c48 => ?_)
      · have kc48 := jne c48 rfl jz_2
        refine lv_iconst (v := 0) hx hb dX11_puts_49 (of_decide_eq_true rfl) ?_
        refine lv_istore (lv' := [(4, .int 0), (3, .int r34), (2, .int (σ 47 0)), (0, .ref (ad 0)), (1, .int a1)]) hx hb dX11_puts_50 hl (of_decide_eq_true rfl) rfl (fun ls hl => ?_)
        refine lv_iload hx hb dX11_puts_52 (lv_at hl 0 rfl) ?_
        refine lv_if_eq (tgt := 74) hx hb dX11_puts_54 (of_decide_eq_true rfl) (fun _ => ?_) (fun c => absurd (of_decide_eq_true rfl) c)
        refine lv_aload_n hx hb dX11_puts_74 rfl (lv_at hl 3 rfl) ?_
        refine va_get (D := D) hx hb hts inlX11 hown hK hP 0 (jc_0 cI cL ad σ τ) rfl 9 (of_decide_eq_true rfl) (hts _ kw_3_1) (fun _ h9 => h9) rfl dX11_puts_75 ?_
        refine lv_iload_n hx hb dX11_puts_78 rfl (lv_at hl 2 rfl) ?_
        refine lv_aload_n hx hb dX11_puts_79 rfl (lv_at hl 3 rfl) ?_
        refine va_get (D := D) hx hb hts inlX11 hown hK hP 0 (jc_0 cI cL ad σ τ) rfl 0 (of_decide_eq_true rfl) (hts _ kw_1_16) (fun _ h9 => h9) rfl dX11_puts_80 ?_
        refine jcallV (As := [.int (σ 47 0), .ref (ad 2)]) (rest := []) ⟨hx, hb, hml, hown, hts⟩ hK hP hA hS hZ (c_X2_attackAhead_47 l D cI cL ad zz hJ σ τ (σ 47 0) ((σ 47 0).toInt) rfl hI2 hI47) cw_RX11_186 (jc_47 cI cL ad σ τ) rfl ⟨Nat.le_of_ble_eq_true rfl, Nat.le_of_ble_eq_true rfl⟩ rfl rfl rfl hl.1 rfl (Nat.le_of_ble_eq_true rfl) dX11_puts_83 ⟨Nat.zero_le _, Nat.zero_le _⟩ (fun r50 σ49 τ49 H locs h49 hP hS => ?_)
        obtain ⟨⟨rfl, rfl⟩, w51, w52, h49⟩ := h49
        have h53 := h49
        obtain ⟨q55, k54⟩ := h53
        refine lv_istore (lv' := [(5, .int r50), (4, .int 0), (3, .int r34), (2, .int (σ 47 0)), (0, .ref (ad 0)), (1, .int a1)]) hx hb dX11_puts_86 hl (of_decide_eq_true rfl) rfl (fun ls hl => ?_)
        refine lv_aload_n hx hb dX11_puts_88 rfl (lv_at hl 4 rfl) ?_
        refine va_get (D := D) hx hb hts inlX11 hown hK hP 0 (jc_0 cI cL ad σ τ) rfl 2 (of_decide_eq_true rfl) (hts _ kw_2_0) (fun _ h9 => h9) rfl dX11_puts_89 ?_
        refine lv_iload_n hx hb dX11_puts_92 rfl (lv_at hl 3 rfl) ?_
        refine lv_iload_n hx hb dX11_puts_93 rfl (lv_at hl 2 rfl) ?_
        refine lv_iload hx hb dX11_puts_94 (lv_at hl 0 rfl) ?_
        refine jcallV (As := [.int (σ 47 0), .int r34, .int r50]) (rest := []) ⟨hx, hb, hml, hown, hts⟩ hK hP hA hS hZ (c_X6_ended_16 l D cI cL ad zz hJ σ τ (σ 47 0) ((σ 47 0).toInt) rfl r34 (r34.toInt) rfl r50 (r50.toInt) rfl) cw_RX11_190 (jc_16 cI cL ad σ τ) rfl ⟨Nat.le_of_ble_eq_true rfl, Nat.le_of_ble_eq_true rfl⟩ rfl rfl rfl hl.1 rfl (Nat.le_of_ble_eq_true rfl) dX11_puts_96 ⟨Nat.zero_le _, Nat.zero_le _⟩ (fun r57 σ56 τ56 H locs h56 hP hS => ?_)
        obtain ⟨⟨rfl, rfl⟩, w58, h56⟩ := h56
        refine lv_if_eq (tgt := 105) hx hb dX11_puts_99 (of_decide_eq_true rfl) (fun c59 => ?_) (fun c59 => ?_)
        · have kc59 := jeq c59 rfl jz_0
          refine lv_aload_n hx hb dX11_puts_105 rfl (lv_at hl 4 rfl) ?_
          refine va_get (D := D) hx hb hts inlX11 hown hK hP 0 (jc_0 cI cL ad σ τ) rfl 5 (of_decide_eq_true rfl) (hts _ kw_2_9) (fun _ h9 => h9) rfl dX11_puts_106 ?_
          refine lv_aload_n hx hb dX11_puts_109 rfl (lv_at hl 4 rfl) ?_
          refine va_get (D := D) hx hb hts inlX11 hown hK hP 0 (jc_0 cI cL ad σ τ) rfl 0 (of_decide_eq_true rfl) (hts _ kw_1_16) (fun _ h9 => h9) rfl dX11_puts_110 ?_
          refine va_get (D := D) hx hb hts inlX4 hown hK hP 2 (jc_2 cI cL ad σ τ) rfl 1 (of_decide_eq_true rfl) (hts _ kw_12_8) (fun _ h9 => h9) rfl dX11_puts_113 ?_
          exact by
           refine jcallVv (As := [.int (σ 2 1)]) (rest := []) ⟨hx, hb, hml, hown, hts⟩ hK hP hA hS hZ (c_X5_lay_26 l D cI cL ad zz hJ σ τ (σ 2 1) ((σ 2 1).toInt) rfl (by omega)) cw_RX11_156 (jc_26 cI cL ad σ τ) rfl ⟨Nat.le_of_ble_eq_true rfl, Nat.le_of_ble_eq_true rfl⟩ rfl rfl rfl hl.1 rfl (Nat.le_of_ble_eq_true rfl) dX11_puts_116 ⟨Nat.zero_le _, Nat.zero_le _⟩ (fun σ60 τ60 H locs h60 hP hS => ?_)
           obtain ⟨rfl, f62, w63, h60⟩ := h60
           refine lv_iload hx hb dX11_puts_119 (lv_at hl 1 rfl) ?_
           refine lv_if_eq (tgt := 135) hx hb dX11_puts_121 (of_decide_eq_true rfl) (fun _ => ?_) (fun c => absurd (of_decide_eq_true rfl) c)
           refine lv_aload_n hx hb dX11_puts_135 rfl (lv_at hl 4 rfl) ?_
           refine va_get (D := D) hx hb hts inlX11 hown hK hP 0 (jc_0 cI cL ad σ60 τ) rfl 8 (of_decide_eq_true rfl) (hts _ kw_2_21) (fun _ h9 => h9) rfl dX11_puts_136 ?_
           refine lv_iload_n hx hb dX11_puts_139 rfl (lv_at hl 5 rfl) ?_
           refine lv_iload_n hx hb dX11_puts_140 rfl (lv_at hl 3 rfl) ?_
           refine lv_iload_n hx hb dX11_puts_141 rfl (lv_at hl 2 rfl) ?_
           refine lv_iload hx hb dX11_puts_142 (lv_at hl 0 rfl) ?_
           have I65 : jI16 σ60 := jI16_fr (congrFun (f62 16 (of_decide_eq_true rfl)) 0) (congrFun (f62 16 (of_decide_eq_true rfl)) 1) (congrFun (f62 16 (of_decide_eq_true rfl)) 2) (f62 17 (of_decide_eq_true rfl)) hI16
           have I66 : jI18 σ60 := jI18_fr (congrFun (f62 18 (of_decide_eq_true rfl)) 0) (f62 19 (of_decide_eq_true rfl)) hI18
           have I67 : jI22 σ60 := jI22_fr (congrFun (f62 22 (of_decide_eq_true rfl)) 0) (f62 23 (of_decide_eq_true rfl)) hI22
           have I68 : jI26 σ60 := jI26_fr (congrFun (f62 26 (of_decide_eq_true rfl)) 6) hI26
           have I69 : jI31 σ60 := jI31_fr (congrFun (f62 31 (of_decide_eq_true rfl)) 8) (congrFun (f62 31 (of_decide_eq_true rfl)) 10) (congrFun (f62 31 (of_decide_eq_true rfl)) 11) (f62 33 (of_decide_eq_true rfl)) (f62 35 (of_decide_eq_true rfl)) (f62 36 (of_decide_eq_true rfl)) hI31
           have I70 : jI38 σ60 := jI38_fr (congrFun (f62 38 (of_decide_eq_true rfl)) 0) (congrFun (f62 38 (of_decide_eq_true rfl)) 1) (f62 39 (of_decide_eq_true rfl)) hI38
           have p71 : jN67 σ60 := jN67.fr (f62 24 (of_decide_eq_true rfl)) hs_jN67
           have p72 : jBl σ60 := jBl.fr (congrFun (f62 22 (of_decide_eq_true rfl)) 0) (congrFun (f62 22 (of_decide_eq_true rfl)) 1) (f62 23 (of_decide_eq_true rfl)) (congrFun (f62 26 (of_decide_eq_true rfl)) 6) (congrFun (f62 26 (of_decide_eq_true rfl)) 7) (f62 29 (of_decide_eq_true rfl)) (f62 30 (of_decide_eq_true rfl)) hs_jBl
           have p73 : jKh σ60 := jKh.fr (congrFun (f62 31 (of_decide_eq_true rfl)) 8) (f62 32 (of_decide_eq_true rfl)) (f62 36 (of_decide_eq_true rfl)) (f62 37 (of_decide_eq_true rfl)) hs_jKh
           exact by
            refine jcallV (As := [.int a1, .int (σ 47 0), .int r34, .int r50]) (rest := []) ⟨hx, hb, hml, hown, hts⟩ hK hP hA hS hZ (c_X3_putOn_43 l D cI cL ad zz hJ σ60 τ a1 (A1) t1 (σ 47 0) ((σ 47 0).toInt) rfl r34 (r34.toInt) rfl r50 (r50.toInt) rfl I65 I66 I67 I68 I69 I70 p71 p72 p73 (by omega) (by omega) (by omega)) cw_RX11_197 (jc_43 cI cL ad σ60 τ) rfl ⟨Nat.le_of_ble_eq_true rfl, Nat.le_of_ble_eq_true rfl⟩ rfl rfl rfl hl.1 rfl (Nat.le_of_ble_eq_true rfl) dX11_puts_144 ⟨Nat.zero_le _, Nat.zero_le _⟩ (fun r75 σ74 τ74 H locs h74 hP hS => ?_)
            obtain ⟨rfl, f76, p77, p78, p79, h74⟩ := h74
            have h81 := h74
            obtain ⟨q83, k82⟩ := h81
            have I84 : jI31 σ74 := jI31_fr (congrFun (f76 31 (of_decide_eq_true rfl)) 8) (congrFun (f76 31 (of_decide_eq_true rfl)) 10) (congrFun (f76 31 (of_decide_eq_true rfl)) 11) (f76 33 (of_decide_eq_true rfl)) (f76 35 (of_decide_eq_true rfl)) (f76 36 (of_decide_eq_true rfl)) I69
            have p85 : jKb σ74 := jKb.fr ((congrFun (f76 31 (of_decide_eq_true rfl)) 8).trans (congrFun (f62 31 (of_decide_eq_true rfl)) 8)) ((congrFun (f76 31 (of_decide_eq_true rfl)) 11).trans (congrFun (f62 31 (of_decide_eq_true rfl)) 11)) ((f76 32 (of_decide_eq_true rfl)).trans (f62 32 (of_decide_eq_true rfl))) hs_jKb
            have p86 : jKg σ74 := jKg.fr ((congrFun (f76 31 (of_decide_eq_true rfl)) 8).trans (congrFun (f62 31 (of_decide_eq_true rfl)) 8)) ((congrFun (f76 31 (of_decide_eq_true rfl)) 9).trans (congrFun (f62 31 (of_decide_eq_true rfl)) 9)) ((congrFun (f76 31 (of_decide_eq_true rfl)) 11).trans (congrFun (f62 31 (of_decide_eq_true rfl)) 11)) ((congrFun (f76 31 (of_decide_eq_true rfl)) 12).trans (congrFun (f62 31 (of_decide_eq_true rfl)) 12)) ((f76 32 (of_decide_eq_true rfl)).trans (f62 32 (of_decide_eq_true rfl))) ((f76 33 (of_decide_eq_true rfl)).trans (f62 33 (of_decide_eq_true rfl))) hs_jKg
            have p87 : jNz σ74 := jNz.fr ((f76 34 (of_decide_eq_true rfl)).trans (f62 34 (of_decide_eq_true rfl))) hs_jNz
            exact hret r75 σ74 τ _ _ _ _ rfl ⟨rfl, (fun i hi => ((f76 i (imp_133 i hi)).trans (f62 i (imp_134 i hi)))), (fun i hi => ((congrFun (f76 31 (of_decide_eq_true rfl)) i).trans (congrFun (f62 31 (of_decide_eq_true rfl)) i))), I84, p77, p78, p85, p79, p86, p87, p79, trivial⟩ hP hS dX11_puts_147
        · have kc59 := jne c59 rfl jz_0
          refine lv_bipush (v := (-2)) hx hb dX11_puts_102 (of_decide_eq_true rfl) ?_
          exact hret (-2) σ τ _ _ _ _ rfl ⟨rfl, (fun _ _ => rfl), (fun _ _ => rfl), hI31, hs_jN67, hs_jBl, hs_jKb, hs_jKh, hs_jKg, hs_jNz, hs_jKh, trivial⟩ hP hS dX11_puts_104
      · have kc48 := jeq c48 rfl jz_2
        refine lv_iconst (v := 1) hx hb dX11_puts_45 (of_decide_eq_true rfl) ?_
        refine lv_goto (tgt := 50) hx hb dX11_puts_46 (of_decide_eq_true rfl) ?_
        refine lv_istore (lv' := [(4, .int 1), (3, .int r34), (2, .int (σ 47 0)), (0, .ref (ad 0)), (1, .int a1)]) hx hb dX11_puts_50 hl (of_decide_eq_true rfl) rfl (fun ls hl => ?_)
        refine lv_iload hx hb dX11_puts_52 (lv_at hl 0 rfl) ?_
        refine lv_if_eq (tgt := 74) hx hb dX11_puts_54 (of_decide_eq_true rfl) (fun c => absurd c (of_decide_eq_true rfl)) (fun _ => ?_)
        refine lv_aload_n hx hb dX11_puts_57 rfl (lv_at hl 3 rfl) ?_
        refine va_get (D := D) hx hb hts inlX11 hown hK hP 0 (jc_0 cI cL ad σ τ) rfl 2 (of_decide_eq_true rfl) (hts _ kw_2_0) (fun _ h9 => h9) rfl dX11_puts_58 ?_
        refine va_get (D := D) hx hb hts inlX6 hown hK hP 16 (jc_16 cI cL ad σ τ) rfl 1 (of_decide_eq_true rfl) (hts _ kw_20_5) (fun _ h9 => h9) rfl dX11_puts_61 ?_
        refine lv_iload_n hx hb dX11_puts_64 rfl (lv_at hl 2 rfl) ?_
        have g88 := jrg (rfl : (σ 16 1).toInt = (σ 16 1).toInt)
        have g89 := jrg (rfl : (σ 47 0).toInt = (σ 47 0).toInt)
        refine lv_isub hx hb dX11_puts_65 ?_
        refine lv_topi (fun x90 ex90 => ?_)
        exact by
         have tx90 : x90.toInt = (σ 16 1).toInt - (σ 47 0).toInt := (jsub ex90 rfl rfl (by omega) (by omega)).trans (by omega)
         refine lv_bipush (v := 8) hx hb dX11_puts_66 (of_decide_eq_true rfl) ?_
         refine lv_icmp_le (tgt := 74) hx hb dX11_puts_68 (of_decide_eq_true rfl) (fun c91 => ?_) (fun c91 => ?_)
         · have kc91 := jle c91 tx90 jz_8
           refine lv_aload_n hx hb dX11_puts_74 rfl (lv_at hl 3 rfl) ?_
           refine va_get (D := D) hx hb hts inlX11 hown hK hP 0 (jc_0 cI cL ad σ τ) rfl 9 (of_decide_eq_true rfl) (hts _ kw_3_1) (fun _ h9 => h9) rfl dX11_puts_75 ?_
           refine lv_iload_n hx hb dX11_puts_78 rfl (lv_at hl 2 rfl) ?_
           refine lv_aload_n hx hb dX11_puts_79 rfl (lv_at hl 3 rfl) ?_
           refine va_get (D := D) hx hb hts inlX11 hown hK hP 0 (jc_0 cI cL ad σ τ) rfl 0 (of_decide_eq_true rfl) (hts _ kw_1_16) (fun _ h9 => h9) rfl dX11_puts_80 ?_
           refine jcallV (As := [.int (σ 47 0), .ref (ad 2)]) (rest := []) ⟨hx, hb, hml, hown, hts⟩ hK hP hA hS hZ (c_X2_attackAhead_47 l D cI cL ad zz hJ σ τ (σ 47 0) ((σ 47 0).toInt) rfl hI2 hI47) cw_RX11_186 (jc_47 cI cL ad σ τ) rfl ⟨Nat.le_of_ble_eq_true rfl, Nat.le_of_ble_eq_true rfl⟩ rfl rfl rfl hl.1 rfl (Nat.le_of_ble_eq_true rfl) dX11_puts_83 ⟨Nat.zero_le _, Nat.zero_le _⟩ (fun r93 σ92 τ92 H locs h92 hP hS => ?_)
           obtain ⟨⟨rfl, rfl⟩, w94, w95, h92⟩ := h92
           have h96 := h92
           obtain ⟨q98, k97⟩ := h96
           refine lv_istore (lv' := [(5, .int r93), (4, .int 1), (3, .int r34), (2, .int (σ 47 0)), (0, .ref (ad 0)), (1, .int a1)]) hx hb dX11_puts_86 hl (of_decide_eq_true rfl) rfl (fun ls hl => ?_)
           refine lv_aload_n hx hb dX11_puts_88 rfl (lv_at hl 4 rfl) ?_
           refine va_get (D := D) hx hb hts inlX11 hown hK hP 0 (jc_0 cI cL ad σ τ) rfl 2 (of_decide_eq_true rfl) (hts _ kw_2_0) (fun _ h9 => h9) rfl dX11_puts_89 ?_
           refine lv_iload_n hx hb dX11_puts_92 rfl (lv_at hl 3 rfl) ?_
           refine lv_iload_n hx hb dX11_puts_93 rfl (lv_at hl 2 rfl) ?_
           refine lv_iload hx hb dX11_puts_94 (lv_at hl 0 rfl) ?_
           refine jcallV (As := [.int (σ 47 0), .int r34, .int r93]) (rest := []) ⟨hx, hb, hml, hown, hts⟩ hK hP hA hS hZ (c_X6_ended_16 l D cI cL ad zz hJ σ τ (σ 47 0) ((σ 47 0).toInt) rfl r34 (r34.toInt) rfl r93 (r93.toInt) rfl) cw_RX11_190 (jc_16 cI cL ad σ τ) rfl ⟨Nat.le_of_ble_eq_true rfl, Nat.le_of_ble_eq_true rfl⟩ rfl rfl rfl hl.1 rfl (Nat.le_of_ble_eq_true rfl) dX11_puts_96 ⟨Nat.zero_le _, Nat.zero_le _⟩ (fun r100 σ99 τ99 H locs h99 hP hS => ?_)
           obtain ⟨⟨rfl, rfl⟩, w101, h99⟩ := h99
           refine lv_if_eq (tgt := 105) hx hb dX11_puts_99 (of_decide_eq_true rfl) (fun c102 => ?_) (fun c102 => ?_)
           · have kc102 := jeq c102 rfl jz_0
             refine lv_aload_n hx hb dX11_puts_105 rfl (lv_at hl 4 rfl) ?_
             refine va_get (D := D) hx hb hts inlX11 hown hK hP 0 (jc_0 cI cL ad σ τ) rfl 5 (of_decide_eq_true rfl) (hts _ kw_2_9) (fun _ h9 => h9) rfl dX11_puts_106 ?_
             refine lv_aload_n hx hb dX11_puts_109 rfl (lv_at hl 4 rfl) ?_
             refine va_get (D := D) hx hb hts inlX11 hown hK hP 0 (jc_0 cI cL ad σ τ) rfl 0 (of_decide_eq_true rfl) (hts _ kw_1_16) (fun _ h9 => h9) rfl dX11_puts_110 ?_
             refine va_get (D := D) hx hb hts inlX4 hown hK hP 2 (jc_2 cI cL ad σ τ) rfl 1 (of_decide_eq_true rfl) (hts _ kw_12_8) (fun _ h9 => h9) rfl dX11_puts_113 ?_
             exact by
              refine jcallVv (As := [.int (σ 2 1)]) (rest := []) ⟨hx, hb, hml, hown, hts⟩ hK hP hA hS hZ (c_X5_lay_26 l D cI cL ad zz hJ σ τ (σ 2 1) ((σ 2 1).toInt) rfl (by omega)) cw_RX11_156 (jc_26 cI cL ad σ τ) rfl ⟨Nat.le_of_ble_eq_true rfl, Nat.le_of_ble_eq_true rfl⟩ rfl rfl rfl hl.1 rfl (Nat.le_of_ble_eq_true rfl) dX11_puts_116 ⟨Nat.zero_le _, Nat.zero_le _⟩ (fun σ103 τ103 H locs h103 hP hS => ?_)
              obtain ⟨rfl, f105, w106, h103⟩ := h103
              refine lv_iload hx hb dX11_puts_119 (lv_at hl 1 rfl) ?_
              refine lv_if_eq (tgt := 135) hx hb dX11_puts_121 (of_decide_eq_true rfl) (fun c => absurd c (of_decide_eq_true rfl)) (fun _ => ?_)
              refine lv_aload_n hx hb dX11_puts_124 rfl (lv_at hl 4 rfl) ?_
              refine va_get (D := D) hx hb hts inlX11 hown hK hP 0 (jc_0 cI cL ad σ103 τ) rfl 6 (of_decide_eq_true rfl) (hts _ kw_2_13) (fun _ h9 => h9) rfl dX11_puts_125 ?_
              refine lv_iload hx hb dX11_puts_128 (lv_at hl 0 rfl) ?_
              refine lv_iload_n hx hb dX11_puts_130 rfl (lv_at hl 3 rfl) ?_
              refine lv_iload_n hx hb dX11_puts_131 rfl (lv_at hl 2 rfl) ?_
              have I108 : jI16 σ103 := jI16_fr (congrFun (f105 16 (of_decide_eq_true rfl)) 0) (congrFun (f105 16 (of_decide_eq_true rfl)) 1) (congrFun (f105 16 (of_decide_eq_true rfl)) 2) (f105 17 (of_decide_eq_true rfl)) hI16
              have I109 : jI22 σ103 := jI22_fr (congrFun (f105 22 (of_decide_eq_true rfl)) 0) (f105 23 (of_decide_eq_true rfl)) hI22
              have I110 : jI31 σ103 := jI31_fr (congrFun (f105 31 (of_decide_eq_true rfl)) 8) (congrFun (f105 31 (of_decide_eq_true rfl)) 10) (congrFun (f105 31 (of_decide_eq_true rfl)) 11) (f105 33 (of_decide_eq_true rfl)) (f105 35 (of_decide_eq_true rfl)) (f105 36 (of_decide_eq_true rfl)) hI31
              have I111 : jI26 σ103 := jI26_fr (congrFun (f105 26 (of_decide_eq_true rfl)) 6) hI26
              have p112 : jN67 σ103 := jN67.fr (f105 24 (of_decide_eq_true rfl)) hs_jN67
              have p113 : jBl σ103 := jBl.fr (congrFun (f105 22 (of_decide_eq_true rfl)) 0) (congrFun (f105 22 (of_decide_eq_true rfl)) 1) (f105 23 (of_decide_eq_true rfl)) (congrFun (f105 26 (of_decide_eq_true rfl)) 6) (congrFun (f105 26 (of_decide_eq_true rfl)) 7) (f105 29 (of_decide_eq_true rfl)) (f105 30 (of_decide_eq_true rfl)) hs_jBl
              have p114 : jKb σ103 := jKb.fr (congrFun (f105 31 (of_decide_eq_true rfl)) 8) (congrFun (f105 31 (of_decide_eq_true rfl)) 11) (f105 32 (of_decide_eq_true rfl)) hs_jKb
              have p115 : jKh σ103 := jKh.fr (congrFun (f105 31 (of_decide_eq_true rfl)) 8) (f105 32 (of_decide_eq_true rfl)) (f105 36 (of_decide_eq_true rfl)) (f105 37 (of_decide_eq_true rfl)) hs_jKh
              have p116 : jKg σ103 := jKg.fr (congrFun (f105 31 (of_decide_eq_true rfl)) 8) (congrFun (f105 31 (of_decide_eq_true rfl)) 9) (congrFun (f105 31 (of_decide_eq_true rfl)) 11) (congrFun (f105 31 (of_decide_eq_true rfl)) 12) (f105 32 (of_decide_eq_true rfl)) (f105 33 (of_decide_eq_true rfl)) hs_jKg
              have p117 : jNz σ103 := jNz.fr (f105 34 (of_decide_eq_true rfl)) hs_jNz
              have z118 : (σ103 16 1).toInt = (σ 16 1).toInt := (congrArg Int32.toInt (show σ103 16 1 = (σ 16 1) from (congrFun (f105 16 (of_decide_eq_true rfl)) 1)))
              exact by
               refine jcallVv (As := [.int r93, .int (σ 47 0), .int r34]) (rest := []) ⟨hx, hb, hml, hown, hts⟩ hK hP hA hS hZ (c_X1_seek_31 l D cI cL ad zz hJ σ103 τ r93 (r93.toInt) rfl (σ 47 0) ((σ 47 0).toInt) rfl r34 (r34.toInt) rfl I108 I109 I110 I111 p112 p113 p114 p115 p116 p117 (by omega) (by omega) (by omega)) cw_RX11_193 (jc_31 cI cL ad σ103 τ) rfl ⟨Nat.le_of_ble_eq_true rfl, Nat.le_of_ble_eq_true rfl⟩ rfl rfl rfl hl.1 rfl (Nat.le_of_ble_eq_true rfl) dX11_puts_132 ⟨Nat.zero_le _, Nat.zero_le _⟩ (fun σ119 τ119 H locs h119 hP hS => ?_)
               obtain ⟨rfl, f121, f122, I123, p124, p125, p126, p127, p128, p129, h119⟩ := h119
               obtain ⟨i131, i132, i133, i134, w135, w136, w137⟩ : (0 ≤ (σ119 31 8).toInt ∧ (σ119 31 8).toInt ≤ 350) ∧ (0 ≤ (σ119 31 10).toInt ∧ (σ119 31 10).toInt ≤ 12) ∧ (0 ≤ (σ119 31 11).toInt ∧ (σ119 31 11).toInt ≤ 8) ∧ ((σ119 31 10).toInt + (σ119 31 11).toInt ≤ 12) ∧ (∀ k : Nat, k < 1400 → (-1) ≤ (σ119 33 k).toInt ∧ (σ119 33 k).toInt ≤ 350) ∧ (∀ k : Nat, k < 3159 → (-1) ≤ (σ119 35 k).toInt ∧ (σ119 35 k).toInt ≤ 3) ∧ (∀ k : Nat, k < 1024 → 0 ≤ (σ119 36 k).toInt ∧ (σ119 36 k).toInt ≤ 349) := id I123
               obtain ⟨k138, k139, k140, h119⟩ := h119
               refine lv_aload_n hx hb dX11_puts_135 rfl (lv_at hl 4 rfl) ?_
               refine va_get (D := D) hx hb hts inlX11 hown hK hP 0 (jc_0 cI cL ad σ119 τ) rfl 8 (of_decide_eq_true rfl) (hts _ kw_2_21) (fun _ h9 => h9) rfl dX11_puts_136 ?_
               refine lv_iload_n hx hb dX11_puts_139 rfl (lv_at hl 5 rfl) ?_
               refine lv_iload_n hx hb dX11_puts_140 rfl (lv_at hl 3 rfl) ?_
               refine lv_iload_n hx hb dX11_puts_141 rfl (lv_at hl 2 rfl) ?_
               refine lv_iload hx hb dX11_puts_142 (lv_at hl 0 rfl) ?_
               have I141 : jI16 σ119 := jI16_fr (congrFun (f121 16 (of_decide_eq_true rfl)) 0) (congrFun (f121 16 (of_decide_eq_true rfl)) 1) (congrFun (f121 16 (of_decide_eq_true rfl)) 2) (f121 17 (of_decide_eq_true rfl)) I108
               have I142 : jI18 σ119 := jI18_fr ((congrFun (f121 18 (of_decide_eq_true rfl)) 0).trans (congrFun (f105 18 (of_decide_eq_true rfl)) 0)) ((f121 19 (of_decide_eq_true rfl)).trans (f105 19 (of_decide_eq_true rfl))) hI18
               have I143 : jI22 σ119 := jI22_fr (congrFun (f121 22 (of_decide_eq_true rfl)) 0) (f121 23 (of_decide_eq_true rfl)) I109
               have I144 : jI26 σ119 := jI26_fr (congrFun (f121 26 (of_decide_eq_true rfl)) 6) I111
               have I145 : jI38 σ119 := jI38_fr ((congrFun (f121 38 (of_decide_eq_true rfl)) 0).trans (congrFun (f105 38 (of_decide_eq_true rfl)) 0)) ((congrFun (f121 38 (of_decide_eq_true rfl)) 1).trans (congrFun (f105 38 (of_decide_eq_true rfl)) 1)) ((f121 39 (of_decide_eq_true rfl)).trans (f105 39 (of_decide_eq_true rfl))) hI38
               exact by
                refine jcallV (As := [.int a1, .int (σ 47 0), .int r34, .int r93]) (rest := []) ⟨hx, hb, hml, hown, hts⟩ hK hP hA hS hZ (c_X3_putOn_43 l D cI cL ad zz hJ σ119 τ a1 (A1) t1 (σ 47 0) ((σ 47 0).toInt) rfl r34 (r34.toInt) rfl r93 (r93.toInt) rfl I141 I142 I143 I144 I123 I145 p124 p125 p127 (by omega) (by omega) (by omega)) cw_RX11_197 (jc_43 cI cL ad σ119 τ) rfl ⟨Nat.le_of_ble_eq_true rfl, Nat.le_of_ble_eq_true rfl⟩ rfl rfl rfl hl.1 rfl (Nat.le_of_ble_eq_true rfl) dX11_puts_144 ⟨Nat.zero_le _, Nat.zero_le _⟩ (fun r147 σ146 τ146 H locs h146 hP hS => ?_)
                obtain ⟨rfl, f148, p149, p150, p151, h146⟩ := h146
                have h153 := h146
                obtain ⟨q155, k154⟩ := h153
                have I156 : jI31 σ146 := jI31_fr (congrFun (f148 31 (of_decide_eq_true rfl)) 8) (congrFun (f148 31 (of_decide_eq_true rfl)) 10) (congrFun (f148 31 (of_decide_eq_true rfl)) 11) (f148 33 (of_decide_eq_true rfl)) (f148 35 (of_decide_eq_true rfl)) (f148 36 (of_decide_eq_true rfl)) I123
                have p157 : jKb σ146 := jKb.fr (congrFun (f148 31 (of_decide_eq_true rfl)) 8) (congrFun (f148 31 (of_decide_eq_true rfl)) 11) (f148 32 (of_decide_eq_true rfl)) p126
                have p158 : jKg σ146 := jKg.fr (congrFun (f148 31 (of_decide_eq_true rfl)) 8) (congrFun (f148 31 (of_decide_eq_true rfl)) 9) (congrFun (f148 31 (of_decide_eq_true rfl)) 11) (congrFun (f148 31 (of_decide_eq_true rfl)) 12) (f148 32 (of_decide_eq_true rfl)) (f148 33 (of_decide_eq_true rfl)) p128
                have p159 : jNz σ146 := jNz.fr (f148 34 (of_decide_eq_true rfl)) p129
                exact hret r147 σ146 τ _ _ _ _ rfl ⟨rfl, (fun i hi => ((f148 i (imp_133 i hi)).trans ((f121 i (imp_135 i hi)).trans (f105 i (imp_134 i hi))))), (fun i hi => ((congrFun (f148 31 (of_decide_eq_true rfl)) i).trans ((f122 i hi).trans (congrFun (f105 31 (of_decide_eq_true rfl)) i)))), I156, p149, p150, p157, p151, p158, p159, p151, trivial⟩ hP hS dX11_puts_147
           · have kc102 := jne c102 rfl jz_0
             refine lv_bipush (v := (-2)) hx hb dX11_puts_102 (of_decide_eq_true rfl) ?_
             exact hret (-2) σ τ _ _ _ _ rfl ⟨rfl, (fun _ _ => rfl), (fun _ _ => rfl), hI31, hs_jN67, hs_jBl, hs_jKb, hs_jKh, hs_jKg, hs_jNz, hs_jKh, trivial⟩ hP hS dX11_puts_104
         · have kc91 := jnle c91 tx90 jz_8
           refine lv_bipush (v := (-4)) hx hb dX11_puts_71 (of_decide_eq_true rfl) ?_
           exact hret (-4) σ τ _ _ _ _ rfl ⟨rfl, (fun _ _ => rfl), (fun _ _ => rfl), hI31, hs_jN67, hs_jBl, hs_jKb, hs_jKh, hs_jKg, hs_jNz, hs_jKh, trivial⟩ hP hS dX11_puts_73
    · obtain ⟨q161, k160⟩ := h42
      exact absurd (by omega : False) id
set_option maxHeartbeats 4000000 in
set_option maxRecDepth 100000 in
theorem c_X11_mean (l : Launch) (D : va_G) (cI cL : ClassId) (ad zz : Nat → Nat) (hJ : jD ad) (σ : Nat → Nat → Int32) (τ : Nat → Nat → Int64) (a1 : Int32) (A1 : Int) (t1 : a1.toInt = A1) (hI2 : jI2 σ) (hI16 : jI16 σ) (hI18 : jI18 σ) (hI22 : jI22 σ) (hI31 : jI31 σ) (hI38 : jI38 σ) (hI26 : jI26 σ) (hs_jN67 : jN67 σ) (hs_jBl : jBl σ) (hs_jKb : jKb σ) (hs_jKh : jKh σ) (hs_jKg : jKg σ) (hs_jNz : jNz σ) (hs_jKh : jKh σ) : jM l yX11_mean cX11_mean 2 (some .int) ({ frames := 41, cells := 0, slots := 0, locals := 2281 }) D cI cL ad zz [.ref (ad 0), .int a1] σ τ (fun r σ' τ' => τ = τ' ∧ (∀ i : Nat, (i < 20 ∨ 21 < i) ∧ (i < 24 ∨ 25 < i) ∧ (i < 27 ∨ 37 < i) → σ' i = σ i) ∧ (∀ k : Nat, (k < 8 ∨ 8 < k) ∧ (k < 9 ∨ 9 < k) ∧ (k < 10 ∨ 10 < k) ∧ (k < 11 ∨ 11 < k) ∧ (k < 12 ∨ 12 < k) → σ' 31 k = σ 31 k) ∧ (jI31 σ') ∧ (jN67 σ') ∧ (jBl σ') ∧ (jKb σ') ∧ (jKh σ') ∧ (jKg σ') ∧ (jNz σ') ∧ (jKh σ') ∧ True) := by
  refine jM.of hJ (by decide +kernel) (nt := .int) rfl (Nat.le_of_ble_eq_true rfl) ?_
  intro p e s m args below meth c Q ls hC hret hl hP
  obtain ⟨hx, hb, hr, hml, hown, hts, hK, -, hlocks, hZ⟩ := hC
  have hown : s.vm.findClass RX11 = some m.cls := hown
  have hS : va_S (jA ad) s.heap s.heap [] := va_S.rf
  have hA : ∀ q, jA ad q → jA ad q := fun _ h => h
  have hl : lv_has ls 2 [(0, .ref (ad 0)), (1, .int a1)] := hl
  have g1 := jrg t1
  obtain ⟨i1, i2, i3, w4⟩ : (1 ≤ (σ 16 0).toInt ∧ (σ 16 0).toInt ≤ 8) ∧ (1 ≤ (σ 16 1).toInt ∧ (σ 16 1).toInt ≤ 12) ∧ (0 ≤ (σ 16 2).toInt ∧ (σ 16 2).toInt ≤ 999) ∧ (∀ k : Nat, k < 8 → 0 ≤ (σ 17 k).toInt ∧ (σ 17 k).toInt ≤ 3) := id hI16
  obtain ⟨i5, i6, w7⟩ : (0 ≤ (σ 38 0).toInt ∧ (σ 38 0).toInt ≤ 20) ∧ (0 ≤ (σ 38 1).toInt ∧ (σ 38 1).toInt ≤ 1000) ∧ (∀ k : Nat, k < 20 → 0 ≤ (σ 39 k).toInt ∧ (σ 39 k).toInt ≤ 6) := id hI38
  refine lv_aload_n hx hb dX11_mean_0 rfl (lv_at hl 0 rfl) ?_
  refine lv_iload_n hx hb dX11_mean_1 rfl (lv_at hl 1 rfl) ?_
  refine jcallV (As := [.int a1]) (rest := []) ⟨hx, hb, hml, hown, hts⟩ hK hP hA hS hZ (c_X11_noRule l D cI cL ad zz hJ σ τ a1 (A1) t1 hI38) cw_RX11_177 (jc_0 cI cL ad σ τ) rfl ⟨Nat.le_of_ble_eq_true rfl, Nat.le_of_ble_eq_true rfl⟩ rfl rfl rfl hl.1 rfl (Nat.le_of_ble_eq_true rfl) dX11_mean_2 ⟨Nat.zero_le _, Nat.zero_le _⟩ (fun r9 σ8 τ8 H locs h8 hP hS => ?_)
  obtain ⟨⟨rfl, rfl⟩, h8⟩ := h8
  rcases h8 with h10 | h11
  · obtain ⟨q13, k12⟩ := h10
    have q13 := q13.symm
    subst q13
    refine lv_if_eq (tgt := 10) hx hb dX11_mean_5 (of_decide_eq_true rfl) (fun c => absurd c (of_decide_eq_true rfl)) (fun _ => ?_)
    refine lv_iconst (v := (-1)) hx hb dX11_mean_8 (of_decide_eq_true rfl) ?_
    exact hret (-1) σ τ _ _ _ _ rfl ⟨rfl, (fun _ _ => rfl), (fun _ _ => rfl), hI31, hs_jN67, hs_jBl, hs_jKb, hs_jKh, hs_jKg, hs_jNz, hs_jKh, trivial⟩ hP hS dX11_mean_9
  · obtain ⟨q15, k14⟩ := h11
    have q15 := q15.symm
    subst q15
    refine lv_if_eq (tgt := 10) hx hb dX11_mean_5 (of_decide_eq_true rfl) (fun _ => ?_) (fun c => absurd (of_decide_eq_true rfl) c)
    refine lv_aload_n hx hb dX11_mean_10 rfl (lv_at hl 0 rfl) ?_
    refine va_get (D := D) hx hb hts inlX11 hown hK hP 0 (jc_0 cI cL ad σ τ) rfl 2 (of_decide_eq_true rfl) (hts _ kw_2_0) (fun _ h9 => h9) rfl dX11_mean_11 ?_
    refine va_get (D := D) hx hb hts inlX6 hown hK hP 16 (jc_16 cI cL ad σ τ) rfl 1 (of_decide_eq_true rfl) (hts _ kw_20_5) (fun _ h9 => h9) rfl dX11_mean_14 ?_
    refine lv_bipush (v := 8) hx hb dX11_mean_17 (of_decide_eq_true rfl) ?_
    refine lv_icmp_le (tgt := 25) hx hb dX11_mean_19 (of_decide_eq_true rfl) (fun c16 => ?_) (fun c16 => ?_)
    · have kc16 := jle c16 rfl jz_8
      refine lv_aload_n hx hb dX11_mean_25 rfl (lv_at hl 0 rfl) ?_
      refine lv_iload_n hx hb dX11_mean_26 rfl (lv_at hl 1 rfl) ?_
      refine jcallVv (As := [.int a1]) (rest := []) ⟨hx, hb, hml, hown, hts⟩ hK hP hA hS hZ (c_X11_makeReady l D cI cL ad zz hJ σ τ a1 (A1) t1 hI2 hI16 hI22 hI31 hI38 hI26 hs_jN67 hs_jBl hs_jKb hs_jKh hs_jKg hs_jNz) cw_RX11_201 (jc_0 cI cL ad σ τ) rfl ⟨Nat.le_of_ble_eq_true rfl, Nat.le_of_ble_eq_true rfl⟩ rfl rfl rfl hl.1 rfl (Nat.le_of_ble_eq_true rfl) dX11_mean_27 ⟨Nat.zero_le _, Nat.zero_le _⟩ (fun σ17 τ17 H locs h17 hP hS => ?_)
      obtain ⟨rfl, f19, f20, I21, p22, p23, p24, p25, p26, p27, h17⟩ := h17
      refine lv_aload_n hx hb dX11_mean_30 rfl (lv_at hl 0 rfl) ?_
      refine va_get (D := D) hx hb hts inlX11 hown hK hP 0 (jc_0 cI cL ad σ17 τ) rfl 8 (of_decide_eq_true rfl) (hts _ kw_2_21) (fun _ h9 => h9) rfl dX11_mean_31 ?_
      refine lv_iload_n hx hb dX11_mean_34 rfl (lv_at hl 1 rfl) ?_
      refine lv_iconst (v := 0) hx hb dX11_mean_35 (of_decide_eq_true rfl) ?_
      refine lv_iconst (v := 0) hx hb dX11_mean_36 (of_decide_eq_true rfl) ?_
      refine lv_aload_n hx hb dX11_mean_37 rfl (lv_at hl 0 rfl) ?_
      refine va_get (D := D) hx hb hts inlX11 hown hK hP 0 (jc_0 cI cL ad σ17 τ) rfl 0 (of_decide_eq_true rfl) (hts _ kw_1_16) (fun _ h9 => h9) rfl dX11_mean_38 ?_
      have I29 : jI2 σ17 := jI2_fr (congrFun (f19 2 (of_decide_eq_true rfl)) 0) (congrFun (f19 2 (of_decide_eq_true rfl)) 1) (congrFun (f19 2 (of_decide_eq_true rfl)) 2) (congrFun (f19 2 (of_decide_eq_true rfl)) 3) (f19 6 (of_decide_eq_true rfl)) (f19 5 (of_decide_eq_true rfl)) hI2
      refine jcallV (As := []) (rest := [.int 0, .int 0, .int a1, .ref (ad 43)]) ⟨hx, hb, hml, hown, hts⟩ hK hP hA hS hZ (c_X4_freshAttack_2 l D cI cL ad zz hJ σ17 τ I29) cw_RX11_204 (jc_2 cI cL ad σ17 τ) rfl ⟨Nat.le_of_ble_eq_true rfl, Nat.le_of_ble_eq_true rfl⟩ rfl rfl rfl hl.1 rfl (Nat.le_of_ble_eq_true rfl) dX11_mean_41 ⟨Nat.zero_le _, Nat.zero_le _⟩ (fun r31 σ30 τ30 H locs h30 hP hS => ?_)
      obtain ⟨⟨rfl, rfl⟩, w32, w33, h30⟩ := h30
      have h34 := h30
      obtain ⟨q36, k35⟩ := h34
      have I37 : jI16 σ17 := jI16_fr (congrFun (f19 16 (of_decide_eq_true rfl)) 0) (congrFun (f19 16 (of_decide_eq_true rfl)) 1) (congrFun (f19 16 (of_decide_eq_true rfl)) 2) (f19 17 (of_decide_eq_true rfl)) hI16
      have I38 : jI18 σ17 := jI18_fr (congrFun (f19 18 (of_decide_eq_true rfl)) 0) (f19 19 (of_decide_eq_true rfl)) hI18
      have I39 : jI22 σ17 := jI22_fr (congrFun (f19 22 (of_decide_eq_true rfl)) 0) (f19 23 (of_decide_eq_true rfl)) hI22
      have I40 : jI26 σ17 := jI26_fr (congrFun (f19 26 (of_decide_eq_true rfl)) 6) hI26
      have I41 : jI38 σ17 := jI38_fr (congrFun (f19 38 (of_decide_eq_true rfl)) 0) (congrFun (f19 38 (of_decide_eq_true rfl)) 1) (f19 39 (of_decide_eq_true rfl)) hI38
      exact by
       refine jcallV (As := [.int a1, .int 0, .int 0, .int r31]) (rest := []) ⟨hx, hb, hml, hown, hts⟩ hK hP hA hS hZ ((c_X3_means l D cI cL ad zz hJ 8) σ17 τ a1 (A1) t1 0 (0) jz_0 0 (0) jz_0 r31 (r31.toInt) rfl I37 I38 I39 I40 I21 I41 p22 p23 p25 (by omega) (by omega) (by omega) (by omega) (by omega)) cw_RX11_208 (jc_43 cI cL ad σ17 τ) rfl ⟨Nat.le_of_ble_eq_true rfl, Nat.le_of_ble_eq_true rfl⟩ rfl rfl rfl hl.1 rfl (Nat.le_of_ble_eq_true rfl) dX11_mean_44 ⟨Nat.zero_le _, Nat.zero_le _⟩ (fun r43 σ42 τ42 H locs h42 hP hS => ?_)
       obtain ⟨rfl, f44, p45, p46, p47, h42⟩ := h42
       have I49 : jI31 σ42 := jI31_fr (congrFun (f44 31 (of_decide_eq_true rfl)) 8) (congrFun (f44 31 (of_decide_eq_true rfl)) 10) (congrFun (f44 31 (of_decide_eq_true rfl)) 11) (f44 33 (of_decide_eq_true rfl)) (f44 35 (of_decide_eq_true rfl)) (f44 36 (of_decide_eq_true rfl)) I21
       have p50 : jKb σ42 := jKb.fr (congrFun (f44 31 (of_decide_eq_true rfl)) 8) (congrFun (f44 31 (of_decide_eq_true rfl)) 11) (f44 32 (of_decide_eq_true rfl)) p24
       have p51 : jKg σ42 := jKg.fr (congrFun (f44 31 (of_decide_eq_true rfl)) 8) (congrFun (f44 31 (of_decide_eq_true rfl)) 9) (congrFun (f44 31 (of_decide_eq_true rfl)) 11) (congrFun (f44 31 (of_decide_eq_true rfl)) 12) (f44 32 (of_decide_eq_true rfl)) (f44 33 (of_decide_eq_true rfl)) p26
       have p52 : jNz σ42 := jNz.fr (f44 34 (of_decide_eq_true rfl)) p27
       exact hret r43 σ42 τ _ _ _ _ rfl ⟨rfl, (fun i hi => ((f44 i (imp_133 i hi)).trans (f19 i (imp_136 i hi)))), (fun i hi => ((congrFun (f44 31 (of_decide_eq_true rfl)) i).trans (f20 i hi))), I49, p45, p46, p50, p47, p51, p52, p47, trivial⟩ hP hS dX11_mean_47
    · have kc16 := jnle c16 rfl jz_8
      refine lv_bipush (v := (-4)) hx hb dX11_mean_22 (of_decide_eq_true rfl) ?_
      exact hret (-4) σ τ _ _ _ _ rfl ⟨rfl, (fun _ _ => rfl), (fun _ _ => rfl), hI31, hs_jN67, hs_jBl, hs_jKb, hs_jKh, hs_jKg, hs_jNz, hs_jKh, trivial⟩ hP hS dX11_mean_24
set_option maxHeartbeats 4000000 in
set_option maxRecDepth 100000 in
theorem c_X11_likely (l : Launch) (D : va_G) (cI cL : ClassId) (ad zz : Nat → Nat) (hJ : jD ad) (σ : Nat → Nat → Int32) (τ : Nat → Nat → Int64) (a1 : Int32) (A1 : Int) (t1 : a1.toInt = A1) (a2 : Int32) (A2 : Int) (t2 : a2.toInt = A2) (hI2 : jI2 σ) (hI16 : jI16 σ) (hI18 : jI18 σ) (hI22 : jI22 σ) (hI31 : jI31 σ) (hI38 : jI38 σ) (hI26 : jI26 σ) (hs_jN67 : jN67 σ) (hs_jBl : jBl σ) (hs_jKb : jKb σ) (hs_jKh : jKh σ) (hs_jKg : jKg σ) (hs_jNz : jNz σ) (hs_jKh : jKh σ) : jM l yX11_likely cX11_likely 3 (some .int) ({ frames := 41, cells := 0, slots := 0, locals := 2286 }) D cI cL ad zz [.ref (ad 0), .int a1, .int a2] σ τ (fun r σ' τ' => τ = τ' ∧ (∀ i : Nat, (i < 20 ∨ 21 < i) ∧ (i < 24 ∨ 25 < i) ∧ (i < 27 ∨ 37 < i) → σ' i = σ i) ∧ (∀ k : Nat, (k < 8 ∨ 8 < k) ∧ (k < 9 ∨ 9 < k) ∧ (k < 10 ∨ 10 < k) ∧ (k < 11 ∨ 11 < k) ∧ (k < 12 ∨ 12 < k) → σ' 31 k = σ 31 k) ∧ (jI31 σ') ∧ (jN67 σ') ∧ (jBl σ') ∧ (jKb σ') ∧ (jKh σ') ∧ (jKg σ') ∧ (jNz σ') ∧ (jKh σ') ∧ True) := by
  refine jM.of hJ (by decide +kernel) (nt := .int) rfl (Nat.le_of_ble_eq_true rfl) ?_
  intro p e s m args below meth c Q ls hC hret hl hP
  obtain ⟨hx, hb, hr, hml, hown, hts, hK, -, hlocks, hZ⟩ := hC
  have hown : s.vm.findClass RX11 = some m.cls := hown
  have hS : va_S (jA ad) s.heap s.heap [] := va_S.rf
  have hA : ∀ q, jA ad q → jA ad q := fun _ h => h
  have hl : lv_has ls 3 [(0, .ref (ad 0)), (1, .int a1), (2, .int a2)] := hl
  have g1 := jrg t1
  have g2 := jrg t2
  obtain ⟨i1, i2, i3, w4⟩ : (1 ≤ (σ 16 0).toInt ∧ (σ 16 0).toInt ≤ 8) ∧ (1 ≤ (σ 16 1).toInt ∧ (σ 16 1).toInt ≤ 12) ∧ (0 ≤ (σ 16 2).toInt ∧ (σ 16 2).toInt ≤ 999) ∧ (∀ k : Nat, k < 8 → 0 ≤ (σ 17 k).toInt ∧ (σ 17 k).toInt ≤ 3) := id hI16
  obtain ⟨i5, i6, w7⟩ : (0 ≤ (σ 38 0).toInt ∧ (σ 38 0).toInt ≤ 20) ∧ (0 ≤ (σ 38 1).toInt ∧ (σ 38 1).toInt ≤ 1000) ∧ (∀ k : Nat, k < 20 → 0 ≤ (σ 39 k).toInt ∧ (σ 39 k).toInt ≤ 6) := id hI38
  refine lv_aload_n hx hb dX11_likely_0 rfl (lv_at hl 0 rfl) ?_
  refine lv_iload_n hx hb dX11_likely_1 rfl (lv_at hl 1 rfl) ?_
  refine jcallV (As := [.int a1]) (rest := []) ⟨hx, hb, hml, hown, hts⟩ hK hP hA hS hZ (c_X11_noRule l D cI cL ad zz hJ σ τ a1 (A1) t1 hI38) cw_RX11_177 (jc_0 cI cL ad σ τ) rfl ⟨Nat.le_of_ble_eq_true rfl, Nat.le_of_ble_eq_true rfl⟩ rfl rfl rfl hl.1 rfl (Nat.le_of_ble_eq_true rfl) dX11_likely_2 ⟨Nat.zero_le _, Nat.zero_le _⟩ (fun r9 σ8 τ8 H locs h8 hP hS => ?_)
  obtain ⟨⟨rfl, rfl⟩, h8⟩ := h8
  rcases h8 with h10 | h11
  · obtain ⟨q13, k12⟩ := h10
    have q13 := q13.symm
    subst q13
    refine lv_if_ne (tgt := 19) hx hb dX11_likely_5 (of_decide_eq_true rfl) (fun _ => ?_) (fun c => absurd c (of_decide_eq_true rfl))
    refine lv_iconst (v := (-1)) hx hb dX11_likely_19 (of_decide_eq_true rfl) ?_
    exact hret (-1) σ τ _ _ _ _ rfl ⟨rfl, (fun _ _ => rfl), (fun _ _ => rfl), hI31, hs_jN67, hs_jBl, hs_jKb, hs_jKh, hs_jKg, hs_jNz, hs_jKh, trivial⟩ hP hS dX11_likely_20
  · obtain ⟨q15, k14⟩ := h11
    have q15 := q15.symm
    subst q15
    refine lv_if_ne (tgt := 19) hx hb dX11_likely_5 (of_decide_eq_true rfl) (fun c => absurd (of_decide_eq_true rfl) c) (fun _ => ?_)
    refine lv_iload_n hx hb dX11_likely_8 rfl (lv_at hl 2 rfl) ?_
    refine lv_iconst (v := 0) hx hb dX11_likely_9 (of_decide_eq_true rfl) ?_
    refine lv_sipush (v := 999) hx hb dX11_likely_10 (of_decide_eq_true rfl) ?_
    refine jcallS (As := [.int a2, .int 0, .int 999]) (rest := []) ⟨hx, hb, hml, hown, hts⟩ hK hP hA hS hZ (c_X11_outside l D cI cL ad zz hJ σ τ a2 (A2) t2 0 (0) jz_0 999 (999) jz_999) cw_RX11_94 ⟨Nat.le_of_ble_eq_true rfl, Nat.le_of_ble_eq_true rfl⟩ rfl rfl rfl hl.1 rfl (Nat.le_of_ble_eq_true rfl) dX11_likely_13 ⟨Nat.zero_le _, Nat.zero_le _⟩ (fun r17 σ16 τ16 H locs h16 hP hS => ?_)
    obtain ⟨⟨rfl, rfl⟩, h16⟩ := h16
    rcases h16 with h18 | h19
    · obtain ⟨q21, k20⟩ := h18
      have q21 := q21.symm
      subst q21
      refine lv_if_eq (tgt := 21) hx hb dX11_likely_16 (of_decide_eq_true rfl) (fun c => absurd c (of_decide_eq_true rfl)) (fun _ => ?_)
      refine lv_iconst (v := (-1)) hx hb dX11_likely_19 (of_decide_eq_true rfl) ?_
      exact hret (-1) σ τ _ _ _ _ rfl ⟨rfl, (fun _ _ => rfl), (fun _ _ => rfl), hI31, hs_jN67, hs_jBl, hs_jKb, hs_jKh, hs_jKg, hs_jNz, hs_jKh, trivial⟩ hP hS dX11_likely_20
    · obtain ⟨q23, k22⟩ := h19
      have q23 := q23.symm
      subst q23
      refine lv_if_eq (tgt := 21) hx hb dX11_likely_16 (of_decide_eq_true rfl) (fun _ => ?_) (fun c => absurd (of_decide_eq_true rfl) c)
      refine lv_aload_n hx hb dX11_likely_21 rfl (lv_at hl 0 rfl) ?_
      refine va_get (D := D) hx hb hts inlX11 hown hK hP 0 (jc_0 cI cL ad σ τ) rfl 2 (of_decide_eq_true rfl) (hts _ kw_2_0) (fun _ h9 => h9) rfl dX11_likely_22 ?_
      refine va_get (D := D) hx hb hts inlX6 hown hK hP 16 (jc_16 cI cL ad σ τ) rfl 1 (of_decide_eq_true rfl) (hts _ kw_20_5) (fun _ h9 => h9) rfl dX11_likely_25 ?_
      refine lv_bipush (v := 8) hx hb dX11_likely_28 (of_decide_eq_true rfl) ?_
      refine lv_icmp_le (tgt := 36) hx hb dX11_likely_30 (of_decide_eq_true rfl) (fun c24 => ?_) (fun c24 => ?_)
      · have kc24 := jle c24 rfl jz_8
        refine lv_aload_n hx hb dX11_likely_36 rfl (lv_at hl 0 rfl) ?_
        refine lv_iload_n hx hb dX11_likely_37 rfl (lv_at hl 1 rfl) ?_
        refine jcallVv (As := [.int a1]) (rest := []) ⟨hx, hb, hml, hown, hts⟩ hK hP hA hS hZ (c_X11_makeReady l D cI cL ad zz hJ σ τ a1 (A1) t1 hI2 hI16 hI22 hI31 hI38 hI26 hs_jN67 hs_jBl hs_jKb hs_jKh hs_jKg hs_jNz) cw_RX11_201 (jc_0 cI cL ad σ τ) rfl ⟨Nat.le_of_ble_eq_true rfl, Nat.le_of_ble_eq_true rfl⟩ rfl rfl rfl hl.1 rfl (Nat.le_of_ble_eq_true rfl) dX11_likely_38 ⟨Nat.zero_le _, Nat.zero_le _⟩ (fun σ25 τ25 H locs h25 hP hS => ?_)
        obtain ⟨rfl, f27, f28, I29, p30, p31, p32, p33, p34, p35, h25⟩ := h25
        refine lv_aload_n hx hb dX11_likely_41 rfl (lv_at hl 0 rfl) ?_
        refine va_get (D := D) hx hb hts inlX11 hown hK hP 0 (jc_0 cI cL ad σ25 τ) rfl 8 (of_decide_eq_true rfl) (hts _ kw_2_21) (fun _ h9 => h9) rfl dX11_likely_42 ?_
        refine lv_iload_n hx hb dX11_likely_45 rfl (lv_at hl 1 rfl) ?_
        refine lv_iconst (v := 0) hx hb dX11_likely_46 (of_decide_eq_true rfl) ?_
        refine lv_iconst (v := 0) hx hb dX11_likely_47 (of_decide_eq_true rfl) ?_
        refine lv_aload_n hx hb dX11_likely_48 rfl (lv_at hl 0 rfl) ?_
        refine va_get (D := D) hx hb hts inlX11 hown hK hP 0 (jc_0 cI cL ad σ25 τ) rfl 0 (of_decide_eq_true rfl) (hts _ kw_1_16) (fun _ h9 => h9) rfl dX11_likely_49 ?_
        have I37 : jI2 σ25 := jI2_fr (congrFun (f27 2 (of_decide_eq_true rfl)) 0) (congrFun (f27 2 (of_decide_eq_true rfl)) 1) (congrFun (f27 2 (of_decide_eq_true rfl)) 2) (congrFun (f27 2 (of_decide_eq_true rfl)) 3) (f27 6 (of_decide_eq_true rfl)) (f27 5 (of_decide_eq_true rfl)) hI2
        refine jcallV (As := []) (rest := [.int 0, .int 0, .int a1, .ref (ad 43)]) ⟨hx, hb, hml, hown, hts⟩ hK hP hA hS hZ (c_X4_freshAttack_2 l D cI cL ad zz hJ σ25 τ I37) cw_RX11_204 (jc_2 cI cL ad σ25 τ) rfl ⟨Nat.le_of_ble_eq_true rfl, Nat.le_of_ble_eq_true rfl⟩ rfl rfl rfl hl.1 rfl (Nat.le_of_ble_eq_true rfl) dX11_likely_52 ⟨Nat.zero_le _, Nat.zero_le _⟩ (fun r39 σ38 τ38 H locs h38 hP hS => ?_)
        obtain ⟨⟨rfl, rfl⟩, w40, w41, h38⟩ := h38
        have h42 := h38
        obtain ⟨q44, k43⟩ := h42
        refine lv_iload_n hx hb dX11_likely_55 rfl (lv_at hl 2 rfl) ?_
        have I45 : jI16 σ25 := jI16_fr (congrFun (f27 16 (of_decide_eq_true rfl)) 0) (congrFun (f27 16 (of_decide_eq_true rfl)) 1) (congrFun (f27 16 (of_decide_eq_true rfl)) 2) (f27 17 (of_decide_eq_true rfl)) hI16
        have I46 : jI18 σ25 := jI18_fr (congrFun (f27 18 (of_decide_eq_true rfl)) 0) (f27 19 (of_decide_eq_true rfl)) hI18
        have I47 : jI22 σ25 := jI22_fr (congrFun (f27 22 (of_decide_eq_true rfl)) 0) (f27 23 (of_decide_eq_true rfl)) hI22
        have I48 : jI26 σ25 := jI26_fr (congrFun (f27 26 (of_decide_eq_true rfl)) 6) hI26
        have I49 : jI38 σ25 := jI38_fr (congrFun (f27 38 (of_decide_eq_true rfl)) 0) (congrFun (f27 38 (of_decide_eq_true rfl)) 1) (f27 39 (of_decide_eq_true rfl)) hI38
        exact by
         refine jcallV (As := [.int a1, .int 0, .int 0, .int r39, .int a2]) (rest := []) ⟨hx, hb, hml, hown, hts⟩ hK hP hA hS hZ ((c_X3_likelies l D cI cL ad zz hJ 8) σ25 τ a1 (A1) t1 0 (0) jz_0 0 (0) jz_0 r39 (r39.toInt) rfl a2 (A2) t2 I45 I46 I47 I48 I29 I49 p30 p31 p33 (by omega) (by omega) (by omega) (by omega) (by omega)) cw_RX11_211 (jc_43 cI cL ad σ25 τ) rfl ⟨Nat.le_of_ble_eq_true rfl, Nat.le_of_ble_eq_true rfl⟩ rfl rfl rfl hl.1 rfl (Nat.le_of_ble_eq_true rfl) dX11_likely_56 ⟨Nat.zero_le _, Nat.zero_le _⟩ (fun r51 σ50 τ50 H locs h50 hP hS => ?_)
         obtain ⟨rfl, f52, p53, p54, p55, h50⟩ := h50
         have I57 : jI31 σ50 := jI31_fr (congrFun (f52 31 (of_decide_eq_true rfl)) 8) (congrFun (f52 31 (of_decide_eq_true rfl)) 10) (congrFun (f52 31 (of_decide_eq_true rfl)) 11) (f52 33 (of_decide_eq_true rfl)) (f52 35 (of_decide_eq_true rfl)) (f52 36 (of_decide_eq_true rfl)) I29
         have p58 : jKb σ50 := jKb.fr (congrFun (f52 31 (of_decide_eq_true rfl)) 8) (congrFun (f52 31 (of_decide_eq_true rfl)) 11) (f52 32 (of_decide_eq_true rfl)) p32
         have p59 : jKg σ50 := jKg.fr (congrFun (f52 31 (of_decide_eq_true rfl)) 8) (congrFun (f52 31 (of_decide_eq_true rfl)) 9) (congrFun (f52 31 (of_decide_eq_true rfl)) 11) (congrFun (f52 31 (of_decide_eq_true rfl)) 12) (f52 32 (of_decide_eq_true rfl)) (f52 33 (of_decide_eq_true rfl)) p34
         have p60 : jNz σ50 := jNz.fr (f52 34 (of_decide_eq_true rfl)) p35
         exact hret r51 σ50 τ _ _ _ _ rfl ⟨rfl, (fun i hi => ((f52 i (imp_133 i hi)).trans (f27 i (imp_136 i hi)))), (fun i hi => ((congrFun (f52 31 (of_decide_eq_true rfl)) i).trans (f28 i hi))), I57, p53, p54, p58, p55, p59, p60, p55, trivial⟩ hP hS dX11_likely_59
      · have kc24 := jnle c24 rfl jz_8
        refine lv_bipush (v := (-4)) hx hb dX11_likely_33 (of_decide_eq_true rfl) ?_
        exact hret (-4) σ τ _ _ _ _ rfl ⟨rfl, (fun _ _ => rfl), (fun _ _ => rfl), hI31, hs_jN67, hs_jBl, hs_jKb, hs_jKh, hs_jKg, hs_jNz, hs_jKh, trivial⟩ hP hS dX11_likely_35
set_option maxHeartbeats 4000000 in
set_option maxRecDepth 100000 in
theorem c_X11_best (l : Launch) (D : va_G) (cI cL : ClassId) (ad zz : Nat → Nat) (hJ : jD ad) (σ : Nat → Nat → Int32) (τ : Nat → Nat → Int64) (a1 : Int32) (A1 : Int) (t1 : a1.toInt = A1) (hI2 : jI2 σ) (hI16 : jI16 σ) (hI22 : jI22 σ) (hI31 : jI31 σ) (hI47 : jI47 σ) (hI26 : jI26 σ) (hs_jN67 : jN67 σ) (hs_jBl : jBl σ) (hs_jKb : jKb σ) (hs_jKh : jKh σ) (hs_jKg : jKg σ) (hs_jNz : jNz σ) : jM l yX11_best cX11_best 5 (some .int) ({ frames := 6, cells := 0, slots := 0, locals := 162 }) D cI cL ad zz [.ref (ad 0), .int a1] σ τ (fun r σ' τ' => τ = τ' ∧ (∀ i : Nat, (i < 24 ∨ 25 < i) ∧ (i < 27 ∨ 37 < i) → σ' i = σ i) ∧ (∀ k : Nat, (k < 8 ∨ 8 < k) ∧ (k < 9 ∨ 9 < k) ∧ (k < 10 ∨ 10 < k) ∧ (k < 11 ∨ 11 < k) ∧ (k < 12 ∨ 12 < k) → σ' 31 k = σ 31 k) ∧ (jI31 σ') ∧ (jN67 σ') ∧ (jBl σ') ∧ (jKb σ') ∧ (jKh σ') ∧ (jKg σ') ∧ (jNz σ') ∧ True) := by
  refine jM.of hJ (by decide +kernel) (nt := .int) rfl (Nat.le_of_ble_eq_true rfl) ?_
  intro p e s m args below meth c Q ls hC hret hl hP
  obtain ⟨hx, hb, hr, hml, hown, hts, hK, -, hlocks, hZ⟩ := hC
  have hown : s.vm.findClass RX11 = some m.cls := hown
  have hS : va_S (jA ad) s.heap s.heap [] := va_S.rf
  have hA : ∀ q, jA ad q → jA ad q := fun _ h => h
  have hl : lv_has ls 5 [(0, .ref (ad 0)), (1, .int a1)] := hl
  have g1 := jrg t1
  obtain ⟨i1, i2, i3, i4, i5, w6, w7⟩ : (0 ≤ (σ 2 0).toInt ∧ (σ 2 0).toInt ≤ 4) ∧ (0 ≤ (σ 2 1).toInt ∧ (σ 2 1).toInt ≤ 3) ∧ (0 ≤ (σ 2 2).toInt) ∧ (0 ≤ (σ 2 3).toInt) ∧ ((σ 2 2).toInt + (σ 2 3).toInt ≤ 40) ∧ (∀ k : Nat, k < 40 → 0 ≤ (σ 6 k).toInt ∧ (σ 6 k).toInt ≤ 67) ∧ (∀ k : Nat, k < 4 → 0 ≤ (σ 5 k).toInt ∧ (σ 5 k).toInt ≤ 20) := id hI2
  obtain ⟨i8, i9, i10, w11⟩ : (1 ≤ (σ 16 0).toInt ∧ (σ 16 0).toInt ≤ 8) ∧ (1 ≤ (σ 16 1).toInt ∧ (σ 16 1).toInt ≤ 12) ∧ (0 ≤ (σ 16 2).toInt ∧ (σ 16 2).toInt ≤ 999) ∧ (∀ k : Nat, k < 8 → 0 ≤ (σ 17 k).toInt ∧ (σ 17 k).toInt ≤ 3) := id hI16
  obtain ⟨i12, i13, i14, i15, w16, w17, w18⟩ : (0 ≤ (σ 31 8).toInt ∧ (σ 31 8).toInt ≤ 350) ∧ (0 ≤ (σ 31 10).toInt ∧ (σ 31 10).toInt ≤ 12) ∧ (0 ≤ (σ 31 11).toInt ∧ (σ 31 11).toInt ≤ 8) ∧ ((σ 31 10).toInt + (σ 31 11).toInt ≤ 12) ∧ (∀ k : Nat, k < 1400 → (-1) ≤ (σ 33 k).toInt ∧ (σ 33 k).toInt ≤ 350) ∧ (∀ k : Nat, k < 3159 → (-1) ≤ (σ 35 k).toInt ∧ (σ 35 k).toInt ≤ 3) ∧ (∀ k : Nat, k < 1024 → 0 ≤ (σ 36 k).toInt ∧ (σ 36 k).toInt ≤ 349) := id hI31
  obtain ⟨i19, w20, w21⟩ : (0 ≤ (σ 47 0).toInt ∧ (σ 47 0).toInt ≤ 12) ∧ (∀ k : Nat, k < 12 → 0 ≤ (σ 48 k).toInt ∧ (σ 48 k).toInt ≤ 3) ∧ (∀ k : Nat, k < 12 → 0 ≤ (σ 49 k).toInt ∧ (σ 49 k).toInt ≤ 1) := id hI47
  refine lv_iload_n hx hb dX11_best_0 rfl (lv_at hl 1 rfl) ?_
  refine lv_iconst (v := 0) hx hb dX11_best_1 (of_decide_eq_true rfl) ?_
  refine lv_iconst (v := 1) hx hb dX11_best_2 (of_decide_eq_true rfl) ?_
  refine jcallS (As := [.int a1, .int 0, .int 1]) (rest := []) ⟨hx, hb, hml, hown, hts⟩ hK hP hA hS hZ (c_X11_outside l D cI cL ad zz hJ σ τ a1 (A1) t1 0 (0) jz_0 1 (1) jz_1) cw_RX11_94 ⟨Nat.le_of_ble_eq_true rfl, Nat.le_of_ble_eq_true rfl⟩ rfl rfl rfl hl.1 rfl (Nat.le_of_ble_eq_true rfl) dX11_best_3 ⟨Nat.zero_le _, Nat.zero_le _⟩ (fun r23 σ22 τ22 H locs h22 hP hS => ?_)
  obtain ⟨⟨rfl, rfl⟩, h22⟩ := h22
  rcases h22 with h24 | h25
  · obtain ⟨q27, k26⟩ := h24
    have q27 := q27.symm
    subst q27
    refine lv_if_eq (tgt := 11) hx hb dX11_best_6 (of_decide_eq_true rfl) (fun c => absurd c (of_decide_eq_true rfl)) (fun _ => ?_)
    refine lv_iconst (v := (-1)) hx hb dX11_best_9 (of_decide_eq_true rfl) ?_
    exact hret (-1) σ τ _ _ _ _ rfl ⟨rfl, (fun _ _ => rfl), (fun _ _ => rfl), hI31, hs_jN67, hs_jBl, hs_jKb, hs_jKh, hs_jKg, hs_jNz, trivial⟩ hP hS dX11_best_10
  · obtain ⟨q29, k28⟩ := h25
    have q29 := q29.symm
    subst q29
    refine lv_if_eq (tgt := 11) hx hb dX11_best_6 (of_decide_eq_true rfl) (fun _ => ?_) (fun c => absurd (of_decide_eq_true rfl) c)
    refine lv_aload_n hx hb dX11_best_11 rfl (lv_at hl 0 rfl) ?_
    refine va_get (D := D) hx hb hts inlX11 hown hK hP 0 (jc_0 cI cL ad σ τ) rfl 9 (of_decide_eq_true rfl) (hts _ kw_3_1) (fun _ h9 => h9) rfl dX11_best_12 ?_
    refine va_get (D := D) hx hb hts inlX2 hown hK hP 47 (jc_47 cI cL ad σ τ) rfl 0 (of_decide_eq_true rfl) (hts _ kw_13_11) (fun _ h9 => h9) rfl dX11_best_15 ?_
    refine lv_istore_n (lv' := [(2, .int (σ 47 0)), (0, .ref (ad 0)), (1, .int a1)]) hx hb dX11_best_18 rfl hl (of_decide_eq_true rfl) rfl (fun ls hl => ?_)
    refine lv_aload_n hx hb dX11_best_19 rfl (lv_at hl 1 rfl) ?_
    refine va_get (D := D) hx hb hts inlX11 hown hK hP 0 (jc_0 cI cL ad σ τ) rfl 9 (of_decide_eq_true rfl) (hts _ kw_3_1) (fun _ h9 => h9) rfl dX11_best_20 ?_
    refine lv_aload_n hx hb dX11_best_23 rfl (lv_at hl 1 rfl) ?_
    refine va_get (D := D) hx hb hts inlX11 hown hK hP 0 (jc_0 cI cL ad σ τ) rfl 9 (of_decide_eq_true rfl) (hts _ kw_3_1) (fun _ h9 => h9) rfl dX11_best_24 ?_
    refine va_get (D := D) hx hb hts inlX2 hown hK hP 47 (jc_47 cI cL ad σ τ) rfl 0 (of_decide_eq_true rfl) (hts _ kw_13_11) (fun _ h9 => h9) rfl dX11_best_27 ?_
    refine jcallV (As := [.int (σ 47 0)]) (rest := []) ⟨hx, hb, hml, hown, hts⟩ hK hP hA hS hZ (c_X2_outs_47 l D cI cL ad zz hJ σ τ (σ 47 0) ((σ 47 0).toInt) rfl hI47) cw_RX11_180 (jc_47 cI cL ad σ τ) rfl ⟨Nat.le_of_ble_eq_true rfl, Nat.le_of_ble_eq_true rfl⟩ rfl rfl rfl hl.1 rfl (Nat.le_of_ble_eq_true rfl) dX11_best_30 ⟨Nat.zero_le _, Nat.zero_le _⟩ (fun r31 σ30 τ30 H locs h30 hP hS => ?_)
    obtain ⟨⟨rfl, rfl⟩, w32, h30⟩ := h30
    have h33 := h30
    obtain ⟨q35, k34⟩ := h33
    refine lv_istore_n (lv' := [(3, .int r31), (2, .int (σ 47 0)), (0, .ref (ad 0)), (1, .int a1)]) hx hb dX11_best_33 rfl hl (of_decide_eq_true rfl) rfl (fun ls hl => ?_)
    refine lv_aload_n hx hb dX11_best_34 rfl (lv_at hl 2 rfl) ?_
    refine va_get (D := D) hx hb hts inlX11 hown hK hP 0 (jc_0 cI cL ad σ τ) rfl 2 (of_decide_eq_true rfl) (hts _ kw_2_0) (fun _ h9 => h9) rfl dX11_best_35 ?_
    refine va_get (D := D) hx hb hts inlX6 hown hK hP 16 (jc_16 cI cL ad σ τ) rfl 1 (of_decide_eq_true rfl) (hts _ kw_20_5) (fun _ h9 => h9) rfl dX11_best_38 ?_
    refine lv_iload_n hx hb dX11_best_41 rfl (lv_at hl 1 rfl) ?_
    have g36 := jrg (rfl : (σ 16 1).toInt = (σ 16 1).toInt)
    have g37 := jrg (rfl : (σ 47 0).toInt = (σ 47 0).toInt)
    refine lv_isub hx hb dX11_best_42 ?_
    refine lv_topi (fun x38 ex38 => ?_)
    exact by
     have tx38 : x38.toInt = (σ 16 1).toInt - (σ 47 0).toInt := (jsub ex38 rfl rfl (by omega) (by omega)).trans (by omega)
     refine lv_bipush (v := 8) hx hb dX11_best_43 (of_decide_eq_true rfl) ?_
     refine lv_icmp_le (tgt := 51) hx hb dX11_best_45 (of_decide_eq_true rfl) (fun c39 => ?_) (fun c39 => ?_)
     · have kc39 := jle c39 tx38 jz_8
       refine lv_aload_n hx hb dX11_best_51 rfl (lv_at hl 2 rfl) ?_
       refine va_get (D := D) hx hb hts inlX11 hown hK hP 0 (jc_0 cI cL ad σ τ) rfl 9 (of_decide_eq_true rfl) (hts _ kw_3_1) (fun _ h9 => h9) rfl dX11_best_52 ?_
       refine lv_iload_n hx hb dX11_best_55 rfl (lv_at hl 1 rfl) ?_
       refine lv_aload_n hx hb dX11_best_56 rfl (lv_at hl 2 rfl) ?_
       refine va_get (D := D) hx hb hts inlX11 hown hK hP 0 (jc_0 cI cL ad σ τ) rfl 0 (of_decide_eq_true rfl) (hts _ kw_1_16) (fun _ h9 => h9) rfl dX11_best_57 ?_
       refine jcallV (As := [.int (σ 47 0), .ref (ad 2)]) (rest := []) ⟨hx, hb, hml, hown, hts⟩ hK hP hA hS hZ (c_X2_attackAhead_47 l D cI cL ad zz hJ σ τ (σ 47 0) ((σ 47 0).toInt) rfl hI2 hI47) cw_RX11_186 (jc_47 cI cL ad σ τ) rfl ⟨Nat.le_of_ble_eq_true rfl, Nat.le_of_ble_eq_true rfl⟩ rfl rfl rfl hl.1 rfl (Nat.le_of_ble_eq_true rfl) dX11_best_60 ⟨Nat.zero_le _, Nat.zero_le _⟩ (fun r41 σ40 τ40 H locs h40 hP hS => ?_)
       obtain ⟨⟨rfl, rfl⟩, w42, w43, h40⟩ := h40
       have h44 := h40
       obtain ⟨q46, k45⟩ := h44
       refine lv_istore (lv' := [(4, .int r41), (3, .int r31), (2, .int (σ 47 0)), (0, .ref (ad 0)), (1, .int a1)]) hx hb dX11_best_63 hl (of_decide_eq_true rfl) rfl (fun ls hl => ?_)
       refine lv_aload_n hx hb dX11_best_65 rfl (lv_at hl 3 rfl) ?_
       refine va_get (D := D) hx hb hts inlX11 hown hK hP 0 (jc_0 cI cL ad σ τ) rfl 2 (of_decide_eq_true rfl) (hts _ kw_2_0) (fun _ h9 => h9) rfl dX11_best_66 ?_
       refine lv_iload_n hx hb dX11_best_69 rfl (lv_at hl 2 rfl) ?_
       refine lv_iload_n hx hb dX11_best_70 rfl (lv_at hl 1 rfl) ?_
       refine lv_iload hx hb dX11_best_71 (lv_at hl 0 rfl) ?_
       refine jcallV (As := [.int (σ 47 0), .int r31, .int r41]) (rest := []) ⟨hx, hb, hml, hown, hts⟩ hK hP hA hS hZ (c_X6_ended_16 l D cI cL ad zz hJ σ τ (σ 47 0) ((σ 47 0).toInt) rfl r31 (r31.toInt) rfl r41 (r41.toInt) rfl) cw_RX11_190 (jc_16 cI cL ad σ τ) rfl ⟨Nat.le_of_ble_eq_true rfl, Nat.le_of_ble_eq_true rfl⟩ rfl rfl rfl hl.1 rfl (Nat.le_of_ble_eq_true rfl) dX11_best_73 ⟨Nat.zero_le _, Nat.zero_le _⟩ (fun r48 σ47 τ47 H locs h47 hP hS => ?_)
       obtain ⟨⟨rfl, rfl⟩, w49, h47⟩ := h47
       refine lv_if_eq (tgt := 90) hx hb dX11_best_76 (of_decide_eq_true rfl) (fun c50 => ?_) (fun c50 => ?_)
       · have kc50 := jeq c50 rfl jz_0
         refine lv_aload_n hx hb dX11_best_90 rfl (lv_at hl 3 rfl) ?_
         refine va_get (D := D) hx hb hts inlX11 hown hK hP 0 (jc_0 cI cL ad σ τ) rfl 5 (of_decide_eq_true rfl) (hts _ kw_2_9) (fun _ h9 => h9) rfl dX11_best_91 ?_
         refine lv_aload_n hx hb dX11_best_94 rfl (lv_at hl 3 rfl) ?_
         refine va_get (D := D) hx hb hts inlX11 hown hK hP 0 (jc_0 cI cL ad σ τ) rfl 0 (of_decide_eq_true rfl) (hts _ kw_1_16) (fun _ h9 => h9) rfl dX11_best_95 ?_
         refine va_get (D := D) hx hb hts inlX4 hown hK hP 2 (jc_2 cI cL ad σ τ) rfl 1 (of_decide_eq_true rfl) (hts _ kw_12_8) (fun _ h9 => h9) rfl dX11_best_98 ?_
         exact by
          refine jcallVv (As := [.int (σ 2 1)]) (rest := []) ⟨hx, hb, hml, hown, hts⟩ hK hP hA hS hZ (c_X5_lay_26 l D cI cL ad zz hJ σ τ (σ 2 1) ((σ 2 1).toInt) rfl (by omega)) cw_RX11_156 (jc_26 cI cL ad σ τ) rfl ⟨Nat.le_of_ble_eq_true rfl, Nat.le_of_ble_eq_true rfl⟩ rfl rfl rfl hl.1 rfl (Nat.le_of_ble_eq_true rfl) dX11_best_101 ⟨Nat.zero_le _, Nat.zero_le _⟩ (fun σ51 τ51 H locs h51 hP hS => ?_)
          obtain ⟨rfl, f53, w54, h51⟩ := h51
          refine lv_aload_n hx hb dX11_best_104 rfl (lv_at hl 3 rfl) ?_
          refine va_get (D := D) hx hb hts inlX11 hown hK hP 0 (jc_0 cI cL ad σ51 τ) rfl 6 (of_decide_eq_true rfl) (hts _ kw_2_13) (fun _ h9 => h9) rfl dX11_best_105 ?_
          refine lv_iload hx hb dX11_best_108 (lv_at hl 0 rfl) ?_
          refine lv_iload_n hx hb dX11_best_110 rfl (lv_at hl 2 rfl) ?_
          refine lv_iload_n hx hb dX11_best_111 rfl (lv_at hl 1 rfl) ?_
          have I56 : jI16 σ51 := jI16_fr (congrFun (f53 16 (of_decide_eq_true rfl)) 0) (congrFun (f53 16 (of_decide_eq_true rfl)) 1) (congrFun (f53 16 (of_decide_eq_true rfl)) 2) (f53 17 (of_decide_eq_true rfl)) hI16
          have I57 : jI22 σ51 := jI22_fr (congrFun (f53 22 (of_decide_eq_true rfl)) 0) (f53 23 (of_decide_eq_true rfl)) hI22
          have I58 : jI31 σ51 := jI31_fr (congrFun (f53 31 (of_decide_eq_true rfl)) 8) (congrFun (f53 31 (of_decide_eq_true rfl)) 10) (congrFun (f53 31 (of_decide_eq_true rfl)) 11) (f53 33 (of_decide_eq_true rfl)) (f53 35 (of_decide_eq_true rfl)) (f53 36 (of_decide_eq_true rfl)) hI31
          have I59 : jI26 σ51 := jI26_fr (congrFun (f53 26 (of_decide_eq_true rfl)) 6) hI26
          have p60 : jN67 σ51 := jN67.fr (f53 24 (of_decide_eq_true rfl)) hs_jN67
          have p61 : jBl σ51 := jBl.fr (congrFun (f53 22 (of_decide_eq_true rfl)) 0) (congrFun (f53 22 (of_decide_eq_true rfl)) 1) (f53 23 (of_decide_eq_true rfl)) (congrFun (f53 26 (of_decide_eq_true rfl)) 6) (congrFun (f53 26 (of_decide_eq_true rfl)) 7) (f53 29 (of_decide_eq_true rfl)) (f53 30 (of_decide_eq_true rfl)) hs_jBl
          have p62 : jKb σ51 := jKb.fr (congrFun (f53 31 (of_decide_eq_true rfl)) 8) (congrFun (f53 31 (of_decide_eq_true rfl)) 11) (f53 32 (of_decide_eq_true rfl)) hs_jKb
          have p63 : jKh σ51 := jKh.fr (congrFun (f53 31 (of_decide_eq_true rfl)) 8) (f53 32 (of_decide_eq_true rfl)) (f53 36 (of_decide_eq_true rfl)) (f53 37 (of_decide_eq_true rfl)) hs_jKh
          have p64 : jKg σ51 := jKg.fr (congrFun (f53 31 (of_decide_eq_true rfl)) 8) (congrFun (f53 31 (of_decide_eq_true rfl)) 9) (congrFun (f53 31 (of_decide_eq_true rfl)) 11) (congrFun (f53 31 (of_decide_eq_true rfl)) 12) (f53 32 (of_decide_eq_true rfl)) (f53 33 (of_decide_eq_true rfl)) hs_jKg
          have p65 : jNz σ51 := jNz.fr (f53 34 (of_decide_eq_true rfl)) hs_jNz
          have z66 : (σ51 16 1).toInt = (σ 16 1).toInt := (congrArg Int32.toInt (show σ51 16 1 = (σ 16 1) from (congrFun (f53 16 (of_decide_eq_true rfl)) 1)))
          exact by
           refine jcallVv (As := [.int r41, .int (σ 47 0), .int r31]) (rest := []) ⟨hx, hb, hml, hown, hts⟩ hK hP hA hS hZ (c_X1_seek_31 l D cI cL ad zz hJ σ51 τ r41 (r41.toInt) rfl (σ 47 0) ((σ 47 0).toInt) rfl r31 (r31.toInt) rfl I56 I57 I58 I59 p60 p61 p62 p63 p64 p65 (by omega) (by omega) (by omega)) cw_RX11_193 (jc_31 cI cL ad σ51 τ) rfl ⟨Nat.le_of_ble_eq_true rfl, Nat.le_of_ble_eq_true rfl⟩ rfl rfl rfl hl.1 rfl (Nat.le_of_ble_eq_true rfl) dX11_best_112 ⟨Nat.zero_le _, Nat.zero_le _⟩ (fun σ67 τ67 H locs h67 hP hS => ?_)
           obtain ⟨rfl, f69, f70, I71, p72, p73, p74, p75, p76, p77, h67⟩ := h67
           obtain ⟨i79, i80, i81, i82, w83, w84, w85⟩ : (0 ≤ (σ67 31 8).toInt ∧ (σ67 31 8).toInt ≤ 350) ∧ (0 ≤ (σ67 31 10).toInt ∧ (σ67 31 10).toInt ≤ 12) ∧ (0 ≤ (σ67 31 11).toInt ∧ (σ67 31 11).toInt ≤ 8) ∧ ((σ67 31 10).toInt + (σ67 31 11).toInt ≤ 12) ∧ (∀ k : Nat, k < 1400 → (-1) ≤ (σ67 33 k).toInt ∧ (σ67 33 k).toInt ≤ 350) ∧ (∀ k : Nat, k < 3159 → (-1) ≤ (σ67 35 k).toInt ∧ (σ67 35 k).toInt ≤ 3) ∧ (∀ k : Nat, k < 1024 → 0 ≤ (σ67 36 k).toInt ∧ (σ67 36 k).toInt ≤ 349) := id I71
           obtain ⟨k86, k87, k88, h67⟩ := h67
           refine lv_iload_n hx hb dX11_best_115 rfl (lv_at hl 4 rfl) ?_
           refine lv_if_ne (tgt := 131) hx hb dX11_best_116 (of_decide_eq_true rfl) (fun c89 => ?_) (fun c89 => ?_)
           · have kc89 := jne c89 t1 jz_0
             refine lv_aload_n hx hb dX11_best_131 rfl (lv_at hl 3 rfl) ?_
             refine va_get (D := D) hx hb hts inlX11 hown hK hP 0 (jc_0 cI cL ad σ67 τ) rfl 6 (of_decide_eq_true rfl) (hts _ kw_2_13) (fun _ h9 => h9) rfl dX11_best_132 ?_
             refine lv_iconst (v := 0) hx hb dX11_best_135 (of_decide_eq_true rfl) ?_
             refine lv_iload_n hx hb dX11_best_136 rfl (lv_at hl 1 rfl) ?_
             have I90 : jI16 σ67 := jI16_fr (congrFun (f69 16 (of_decide_eq_true rfl)) 0) (congrFun (f69 16 (of_decide_eq_true rfl)) 1) (congrFun (f69 16 (of_decide_eq_true rfl)) 2) (f69 17 (of_decide_eq_true rfl)) I56
             refine jcallV (As := [.int 0, .int r31]) (rest := []) ⟨hx, hb, hml, hown, hts⟩ hK hP hA hS hZ (c_X1_whomAt_31 l D cI cL ad zz hJ σ67 τ 0 (0) jz_0 r31 (r31.toInt) rfl I90 I71) cw_RX11_218 (jc_31 cI cL ad σ67 τ) rfl ⟨Nat.le_of_ble_eq_true rfl, Nat.le_of_ble_eq_true rfl⟩ rfl rfl rfl hl.1 rfl (Nat.le_of_ble_eq_true rfl) dX11_best_137 ⟨Nat.zero_le _, Nat.zero_le _⟩ (fun r92 σ91 τ91 H locs h91 hP hS => ?_)
             obtain ⟨⟨rfl, rfl⟩, w93, h91⟩ := h91
             have h94 := h91
             obtain ⟨q96, k95⟩ := h94
             exact hret r92 σ67 τ _ _ _ _ rfl ⟨rfl, (fun i hi => ((f69 i (imp_132 i hi)).trans (f53 i (imp_131 i hi)))), (fun i hi => ((f70 i hi).trans (congrFun (f53 31 (of_decide_eq_true rfl)) i))), I71, p72, p73, p74, p75, p76, p77, trivial⟩ hP hS dX11_best_140
           · have kc89 := jeq c89 t1 jz_0
             refine lv_aload_n hx hb dX11_best_119 rfl (lv_at hl 3 rfl) ?_
             refine va_get (D := D) hx hb hts inlX11 hown hK hP 0 (jc_0 cI cL ad σ67 τ) rfl 6 (of_decide_eq_true rfl) (hts _ kw_2_13) (fun _ h9 => h9) rfl dX11_best_120 ?_
             refine lv_iconst (v := 0) hx hb dX11_best_123 (of_decide_eq_true rfl) ?_
             refine lv_iload_n hx hb dX11_best_124 rfl (lv_at hl 1 rfl) ?_
             have I97 : jI16 σ67 := jI16_fr (congrFun (f69 16 (of_decide_eq_true rfl)) 0) (congrFun (f69 16 (of_decide_eq_true rfl)) 1) (congrFun (f69 16 (of_decide_eq_true rfl)) 2) (f69 17 (of_decide_eq_true rfl)) I56
             refine jcallV (As := [.int 0, .int r31]) (rest := []) ⟨hx, hb, hml, hown, hts⟩ hK hP hA hS hZ (c_X1_valueAt_31 l D cI cL ad zz hJ σ67 τ 0 (0) jz_0 r31 (r31.toInt) rfl I97 I71) cw_RX11_215 (jc_31 cI cL ad σ67 τ) rfl ⟨Nat.le_of_ble_eq_true rfl, Nat.le_of_ble_eq_true rfl⟩ rfl rfl rfl hl.1 rfl (Nat.le_of_ble_eq_true rfl) dX11_best_125 ⟨Nat.zero_le _, Nat.zero_le _⟩ (fun r99 σ98 τ98 H locs h98 hP hS => ?_)
             obtain ⟨⟨rfl, rfl⟩, w100, h98⟩ := h98
             refine lv_goto (tgt := 140) hx hb dX11_best_128 (of_decide_eq_true rfl) ?_
             exact hret r99 σ67 τ _ _ _ _ rfl ⟨rfl, (fun i hi => ((f69 i (imp_132 i hi)).trans (f53 i (imp_131 i hi)))), (fun i hi => ((f70 i hi).trans (congrFun (f53 31 (of_decide_eq_true rfl)) i))), I71, p72, p73, p74, p75, p76, p77, trivial⟩ hP hS dX11_best_140
       · have kc50 := jne c50 rfl jz_0
         refine lv_iload_n hx hb dX11_best_79 rfl (lv_at hl 4 rfl) ?_
         refine lv_if_ne (tgt := 87) hx hb dX11_best_80 (of_decide_eq_true rfl) (fun c101 => ?_) (fun c101 => ?_)
         · have kc101 := jne c101 t1 jz_0
           refine lv_bipush (v := (-2)) hx hb dX11_best_87 (of_decide_eq_true rfl) ?_
           exact hret (-2) σ τ _ _ _ _ rfl ⟨rfl, (fun _ _ => rfl), (fun _ _ => rfl), hI31, hs_jN67, hs_jBl, hs_jKb, hs_jKh, hs_jKg, hs_jNz, trivial⟩ hP hS dX11_best_89
         · have kc101 := jeq c101 t1 jz_0
           refine lv_iconst (v := 0) hx hb dX11_best_83 (of_decide_eq_true rfl) ?_
           refine lv_goto (tgt := 89) hx hb dX11_best_84 (of_decide_eq_true rfl) ?_
           exact hret 0 σ τ _ _ _ _ rfl ⟨rfl, (fun _ _ => rfl), (fun _ _ => rfl), hI31, hs_jN67, hs_jBl, hs_jKb, hs_jKh, hs_jKg, hs_jNz, trivial⟩ hP hS dX11_best_89
     · have kc39 := jnle c39 tx38 jz_8
       refine lv_bipush (v := (-4)) hx hb dX11_best_48 (of_decide_eq_true rfl) ?_
       exact hret (-4) σ τ _ _ _ _ rfl ⟨rfl, (fun _ _ => rfl), (fun _ _ => rfl), hI31, hs_jN67, hs_jBl, hs_jKb, hs_jKh, hs_jKg, hs_jNz, trivial⟩ hP hS dX11_best_50
set_option maxHeartbeats 4000000 in
set_option maxRecDepth 100000 in
theorem c_X11_worth (l : Launch) (D : va_G) (cI cL : ClassId) (ad zz : Nat → Nat) (hJ : jD ad) (σ : Nat → Nat → Int32) (τ : Nat → Nat → Int64) (a1 : Int32) (A1 : Int) (t1 : a1.toInt = A1) (a2 : Int32) (A2 : Int) (t2 : a2.toInt = A2) (hI2 : jI2 σ) (hI16 : jI16 σ) (hI22 : jI22 σ) (hI31 : jI31 σ) (hI26 : jI26 σ) (hs_jN67 : jN67 σ) (hs_jBl : jBl σ) (hs_jKb : jKb σ) (hs_jKh : jKh σ) (hs_jKg : jKg σ) (hs_jNz : jNz σ) : jM l yX11_worth cX11_worth 7 (some .int) ({ frames := 7, cells := 0, slots := 0, locals := 184 }) D cI cL ad zz [.ref (ad 0), .int a1, .int a2] σ τ (fun r σ' τ' => τ = τ' ∧ (∀ i : Nat, (i < 24 ∨ 25 < i) ∧ (i < 27 ∨ 37 < i) → σ' i = σ i) ∧ (∀ k : Nat, (k < 8 ∨ 8 < k) ∧ (k < 9 ∨ 9 < k) ∧ (k < 10 ∨ 10 < k) ∧ (k < 11 ∨ 11 < k) ∧ (k < 12 ∨ 12 < k) → σ' 31 k = σ 31 k) ∧ (jI31 σ') ∧ (jN67 σ') ∧ (jBl σ') ∧ (jKb σ') ∧ (jKh σ') ∧ (jKg σ') ∧ (jNz σ') ∧ True) := by
  refine jM.of hJ (by decide +kernel) (nt := .int) rfl (Nat.le_of_ble_eq_true rfl) ?_
  intro p e s m args below meth c Q ls hC hret hl hP
  obtain ⟨hx, hb, hr, hml, hown, hts, hK, -, hlocks, hZ⟩ := hC
  have hown : s.vm.findClass RX11 = some m.cls := hown
  have hS : va_S (jA ad) s.heap s.heap [] := va_S.rf
  have hA : ∀ q, jA ad q → jA ad q := fun _ h => h
  have hl : lv_has ls 7 [(0, .ref (ad 0)), (1, .int a1), (2, .int a2)] := hl
  have g1 := jrg t1
  have g2 := jrg t2
  obtain ⟨i1, i2, i3, i4, i5, w6, w7⟩ : (0 ≤ (σ 2 0).toInt ∧ (σ 2 0).toInt ≤ 4) ∧ (0 ≤ (σ 2 1).toInt ∧ (σ 2 1).toInt ≤ 3) ∧ (0 ≤ (σ 2 2).toInt) ∧ (0 ≤ (σ 2 3).toInt) ∧ ((σ 2 2).toInt + (σ 2 3).toInt ≤ 40) ∧ (∀ k : Nat, k < 40 → 0 ≤ (σ 6 k).toInt ∧ (σ 6 k).toInt ≤ 67) ∧ (∀ k : Nat, k < 4 → 0 ≤ (σ 5 k).toInt ∧ (σ 5 k).toInt ≤ 20) := id hI2
  obtain ⟨i8, i9, i10, w11⟩ : (1 ≤ (σ 16 0).toInt ∧ (σ 16 0).toInt ≤ 8) ∧ (1 ≤ (σ 16 1).toInt ∧ (σ 16 1).toInt ≤ 12) ∧ (0 ≤ (σ 16 2).toInt ∧ (σ 16 2).toInt ≤ 999) ∧ (∀ k : Nat, k < 8 → 0 ≤ (σ 17 k).toInt ∧ (σ 17 k).toInt ≤ 3) := id hI16
  refine lv_aload_n hx hb dX11_worth_0 rfl (lv_at hl 0 rfl) ?_
  refine lv_iload_n hx hb dX11_worth_1 rfl (lv_at hl 1 rfl) ?_
  refine jcallV (As := [.int a1]) (rest := []) ⟨hx, hb, hml, hown, hts⟩ hK hP hA hS hZ (c_X11_noBowler l D cI cL ad zz hJ σ τ a1 (A1) t1 hI2) cw_RX11_152 (jc_0 cI cL ad σ τ) rfl ⟨Nat.le_of_ble_eq_true rfl, Nat.le_of_ble_eq_true rfl⟩ rfl rfl rfl hl.1 rfl (Nat.le_of_ble_eq_true rfl) dX11_worth_2 ⟨Nat.zero_le _, Nat.zero_le _⟩ (fun r13 σ12 τ12 H locs h12 hP hS => ?_)
  obtain ⟨⟨rfl, rfl⟩, h12⟩ := h12
  rcases h12 with h14 | h15
  · obtain ⟨q17, k16⟩ := h14
    have q17 := q17.symm
    subst q17
    refine lv_if_ne (tgt := 29) hx hb dX11_worth_5 (of_decide_eq_true rfl) (fun _ => ?_) (fun c => absurd c (of_decide_eq_true rfl))
    refine lv_ldc (v := (-2000000000)) hx hb hown (hts _ kw_9_21) dX11_worth_29 ?_
    exact hret (-2000000000) σ τ _ _ _ _ rfl ⟨rfl, (fun _ _ => rfl), (fun _ _ => rfl), hI31, hs_jN67, hs_jBl, hs_jKb, hs_jKh, hs_jKg, hs_jNz, trivial⟩ hP hS dX11_worth_31
  · obtain ⟨q19, k18⟩ := h15
    have q19 := q19.symm
    subst q19
    refine lv_if_ne (tgt := 29) hx hb dX11_worth_5 (of_decide_eq_true rfl) (fun c => absurd (of_decide_eq_true rfl) c) (fun _ => ?_)
    refine lv_iload_n hx hb dX11_worth_8 rfl (lv_at hl 2 rfl) ?_
    refine lv_iconst (v := 0) hx hb dX11_worth_9 (of_decide_eq_true rfl) ?_
    refine lv_iconst (v := 1) hx hb dX11_worth_10 (of_decide_eq_true rfl) ?_
    refine jcallS (As := [.int a2, .int 0, .int 1]) (rest := []) ⟨hx, hb, hml, hown, hts⟩ hK hP hA hS hZ (c_X11_outside l D cI cL ad zz hJ σ τ a2 (A2) t2 0 (0) jz_0 1 (1) jz_1) cw_RX11_94 ⟨Nat.le_of_ble_eq_true rfl, Nat.le_of_ble_eq_true rfl⟩ rfl rfl rfl hl.1 rfl (Nat.le_of_ble_eq_true rfl) dX11_worth_11 ⟨Nat.zero_le _, Nat.zero_le _⟩ (fun r21 σ20 τ20 H locs h20 hP hS => ?_)
    obtain ⟨⟨rfl, rfl⟩, h20⟩ := h20
    rcases h20 with h22 | h23
    · obtain ⟨q25, k24⟩ := h22
      have q25 := q25.symm
      subst q25
      refine lv_if_ne (tgt := 29) hx hb dX11_worth_14 (of_decide_eq_true rfl) (fun _ => ?_) (fun c => absurd c (of_decide_eq_true rfl))
      refine lv_ldc (v := (-2000000000)) hx hb hown (hts _ kw_9_21) dX11_worth_29 ?_
      exact hret (-2000000000) σ τ _ _ _ _ rfl ⟨rfl, (fun _ _ => rfl), (fun _ _ => rfl), hI31, hs_jN67, hs_jBl, hs_jKb, hs_jKh, hs_jKg, hs_jNz, trivial⟩ hP hS dX11_worth_31
    · obtain ⟨q27, k26⟩ := h23
      have q27 := q27.symm
      subst q27
      refine lv_if_ne (tgt := 29) hx hb dX11_worth_14 (of_decide_eq_true rfl) (fun c => absurd (of_decide_eq_true rfl) c) (fun _ => ?_)
      refine lv_aload_n hx hb dX11_worth_17 rfl (lv_at hl 0 rfl) ?_
      refine va_get (D := D) hx hb hts inlX11 hown hK hP 0 (jc_0 cI cL ad σ τ) rfl 2 (of_decide_eq_true rfl) (hts _ kw_2_0) (fun _ h9 => h9) rfl dX11_worth_18 ?_
      refine va_get (D := D) hx hb hts inlX6 hown hK hP 16 (jc_16 cI cL ad σ τ) rfl 1 (of_decide_eq_true rfl) (hts _ kw_20_5) (fun _ h9 => h9) rfl dX11_worth_21 ?_
      refine lv_bipush (v := 8) hx hb dX11_worth_24 (of_decide_eq_true rfl) ?_
      refine lv_icmp_le (tgt := 32) hx hb dX11_worth_26 (of_decide_eq_true rfl) (fun c28 => ?_) (fun c28 => ?_)
      · have kc28 := jle c28 rfl jz_8
        refine lv_aload_n hx hb dX11_worth_32 rfl (lv_at hl 0 rfl) ?_
        refine va_get (D := D) hx hb hts inlX11 hown hK hP 0 (jc_0 cI cL ad σ τ) rfl 0 (of_decide_eq_true rfl) (hts _ kw_1_16) (fun _ h9 => h9) rfl dX11_worth_33 ?_
        refine jcallV (As := []) (rest := []) ⟨hx, hb, hml, hown, hts⟩ hK hP hA hS hZ (c_X4_freshAttack_2 l D cI cL ad zz hJ σ τ hI2) cw_RX11_204 (jc_2 cI cL ad σ τ) rfl ⟨Nat.le_of_ble_eq_true rfl, Nat.le_of_ble_eq_true rfl⟩ rfl rfl rfl hl.1 rfl (Nat.le_of_ble_eq_true rfl) dX11_worth_36 ⟨Nat.zero_le _, Nat.zero_le _⟩ (fun r30 σ29 τ29 H locs h29 hP hS => ?_)
        obtain ⟨⟨rfl, rfl⟩, w31, w32, h29⟩ := h29
        have h33 := h29
        obtain ⟨q35, k34⟩ := h33
        refine lv_istore_n (lv' := [(3, .int r30), (0, .ref (ad 0)), (1, .int a1), (2, .int a2)]) hx hb dX11_worth_39 rfl hl (of_decide_eq_true rfl) rfl (fun ls hl => ?_)
        refine lv_iload_n hx hb dX11_worth_40 rfl (lv_at hl 3 rfl) ?_
        refine lv_if_ne (tgt := 48) hx hb dX11_worth_41 (of_decide_eq_true rfl) (fun c36 => ?_) (fun c36 => ?_)
        · have kc36 := jne c36 t2 jz_0
          refine lv_aload_n hx hb dX11_worth_48 rfl (lv_at hl 1 rfl) ?_
          refine va_get (D := D) hx hb hts inlX11 hown hK hP 0 (jc_0 cI cL ad σ τ) rfl 0 (of_decide_eq_true rfl) (hts _ kw_1_16) (fun _ h9 => h9) rfl dX11_worth_49 ?_
          refine lv_iload_n hx hb dX11_worth_52 rfl (lv_at hl 2 rfl) ?_
          exact by
           refine jcallV (As := [.int a1]) (rest := []) ⟨hx, hb, hml, hown, hts⟩ hK hP hA hS hZ (c_X4_oversOf_p l D cI cL ad zz hJ σ τ a1 (A1) t1 (by omega)) cw_RX11_163 (jc_2 cI cL ad σ τ) rfl ⟨Nat.le_of_ble_eq_true rfl, Nat.le_of_ble_eq_true rfl⟩ rfl rfl rfl hl.1 rfl (Nat.le_of_ble_eq_true rfl) dX11_worth_53 ⟨Nat.zero_le _, Nat.zero_le _⟩ (fun r38 σ37 τ37 H locs h37 hP hS => ?_)
           obtain ⟨⟨rfl, rfl⟩, w39, h37⟩ := h37
           refine lv_iconst (v := 1) hx hb dX11_worth_56 (of_decide_eq_true rfl) ?_
           have g40 := jrg (rfl : r38.toInt = r38.toInt)
           refine lv_iadd hx hb dX11_worth_57 ?_
           refine lv_topi (fun x41 ex41 => ?_)
           have gx41 := jrg (rfl : x41.toInt = x41.toInt)
           refine lv_istore (lv' := [(4, .int x41), (3, .int r30), (0, .ref (ad 0)), (1, .int a1), (2, .int a2)]) hx hb dX11_worth_58 hl (of_decide_eq_true rfl) rfl (fun ls hl => ?_)
           refine lv_aload_n hx hb dX11_worth_60 rfl (lv_at hl 2 rfl) ?_
           refine lv_iload_n hx hb dX11_worth_61 rfl (lv_at hl 1 rfl) ?_
           refine lv_iload_n hx hb dX11_worth_62 rfl (lv_at hl 3 rfl) ?_
           refine lv_iload hx hb dX11_worth_63 (lv_at hl 0 rfl) ?_
           exact by
            refine jcallS (As := [.int r30, .int a1, .int x41]) (rest := [.ref (ad 0)]) ⟨hx, hb, hml, hown, hts⟩ hK hP hA hS hZ (c_X0_withLeft_r l D cI cL ad zz hJ σ τ r30 (r30.toInt) rfl a1 (A1) t1 x41 (x41.toInt) rfl (by omega) (by omega)) cw_RX11_221 ⟨Nat.le_of_ble_eq_true rfl, Nat.le_of_ble_eq_true rfl⟩ rfl rfl rfl hl.1 rfl (Nat.le_of_ble_eq_true rfl) dX11_worth_65 ⟨Nat.zero_le _, Nat.zero_le _⟩ (fun r43 σ42 τ42 H locs h42 hP hS => ?_)
            obtain ⟨⟨rfl, rfl⟩, w44, h42⟩ := h42
            have k45 := congrArg Int32.toInt w44
            have h46 := h42
            obtain ⟨q48, k47⟩ := h46
            refine lv_aload_n hx hb dX11_worth_68 rfl (lv_at hl 2 rfl) ?_
            refine va_get (D := D) hx hb hts inlX11 hown hK hP 0 (jc_0 cI cL ad σ τ) rfl 0 (of_decide_eq_true rfl) (hts _ kw_1_16) (fun _ h9 => h9) rfl dX11_worth_69 ?_
            refine va_get (D := D) hx hb hts inlX4 hown hK hP 2 (jc_2 cI cL ad σ τ) rfl 1 (of_decide_eq_true rfl) (hts _ kw_12_8) (fun _ h9 => h9) rfl dX11_worth_72 ?_
            refine jcallV (As := [.int r43, .int (σ 2 1)]) (rest := []) ⟨hx, hb, hml, hown, hts⟩ hK hP hA hS hZ (c_X11_bestOf l D cI cL ad zz hJ σ τ r43 (r43.toInt) rfl (σ 2 1) ((σ 2 1).toInt) rfl hI2 hI16 hI22 hI31 hI26 hs_jN67 hs_jBl hs_jKb hs_jKh hs_jKg hs_jNz (by omega) (by omega)) cw_RX11_226 (jc_0 cI cL ad σ τ) rfl ⟨Nat.le_of_ble_eq_true rfl, Nat.le_of_ble_eq_true rfl⟩ rfl rfl rfl hl.1 rfl (Nat.le_of_ble_eq_true rfl) dX11_worth_75 ⟨Nat.zero_le _, Nat.zero_le _⟩ (fun r50 σ49 τ49 H locs h49 hP hS => ?_)
            exact by
             obtain ⟨rfl, f51, f52, I53, p54, p55, p56, p57, p58, p59, h49⟩ := h49
             refine lv_istore (lv' := [(5, .int r50), (4, .int x41), (3, .int r30), (0, .ref (ad 0)), (1, .int a1), (2, .int a2)]) hx hb dX11_worth_78 hl (of_decide_eq_true rfl) rfl (fun ls hl => ?_)
             refine lv_aload_n hx hb dX11_worth_80 rfl (lv_at hl 3 rfl) ?_
             refine lv_iload_n hx hb dX11_worth_81 rfl (lv_at hl 2 rfl) ?_
             refine lv_aload_n hx hb dX11_worth_82 rfl (lv_at hl 3 rfl) ?_
             refine va_get (D := D) hx hb hts inlX11 hown hK hP 0 (jc_0 cI cL ad σ49 τ) rfl 0 (of_decide_eq_true rfl) (hts _ kw_1_16) (fun _ h9 => h9) rfl dX11_worth_83 ?_
             refine va_get (D := D) hx hb hts inlX4 hown hK hP 2 (jc_2 cI cL ad σ49 τ) rfl 1 (of_decide_eq_true rfl) (hts _ kw_12_8) (fun _ h9 => h9) rfl dX11_worth_86 ?_
             have m61 : σ49 2 1 = (σ 2 1) := (congrFun (f51 2 (of_decide_eq_true rfl)) 1)
             refine jtopr m61 ?_
             have I62 : jI2 σ49 := jI2_fr (congrFun (f51 2 (of_decide_eq_true rfl)) 0) (congrFun (f51 2 (of_decide_eq_true rfl)) 1) (congrFun (f51 2 (of_decide_eq_true rfl)) 2) (congrFun (f51 2 (of_decide_eq_true rfl)) 3) (f51 6 (of_decide_eq_true rfl)) (f51 5 (of_decide_eq_true rfl)) hI2
             have I63 : jI16 σ49 := jI16_fr (congrFun (f51 16 (of_decide_eq_true rfl)) 0) (congrFun (f51 16 (of_decide_eq_true rfl)) 1) (congrFun (f51 16 (of_decide_eq_true rfl)) 2) (f51 17 (of_decide_eq_true rfl)) hI16
             have I64 : jI22 σ49 := jI22_fr (congrFun (f51 22 (of_decide_eq_true rfl)) 0) (f51 23 (of_decide_eq_true rfl)) hI22
             have I65 : jI26 σ49 := jI26_fr (congrFun (f51 26 (of_decide_eq_true rfl)) 6) hI26
             exact by
              refine jcallV (As := [.int r30, .int (σ 2 1)]) (rest := []) ⟨hx, hb, hml, hown, hts⟩ hK hP hA hS hZ (c_X11_bestOf l D cI cL ad zz hJ σ49 τ r30 (r30.toInt) rfl (σ 2 1) ((σ 2 1).toInt) rfl I62 I63 I64 I53 I65 p54 p55 p56 p57 p58 p59 (by omega) (by omega)) cw_RX11_226 (jc_0 cI cL ad σ49 τ) rfl ⟨Nat.le_of_ble_eq_true rfl, Nat.le_of_ble_eq_true rfl⟩ rfl rfl rfl hl.1 rfl (Nat.le_of_ble_eq_true rfl) dX11_worth_89 ⟨Nat.zero_le _, Nat.zero_le _⟩ (fun r67 σ66 τ66 H locs h66 hP hS => ?_)
              obtain ⟨rfl, f68, f69, I70, p71, p72, p73, p74, p75, p76, h66⟩ := h66
              refine lv_istore (lv' := [(6, .int r67), (5, .int r50), (4, .int x41), (3, .int r30), (0, .ref (ad 0)), (1, .int a1), (2, .int a2)]) hx hb dX11_worth_92 hl (of_decide_eq_true rfl) rfl (fun ls hl => ?_)
              refine lv_iload_n hx hb dX11_worth_94 rfl (lv_at hl 6 rfl) ?_
              refine lv_if_ne (tgt := 106) hx hb dX11_worth_95 (of_decide_eq_true rfl) (fun c78 => ?_) (fun c => absurd (jeq c t2 jz_0) (by omega))
              have kc78 := jne c78 t2 jz_0
              refine lv_iload hx hb dX11_worth_106 (lv_at hl 0 rfl) ?_
              refine lv_iload hx hb dX11_worth_108 (lv_at hl 1 rfl) ?_
              have g79 := jrg (rfl : r67.toInt = r67.toInt)
              exact by
               have g80 := jrg (rfl : r50.toInt = r50.toInt)
               refine lv_isub hx hb dX11_worth_110 ?_
               refine lv_topi (fun x81 ex81 => ?_)
               have gx81 := jrg (rfl : x81.toInt = x81.toInt)
               exact hret x81 σ66 τ _ _ _ _ rfl ⟨rfl, (fun i hi => ((f68 i hi).trans (f51 i hi))), (fun i hi => ((f69 i hi).trans (f52 i hi))), I70, p71, p72, p73, p74, p75, p76, trivial⟩ hP hS dX11_worth_111
        · have kc36 := jeq c36 t2 jz_0
          refine lv_iconst (v := 0) hx hb dX11_worth_44 (of_decide_eq_true rfl) ?_
          refine lv_goto (tgt := 58) hx hb dX11_worth_45 (of_decide_eq_true rfl) ?_
          refine lv_istore (lv' := [(4, .int 0), (3, .int r30), (0, .ref (ad 0)), (1, .int a1), (2, .int a2)]) hx hb dX11_worth_58 hl (of_decide_eq_true rfl) rfl (fun ls hl => ?_)
          refine lv_aload_n hx hb dX11_worth_60 rfl (lv_at hl 2 rfl) ?_
          refine lv_iload_n hx hb dX11_worth_61 rfl (lv_at hl 1 rfl) ?_
          refine lv_iload_n hx hb dX11_worth_62 rfl (lv_at hl 3 rfl) ?_
          refine lv_iload hx hb dX11_worth_63 (lv_at hl 0 rfl) ?_
          exact by
           refine jcallS (As := [.int r30, .int a1, .int 0]) (rest := [.ref (ad 0)]) ⟨hx, hb, hml, hown, hts⟩ hK hP hA hS hZ (c_X0_withLeft_r l D cI cL ad zz hJ σ τ r30 (r30.toInt) rfl a1 (A1) t1 0 (0) jz_0 (by omega) (by omega)) cw_RX11_221 ⟨Nat.le_of_ble_eq_true rfl, Nat.le_of_ble_eq_true rfl⟩ rfl rfl rfl hl.1 rfl (Nat.le_of_ble_eq_true rfl) dX11_worth_65 ⟨Nat.zero_le _, Nat.zero_le _⟩ (fun r83 σ82 τ82 H locs h82 hP hS => ?_)
           obtain ⟨⟨rfl, rfl⟩, w84, h82⟩ := h82
           have k85 := congrArg Int32.toInt w84
           have h86 := h82
           obtain ⟨q88, k87⟩ := h86
           refine lv_aload_n hx hb dX11_worth_68 rfl (lv_at hl 2 rfl) ?_
           refine va_get (D := D) hx hb hts inlX11 hown hK hP 0 (jc_0 cI cL ad σ τ) rfl 0 (of_decide_eq_true rfl) (hts _ kw_1_16) (fun _ h9 => h9) rfl dX11_worth_69 ?_
           refine va_get (D := D) hx hb hts inlX4 hown hK hP 2 (jc_2 cI cL ad σ τ) rfl 1 (of_decide_eq_true rfl) (hts _ kw_12_8) (fun _ h9 => h9) rfl dX11_worth_72 ?_
           refine jcallV (As := [.int r83, .int (σ 2 1)]) (rest := []) ⟨hx, hb, hml, hown, hts⟩ hK hP hA hS hZ (c_X11_bestOf l D cI cL ad zz hJ σ τ r83 (r83.toInt) rfl (σ 2 1) ((σ 2 1).toInt) rfl hI2 hI16 hI22 hI31 hI26 hs_jN67 hs_jBl hs_jKb hs_jKh hs_jKg hs_jNz (by omega) (by omega)) cw_RX11_226 (jc_0 cI cL ad σ τ) rfl ⟨Nat.le_of_ble_eq_true rfl, Nat.le_of_ble_eq_true rfl⟩ rfl rfl rfl hl.1 rfl (Nat.le_of_ble_eq_true rfl) dX11_worth_75 ⟨Nat.zero_le _, Nat.zero_le _⟩ (fun r90 σ89 τ89 H locs h89 hP hS => ?_)
           exact by
            obtain ⟨rfl, f91, f92, I93, p94, p95, p96, p97, p98, p99, h89⟩ := h89
            refine lv_istore (lv' := [(5, .int r90), (4, .int 0), (3, .int r30), (0, .ref (ad 0)), (1, .int a1), (2, .int a2)]) hx hb dX11_worth_78 hl (of_decide_eq_true rfl) rfl (fun ls hl => ?_)
            refine lv_aload_n hx hb dX11_worth_80 rfl (lv_at hl 3 rfl) ?_
            refine lv_iload_n hx hb dX11_worth_81 rfl (lv_at hl 2 rfl) ?_
            refine lv_aload_n hx hb dX11_worth_82 rfl (lv_at hl 3 rfl) ?_
            refine va_get (D := D) hx hb hts inlX11 hown hK hP 0 (jc_0 cI cL ad σ89 τ) rfl 0 (of_decide_eq_true rfl) (hts _ kw_1_16) (fun _ h9 => h9) rfl dX11_worth_83 ?_
            refine va_get (D := D) hx hb hts inlX4 hown hK hP 2 (jc_2 cI cL ad σ89 τ) rfl 1 (of_decide_eq_true rfl) (hts _ kw_12_8) (fun _ h9 => h9) rfl dX11_worth_86 ?_
            have m101 : σ89 2 1 = (σ 2 1) := (congrFun (f91 2 (of_decide_eq_true rfl)) 1)
            refine jtopr m101 ?_
            have I102 : jI2 σ89 := jI2_fr (congrFun (f91 2 (of_decide_eq_true rfl)) 0) (congrFun (f91 2 (of_decide_eq_true rfl)) 1) (congrFun (f91 2 (of_decide_eq_true rfl)) 2) (congrFun (f91 2 (of_decide_eq_true rfl)) 3) (f91 6 (of_decide_eq_true rfl)) (f91 5 (of_decide_eq_true rfl)) hI2
            have I103 : jI16 σ89 := jI16_fr (congrFun (f91 16 (of_decide_eq_true rfl)) 0) (congrFun (f91 16 (of_decide_eq_true rfl)) 1) (congrFun (f91 16 (of_decide_eq_true rfl)) 2) (f91 17 (of_decide_eq_true rfl)) hI16
            have I104 : jI22 σ89 := jI22_fr (congrFun (f91 22 (of_decide_eq_true rfl)) 0) (f91 23 (of_decide_eq_true rfl)) hI22
            have I105 : jI26 σ89 := jI26_fr (congrFun (f91 26 (of_decide_eq_true rfl)) 6) hI26
            exact by
             refine jcallV (As := [.int r30, .int (σ 2 1)]) (rest := []) ⟨hx, hb, hml, hown, hts⟩ hK hP hA hS hZ (c_X11_bestOf l D cI cL ad zz hJ σ89 τ r30 (r30.toInt) rfl (σ 2 1) ((σ 2 1).toInt) rfl I102 I103 I104 I93 I105 p94 p95 p96 p97 p98 p99 (by omega) (by omega)) cw_RX11_226 (jc_0 cI cL ad σ89 τ) rfl ⟨Nat.le_of_ble_eq_true rfl, Nat.le_of_ble_eq_true rfl⟩ rfl rfl rfl hl.1 rfl (Nat.le_of_ble_eq_true rfl) dX11_worth_89 ⟨Nat.zero_le _, Nat.zero_le _⟩ (fun r107 σ106 τ106 H locs h106 hP hS => ?_)
             obtain ⟨rfl, f108, f109, I110, p111, p112, p113, p114, p115, p116, h106⟩ := h106
             refine lv_istore (lv' := [(6, .int r107), (5, .int r90), (4, .int 0), (3, .int r30), (0, .ref (ad 0)), (1, .int a1), (2, .int a2)]) hx hb dX11_worth_92 hl (of_decide_eq_true rfl) rfl (fun ls hl => ?_)
             refine lv_iload_n hx hb dX11_worth_94 rfl (lv_at hl 6 rfl) ?_
             refine lv_if_ne (tgt := 106) hx hb dX11_worth_95 (of_decide_eq_true rfl) (fun c => absurd (jne c t2 jz_0) (by omega)) (fun c118 => ?_)
             have kc118 := jeq c118 t2 jz_0
             refine lv_iload hx hb dX11_worth_98 (lv_at hl 1 rfl) ?_
             refine lv_iload hx hb dX11_worth_100 (lv_at hl 0 rfl) ?_
             have g119 := jrg (rfl : r90.toInt = r90.toInt)
             exact by
              have g120 := jrg (rfl : r107.toInt = r107.toInt)
              refine lv_isub hx hb dX11_worth_102 ?_
              refine lv_topi (fun x121 ex121 => ?_)
              have gx121 := jrg (rfl : x121.toInt = x121.toInt)
              refine lv_goto (tgt := 111) hx hb dX11_worth_103 (of_decide_eq_true rfl) ?_
              exact hret x121 σ106 τ _ _ _ _ rfl ⟨rfl, (fun i hi => ((f108 i hi).trans (f91 i hi))), (fun i hi => ((f109 i hi).trans (f92 i hi))), I110, p111, p112, p113, p114, p115, p116, trivial⟩ hP hS dX11_worth_111
      · have kc28 := jnle c28 rfl jz_8
        refine lv_ldc (v := (-2000000000)) hx hb hown (hts _ kw_9_21) dX11_worth_29 ?_
        exact hret (-2000000000) σ τ _ _ _ _ rfl ⟨rfl, (fun _ _ => rfl), (fun _ _ => rfl), hI31, hs_jN67, hs_jBl, hs_jKb, hs_jKh, hs_jKg, hs_jNz, trivial⟩ hP hS dX11_worth_31
set_option maxHeartbeats 4000000 in
set_option maxRecDepth 100000 in
theorem c_X11_fielded (l : Launch) (D : va_G) (cI cL : ClassId) (ad zz : Nat → Nat) (hJ : jD ad) (σ : Nat → Nat → Int32) (τ : Nat → Nat → Int64) (a1 : Int32) (A1 : Int) (t1 : a1.toInt = A1) (a2 : Int32) (A2 : Int) (t2 : a2.toInt = A2) (hI2 : jI2 σ) (hI16 : jI16 σ) (hI22 : jI22 σ) (hI31 : jI31 σ) (hI26 : jI26 σ) (hs_jN67 : jN67 σ) (hs_jBl : jBl σ) (hs_jKb : jKb σ) (hs_jKh : jKh σ) (hs_jKg : jKg σ) (hs_jNz : jNz σ) : jM l yX11_fielded cX11_fielded 8 (some .int) ({ frames := 7, cells := 0, slots := 0, locals := 184 }) D cI cL ad zz [.ref (ad 0), .int a1, .int a2] σ τ (fun r σ' τ' => τ = τ' ∧ (∀ i : Nat, (i < 24 ∨ 25 < i) ∧ (i < 27 ∨ 37 < i) → σ' i = σ i) ∧ (∀ k : Nat, (k < 8 ∨ 8 < k) ∧ (k < 9 ∨ 9 < k) ∧ (k < 10 ∨ 10 < k) ∧ (k < 11 ∨ 11 < k) ∧ (k < 12 ∨ 12 < k) → σ' 31 k = σ 31 k) ∧ (jI31 σ') ∧ (jN67 σ') ∧ (jBl σ') ∧ (jKb σ') ∧ (jKh σ') ∧ (jKg σ') ∧ (jNz σ') ∧ True) := by
  refine jM.of hJ (by decide +kernel) (nt := .int) rfl (Nat.le_of_ble_eq_true rfl) ?_
  intro p e s m args below meth c Q ls hC hret hl hP
  obtain ⟨hx, hb, hr, hml, hown, hts, hK, -, hlocks, hZ⟩ := hC
  have hown : s.vm.findClass RX11 = some m.cls := hown
  have hS : va_S (jA ad) s.heap s.heap [] := va_S.rf
  have hA : ∀ q, jA ad q → jA ad q := fun _ h => h
  have hl : lv_has ls 8 [(0, .ref (ad 0)), (1, .int a1), (2, .int a2)] := hl
  have g1 := jrg t1
  have g2 := jrg t2
  obtain ⟨i1, i2, i3, i4, i5, w6, w7⟩ : (0 ≤ (σ 2 0).toInt ∧ (σ 2 0).toInt ≤ 4) ∧ (0 ≤ (σ 2 1).toInt ∧ (σ 2 1).toInt ≤ 3) ∧ (0 ≤ (σ 2 2).toInt) ∧ (0 ≤ (σ 2 3).toInt) ∧ ((σ 2 2).toInt + (σ 2 3).toInt ≤ 40) ∧ (∀ k : Nat, k < 40 → 0 ≤ (σ 6 k).toInt ∧ (σ 6 k).toInt ≤ 67) ∧ (∀ k : Nat, k < 4 → 0 ≤ (σ 5 k).toInt ∧ (σ 5 k).toInt ≤ 20) := id hI2
  obtain ⟨i8, i9, i10, w11⟩ : (1 ≤ (σ 16 0).toInt ∧ (σ 16 0).toInt ≤ 8) ∧ (1 ≤ (σ 16 1).toInt ∧ (σ 16 1).toInt ≤ 12) ∧ (0 ≤ (σ 16 2).toInt ∧ (σ 16 2).toInt ≤ 999) ∧ (∀ k : Nat, k < 8 → 0 ≤ (σ 17 k).toInt ∧ (σ 17 k).toInt ≤ 3) := id hI16
  refine lv_iload_n hx hb dX11_fielded_0 rfl (lv_at hl 2 rfl) ?_
  refine lv_iconst (v := 0) hx hb dX11_fielded_1 (of_decide_eq_true rfl) ?_
  refine lv_iconst (v := 1) hx hb dX11_fielded_2 (of_decide_eq_true rfl) ?_
  refine jcallS (As := [.int a2, .int 0, .int 1]) (rest := []) ⟨hx, hb, hml, hown, hts⟩ hK hP hA hS hZ (c_X11_outside l D cI cL ad zz hJ σ τ a2 (A2) t2 0 (0) jz_0 1 (1) jz_1) cw_RX11_94 ⟨Nat.le_of_ble_eq_true rfl, Nat.le_of_ble_eq_true rfl⟩ rfl rfl rfl hl.1 rfl (Nat.le_of_ble_eq_true rfl) dX11_fielded_3 ⟨Nat.zero_le _, Nat.zero_le _⟩ (fun r13 σ12 τ12 H locs h12 hP hS => ?_)
  obtain ⟨⟨rfl, rfl⟩, h12⟩ := h12
  rcases h12 with h14 | h15
  · obtain ⟨q17, k16⟩ := h14
    have q17 := q17.symm
    subst q17
    refine lv_if_ne (tgt := 22) hx hb dX11_fielded_6 (of_decide_eq_true rfl) (fun _ => ?_) (fun c => absurd c (of_decide_eq_true rfl))
    refine lv_iconst (v := (-1)) hx hb dX11_fielded_22 (of_decide_eq_true rfl) ?_
    exact hret (-1) σ τ _ _ _ _ rfl ⟨rfl, (fun _ _ => rfl), (fun _ _ => rfl), hI31, hs_jN67, hs_jBl, hs_jKb, hs_jKh, hs_jKg, hs_jNz, trivial⟩ hP hS dX11_fielded_23
  · obtain ⟨q19, k18⟩ := h15
    have q19 := q19.symm
    subst q19
    refine lv_if_ne (tgt := 22) hx hb dX11_fielded_6 (of_decide_eq_true rfl) (fun c => absurd (of_decide_eq_true rfl) c) (fun _ => ?_)
    refine lv_iload_n hx hb dX11_fielded_9 rfl (lv_at hl 2 rfl) ?_
    refine lv_if_ne (tgt := 24) hx hb dX11_fielded_10 (of_decide_eq_true rfl) (fun c20 => ?_) (fun c20 => ?_)
    · have kc20 := jne c20 t2 jz_0
      refine lv_aload_n hx hb dX11_fielded_24 rfl (lv_at hl 0 rfl) ?_
      refine va_get (D := D) hx hb hts inlX11 hown hK hP 0 (jc_0 cI cL ad σ τ) rfl 2 (of_decide_eq_true rfl) (hts _ kw_2_0) (fun _ h9 => h9) rfl dX11_fielded_25 ?_
      refine va_get (D := D) hx hb hts inlX6 hown hK hP 16 (jc_16 cI cL ad σ τ) rfl 1 (of_decide_eq_true rfl) (hts _ kw_20_5) (fun _ h9 => h9) rfl dX11_fielded_28 ?_
      refine lv_bipush (v := 8) hx hb dX11_fielded_31 (of_decide_eq_true rfl) ?_
      refine lv_icmp_le (tgt := 39) hx hb dX11_fielded_33 (of_decide_eq_true rfl) (fun c21 => ?_) (fun c21 => ?_)
      · have kc21 := jle c21 rfl jz_8
        refine lv_aload_n hx hb dX11_fielded_39 rfl (lv_at hl 0 rfl) ?_
        refine va_get (D := D) hx hb hts inlX11 hown hK hP 0 (jc_0 cI cL ad σ τ) rfl 0 (of_decide_eq_true rfl) (hts _ kw_1_16) (fun _ h9 => h9) rfl dX11_fielded_40 ?_
        refine jcallV (As := []) (rest := []) ⟨hx, hb, hml, hown, hts⟩ hK hP hA hS hZ (c_X4_freshAttack_2 l D cI cL ad zz hJ σ τ hI2) cw_RX11_204 (jc_2 cI cL ad σ τ) rfl ⟨Nat.le_of_ble_eq_true rfl, Nat.le_of_ble_eq_true rfl⟩ rfl rfl rfl hl.1 rfl (Nat.le_of_ble_eq_true rfl) dX11_fielded_43 ⟨Nat.zero_le _, Nat.zero_le _⟩ (fun r23 σ22 τ22 H locs h22 hP hS => ?_)
        obtain ⟨⟨rfl, rfl⟩, w24, w25, h22⟩ := h22
        have h26 := h22
        obtain ⟨q28, k27⟩ := h26
        refine lv_istore_n (lv' := [(3, .int r23), (0, .ref (ad 0)), (1, .int a1), (2, .int a2)]) hx hb dX11_fielded_46 rfl hl (of_decide_eq_true rfl) rfl (fun ls hl => ?_)
        refine lv_iconst (v := 0) hx hb dX11_fielded_47 (of_decide_eq_true rfl) ?_
        refine lv_istore (lv' := [(4, .int 0), (3, .int r23), (0, .ref (ad 0)), (1, .int a1), (2, .int a2)]) hx hb dX11_fielded_48 hl (of_decide_eq_true rfl) rfl (fun ls hl => ?_)
        refine lv_aload_n hx hb dX11_fielded_50 rfl (lv_at hl 2 rfl) ?_
        refine lv_iload_n hx hb dX11_fielded_51 rfl (lv_at hl 1 rfl) ?_
        refine lv_iload_n hx hb dX11_fielded_52 rfl (lv_at hl 4 rfl) ?_
        exact by
         refine lv_if_ne (tgt := 60) hx hb dX11_fielded_53 (of_decide_eq_true rfl) (fun c29 => ?_) (fun c => absurd (jeq c t2 jz_0) (by omega))
         have kc29 := jne c29 t2 jz_0
         refine lv_iconst (v := 0) hx hb dX11_fielded_60 (of_decide_eq_true rfl) ?_
         refine jcallV (As := [.int r23, .int 0]) (rest := []) ⟨hx, hb, hml, hown, hts⟩ hK hP hA hS hZ (c_X11_bestOf l D cI cL ad zz hJ σ τ r23 (r23.toInt) rfl 0 (0) jz_0 hI2 hI16 hI22 hI31 hI26 hs_jN67 hs_jBl hs_jKb hs_jKh hs_jKg hs_jNz (by omega) (by omega)) cw_RX11_226 (jc_0 cI cL ad σ τ) rfl ⟨Nat.le_of_ble_eq_true rfl, Nat.le_of_ble_eq_true rfl⟩ rfl rfl rfl hl.1 rfl (Nat.le_of_ble_eq_true rfl) dX11_fielded_61 ⟨Nat.zero_le _, Nat.zero_le _⟩ (fun r31 σ30 τ30 H locs h30 hP hS => ?_)
         obtain ⟨rfl, f32, f33, I34, p35, p36, p37, p38, p39, p40, h30⟩ := h30
         refine lv_istore (lv' := [(5, .int r31), (4, .int 0), (3, .int r23), (0, .ref (ad 0)), (1, .int a1), (2, .int a2)]) hx hb dX11_fielded_64 hl (of_decide_eq_true rfl) rfl (fun ls hl => ?_)
         refine lv_iload_n hx hb dX11_fielded_66 rfl (lv_at hl 5 rfl) ?_
         refine lv_if_ne (tgt := 73) hx hb dX11_fielded_67 (of_decide_eq_true rfl) (fun c42 => ?_) (fun c => absurd (jeq c t2 jz_0) (by omega))
         have kc42 := jne c42 t2 jz_0
         exact by
          refine lv_iconst (v := 1) hx hb dX11_fielded_73 (of_decide_eq_true rfl) ?_
          refine lv_istore (lv' := [(6, .int 1), (5, .int r31), (4, .int 0), (3, .int r23), (0, .ref (ad 0)), (1, .int a1), (2, .int a2)]) hx hb dX11_fielded_74 hl (of_decide_eq_true rfl) rfl (fun ls hl => ?_)
          have lp43 : ∀ (n44 : Nat) (x45 : Int32) (x46 : Int32) (x47 : Int32) (σ49 : Nat → Nat → Int32) (H : Heap) (locs : List Loc) (ls : Array Slot), (-x47.toInt + 4 : Int) < n44 → 0 ≤ x45.toInt → x45.toInt ≤ 3 → 1 ≤ x47.toInt → x47.toInt ≤ 4 → (∀ i : Nat, (i < 24 ∨ 25 < i) ∧ (i < 27 ∨ 37 < i) → σ49 i = σ30 i) → (∀ k : Nat, (k < 8 ∨ 8 < k) ∧ (k < 9 ∨ 9 < k) ∧ (k < 10 ∨ 10 < k) ∧ (k < 11 ∨ 11 < k) ∧ (k < 12 ∨ 12 < k) → σ49 31 k = σ30 31 k) → jN67 σ49 → jBl σ49 → jKb σ49 → jKh σ49 → jKg σ49 → jNz σ49 → jI31 σ49 → jH D cI cL ad σ49 τ H → va_S (jA ad) s.heap H locs → lv_has ls 8 [(6, .int x47), (5, .int x46), (4, .int x45), (3, .int r23), (0, .ref (ad 0)), (1, .int a1), (2, .int a2)] → W p l e ({ frames := 7, cells := 0, slots := 0, locals := 184 }) s m args below meth c H locs 0 0 Q (F0 m 76 ls []) := by
            intro n44
            induction n44 with
            | zero => intro x45 x46 x47 σ49 H locs ls h51 h52 h53 h54 h55; have gx46 := jrg (rfl : x46.toInt = x46.toInt); exact absurd h51 (by omega)
            | succ n44 ihlp43 =>
              intro x45 x46 x47 σ49 H locs ls h51 h52 h53 h54 h55 f56 f57 p58 p59 p60 p61 p62 p63 p64 hP hS hl
              have gx46 := jrg (rfl : x46.toInt = x46.toInt)
              exact by
               refine lv_iload hx hb dX11_fielded_76 (lv_at hl 0 rfl) ?_
               refine lv_iconst (v := 4) hx hb dX11_fielded_78 (of_decide_eq_true rfl) ?_
               refine lv_icmp_ge (tgt := 112) hx hb dX11_fielded_79 (of_decide_eq_true rfl) (fun c65 => ?_) (fun c65 => ?_)
               · have kc65 := jle c65 jz_4 rfl
                 refine lv_iload hx hb dX11_fielded_112 (lv_at hl 2 rfl) ?_
                 exact hret x45 σ49 τ _ _ _ _ rfl ⟨rfl, (fun i hi => ((f56 i hi).trans (f32 i hi))), (fun i hi => ((f57 i hi).trans (f33 i hi))), p64, p58, p59, p60, p61, p62, p63, trivial⟩ hP hS dX11_fielded_114
               · have kc65 := jnle c65 jz_4 rfl
                 refine lv_aload_n hx hb dX11_fielded_82 rfl (lv_at hl 4 rfl) ?_
                 refine lv_iload_n hx hb dX11_fielded_83 rfl (lv_at hl 3 rfl) ?_
                 refine lv_iload hx hb dX11_fielded_84 (lv_at hl 0 rfl) ?_
                 have I66 : jI2 σ49 := jI2_fr ((congrFun (f56 2 (of_decide_eq_true rfl)) 0).trans (congrFun (f32 2 (of_decide_eq_true rfl)) 0)) ((congrFun (f56 2 (of_decide_eq_true rfl)) 1).trans (congrFun (f32 2 (of_decide_eq_true rfl)) 1)) ((congrFun (f56 2 (of_decide_eq_true rfl)) 2).trans (congrFun (f32 2 (of_decide_eq_true rfl)) 2)) ((congrFun (f56 2 (of_decide_eq_true rfl)) 3).trans (congrFun (f32 2 (of_decide_eq_true rfl)) 3)) ((f56 6 (of_decide_eq_true rfl)).trans (f32 6 (of_decide_eq_true rfl))) ((f56 5 (of_decide_eq_true rfl)).trans (f32 5 (of_decide_eq_true rfl))) hI2
                 have I67 : jI16 σ49 := jI16_fr ((congrFun (f56 16 (of_decide_eq_true rfl)) 0).trans (congrFun (f32 16 (of_decide_eq_true rfl)) 0)) ((congrFun (f56 16 (of_decide_eq_true rfl)) 1).trans (congrFun (f32 16 (of_decide_eq_true rfl)) 1)) ((congrFun (f56 16 (of_decide_eq_true rfl)) 2).trans (congrFun (f32 16 (of_decide_eq_true rfl)) 2)) ((f56 17 (of_decide_eq_true rfl)).trans (f32 17 (of_decide_eq_true rfl))) hI16
                 have I68 : jI22 σ49 := jI22_fr ((congrFun (f56 22 (of_decide_eq_true rfl)) 0).trans (congrFun (f32 22 (of_decide_eq_true rfl)) 0)) ((f56 23 (of_decide_eq_true rfl)).trans (f32 23 (of_decide_eq_true rfl))) hI22
                 have I69 : jI26 σ49 := jI26_fr ((congrFun (f56 26 (of_decide_eq_true rfl)) 6).trans (congrFun (f32 26 (of_decide_eq_true rfl)) 6)) hI26
                 exact by
                  refine jcallV (As := [.int r23, .int x47]) (rest := []) ⟨hx, hb, hml, hown, hts⟩ hK hP hA hS hZ (c_X11_bestOf l D cI cL ad zz hJ σ49 τ r23 (r23.toInt) rfl x47 (x47.toInt) rfl I66 I67 I68 p64 I69 p58 p59 p60 p61 p62 p63 (by omega) (by omega)) cw_RX11_226 (jc_0 cI cL ad σ49 τ) rfl ⟨Nat.le_of_ble_eq_true rfl, Nat.le_of_ble_eq_true rfl⟩ rfl rfl rfl hl.1 rfl (Nat.le_of_ble_eq_true rfl) dX11_fielded_86 ⟨Nat.zero_le _, Nat.zero_le _⟩ (fun r71 σ70 τ70 H locs h70 hP hS => ?_)
                  obtain ⟨rfl, f72, f73, I74, p75, p76, p77, p78, p79, p80, h70⟩ := h70
                  refine lv_istore (lv' := [(7, .int r71), (6, .int x47), (5, .int x46), (4, .int x45), (3, .int r23), (0, .ref (ad 0)), (1, .int a1), (2, .int a2)]) hx hb dX11_fielded_89 hl (of_decide_eq_true rfl) rfl (fun ls hl => ?_)
                  refine lv_iload hx hb dX11_fielded_91 (lv_at hl 0 rfl) ?_
                  refine lv_iload hx hb dX11_fielded_93 (lv_at hl 2 rfl) ?_
                  refine lv_icmp_ge (tgt := 106) hx hb dX11_fielded_95 (of_decide_eq_true rfl) (fun c82 => ?_) (fun c82 => ?_)
                  · have kc82 := jle c82 rfl rfl
                    obtain ⟨x83, ex83⟩ : ∃ y : Int32, y = x47 + 1 := ⟨_, rfl⟩
                    have tx83 : x83.toInt = x47.toInt + 1 := (jadd ex83 rfl jz_1 (by omega) (by omega)).trans (by omega)
                    exact by
                     refine lv_iinc (v := x83) (lv' := [(6, .int x83), (7, .int r71), (5, .int x46), (4, .int x45), (3, .int r23), (0, .ref (ad 0)), (1, .int a1), (2, .int a2)]) hx hb dX11_fielded_106 hl (k := 1) rfl (by rw [ex83]; rfl) (of_decide_eq_true rfl) rfl (fun ls hl => ?_)
                     refine lv_goto (tgt := 76) hx hb dX11_fielded_109 (of_decide_eq_true rfl) ?_
                     exact by exact ihlp43 x45 x46 x83 σ70 _ _ ls (by have h92 := tx83; omega) (by have h92 := tx83; omega) (by have h92 := tx83; omega) (by have h92 := tx83; omega) (by have h92 := tx83; omega) (fun i hi => ((f72 i hi).trans (f56 i hi))) (fun i hi => ((f73 i hi).trans (f57 i hi)))  p75 p76 p77 p78 p79 p80 I74 hP hS (lv_sub hl [0, 2, 3, 4, 5, 6, 7] rfl)
                  · have kc82 := jnle c82 rfl rfl
                    refine lv_iload hx hb dX11_fielded_98 (lv_at hl 1 rfl) ?_
                    refine lv_istore (lv' := [(4, .int x47), (7, .int r71), (6, .int x47), (5, .int x46), (3, .int r23), (0, .ref (ad 0)), (1, .int a1), (2, .int a2)]) hx hb dX11_fielded_100 hl (of_decide_eq_true rfl) rfl (fun ls hl => ?_)
                    refine lv_iload hx hb dX11_fielded_102 (lv_at hl 1 rfl) ?_
                    refine lv_istore (lv' := [(5, .int r71), (4, .int x47), (7, .int r71), (6, .int x47), (3, .int r23), (0, .ref (ad 0)), (1, .int a1), (2, .int a2)]) hx hb dX11_fielded_104 hl (of_decide_eq_true rfl) rfl (fun ls hl => ?_)
                    obtain ⟨x84, ex84⟩ : ∃ y : Int32, y = x47 + 1 := ⟨_, rfl⟩
                    exact by
                     have tx84 : x84.toInt = x47.toInt + 1 := (jadd ex84 rfl jz_1 (by omega) (by omega)).trans (by omega)
                     refine lv_iinc (v := x84) (lv' := [(6, .int x84), (5, .int r71), (4, .int x47), (7, .int r71), (3, .int r23), (0, .ref (ad 0)), (1, .int a1), (2, .int a2)]) hx hb dX11_fielded_106 hl (k := 3) rfl (by rw [ex84]; rfl) (of_decide_eq_true rfl) rfl (fun ls hl => ?_)
                     refine lv_goto (tgt := 76) hx hb dX11_fielded_109 (of_decide_eq_true rfl) ?_
                     exact by exact ihlp43 x47 r71 x84 σ70 _ _ ls (by have h92 := tx84; omega) (by have h92 := tx84; omega) (by have h92 := tx84; omega) (by have h92 := tx84; omega) (by have h92 := tx84; omega) (fun i hi => ((f72 i hi).trans (f56 i hi))) (fun i hi => ((f73 i hi).trans (f57 i hi)))  p75 p76 p77 p78 p79 p80 I74 hP hS (lv_sub hl [0, 1, 2, 4, 5, 6, 7] rfl)
          exact by exact lp43 1000000 0 r31 1 σ30 _ _ ls (by have h90 := jz_0; have h92 := jz_1; omega) (by have h90 := jz_0; have h92 := jz_1; omega) (by have h90 := jz_0; have h92 := jz_1; omega) (by have h90 := jz_0; have h92 := jz_1; omega) (by have h90 := jz_0; have h92 := jz_1; omega) (fun _ _ => rfl) (fun _ _ => rfl)  p35 p36 p37 p38 p39 p40 I34 hP hS hl
      · have kc21 := jnle c21 rfl jz_8
        refine lv_bipush (v := (-4)) hx hb dX11_fielded_36 (of_decide_eq_true rfl) ?_
        exact hret (-4) σ τ _ _ _ _ rfl ⟨rfl, (fun _ _ => rfl), (fun _ _ => rfl), hI31, hs_jN67, hs_jBl, hs_jKb, hs_jKh, hs_jKg, hs_jNz, trivial⟩ hP hS dX11_fielded_38
    · have kc20 := jeq c20 t2 jz_0
      exact by
       refine lv_iload_n hx hb dX11_fielded_13 rfl (lv_at hl 1 rfl) ?_
       refine lv_iconst (v := 0) hx hb dX11_fielded_14 (of_decide_eq_true rfl) ?_
       refine lv_iconst (v := 3) hx hb dX11_fielded_15 (of_decide_eq_true rfl) ?_
       refine jcallS (As := [.int a1, .int 0, .int 3]) (rest := []) ⟨hx, hb, hml, hown, hts⟩ hK hP hA hS hZ (c_X11_outside l D cI cL ad zz hJ σ τ a1 (A1) t1 0 (0) jz_0 3 (3) jz_3) cw_RX11_94 ⟨Nat.le_of_ble_eq_true rfl, Nat.le_of_ble_eq_true rfl⟩ rfl rfl rfl hl.1 rfl (Nat.le_of_ble_eq_true rfl) dX11_fielded_16 ⟨Nat.zero_le _, Nat.zero_le _⟩ (fun r86 σ85 τ85 H locs h85 hP hS => ?_)
       obtain ⟨⟨rfl, rfl⟩, h85⟩ := h85
       rcases h85 with h87 | h88
       · obtain ⟨q90, k89⟩ := h87
         have q90 := q90.symm
         subst q90
         refine lv_if_eq (tgt := 24) hx hb dX11_fielded_19 (of_decide_eq_true rfl) (fun c => absurd c (of_decide_eq_true rfl)) (fun _ => ?_)
         refine lv_iconst (v := (-1)) hx hb dX11_fielded_22 (of_decide_eq_true rfl) ?_
         exact hret (-1) σ τ _ _ _ _ rfl ⟨rfl, (fun _ _ => rfl), (fun _ _ => rfl), hI31, hs_jN67, hs_jBl, hs_jKb, hs_jKh, hs_jKg, hs_jNz, trivial⟩ hP hS dX11_fielded_23
       · obtain ⟨q92, k91⟩ := h88
         have q92 := q92.symm
         subst q92
         refine lv_if_eq (tgt := 24) hx hb dX11_fielded_19 (of_decide_eq_true rfl) (fun _ => ?_) (fun c => absurd (of_decide_eq_true rfl) c)
         refine lv_aload_n hx hb dX11_fielded_24 rfl (lv_at hl 0 rfl) ?_
         refine va_get (D := D) hx hb hts inlX11 hown hK hP 0 (jc_0 cI cL ad σ τ) rfl 2 (of_decide_eq_true rfl) (hts _ kw_2_0) (fun _ h9 => h9) rfl dX11_fielded_25 ?_
         refine va_get (D := D) hx hb hts inlX6 hown hK hP 16 (jc_16 cI cL ad σ τ) rfl 1 (of_decide_eq_true rfl) (hts _ kw_20_5) (fun _ h9 => h9) rfl dX11_fielded_28 ?_
         refine lv_bipush (v := 8) hx hb dX11_fielded_31 (of_decide_eq_true rfl) ?_
         refine lv_icmp_le (tgt := 39) hx hb dX11_fielded_33 (of_decide_eq_true rfl) (fun c93 => ?_) (fun c93 => ?_)
         · have kc93 := jle c93 rfl jz_8
           refine lv_aload_n hx hb dX11_fielded_39 rfl (lv_at hl 0 rfl) ?_
           refine va_get (D := D) hx hb hts inlX11 hown hK hP 0 (jc_0 cI cL ad σ τ) rfl 0 (of_decide_eq_true rfl) (hts _ kw_1_16) (fun _ h9 => h9) rfl dX11_fielded_40 ?_
           refine jcallV (As := []) (rest := []) ⟨hx, hb, hml, hown, hts⟩ hK hP hA hS hZ (c_X4_freshAttack_2 l D cI cL ad zz hJ σ τ hI2) cw_RX11_204 (jc_2 cI cL ad σ τ) rfl ⟨Nat.le_of_ble_eq_true rfl, Nat.le_of_ble_eq_true rfl⟩ rfl rfl rfl hl.1 rfl (Nat.le_of_ble_eq_true rfl) dX11_fielded_43 ⟨Nat.zero_le _, Nat.zero_le _⟩ (fun r95 σ94 τ94 H locs h94 hP hS => ?_)
           obtain ⟨⟨rfl, rfl⟩, w96, w97, h94⟩ := h94
           have h98 := h94
           obtain ⟨q100, k99⟩ := h98
           refine lv_istore_n (lv' := [(3, .int r95), (0, .ref (ad 0)), (1, .int a1), (2, .int a2)]) hx hb dX11_fielded_46 rfl hl (of_decide_eq_true rfl) rfl (fun ls hl => ?_)
           refine lv_iconst (v := 0) hx hb dX11_fielded_47 (of_decide_eq_true rfl) ?_
           refine lv_istore (lv' := [(4, .int 0), (3, .int r95), (0, .ref (ad 0)), (1, .int a1), (2, .int a2)]) hx hb dX11_fielded_48 hl (of_decide_eq_true rfl) rfl (fun ls hl => ?_)
           refine lv_aload_n hx hb dX11_fielded_50 rfl (lv_at hl 2 rfl) ?_
           refine lv_iload_n hx hb dX11_fielded_51 rfl (lv_at hl 1 rfl) ?_
           refine lv_iload_n hx hb dX11_fielded_52 rfl (lv_at hl 4 rfl) ?_
           exact by
            refine lv_if_ne (tgt := 60) hx hb dX11_fielded_53 (of_decide_eq_true rfl) (fun c => absurd (jne c t2 jz_0) (by omega)) (fun c101 => ?_)
            have kc101 := jeq c101 t2 jz_0
            refine lv_iload_n hx hb dX11_fielded_56 rfl (lv_at hl 3 rfl) ?_
            refine lv_goto (tgt := 61) hx hb dX11_fielded_57 (of_decide_eq_true rfl) ?_
            refine jcallV (As := [.int r95, .int a1]) (rest := []) ⟨hx, hb, hml, hown, hts⟩ hK hP hA hS hZ (c_X11_bestOf l D cI cL ad zz hJ σ τ r95 (r95.toInt) rfl a1 (A1) t1 hI2 hI16 hI22 hI31 hI26 hs_jN67 hs_jBl hs_jKb hs_jKh hs_jKg hs_jNz (by omega) (by omega)) cw_RX11_226 (jc_0 cI cL ad σ τ) rfl ⟨Nat.le_of_ble_eq_true rfl, Nat.le_of_ble_eq_true rfl⟩ rfl rfl rfl hl.1 rfl (Nat.le_of_ble_eq_true rfl) dX11_fielded_61 ⟨Nat.zero_le _, Nat.zero_le _⟩ (fun r103 σ102 τ102 H locs h102 hP hS => ?_)
            obtain ⟨rfl, f104, f105, I106, p107, p108, p109, p110, p111, p112, h102⟩ := h102
            refine lv_istore (lv' := [(5, .int r103), (4, .int 0), (3, .int r95), (0, .ref (ad 0)), (1, .int a1), (2, .int a2)]) hx hb dX11_fielded_64 hl (of_decide_eq_true rfl) rfl (fun ls hl => ?_)
            refine lv_iload_n hx hb dX11_fielded_66 rfl (lv_at hl 5 rfl) ?_
            refine lv_if_ne (tgt := 73) hx hb dX11_fielded_67 (of_decide_eq_true rfl) (fun c => absurd (jne c t2 jz_0) (by omega)) (fun c114 => ?_)
            exact by
             have kc114 := jeq c114 t2 jz_0
             refine lv_iload hx hb dX11_fielded_70 (lv_at hl 0 rfl) ?_
             exact hret r103 σ102 τ _ _ _ _ rfl ⟨rfl, (fun i hi => (f104 i hi)), (fun i hi => (f105 i hi)), I106, p107, p108, p109, p110, p111, p112, trivial⟩ hP hS dX11_fielded_72
         · have kc93 := jnle c93 rfl jz_8
           refine lv_bipush (v := (-4)) hx hb dX11_fielded_36 (of_decide_eq_true rfl) ?_
           exact hret (-4) σ τ _ _ _ _ rfl ⟨rfl, (fun _ _ => rfl), (fun _ _ => rfl), hI31, hs_jN67, hs_jBl, hs_jKb, hs_jKh, hs_jKg, hs_jNz, trivial⟩ hP hS dX11_fielded_38
set_option maxHeartbeats 4000000 in
set_option maxRecDepth 100000 in
theorem c_X11_kept (l : Launch) (D : va_G) (cI cL : ClassId) (ad zz : Nat → Nat) (hJ : jD ad) (σ : Nat → Nat → Int32) (τ : Nat → Nat → Int64) (a1 : Int32) (A1 : Int) (t1 : a1.toInt = A1) (hI2 : jI2 σ) (hI16 : jI16 σ) (hI22 : jI22 σ) (hI31 : jI31 σ) (hI26 : jI26 σ) (hs_jN67 : jN67 σ) (hs_jBl : jBl σ) (hs_jKb : jKb σ) (hs_jKh : jKh σ) (hs_jKg : jKg σ) (hs_jNz : jNz σ) (hs_jKh : jKh σ) : jM l yX11_kept cX11_kept 5 (some .int) ({ frames := 7, cells := 0, slots := 0, locals := 184 }) D cI cL ad zz [.ref (ad 0), .int a1] σ τ (fun r σ' τ' => τ = τ' ∧ (∀ i : Nat, (i < 24 ∨ 25 < i) ∧ (i < 27 ∨ 37 < i) → σ' i = σ i) ∧ (∀ k : Nat, (k < 8 ∨ 8 < k) ∧ (k < 9 ∨ 9 < k) ∧ (k < 10 ∨ 10 < k) ∧ (k < 11 ∨ 11 < k) ∧ (k < 12 ∨ 12 < k) → σ' 31 k = σ 31 k) ∧ (jI31 σ') ∧ (jN67 σ') ∧ (jBl σ') ∧ (jKb σ') ∧ (jKh σ') ∧ (jKg σ') ∧ (jNz σ') ∧ (jKh σ') ∧ True) := by
  refine jM.of hJ (by decide +kernel) (nt := .int) rfl (Nat.le_of_ble_eq_true rfl) ?_
  intro p e s m args below meth c Q ls hC hret hl hP
  obtain ⟨hx, hb, hr, hml, hown, hts, hK, -, hlocks, hZ⟩ := hC
  have hown : s.vm.findClass RX11 = some m.cls := hown
  have hS : va_S (jA ad) s.heap s.heap [] := va_S.rf
  have hA : ∀ q, jA ad q → jA ad q := fun _ h => h
  have hl : lv_has ls 5 [(0, .ref (ad 0)), (1, .int a1)] := hl
  have g1 := jrg t1
  obtain ⟨i1, i2, i3, i4, i5, w6, w7⟩ : (0 ≤ (σ 2 0).toInt ∧ (σ 2 0).toInt ≤ 4) ∧ (0 ≤ (σ 2 1).toInt ∧ (σ 2 1).toInt ≤ 3) ∧ (0 ≤ (σ 2 2).toInt) ∧ (0 ≤ (σ 2 3).toInt) ∧ ((σ 2 2).toInt + (σ 2 3).toInt ≤ 40) ∧ (∀ k : Nat, k < 40 → 0 ≤ (σ 6 k).toInt ∧ (σ 6 k).toInt ≤ 67) ∧ (∀ k : Nat, k < 4 → 0 ≤ (σ 5 k).toInt ∧ (σ 5 k).toInt ≤ 20) := id hI2
  obtain ⟨i8, i9, i10, w11⟩ : (1 ≤ (σ 16 0).toInt ∧ (σ 16 0).toInt ≤ 8) ∧ (1 ≤ (σ 16 1).toInt ∧ (σ 16 1).toInt ≤ 12) ∧ (0 ≤ (σ 16 2).toInt ∧ (σ 16 2).toInt ≤ 999) ∧ (∀ k : Nat, k < 8 → 0 ≤ (σ 17 k).toInt ∧ (σ 17 k).toInt ≤ 3) := id hI16
  obtain ⟨i12, i13, i14, i15, w16, w17, w18⟩ : (0 ≤ (σ 31 8).toInt ∧ (σ 31 8).toInt ≤ 350) ∧ (0 ≤ (σ 31 10).toInt ∧ (σ 31 10).toInt ≤ 12) ∧ (0 ≤ (σ 31 11).toInt ∧ (σ 31 11).toInt ≤ 8) ∧ ((σ 31 10).toInt + (σ 31 11).toInt ≤ 12) ∧ (∀ k : Nat, k < 1400 → (-1) ≤ (σ 33 k).toInt ∧ (σ 33 k).toInt ≤ 350) ∧ (∀ k : Nat, k < 3159 → (-1) ≤ (σ 35 k).toInt ∧ (σ 35 k).toInt ≤ 3) ∧ (∀ k : Nat, k < 1024 → 0 ≤ (σ 36 k).toInt ∧ (σ 36 k).toInt ≤ 349) := id hI31
  refine lv_aload_n hx hb dX11_kept_0 rfl (lv_at hl 0 rfl) ?_
  refine lv_iload_n hx hb dX11_kept_1 rfl (lv_at hl 1 rfl) ?_
  refine jcallV (As := [.int a1]) (rest := []) ⟨hx, hb, hml, hown, hts⟩ hK hP hA hS hZ (c_X11_noBowler l D cI cL ad zz hJ σ τ a1 (A1) t1 hI2) cw_RX11_152 (jc_0 cI cL ad σ τ) rfl ⟨Nat.le_of_ble_eq_true rfl, Nat.le_of_ble_eq_true rfl⟩ rfl rfl rfl hl.1 rfl (Nat.le_of_ble_eq_true rfl) dX11_kept_2 ⟨Nat.zero_le _, Nat.zero_le _⟩ (fun r20 σ19 τ19 H locs h19 hP hS => ?_)
  obtain ⟨⟨rfl, rfl⟩, h19⟩ := h19
  rcases h19 with h21 | h22
  · obtain ⟨q24, k23⟩ := h21
    have q24 := q24.symm
    subst q24
    refine lv_if_eq (tgt := 10) hx hb dX11_kept_5 (of_decide_eq_true rfl) (fun c => absurd c (of_decide_eq_true rfl)) (fun _ => ?_)
    refine lv_iconst (v := (-1)) hx hb dX11_kept_8 (of_decide_eq_true rfl) ?_
    exact hret (-1) σ τ _ _ _ _ rfl ⟨rfl, (fun _ _ => rfl), (fun _ _ => rfl), hI31, hs_jN67, hs_jBl, hs_jKb, hs_jKh, hs_jKg, hs_jNz, hs_jKh, trivial⟩ hP hS dX11_kept_9
  · obtain ⟨q26, k25⟩ := h22
    have q26 := q26.symm
    subst q26
    refine lv_if_eq (tgt := 10) hx hb dX11_kept_5 (of_decide_eq_true rfl) (fun _ => ?_) (fun c => absurd (of_decide_eq_true rfl) c)
    refine lv_aload_n hx hb dX11_kept_10 rfl (lv_at hl 0 rfl) ?_
    refine va_get (D := D) hx hb hts inlX11 hown hK hP 0 (jc_0 cI cL ad σ τ) rfl 2 (of_decide_eq_true rfl) (hts _ kw_2_0) (fun _ h9 => h9) rfl dX11_kept_11 ?_
    refine va_get (D := D) hx hb hts inlX6 hown hK hP 16 (jc_16 cI cL ad σ τ) rfl 1 (of_decide_eq_true rfl) (hts _ kw_20_5) (fun _ h9 => h9) rfl dX11_kept_14 ?_
    refine lv_bipush (v := 8) hx hb dX11_kept_17 (of_decide_eq_true rfl) ?_
    refine lv_icmp_le (tgt := 25) hx hb dX11_kept_19 (of_decide_eq_true rfl) (fun c27 => ?_) (fun c27 => ?_)
    · have kc27 := jle c27 rfl jz_8
      refine lv_aload_n hx hb dX11_kept_25 rfl (lv_at hl 0 rfl) ?_
      refine va_get (D := D) hx hb hts inlX11 hown hK hP 0 (jc_0 cI cL ad σ τ) rfl 0 (of_decide_eq_true rfl) (hts _ kw_1_16) (fun _ h9 => h9) rfl dX11_kept_26 ?_
      refine jcallV (As := []) (rest := []) ⟨hx, hb, hml, hown, hts⟩ hK hP hA hS hZ (c_X4_freshAttack_2 l D cI cL ad zz hJ σ τ hI2) cw_RX11_204 (jc_2 cI cL ad σ τ) rfl ⟨Nat.le_of_ble_eq_true rfl, Nat.le_of_ble_eq_true rfl⟩ rfl rfl rfl hl.1 rfl (Nat.le_of_ble_eq_true rfl) dX11_kept_29 ⟨Nat.zero_le _, Nat.zero_le _⟩ (fun r29 σ28 τ28 H locs h28 hP hS => ?_)
      obtain ⟨⟨rfl, rfl⟩, w30, w31, h28⟩ := h28
      have h32 := h28
      obtain ⟨q34, k33⟩ := h32
      refine lv_istore_n (lv' := [(2, .int r29), (0, .ref (ad 0)), (1, .int a1)]) hx hb dX11_kept_32 rfl hl (of_decide_eq_true rfl) rfl (fun ls hl => ?_)
      refine lv_aload_n hx hb dX11_kept_33 rfl (lv_at hl 1 rfl) ?_
      refine lv_iload_n hx hb dX11_kept_34 rfl (lv_at hl 0 rfl) ?_
      refine lv_aload_n hx hb dX11_kept_35 rfl (lv_at hl 1 rfl) ?_
      refine va_get (D := D) hx hb hts inlX11 hown hK hP 0 (jc_0 cI cL ad σ τ) rfl 0 (of_decide_eq_true rfl) (hts _ kw_1_16) (fun _ h9 => h9) rfl dX11_kept_36 ?_
      refine va_get (D := D) hx hb hts inlX4 hown hK hP 2 (jc_2 cI cL ad σ τ) rfl 1 (of_decide_eq_true rfl) (hts _ kw_12_8) (fun _ h9 => h9) rfl dX11_kept_39 ?_
      exact by
       refine jcallV (As := [.int r29, .int (σ 2 1)]) (rest := []) ⟨hx, hb, hml, hown, hts⟩ hK hP hA hS hZ (c_X11_bestOf l D cI cL ad zz hJ σ τ r29 (r29.toInt) rfl (σ 2 1) ((σ 2 1).toInt) rfl hI2 hI16 hI22 hI31 hI26 hs_jN67 hs_jBl hs_jKb hs_jKh hs_jKg hs_jNz (by omega) (by omega)) cw_RX11_226 (jc_0 cI cL ad σ τ) rfl ⟨Nat.le_of_ble_eq_true rfl, Nat.le_of_ble_eq_true rfl⟩ rfl rfl rfl hl.1 rfl (Nat.le_of_ble_eq_true rfl) dX11_kept_42 ⟨Nat.zero_le _, Nat.zero_le _⟩ (fun r36 σ35 τ35 H locs h35 hP hS => ?_)
       obtain ⟨rfl, f37, f38, I39, p40, p41, p42, p43, p44, p45, h35⟩ := h35
       obtain ⟨i47, i48, i49, i50, w51, w52, w53⟩ : (0 ≤ (σ35 31 8).toInt ∧ (σ35 31 8).toInt ≤ 350) ∧ (0 ≤ (σ35 31 10).toInt ∧ (σ35 31 10).toInt ≤ 12) ∧ (0 ≤ (σ35 31 11).toInt ∧ (σ35 31 11).toInt ≤ 8) ∧ ((σ35 31 10).toInt + (σ35 31 11).toInt ≤ 12) ∧ (∀ k : Nat, k < 1400 → (-1) ≤ (σ35 33 k).toInt ∧ (σ35 33 k).toInt ≤ 350) ∧ (∀ k : Nat, k < 3159 → (-1) ≤ (σ35 35 k).toInt ∧ (σ35 35 k).toInt ≤ 3) ∧ (∀ k : Nat, k < 1024 → 0 ≤ (σ35 36 k).toInt ∧ (σ35 36 k).toInt ≤ 349) := id I39
       refine lv_pop hx hb dX11_kept_45 rfl ?_
       refine lv_iconst (v := 0) hx hb dX11_kept_46 (of_decide_eq_true rfl) ?_
       refine lv_istore_n (lv' := [(3, .int 0), (2, .int r29), (0, .ref (ad 0)), (1, .int a1)]) hx hb dX11_kept_47 rfl hl (of_decide_eq_true rfl) rfl (fun ls hl => ?_)
       have z59 : (σ35 16 1).toInt = (σ 16 1).toInt := (congrArg Int32.toInt (show σ35 16 1 = (σ 16 1) from (congrFun (f37 16 (of_decide_eq_true rfl)) 1)))
       have lp54 : ∀ (n55 : Nat) (x56 : Int32) (x57 : Int32) (H : Heap) (locs : List Loc) (ls : Array Slot), ((σ35 16 1).toInt - x57.toInt : Int) < n55 → 0 ≤ x56.toInt → x56.toInt ≤ 134217727 → 0 ≤ x57.toInt → x57.toInt ≤ 12 → x57.toInt ≤ (σ35 16 1).toInt → jH D cI cL ad σ35 τ H → va_S (jA ad) s.heap H locs → lv_has ls 5 [(3, .int x57), (2, .int x56), (0, .ref (ad 0)), (1, .int a1)] → W p l e ({ frames := 7, cells := 0, slots := 0, locals := 184 }) s m args below meth c H locs 0 0 Q (F0 m 48 ls []) := by
         intro n55
         induction n55 with
         | zero => intro x56 x57 H locs ls h61 h62 h63 h64 h65 h66; exact absurd h61 (by omega)
         | succ n55 ihlp54 =>
           intro x56 x57 H locs ls h61 h62 h63 h64 h65 h66 hP hS hl
           exact by
            refine lv_iload_n hx hb dX11_kept_48 rfl (lv_at hl 0 rfl) ?_
            refine lv_aload_n hx hb dX11_kept_49 rfl (lv_at hl 2 rfl) ?_
            refine va_get (D := D) hx hb hts inlX11 hown hK hP 0 (jc_0 cI cL ad σ35 τ) rfl 2 (of_decide_eq_true rfl) (hts _ kw_2_0) (fun _ h9 => h9) rfl dX11_kept_50 ?_
            refine va_get (D := D) hx hb hts inlX6 hown hK hP 16 (jc_16 cI cL ad σ35 τ) rfl 1 (of_decide_eq_true rfl) (hts _ kw_20_5) (fun _ h9 => h9) rfl dX11_kept_53 ?_
            have m68 : σ35 16 1 = (σ 16 1) := (congrFun (f37 16 (of_decide_eq_true rfl)) 1)
            refine jtopr m68 ?_
            refine lv_icmp_ge (tgt := 112) hx hb dX11_kept_56 (of_decide_eq_true rfl) (fun c69 => ?_) (fun c69 => ?_)
            · have kc69 := jle c69 rfl rfl
              refine lv_bipush (v := (-2)) hx hb dX11_kept_112 (of_decide_eq_true rfl) ?_
              exact hret (-2) σ35 τ _ _ _ _ rfl ⟨rfl, (fun i hi => (f37 i hi)), (fun i hi => (f38 i hi)), I39, p40, p41, p42, p43, p44, p45, p43, trivial⟩ hP hS dX11_kept_114
            · have kc69 := jnle c69 rfl rfl
              refine lv_aload_n hx hb dX11_kept_59 rfl (lv_at hl 2 rfl) ?_
              refine va_get (D := D) hx hb hts inlX11 hown hK hP 0 (jc_0 cI cL ad σ35 τ) rfl 2 (of_decide_eq_true rfl) (hts _ kw_2_0) (fun _ h9 => h9) rfl dX11_kept_60 ?_
              refine lv_iload_n hx hb dX11_kept_63 rfl (lv_at hl 0 rfl) ?_
              refine lv_iconst (v := 0) hx hb dX11_kept_64 (of_decide_eq_true rfl) ?_
              refine lv_iload_n hx hb dX11_kept_65 rfl (lv_at hl 1 rfl) ?_
              refine jcallV (As := [.int x57, .int 0, .int x56]) (rest := []) ⟨hx, hb, hml, hown, hts⟩ hK hP hA hS hZ (c_X6_ended_16 l D cI cL ad zz hJ σ35 τ x57 (x57.toInt) rfl 0 (0) jz_0 x56 (x56.toInt) rfl) cw_RX11_190 (jc_16 cI cL ad σ35 τ) rfl ⟨Nat.le_of_ble_eq_true rfl, Nat.le_of_ble_eq_true rfl⟩ rfl rfl rfl hl.1 rfl (Nat.le_of_ble_eq_true rfl) dX11_kept_66 ⟨Nat.zero_le _, Nat.zero_le _⟩ (fun r71 σ70 τ70 H locs h70 hP hS => ?_)
              obtain ⟨⟨rfl, rfl⟩, w72, h70⟩ := h70
              refine lv_if_ne (tgt := 112) hx hb dX11_kept_69 (of_decide_eq_true rfl) (fun c73 => ?_) (fun c73 => ?_)
              · have kc73 := jne c73 rfl jz_0
                refine lv_bipush (v := (-2)) hx hb dX11_kept_112 (of_decide_eq_true rfl) ?_
                exact hret (-2) σ35 τ _ _ _ _ rfl ⟨rfl, (fun i hi => (f37 i hi)), (fun i hi => (f38 i hi)), I39, p40, p41, p42, p43, p44, p45, p43, trivial⟩ hP hS dX11_kept_114
              · have kc73 := jeq c73 rfl jz_0
                refine lv_aload_n hx hb dX11_kept_72 rfl (lv_at hl 2 rfl) ?_
                refine va_get (D := D) hx hb hts inlX11 hown hK hP 0 (jc_0 cI cL ad σ35 τ) rfl 6 (of_decide_eq_true rfl) (hts _ kw_2_13) (fun _ h9 => h9) rfl dX11_kept_73 ?_
                refine lv_aload_n hx hb dX11_kept_76 rfl (lv_at hl 2 rfl) ?_
                refine va_get (D := D) hx hb hts inlX11 hown hK hP 0 (jc_0 cI cL ad σ35 τ) rfl 6 (of_decide_eq_true rfl) (hts _ kw_2_13) (fun _ h9 => h9) rfl dX11_kept_77 ?_
                refine lv_iload_n hx hb dX11_kept_80 rfl (lv_at hl 1 rfl) ?_
                refine lv_iload_n hx hb dX11_kept_81 rfl (lv_at hl 0 rfl) ?_
                exact by
                 refine jcallV (As := [.int x56, .int x57]) (rest := [.ref (ad 31)]) ⟨hx, hb, hml, hown, hts⟩ hK hP hA hS hZ (c_X1_nodeOf_31 l D cI cL ad zz hJ σ35 τ x56 (x56.toInt) rfl x57 (x57.toInt) rfl I39 p43 (by omega) (by omega)) cw_RX11_229 (jc_31 cI cL ad σ35 τ) rfl ⟨Nat.le_of_ble_eq_true rfl, Nat.le_of_ble_eq_true rfl⟩ rfl rfl rfl hl.1 rfl (Nat.le_of_ble_eq_true rfl) dX11_kept_82 ⟨Nat.zero_le _, Nat.zero_le _⟩ (fun r75 σ74 τ74 H locs h74 hP hS => ?_)
                 obtain ⟨⟨rfl, rfl⟩, w76, h74⟩ := h74
                 have h77 := h74
                 obtain ⟨q79, k78⟩ := h77
                 refine lv_iconst (v := 0) hx hb dX11_kept_85 (of_decide_eq_true rfl) ?_
                 have I80 : jI16 σ35 := jI16_fr (congrFun (f37 16 (of_decide_eq_true rfl)) 0) (congrFun (f37 16 (of_decide_eq_true rfl)) 1) (congrFun (f37 16 (of_decide_eq_true rfl)) 2) (f37 17 (of_decide_eq_true rfl)) hI16
                 refine jcallV (As := [.int r75, .int 0]) (rest := []) ⟨hx, hb, hml, hown, hts⟩ hK hP hA hS hZ (c_X1_whomAt_31 l D cI cL ad zz hJ σ35 τ r75 (r75.toInt) rfl 0 (0) jz_0 I80 I39) cw_RX11_218 (jc_31 cI cL ad σ35 τ) rfl ⟨Nat.le_of_ble_eq_true rfl, Nat.le_of_ble_eq_true rfl⟩ rfl rfl rfl hl.1 rfl (Nat.le_of_ble_eq_true rfl) dX11_kept_86 ⟨Nat.zero_le _, Nat.zero_le _⟩ (fun r82 σ81 τ81 H locs h81 hP hS => ?_)
                 obtain ⟨⟨rfl, rfl⟩, w83, h81⟩ := h81
                 have h84 := h81
                 obtain ⟨q86, k85⟩ := h84
                 refine lv_istore (lv' := [(4, .int r82), (3, .int x57), (2, .int x56), (0, .ref (ad 0)), (1, .int a1)]) hx hb dX11_kept_89 hl (of_decide_eq_true rfl) rfl (fun ls hl => ?_)
                 refine lv_iload hx hb dX11_kept_91 (lv_at hl 0 rfl) ?_
                 refine lv_iload_n hx hb dX11_kept_93 rfl (lv_at hl 4 rfl) ?_
                 refine lv_icmp_ne (tgt := 99) hx hb dX11_kept_94 (of_decide_eq_true rfl) (fun c87 => ?_) (fun c87 => ?_)
                 · have kc87 := jne c87 rfl t1
                   refine lv_iload_n hx hb dX11_kept_99 rfl (lv_at hl 2 rfl) ?_
                   refine lv_iload hx hb dX11_kept_100 (lv_at hl 0 rfl) ?_
                   exact by
                    refine jcallS (As := [.int x56, .int r82]) (rest := []) ⟨hx, hb, hml, hown, hts⟩ hK hP hA hS hZ (c_X0_after_r l D cI cL ad zz hJ σ35 τ x56 (x56.toInt) rfl r82 (r82.toInt) rfl (by omega)) cw_RX11_232 ⟨Nat.le_of_ble_eq_true rfl, Nat.le_of_ble_eq_true rfl⟩ rfl rfl rfl hl.1 rfl (Nat.le_of_ble_eq_true rfl) dX11_kept_102 ⟨Nat.zero_le _, Nat.zero_le _⟩ (fun r89 σ88 τ88 H locs h88 hP hS => ?_)
                    obtain ⟨⟨rfl, rfl⟩, w90, w91, h88⟩ := h88
                    have h92 := h88
                    obtain ⟨q94, k93⟩ := h92
                    refine lv_istore_n (lv' := [(2, .int r89), (4, .int r82), (3, .int x57), (0, .ref (ad 0)), (1, .int a1)]) hx hb dX11_kept_105 rfl hl (of_decide_eq_true rfl) rfl (fun ls hl => ?_)
                    obtain ⟨x95, ex95⟩ : ∃ y : Int32, y = x57 + 1 := ⟨_, rfl⟩
                    have tx95 : x95.toInt = x57.toInt + 1 := (jadd ex95 rfl jz_1 (by omega) (by omega)).trans (by omega)
                    refine lv_iinc (v := x95) (lv' := [(3, .int x95), (2, .int r89), (4, .int r82), (0, .ref (ad 0)), (1, .int a1)]) hx hb dX11_kept_106 hl (k := 2) rfl (by rw [ex95]; rfl) (of_decide_eq_true rfl) rfl (fun ls hl => ?_)
                    refine lv_goto (tgt := 48) hx hb dX11_kept_109 (of_decide_eq_true rfl) ?_
                    exact by exact ihlp54 r89 x95 _ _ ls (by have h91 := tx95; omega) (by have h91 := tx95; omega) (by have h91 := tx95; omega) (by have h91 := tx95; omega) (by have h91 := tx95; omega) (by have h91 := tx95; omega)    hP hS (lv_sub hl [0, 1, 3, 4] rfl)
                 · exact by
                    have kc87 := jeq c87 rfl t1
                    refine lv_iload_n hx hb dX11_kept_97 rfl (lv_at hl 1 rfl) ?_
                    exact hret x57 σ35 τ _ _ _ _ rfl ⟨rfl, (fun i hi => (f37 i hi)), (fun i hi => (f38 i hi)), I39, p40, p41, p42, p43, p44, p45, p43, trivial⟩ hP hS dX11_kept_98
       exact by exact lp54 1000000 r29 0 _ _ ls (by have h91 := jz_0; omega) (by have h91 := jz_0; omega) (by have h91 := jz_0; omega) (by have h91 := jz_0; omega) (by have h91 := jz_0; omega) (by have h91 := jz_0; omega)   hP hS hl
    · have kc27 := jnle c27 rfl jz_8
      refine lv_bipush (v := (-4)) hx hb dX11_kept_22 (of_decide_eq_true rfl) ?_
      exact hret (-4) σ τ _ _ _ _ rfl ⟨rfl, (fun _ _ => rfl), (fun _ _ => rfl), hI31, hs_jN67, hs_jBl, hs_jKb, hs_jKh, hs_jKg, hs_jNz, hs_jKh, trivial⟩ hP hS dX11_kept_24
set_option maxHeartbeats 4000000 in
set_option maxRecDepth 100000 in
theorem c_X11_turnOrder (l : Launch) (D : va_G) (cI cL : ClassId) (ad zz : Nat → Nat) (hJ : jD ad) (σ : Nat → Nat → Int32) (τ : Nat → Nat → Int64) (a1 : Int32) (A1 : Int) (t1 : a1.toInt = A1) (hI2 : jI2 σ) (hI16 : jI16 σ) (hI22 : jI22 σ) (hI31 : jI31 σ) (hI0 : jI0 σ) (hI26 : jI26 σ) (hs_jN67 : jN67 σ) (hs_jBl : jBl σ) (hs_jKb : jKb σ) (hs_jKh : jKh σ) (hs_jKg : jKg σ) (hs_jNz : jNz σ) : jM l yX11_turnOrder cX11_turnOrder 9 (some .int) ({ frames := 5, cells := 0, slots := 0, locals := 139 }) D cI cL ad zz [.ref (ad 0), .int a1] σ τ (fun r σ' τ' => τ = τ' ∧ (∀ i : Nat, (i < 1 ∨ 1 < i) ∧ (i < 24 ∨ 25 < i) ∧ (i < 27 ∨ 37 < i) → σ' i = σ i) ∧ (∀ k : Nat, (k < 8 ∨ 8 < k) ∧ (k < 9 ∨ 9 < k) ∧ (k < 10 ∨ 10 < k) ∧ (k < 11 ∨ 11 < k) ∧ (k < 12 ∨ 12 < k) → σ' 31 k = σ 31 k) ∧ (jI31 σ') ∧ (jI0 σ') ∧ (jN67 σ') ∧ (jBl σ') ∧ (jKb σ') ∧ (jKh σ') ∧ (jKg σ') ∧ (jNz σ') ∧ True) := by
  refine jM.of hJ (by decide +kernel) (nt := .int) rfl (Nat.le_of_ble_eq_true rfl) ?_
  intro p e s m args below meth c Q ls hC hret hl hP
  obtain ⟨hx, hb, hr, hml, hown, hts, hK, -, hlocks, hZ⟩ := hC
  have hown : s.vm.findClass RX11 = some m.cls := hown
  have hS : va_S (jA ad) s.heap s.heap [] := va_S.rf
  have hA : ∀ q, jA ad q → jA ad q := fun _ h => h
  have hl : lv_has ls 9 [(0, .ref (ad 0)), (1, .int a1)] := hl
  have g1 := jrg t1
  obtain ⟨i1, i2, i3, i4, i5, w6, w7⟩ : (0 ≤ (σ 2 0).toInt ∧ (σ 2 0).toInt ≤ 4) ∧ (0 ≤ (σ 2 1).toInt ∧ (σ 2 1).toInt ≤ 3) ∧ (0 ≤ (σ 2 2).toInt) ∧ (0 ≤ (σ 2 3).toInt) ∧ ((σ 2 2).toInt + (σ 2 3).toInt ≤ 40) ∧ (∀ k : Nat, k < 40 → 0 ≤ (σ 6 k).toInt ∧ (σ 6 k).toInt ≤ 67) ∧ (∀ k : Nat, k < 4 → 0 ≤ (σ 5 k).toInt ∧ (σ 5 k).toInt ≤ 20) := id hI2
  obtain ⟨i8, i9, i10, w11⟩ : (1 ≤ (σ 16 0).toInt ∧ (σ 16 0).toInt ≤ 8) ∧ (1 ≤ (σ 16 1).toInt ∧ (σ 16 1).toInt ≤ 12) ∧ (0 ≤ (σ 16 2).toInt ∧ (σ 16 2).toInt ≤ 999) ∧ (∀ k : Nat, k < 8 → 0 ≤ (σ 17 k).toInt ∧ (σ 17 k).toInt ≤ 3) := id hI16
  obtain ⟨i12, i13, i14, i15, w16, w17, w18⟩ : (0 ≤ (σ 31 8).toInt ∧ (σ 31 8).toInt ≤ 350) ∧ (0 ≤ (σ 31 10).toInt ∧ (σ 31 10).toInt ≤ 12) ∧ (0 ≤ (σ 31 11).toInt ∧ (σ 31 11).toInt ≤ 8) ∧ ((σ 31 10).toInt + (σ 31 11).toInt ≤ 12) ∧ (∀ k : Nat, k < 1400 → (-1) ≤ (σ 33 k).toInt ∧ (σ 33 k).toInt ≤ 350) ∧ (∀ k : Nat, k < 3159 → (-1) ≤ (σ 35 k).toInt ∧ (σ 35 k).toInt ≤ 3) ∧ (∀ k : Nat, k < 1024 → 0 ≤ (σ 36 k).toInt ∧ (σ 36 k).toInt ≤ 349) := id hI31
  refine lv_aload_n hx hb dX11_turnOrder_0 rfl (lv_at hl 0 rfl) ?_
  refine va_get (D := D) hx hb hts inlX11 hown hK hP 0 (jc_0 cI cL ad σ τ) rfl 0 (of_decide_eq_true rfl) (hts _ kw_1_16) (fun _ h9 => h9) rfl dX11_turnOrder_1 ?_
  refine jcallV (As := []) (rest := []) ⟨hx, hb, hml, hown, hts⟩ hK hP hA hS hZ (c_X4_freshAttack_2 l D cI cL ad zz hJ σ τ hI2) cw_RX11_204 (jc_2 cI cL ad σ τ) rfl ⟨Nat.le_of_ble_eq_true rfl, Nat.le_of_ble_eq_true rfl⟩ rfl rfl rfl hl.1 rfl (Nat.le_of_ble_eq_true rfl) dX11_turnOrder_4 ⟨Nat.zero_le _, Nat.zero_le _⟩ (fun r20 σ19 τ19 H locs h19 hP hS => ?_)
  obtain ⟨⟨rfl, rfl⟩, w21, w22, h19⟩ := h19
  have h23 := h19
  obtain ⟨q25, k24⟩ := h23
  refine lv_istore_n (lv' := [(2, .int r20), (0, .ref (ad 0)), (1, .int a1)]) hx hb dX11_turnOrder_7 rfl hl (of_decide_eq_true rfl) rfl (fun ls hl => ?_)
  refine lv_iconst (v := 0) hx hb dX11_turnOrder_8 (of_decide_eq_true rfl) ?_
  refine lv_istore_n (lv' := [(3, .int 0), (2, .int r20), (0, .ref (ad 0)), (1, .int a1)]) hx hb dX11_turnOrder_9 rfl hl (of_decide_eq_true rfl) rfl (fun ls hl => ?_)
  refine lv_iconst (v := (-1)) hx hb dX11_turnOrder_10 (of_decide_eq_true rfl) ?_
  refine lv_istore (lv' := [(4, .int (-1)), (3, .int 0), (2, .int r20), (0, .ref (ad 0)), (1, .int a1)]) hx hb dX11_turnOrder_11 hl (of_decide_eq_true rfl) rfl (fun ls hl => ?_)
  refine lv_aload_n hx hb dX11_turnOrder_13 rfl (lv_at hl 3 rfl) ?_
  refine va_get (D := D) hx hb hts inlX11 hown hK hP 0 (jc_0 cI cL ad σ τ) rfl 2 (of_decide_eq_true rfl) (hts _ kw_2_0) (fun _ h9 => h9) rfl dX11_turnOrder_14 ?_
  refine va_get (D := D) hx hb hts inlX6 hown hK hP 16 (jc_16 cI cL ad σ τ) rfl 0 (of_decide_eq_true rfl) (hts _ kw_13_12) (fun _ h9 => h9) rfl dX11_turnOrder_17 ?_
  refine lv_iconst (v := 1) hx hb dX11_turnOrder_20 (of_decide_eq_true rfl) ?_
  have g26 := jrg (rfl : (σ 16 0).toInt = (σ 16 0).toInt)
  refine lv_isub hx hb dX11_turnOrder_21 ?_
  refine lv_topi (fun x27 ex27 => ?_)
  exact by
   have tx27 : x27.toInt = (σ 16 0).toInt - 1 := (jsub ex27 rfl jz_1 (by omega) (by omega)).trans (by omega)
   refine lv_istore (lv' := [(5, .int x27), (4, .int (-1)), (3, .int 0), (2, .int r20), (0, .ref (ad 0)), (1, .int a1)]) hx hb dX11_turnOrder_22 hl (of_decide_eq_true rfl) rfl (fun ls hl => ?_)
   refine lv_aload_n hx hb dX11_turnOrder_24 rfl (lv_at hl 4 rfl) ?_
   refine va_get (D := D) hx hb hts inlX11 hown hK hP 0 (jc_0 cI cL ad σ τ) rfl 5 (of_decide_eq_true rfl) (hts _ kw_2_9) (fun _ h9 => h9) rfl dX11_turnOrder_25 ?_
   refine lv_aload_n hx hb dX11_turnOrder_28 rfl (lv_at hl 4 rfl) ?_
   refine va_get (D := D) hx hb hts inlX11 hown hK hP 0 (jc_0 cI cL ad σ τ) rfl 0 (of_decide_eq_true rfl) (hts _ kw_1_16) (fun _ h9 => h9) rfl dX11_turnOrder_29 ?_
   refine va_get (D := D) hx hb hts inlX4 hown hK hP 2 (jc_2 cI cL ad σ τ) rfl 1 (of_decide_eq_true rfl) (hts _ kw_12_8) (fun _ h9 => h9) rfl dX11_turnOrder_32 ?_
   refine jcallVv (As := [.int (σ 2 1)]) (rest := []) ⟨hx, hb, hml, hown, hts⟩ hK hP hA hS hZ (c_X5_lay_26 l D cI cL ad zz hJ σ τ (σ 2 1) ((σ 2 1).toInt) rfl (by omega)) cw_RX11_156 (jc_26 cI cL ad σ τ) rfl ⟨Nat.le_of_ble_eq_true rfl, Nat.le_of_ble_eq_true rfl⟩ rfl rfl rfl hl.1 rfl (Nat.le_of_ble_eq_true rfl) dX11_turnOrder_35 ⟨Nat.zero_le _, Nat.zero_le _⟩ (fun σ28 τ28 H locs h28 hP hS => ?_)
   obtain ⟨rfl, f30, w31, h28⟩ := h28
   exact by
    refine lv_aload_n hx hb dX11_turnOrder_38 rfl (lv_at hl 4 rfl) ?_
    refine va_get (D := D) hx hb hts inlX11 hown hK hP 0 (jc_0 cI cL ad σ28 τ) rfl 2 (of_decide_eq_true rfl) (hts _ kw_2_0) (fun _ h9 => h9) rfl dX11_turnOrder_39 ?_
    refine lv_aload_n hx hb dX11_turnOrder_42 rfl (lv_at hl 4 rfl) ?_
    refine va_get (D := D) hx hb hts inlX11 hown hK hP 0 (jc_0 cI cL ad σ28 τ) rfl 11 (of_decide_eq_true rfl) (hts _ kw_3_7) (fun _ h9 => h9) rfl dX11_turnOrder_43 ?_
    have I33 : jI16 σ28 := jI16_fr (congrFun (f30 16 (of_decide_eq_true rfl)) 0) (congrFun (f30 16 (of_decide_eq_true rfl)) 1) (congrFun (f30 16 (of_decide_eq_true rfl)) 2) (f30 17 (of_decide_eq_true rfl)) hI16
    have I34 : jI0 σ28 := jI0_fr (f30 1 (of_decide_eq_true rfl)) hI0
    refine jcallVv (As := [.ref (ad 1)]) (rest := []) ⟨hx, hb, hml, hown, hts⟩ hK hP hA hS hZ (c_X6_sortDown_16 l D cI cL ad zz hJ σ28 τ I33 I34) cw_RX11_328 (jc_16 cI cL ad σ28 τ) rfl ⟨Nat.le_of_ble_eq_true rfl, Nat.le_of_ble_eq_true rfl⟩ rfl rfl rfl hl.1 rfl (Nat.le_of_ble_eq_true rfl) dX11_turnOrder_46 ⟨Nat.zero_le _, Nat.zero_le _⟩ (fun σ35 τ35 H locs h35 hP hS => ?_)
    obtain ⟨rfl, f37, I38, h35⟩ := h35
    refine lv_iconst (v := 0) hx hb dX11_turnOrder_49 (of_decide_eq_true rfl) ?_
    refine lv_istore (lv' := [(6, .int 0), (5, .int x27), (4, .int (-1)), (3, .int 0), (2, .int r20), (0, .ref (ad 0)), (1, .int a1)]) hx hb dX11_turnOrder_50 hl (of_decide_eq_true rfl) rfl (fun ls hl => ?_)
    have I49 : jI31 σ35 := jI31_fr ((congrFun (f37 31 (of_decide_eq_true rfl)) 8).trans (congrFun (f30 31 (of_decide_eq_true rfl)) 8)) ((congrFun (f37 31 (of_decide_eq_true rfl)) 10).trans (congrFun (f30 31 (of_decide_eq_true rfl)) 10)) ((congrFun (f37 31 (of_decide_eq_true rfl)) 11).trans (congrFun (f30 31 (of_decide_eq_true rfl)) 11)) ((f37 33 (of_decide_eq_true rfl)).trans (f30 33 (of_decide_eq_true rfl))) ((f37 35 (of_decide_eq_true rfl)).trans (f30 35 (of_decide_eq_true rfl))) ((f37 36 (of_decide_eq_true rfl)).trans (f30 36 (of_decide_eq_true rfl))) hI31
    have p51 : jN67 σ35 := jN67.fr ((f37 24 (of_decide_eq_true rfl)).trans (f30 24 (of_decide_eq_true rfl))) hs_jN67
    have p52 : jBl σ35 := jBl.fr ((congrFun (f37 22 (of_decide_eq_true rfl)) 0).trans (congrFun (f30 22 (of_decide_eq_true rfl)) 0)) ((congrFun (f37 22 (of_decide_eq_true rfl)) 1).trans (congrFun (f30 22 (of_decide_eq_true rfl)) 1)) ((f37 23 (of_decide_eq_true rfl)).trans (f30 23 (of_decide_eq_true rfl))) ((congrFun (f37 26 (of_decide_eq_true rfl)) 6).trans (congrFun (f30 26 (of_decide_eq_true rfl)) 6)) ((congrFun (f37 26 (of_decide_eq_true rfl)) 7).trans (congrFun (f30 26 (of_decide_eq_true rfl)) 7)) ((f37 29 (of_decide_eq_true rfl)).trans (f30 29 (of_decide_eq_true rfl))) ((f37 30 (of_decide_eq_true rfl)).trans (f30 30 (of_decide_eq_true rfl))) hs_jBl
    have p53 : jKb σ35 := jKb.fr ((congrFun (f37 31 (of_decide_eq_true rfl)) 8).trans (congrFun (f30 31 (of_decide_eq_true rfl)) 8)) ((congrFun (f37 31 (of_decide_eq_true rfl)) 11).trans (congrFun (f30 31 (of_decide_eq_true rfl)) 11)) ((f37 32 (of_decide_eq_true rfl)).trans (f30 32 (of_decide_eq_true rfl))) hs_jKb
    have p54 : jKh σ35 := jKh.fr ((congrFun (f37 31 (of_decide_eq_true rfl)) 8).trans (congrFun (f30 31 (of_decide_eq_true rfl)) 8)) ((f37 32 (of_decide_eq_true rfl)).trans (f30 32 (of_decide_eq_true rfl))) ((f37 36 (of_decide_eq_true rfl)).trans (f30 36 (of_decide_eq_true rfl))) ((f37 37 (of_decide_eq_true rfl)).trans (f30 37 (of_decide_eq_true rfl))) hs_jKh
    have p55 : jKg σ35 := jKg.fr ((congrFun (f37 31 (of_decide_eq_true rfl)) 8).trans (congrFun (f30 31 (of_decide_eq_true rfl)) 8)) ((congrFun (f37 31 (of_decide_eq_true rfl)) 9).trans (congrFun (f30 31 (of_decide_eq_true rfl)) 9)) ((congrFun (f37 31 (of_decide_eq_true rfl)) 11).trans (congrFun (f30 31 (of_decide_eq_true rfl)) 11)) ((congrFun (f37 31 (of_decide_eq_true rfl)) 12).trans (congrFun (f30 31 (of_decide_eq_true rfl)) 12)) ((f37 32 (of_decide_eq_true rfl)).trans (f30 32 (of_decide_eq_true rfl))) ((f37 33 (of_decide_eq_true rfl)).trans (f30 33 (of_decide_eq_true rfl))) hs_jKg
    have p56 : jNz σ35 := jNz.fr ((f37 34 (of_decide_eq_true rfl)).trans (f30 34 (of_decide_eq_true rfl))) hs_jNz
    have lp40 : ∀ (n41 : Nat) (x42 : Int32) (x43 : Int32) (x44 : Int32) (x45 : Int32) (σ48 : Nat → Nat → Int32) (H : Heap) (locs : List Loc) (ls : Array Slot), (-x45.toInt + 120 : Int) < n41 → 0 ≤ x45.toInt → x45.toInt ≤ 120 → (∀ i : Nat, (i < 1 ∨ 1 < i) ∧ (i < 24 ∨ 25 < i) ∧ (i < 29 ∨ 37 < i) → σ48 i = σ35 i) → (∀ k : Nat, (k < 8 ∨ 8 < k) ∧ (k < 9 ∨ 9 < k) ∧ (k < 10 ∨ 10 < k) ∧ (k < 11 ∨ 11 < k) ∧ (k < 12 ∨ 12 < k) → σ48 31 k = σ35 31 k) → jN67 σ48 → jBl σ48 → jKb σ48 → jKh σ48 → jKg σ48 → jNz σ48 → jI31 σ48 → jI0 σ48 → jH D cI cL ad σ48 τ H → va_S (jA ad) s.heap H locs → lv_has ls 9 [(6, .int x45), (5, .int x44), (4, .int x43), (3, .int x42), (2, .int r20), (0, .ref (ad 0)), (1, .int a1)] → W p l e ({ frames := 5, cells := 0, slots := 0, locals := 139 }) s m args below meth c H locs 0 0 Q (F0 m 52 ls []) := by
      intro n41
      induction n41 with
      | zero => intro x42 x43 x44 x45 σ48 H locs ls h57 h58 h59; have gx42 := jrg (rfl : x42.toInt = x42.toInt); have gx43 := jrg (rfl : x43.toInt = x43.toInt); have gx44 := jrg (rfl : x44.toInt = x44.toInt); exact absurd h57 (by omega)
      | succ n41 ihlp40 =>
        intro x42 x43 x44 x45 σ48 H locs ls h57 h58 h59 f60 f61 p62 p63 p64 p65 p66 p67 p68 p69 hP hS hl
        exact by
         have gx42 := jrg (rfl : x42.toInt = x42.toInt); have gx43 := jrg (rfl : x43.toInt = x43.toInt); have gx44 := jrg (rfl : x44.toInt = x44.toInt)
         obtain ⟨i70, i71, i72, i73, w74, w75, w76⟩ : (0 ≤ (σ48 31 8).toInt ∧ (σ48 31 8).toInt ≤ 350) ∧ (0 ≤ (σ48 31 10).toInt ∧ (σ48 31 10).toInt ≤ 12) ∧ (0 ≤ (σ48 31 11).toInt ∧ (σ48 31 11).toInt ≤ 8) ∧ ((σ48 31 10).toInt + (σ48 31 11).toInt ≤ 12) ∧ (∀ k : Nat, k < 1400 → (-1) ≤ (σ48 33 k).toInt ∧ (σ48 33 k).toInt ≤ 350) ∧ (∀ k : Nat, k < 3159 → (-1) ≤ (σ48 35 k).toInt ∧ (σ48 35 k).toInt ≤ 3) ∧ (∀ k : Nat, k < 1024 → 0 ≤ (σ48 36 k).toInt ∧ (σ48 36 k).toInt ≤ 349) := id p68
         refine lv_iload hx hb dX11_turnOrder_52 (lv_at hl 0 rfl) ?_
         refine lv_bipush (v := 120) hx hb dX11_turnOrder_54 (of_decide_eq_true rfl) ?_
         refine lv_icmp_ge (tgt := 156) hx hb dX11_turnOrder_56 (of_decide_eq_true rfl) (fun c77 => ?_) (fun c77 => ?_)
         · have kc77 := jle c77 jz_120 rfl
           refine lv_iload_n hx hb dX11_turnOrder_156 rfl (lv_at hl 6 rfl) ?_
           refine lv_if_ne (tgt := 164) hx hb dX11_turnOrder_157 (of_decide_eq_true rfl) (fun c78 => ?_) (fun c78 => ?_)
           · have kc78 := jne c78 t1 jz_0
             refine lv_iload hx hb dX11_turnOrder_164 (lv_at hl 2 rfl) ?_
             exact hret x43 σ48 τ _ _ _ _ rfl ⟨rfl, (fun i hi => ((f60 i (imp_137 i hi)).trans ((f37 i (imp_138 i hi)).trans (f30 i (imp_139 i hi))))), (fun i hi => ((f61 i hi).trans ((congrFun (f37 31 (of_decide_eq_true rfl)) i).trans (congrFun (f30 31 (of_decide_eq_true rfl)) i)))), p68, p69, p62, p63, p64, p65, p66, p67, trivial⟩ hP hS dX11_turnOrder_166
           · have kc78 := jeq c78 t1 jz_0
             refine lv_iload_n hx hb dX11_turnOrder_160 rfl (lv_at hl 3 rfl) ?_
             refine lv_goto (tgt := 166) hx hb dX11_turnOrder_161 (of_decide_eq_true rfl) ?_
             exact hret x42 σ48 τ _ _ _ _ rfl ⟨rfl, (fun i hi => ((f60 i (imp_137 i hi)).trans ((f37 i (imp_138 i hi)).trans (f30 i (imp_139 i hi))))), (fun i hi => ((f61 i hi).trans ((congrFun (f37 31 (of_decide_eq_true rfl)) i).trans (congrFun (f30 31 (of_decide_eq_true rfl)) i)))), p68, p69, p62, p63, p64, p65, p66, p67, trivial⟩ hP hS dX11_turnOrder_166
         · have kc77 := jnle c77 jz_120 rfl
           refine lv_iload hx hb dX11_turnOrder_59 (lv_at hl 1 rfl) ?_
           refine lv_if_lt (tgt := 156) hx hb dX11_turnOrder_61 (of_decide_eq_true rfl) (fun c79 => ?_) (fun c79 => ?_)
           · have kc79 := jlt c79 rfl jz_0
             refine lv_iload_n hx hb dX11_turnOrder_156 rfl (lv_at hl 6 rfl) ?_
             refine lv_if_ne (tgt := 164) hx hb dX11_turnOrder_157 (of_decide_eq_true rfl) (fun c80 => ?_) (fun c80 => ?_)
             · have kc80 := jne c80 t1 jz_0
               refine lv_iload hx hb dX11_turnOrder_164 (lv_at hl 2 rfl) ?_
               exact hret x43 σ48 τ _ _ _ _ rfl ⟨rfl, (fun i hi => ((f60 i (imp_137 i hi)).trans ((f37 i (imp_138 i hi)).trans (f30 i (imp_139 i hi))))), (fun i hi => ((f61 i hi).trans ((congrFun (f37 31 (of_decide_eq_true rfl)) i).trans (congrFun (f30 31 (of_decide_eq_true rfl)) i)))), p68, p69, p62, p63, p64, p65, p66, p67, trivial⟩ hP hS dX11_turnOrder_166
             · have kc80 := jeq c80 t1 jz_0
               refine lv_iload_n hx hb dX11_turnOrder_160 rfl (lv_at hl 3 rfl) ?_
               refine lv_goto (tgt := 166) hx hb dX11_turnOrder_161 (of_decide_eq_true rfl) ?_
               exact hret x42 σ48 τ _ _ _ _ rfl ⟨rfl, (fun i hi => ((f60 i (imp_137 i hi)).trans ((f37 i (imp_138 i hi)).trans (f30 i (imp_139 i hi))))), (fun i hi => ((f61 i hi).trans ((congrFun (f37 31 (of_decide_eq_true rfl)) i).trans (congrFun (f30 31 (of_decide_eq_true rfl)) i)))), p68, p69, p62, p63, p64, p65, p66, p67, trivial⟩ hP hS dX11_turnOrder_166
           · have kc79 := jnlt c79 rfl jz_0
             refine lv_aload_n hx hb dX11_turnOrder_64 rfl (lv_at hl 5 rfl) ?_
             refine va_get (D := D) hx hb hts inlX11 hown hK hP 0 (jc_0 cI cL ad σ48 τ) rfl 6 (of_decide_eq_true rfl) (hts _ kw_2_13) (fun _ h9 => h9) rfl dX11_turnOrder_65 ?_
             refine lv_aload_n hx hb dX11_turnOrder_68 rfl (lv_at hl 5 rfl) ?_
             refine va_get (D := D) hx hb hts inlX11 hown hK hP 0 (jc_0 cI cL ad σ48 τ) rfl 11 (of_decide_eq_true rfl) (hts _ kw_3_7) (fun _ h9 => h9) rfl dX11_turnOrder_69 ?_
             refine lv_iload_n hx hb dX11_turnOrder_72 rfl (lv_at hl 4 rfl) ?_
             refine lv_iconst (v := 0) hx hb dX11_turnOrder_73 (of_decide_eq_true rfl) ?_
             refine lv_iconst (v := 0) hx hb dX11_turnOrder_74 (of_decide_eq_true rfl) ?_
             refine lv_iload hx hb dX11_turnOrder_75 (lv_at hl 1 rfl) ?_
             have I81 : jI16 σ48 := jI16_fr ((congrFun (f60 16 (of_decide_eq_true rfl)) 0).trans (congrFun (f37 16 (of_decide_eq_true rfl)) 0)) ((congrFun (f60 16 (of_decide_eq_true rfl)) 1).trans (congrFun (f37 16 (of_decide_eq_true rfl)) 1)) ((congrFun (f60 16 (of_decide_eq_true rfl)) 2).trans (congrFun (f37 16 (of_decide_eq_true rfl)) 2)) ((f60 17 (of_decide_eq_true rfl)).trans (f37 17 (of_decide_eq_true rfl))) I33
             have I82 : jI22 σ48 := jI22_fr ((congrFun (f60 22 (of_decide_eq_true rfl)) 0).trans ((congrFun (f37 22 (of_decide_eq_true rfl)) 0).trans (congrFun (f30 22 (of_decide_eq_true rfl)) 0))) ((f60 23 (of_decide_eq_true rfl)).trans ((f37 23 (of_decide_eq_true rfl)).trans (f30 23 (of_decide_eq_true rfl)))) hI22
             have I83 : jI26 σ48 := jI26_fr ((congrFun (f60 26 (of_decide_eq_true rfl)) 6).trans ((congrFun (f37 26 (of_decide_eq_true rfl)) 6).trans (congrFun (f30 26 (of_decide_eq_true rfl)) 6))) hI26
             have z84 : (σ48 16 1).toInt = (σ 16 1).toInt := (congrArg Int32.toInt (show σ48 16 1 = (σ 16 1) from ((congrFun (f60 16 (of_decide_eq_true rfl)) 1).trans ((congrFun (f37 16 (of_decide_eq_true rfl)) 1).trans (congrFun (f30 16 (of_decide_eq_true rfl)) 1)))))
             exact by
              refine jcallVv (As := [.ref (ad 1), .int r20, .int 0, .int 0, .int x44]) (rest := []) ⟨hx, hb, hml, hown, hts⟩ hK hP hA hS hZ (c_X1_seekFor_31_v1 l D cI cL ad zz hJ σ48 τ r20 (r20.toInt) rfl 0 (0) jz_0 0 (0) jz_0 x44 (x44.toInt) rfl I81 I82 p68 p69 I83 p62 p63 p64 p65 p66 p67 (by omega) (by omega) (by omega)) cw_RX11_332 (jc_31 cI cL ad σ48 τ) rfl ⟨Nat.le_of_ble_eq_true rfl, Nat.le_of_ble_eq_true rfl⟩ rfl rfl rfl hl.1 rfl (Nat.le_of_ble_eq_true rfl) dX11_turnOrder_77 ⟨Nat.zero_le _, Nat.zero_le _⟩ (fun σ85 τ85 H locs h85 hP hS => ?_)
              obtain ⟨rfl, f87, f88, I89, p90, p91, p92, p93, p94, p95, h85⟩ := h85
              obtain ⟨i97, i98, i99, i100, w101, w102, w103⟩ : (0 ≤ (σ85 31 8).toInt ∧ (σ85 31 8).toInt ≤ 350) ∧ (0 ≤ (σ85 31 10).toInt ∧ (σ85 31 10).toInt ≤ 12) ∧ (0 ≤ (σ85 31 11).toInt ∧ (σ85 31 11).toInt ≤ 8) ∧ ((σ85 31 10).toInt + (σ85 31 11).toInt ≤ 12) ∧ (∀ k : Nat, k < 1400 → (-1) ≤ (σ85 33 k).toInt ∧ (σ85 33 k).toInt ≤ 350) ∧ (∀ k : Nat, k < 3159 → (-1) ≤ (σ85 35 k).toInt ∧ (σ85 35 k).toInt ≤ 3) ∧ (∀ k : Nat, k < 1024 → 0 ≤ (σ85 36 k).toInt ∧ (σ85 36 k).toInt ≤ 349) := id I89
              obtain ⟨k104, k105, k106, h85⟩ := h85
              refine lv_aload_n hx hb dX11_turnOrder_80 rfl (lv_at hl 5 rfl) ?_
              refine va_get (D := D) hx hb hts inlX11 hown hK hP 0 (jc_0 cI cL ad σ85 τ) rfl 6 (of_decide_eq_true rfl) (hts _ kw_2_13) (fun _ h9 => h9) rfl dX11_turnOrder_81 ?_
              refine lv_iconst (v := 0) hx hb dX11_turnOrder_84 (of_decide_eq_true rfl) ?_
              refine lv_iconst (v := 0) hx hb dX11_turnOrder_85 (of_decide_eq_true rfl) ?_
              have I107 : jI16 σ85 := jI16_fr (congrFun (f87 16 (of_decide_eq_true rfl)) 0) (congrFun (f87 16 (of_decide_eq_true rfl)) 1) (congrFun (f87 16 (of_decide_eq_true rfl)) 2) (f87 17 (of_decide_eq_true rfl)) I81
              refine jcallV (As := [.int 0, .int 0]) (rest := []) ⟨hx, hb, hml, hown, hts⟩ hK hP hA hS hZ (c_X1_valueAt_31 l D cI cL ad zz hJ σ85 τ 0 (0) jz_0 0 (0) jz_0 I107 I89) cw_RX11_215 (jc_31 cI cL ad σ85 τ) rfl ⟨Nat.le_of_ble_eq_true rfl, Nat.le_of_ble_eq_true rfl⟩ rfl rfl rfl hl.1 rfl (Nat.le_of_ble_eq_true rfl) dX11_turnOrder_86 ⟨Nat.zero_le _, Nat.zero_le _⟩ (fun r109 σ108 τ108 H locs h108 hP hS => ?_)
              obtain ⟨⟨rfl, rfl⟩, w110, h108⟩ := h108
              refine lv_istore (lv' := [(7, .int r109), (6, .int x45), (5, .int x44), (4, .int x43), (3, .int x42), (2, .int r20), (0, .ref (ad 0)), (1, .int a1)]) hx hb dX11_turnOrder_89 hl (of_decide_eq_true rfl) rfl (fun ls hl => ?_)
              refine lv_aload_n hx hb dX11_turnOrder_91 rfl (lv_at hl 6 rfl) ?_
              refine va_get (D := D) hx hb hts inlX11 hown hK hP 0 (jc_0 cI cL ad σ85 τ) rfl 11 (of_decide_eq_true rfl) (hts _ kw_3_7) (fun _ h9 => h9) rfl dX11_turnOrder_92 ?_
              refine lv_aload_n hx hb dX11_turnOrder_95 rfl (lv_at hl 6 rfl) ?_
              refine va_get (D := D) hx hb hts inlX11 hown hK hP 0 (jc_0 cI cL ad σ85 τ) rfl 2 (of_decide_eq_true rfl) (hts _ kw_2_0) (fun _ h9 => h9) rfl dX11_turnOrder_96 ?_
              refine va_get (D := D) hx hb hts inlX6 hown hK hP 16 (jc_16 cI cL ad σ85 τ) rfl 0 (of_decide_eq_true rfl) (hts _ kw_13_12) (fun _ h9 => h9) rfl dX11_turnOrder_99 ?_
              have m111 : σ85 16 0 = (σ 16 0) := ((congrFun (f87 16 (of_decide_eq_true rfl)) 0).trans ((congrFun (f60 16 (of_decide_eq_true rfl)) 0).trans ((congrFun (f37 16 (of_decide_eq_true rfl)) 0).trans (congrFun (f30 16 (of_decide_eq_true rfl)) 0))))
              refine jtopr m111 ?_
              have I112 : jI0 σ85 := jI0_fr (f87 1 (of_decide_eq_true rfl)) p69
              refine jcallS (As := [.ref (ad 1), .int (σ 16 0)]) (rest := []) ⟨hx, hb, hml, hown, hts⟩ hK hP hA hS hZ (c_X6_digits l D cI cL ad zz hJ σ85 τ (σ 16 0) ((σ 16 0).toInt) rfl I112) cw_RX11_336 ⟨Nat.le_of_ble_eq_true rfl, Nat.le_of_ble_eq_true rfl⟩ rfl rfl rfl hl.1 rfl (Nat.le_of_ble_eq_true rfl) dX11_turnOrder_102 ⟨Nat.zero_le _, Nat.zero_le _⟩ (fun r114 σ113 τ113 H locs h113 hP hS => ?_)
              obtain ⟨⟨rfl, rfl⟩, h113⟩ := h113
              refine lv_istore (lv' := [(8, .int r114), (7, .int r109), (6, .int x45), (5, .int x44), (4, .int x43), (3, .int x42), (2, .int r20), (0, .ref (ad 0)), (1, .int a1)]) hx hb dX11_turnOrder_105 hl (of_decide_eq_true rfl) rfl (fun ls hl => ?_)
              refine lv_iload hx hb dX11_turnOrder_107 (lv_at hl 1 rfl) ?_
              refine lv_iload hx hb dX11_turnOrder_109 (lv_at hl 4 rfl) ?_
              refine lv_icmp_gt (tgt := 127) hx hb dX11_turnOrder_111 (of_decide_eq_true rfl) (fun c115 => ?_) (fun c115 => ?_)
              · have kc115 := jlt c115 rfl rfl
                refine lv_iload hx hb dX11_turnOrder_127 (lv_at hl 1 rfl) ?_
                refine lv_istore (lv' := [(4, .int r109), (8, .int r114), (7, .int r109), (6, .int x45), (5, .int x44), (3, .int x42), (2, .int r20), (0, .ref (ad 0)), (1, .int a1)]) hx hb dX11_turnOrder_129 hl (of_decide_eq_true rfl) rfl (fun ls hl => ?_)
                refine lv_iload hx hb dX11_turnOrder_131 (lv_at hl 1 rfl) ?_
                refine lv_istore_n (lv' := [(3, .int r114), (4, .int r109), (8, .int r114), (7, .int r109), (6, .int x45), (5, .int x44), (2, .int r20), (0, .ref (ad 0)), (1, .int a1)]) hx hb dX11_turnOrder_133 rfl hl (of_decide_eq_true rfl) rfl (fun ls hl => ?_)
                refine lv_aload_n hx hb dX11_turnOrder_134 rfl (lv_at hl 7 rfl) ?_
                refine va_get (D := D) hx hb hts inlX11 hown hK hP 0 (jc_0 cI cL ad σ85 τ) rfl 11 (of_decide_eq_true rfl) (hts _ kw_3_7) (fun _ h9 => h9) rfl dX11_turnOrder_135 ?_
                refine lv_aload_n hx hb dX11_turnOrder_138 rfl (lv_at hl 7 rfl) ?_
                refine va_get (D := D) hx hb hts inlX11 hown hK hP 0 (jc_0 cI cL ad σ85 τ) rfl 2 (of_decide_eq_true rfl) (hts _ kw_2_0) (fun _ h9 => h9) rfl dX11_turnOrder_139 ?_
                refine va_get (D := D) hx hb hts inlX6 hown hK hP 16 (jc_16 cI cL ad σ85 τ) rfl 0 (of_decide_eq_true rfl) (hts _ kw_13_12) (fun _ h9 => h9) rfl dX11_turnOrder_142 ?_
                refine jtopr m111 ?_
                exact by
                 refine jcallS (As := [.ref (ad 1), .int (σ 16 0)]) (rest := []) ⟨hx, hb, hml, hown, hts⟩ hK hP hA hS hZ (c_X6_turnOn l D cI cL ad zz hJ σ85 τ (σ 16 0) ((σ 16 0).toInt) rfl I112 (by omega)) cw_RX11_340 ⟨Nat.le_of_ble_eq_true rfl, Nat.le_of_ble_eq_true rfl⟩ rfl rfl rfl hl.1 rfl (Nat.le_of_ble_eq_true rfl) dX11_turnOrder_145 ⟨Nat.zero_le _, Nat.zero_le _⟩ (fun r117 σ116 τ116 H locs h116 hP hS => ?_)
                 obtain ⟨rfl, f118, I119, h116⟩ := h116
                 refine lv_istore (lv' := [(5, .int r117), (3, .int r114), (4, .int r109), (8, .int r114), (7, .int r109), (6, .int x45), (2, .int r20), (0, .ref (ad 0)), (1, .int a1)]) hx hb dX11_turnOrder_148 hl (of_decide_eq_true rfl) rfl (fun ls hl => ?_)
                 obtain ⟨x121, ex121⟩ : ∃ y : Int32, y = x45 + 1 := ⟨_, rfl⟩
                 have tx121 : x121.toInt = x45.toInt + 1 := (jadd ex121 rfl jz_1 (by omega) (by omega)).trans (by omega)
                 refine lv_iinc (v := x121) (lv' := [(6, .int x121), (5, .int r117), (3, .int r114), (4, .int r109), (8, .int r114), (7, .int r109), (2, .int r20), (0, .ref (ad 0)), (1, .int a1)]) hx hb dX11_turnOrder_150 hl (k := 5) rfl (by rw [ex121]; rfl) (of_decide_eq_true rfl) rfl (fun ls hl => ?_)
                 refine lv_goto (tgt := 52) hx hb dX11_turnOrder_153 (of_decide_eq_true rfl) ?_
                 have p122 : jN67 σ116 := jN67.fr (f118 24 (of_decide_eq_true rfl)) p90
                 have p123 : jBl σ116 := jBl.fr (congrFun (f118 22 (of_decide_eq_true rfl)) 0) (congrFun (f118 22 (of_decide_eq_true rfl)) 1) (f118 23 (of_decide_eq_true rfl)) (congrFun (f118 26 (of_decide_eq_true rfl)) 6) (congrFun (f118 26 (of_decide_eq_true rfl)) 7) (f118 29 (of_decide_eq_true rfl)) (f118 30 (of_decide_eq_true rfl)) p91
                 exact by
                  have p124 : jKb σ116 := jKb.fr (congrFun (f118 31 (of_decide_eq_true rfl)) 8) (congrFun (f118 31 (of_decide_eq_true rfl)) 11) (f118 32 (of_decide_eq_true rfl)) p92
                  have p125 : jKh σ116 := jKh.fr (congrFun (f118 31 (of_decide_eq_true rfl)) 8) (f118 32 (of_decide_eq_true rfl)) (f118 36 (of_decide_eq_true rfl)) (f118 37 (of_decide_eq_true rfl)) p93
                  have p126 : jKg σ116 := jKg.fr (congrFun (f118 31 (of_decide_eq_true rfl)) 8) (congrFun (f118 31 (of_decide_eq_true rfl)) 9) (congrFun (f118 31 (of_decide_eq_true rfl)) 11) (congrFun (f118 31 (of_decide_eq_true rfl)) 12) (f118 32 (of_decide_eq_true rfl)) (f118 33 (of_decide_eq_true rfl)) p94
                  have p127 : jNz σ116 := jNz.fr (f118 34 (of_decide_eq_true rfl)) p95
                  have I128 : jI31 σ116 := jI31_fr (congrFun (f118 31 (of_decide_eq_true rfl)) 8) (congrFun (f118 31 (of_decide_eq_true rfl)) 10) (congrFun (f118 31 (of_decide_eq_true rfl)) 11) (f118 33 (of_decide_eq_true rfl)) (f118 35 (of_decide_eq_true rfl)) (f118 36 (of_decide_eq_true rfl)) I89
                  exact by exact ihlp40 r114 r109 r117 x121 σ116 _ _ ls (by have h93 := tx121; omega) (by have h93 := tx121; omega) (by have h93 := tx121; omega) (fun i hi => ((f118 i (imp_140 i hi)).trans ((f87 i (imp_141 i hi)).trans (f60 i hi)))) (fun i hi => ((congrFun (f118 31 (of_decide_eq_true rfl)) i).trans ((f88 i hi).trans (f61 i hi))))  p122 p123 p124 p125 p126 p127 I128 I119 hP hS (lv_sub hl [0, 1, 3, 2, 6, 7, 8] rfl)
              · have kc115 := jnlt c115 rfl rfl
                refine lv_iload hx hb dX11_turnOrder_114 (lv_at hl 1 rfl) ?_
                refine lv_iload hx hb dX11_turnOrder_116 (lv_at hl 4 rfl) ?_
                refine lv_icmp_ne (tgt := 134) hx hb dX11_turnOrder_118 (of_decide_eq_true rfl) (fun c129 => ?_) (fun c129 => ?_)
                · have kc129 := jne c129 rfl rfl
                  refine lv_aload_n hx hb dX11_turnOrder_134 rfl (lv_at hl 7 rfl) ?_
                  refine va_get (D := D) hx hb hts inlX11 hown hK hP 0 (jc_0 cI cL ad σ85 τ) rfl 11 (of_decide_eq_true rfl) (hts _ kw_3_7) (fun _ h9 => h9) rfl dX11_turnOrder_135 ?_
                  refine lv_aload_n hx hb dX11_turnOrder_138 rfl (lv_at hl 7 rfl) ?_
                  refine va_get (D := D) hx hb hts inlX11 hown hK hP 0 (jc_0 cI cL ad σ85 τ) rfl 2 (of_decide_eq_true rfl) (hts _ kw_2_0) (fun _ h9 => h9) rfl dX11_turnOrder_139 ?_
                  refine va_get (D := D) hx hb hts inlX6 hown hK hP 16 (jc_16 cI cL ad σ85 τ) rfl 0 (of_decide_eq_true rfl) (hts _ kw_13_12) (fun _ h9 => h9) rfl dX11_turnOrder_142 ?_
                  refine jtopr m111 ?_
                  exact by
                   refine jcallS (As := [.ref (ad 1), .int (σ 16 0)]) (rest := []) ⟨hx, hb, hml, hown, hts⟩ hK hP hA hS hZ (c_X6_turnOn l D cI cL ad zz hJ σ85 τ (σ 16 0) ((σ 16 0).toInt) rfl I112 (by omega)) cw_RX11_340 ⟨Nat.le_of_ble_eq_true rfl, Nat.le_of_ble_eq_true rfl⟩ rfl rfl rfl hl.1 rfl (Nat.le_of_ble_eq_true rfl) dX11_turnOrder_145 ⟨Nat.zero_le _, Nat.zero_le _⟩ (fun r131 σ130 τ130 H locs h130 hP hS => ?_)
                   obtain ⟨rfl, f132, I133, h130⟩ := h130
                   refine lv_istore (lv' := [(5, .int r131), (8, .int r114), (7, .int r109), (6, .int x45), (4, .int x43), (3, .int x42), (2, .int r20), (0, .ref (ad 0)), (1, .int a1)]) hx hb dX11_turnOrder_148 hl (of_decide_eq_true rfl) rfl (fun ls hl => ?_)
                   obtain ⟨x135, ex135⟩ : ∃ y : Int32, y = x45 + 1 := ⟨_, rfl⟩
                   have tx135 : x135.toInt = x45.toInt + 1 := (jadd ex135 rfl jz_1 (by omega) (by omega)).trans (by omega)
                   refine lv_iinc (v := x135) (lv' := [(6, .int x135), (5, .int r131), (8, .int r114), (7, .int r109), (4, .int x43), (3, .int x42), (2, .int r20), (0, .ref (ad 0)), (1, .int a1)]) hx hb dX11_turnOrder_150 hl (k := 3) rfl (by rw [ex135]; rfl) (of_decide_eq_true rfl) rfl (fun ls hl => ?_)
                   refine lv_goto (tgt := 52) hx hb dX11_turnOrder_153 (of_decide_eq_true rfl) ?_
                   have p136 : jN67 σ130 := jN67.fr (f132 24 (of_decide_eq_true rfl)) p90
                   have p137 : jBl σ130 := jBl.fr (congrFun (f132 22 (of_decide_eq_true rfl)) 0) (congrFun (f132 22 (of_decide_eq_true rfl)) 1) (f132 23 (of_decide_eq_true rfl)) (congrFun (f132 26 (of_decide_eq_true rfl)) 6) (congrFun (f132 26 (of_decide_eq_true rfl)) 7) (f132 29 (of_decide_eq_true rfl)) (f132 30 (of_decide_eq_true rfl)) p91
                   exact by
                    have p138 : jKb σ130 := jKb.fr (congrFun (f132 31 (of_decide_eq_true rfl)) 8) (congrFun (f132 31 (of_decide_eq_true rfl)) 11) (f132 32 (of_decide_eq_true rfl)) p92
                    have p139 : jKh σ130 := jKh.fr (congrFun (f132 31 (of_decide_eq_true rfl)) 8) (f132 32 (of_decide_eq_true rfl)) (f132 36 (of_decide_eq_true rfl)) (f132 37 (of_decide_eq_true rfl)) p93
                    have p140 : jKg σ130 := jKg.fr (congrFun (f132 31 (of_decide_eq_true rfl)) 8) (congrFun (f132 31 (of_decide_eq_true rfl)) 9) (congrFun (f132 31 (of_decide_eq_true rfl)) 11) (congrFun (f132 31 (of_decide_eq_true rfl)) 12) (f132 32 (of_decide_eq_true rfl)) (f132 33 (of_decide_eq_true rfl)) p94
                    have p141 : jNz σ130 := jNz.fr (f132 34 (of_decide_eq_true rfl)) p95
                    have I142 : jI31 σ130 := jI31_fr (congrFun (f132 31 (of_decide_eq_true rfl)) 8) (congrFun (f132 31 (of_decide_eq_true rfl)) 10) (congrFun (f132 31 (of_decide_eq_true rfl)) 11) (f132 33 (of_decide_eq_true rfl)) (f132 35 (of_decide_eq_true rfl)) (f132 36 (of_decide_eq_true rfl)) I89
                    exact by exact ihlp40 x42 x43 r131 x135 σ130 _ _ ls (by have h93 := tx135; omega) (by have h93 := tx135; omega) (by have h93 := tx135; omega) (fun i hi => ((f132 i (imp_140 i hi)).trans ((f87 i (imp_141 i hi)).trans (f60 i hi)))) (fun i hi => ((congrFun (f132 31 (of_decide_eq_true rfl)) i).trans ((f88 i hi).trans (f61 i hi))))  p136 p137 p138 p139 p140 p141 I142 I133 hP hS (lv_sub hl [0, 1, 4, 5, 6, 7, 8] rfl)
                · have kc129 := jeq c129 rfl rfl
                  refine lv_iload hx hb dX11_turnOrder_121 (lv_at hl 0 rfl) ?_
                  refine lv_iload_n hx hb dX11_turnOrder_123 rfl (lv_at hl 5 rfl) ?_
                  refine lv_icmp_ge (tgt := 134) hx hb dX11_turnOrder_124 (of_decide_eq_true rfl) (fun c143 => ?_) (fun c143 => ?_)
                  · have kc143 := jle c143 rfl rfl
                    refine lv_aload_n hx hb dX11_turnOrder_134 rfl (lv_at hl 7 rfl) ?_
                    refine va_get (D := D) hx hb hts inlX11 hown hK hP 0 (jc_0 cI cL ad σ85 τ) rfl 11 (of_decide_eq_true rfl) (hts _ kw_3_7) (fun _ h9 => h9) rfl dX11_turnOrder_135 ?_
                    refine lv_aload_n hx hb dX11_turnOrder_138 rfl (lv_at hl 7 rfl) ?_
                    refine va_get (D := D) hx hb hts inlX11 hown hK hP 0 (jc_0 cI cL ad σ85 τ) rfl 2 (of_decide_eq_true rfl) (hts _ kw_2_0) (fun _ h9 => h9) rfl dX11_turnOrder_139 ?_
                    refine va_get (D := D) hx hb hts inlX6 hown hK hP 16 (jc_16 cI cL ad σ85 τ) rfl 0 (of_decide_eq_true rfl) (hts _ kw_13_12) (fun _ h9 => h9) rfl dX11_turnOrder_142 ?_
                    refine jtopr m111 ?_
                    exact by
                     refine jcallS (As := [.ref (ad 1), .int (σ 16 0)]) (rest := []) ⟨hx, hb, hml, hown, hts⟩ hK hP hA hS hZ (c_X6_turnOn l D cI cL ad zz hJ σ85 τ (σ 16 0) ((σ 16 0).toInt) rfl I112 (by omega)) cw_RX11_340 ⟨Nat.le_of_ble_eq_true rfl, Nat.le_of_ble_eq_true rfl⟩ rfl rfl rfl hl.1 rfl (Nat.le_of_ble_eq_true rfl) dX11_turnOrder_145 ⟨Nat.zero_le _, Nat.zero_le _⟩ (fun r145 σ144 τ144 H locs h144 hP hS => ?_)
                     obtain ⟨rfl, f146, I147, h144⟩ := h144
                     refine lv_istore (lv' := [(5, .int r145), (8, .int r114), (7, .int r109), (6, .int x45), (4, .int x43), (3, .int x42), (2, .int r20), (0, .ref (ad 0)), (1, .int a1)]) hx hb dX11_turnOrder_148 hl (of_decide_eq_true rfl) rfl (fun ls hl => ?_)
                     obtain ⟨x149, ex149⟩ : ∃ y : Int32, y = x45 + 1 := ⟨_, rfl⟩
                     have tx149 : x149.toInt = x45.toInt + 1 := (jadd ex149 rfl jz_1 (by omega) (by omega)).trans (by omega)
                     refine lv_iinc (v := x149) (lv' := [(6, .int x149), (5, .int r145), (8, .int r114), (7, .int r109), (4, .int x43), (3, .int x42), (2, .int r20), (0, .ref (ad 0)), (1, .int a1)]) hx hb dX11_turnOrder_150 hl (k := 3) rfl (by rw [ex149]; rfl) (of_decide_eq_true rfl) rfl (fun ls hl => ?_)
                     refine lv_goto (tgt := 52) hx hb dX11_turnOrder_153 (of_decide_eq_true rfl) ?_
                     have p150 : jN67 σ144 := jN67.fr (f146 24 (of_decide_eq_true rfl)) p90
                     have p151 : jBl σ144 := jBl.fr (congrFun (f146 22 (of_decide_eq_true rfl)) 0) (congrFun (f146 22 (of_decide_eq_true rfl)) 1) (f146 23 (of_decide_eq_true rfl)) (congrFun (f146 26 (of_decide_eq_true rfl)) 6) (congrFun (f146 26 (of_decide_eq_true rfl)) 7) (f146 29 (of_decide_eq_true rfl)) (f146 30 (of_decide_eq_true rfl)) p91
                     exact by
                      have p152 : jKb σ144 := jKb.fr (congrFun (f146 31 (of_decide_eq_true rfl)) 8) (congrFun (f146 31 (of_decide_eq_true rfl)) 11) (f146 32 (of_decide_eq_true rfl)) p92
                      have p153 : jKh σ144 := jKh.fr (congrFun (f146 31 (of_decide_eq_true rfl)) 8) (f146 32 (of_decide_eq_true rfl)) (f146 36 (of_decide_eq_true rfl)) (f146 37 (of_decide_eq_true rfl)) p93
                      have p154 : jKg σ144 := jKg.fr (congrFun (f146 31 (of_decide_eq_true rfl)) 8) (congrFun (f146 31 (of_decide_eq_true rfl)) 9) (congrFun (f146 31 (of_decide_eq_true rfl)) 11) (congrFun (f146 31 (of_decide_eq_true rfl)) 12) (f146 32 (of_decide_eq_true rfl)) (f146 33 (of_decide_eq_true rfl)) p94
                      have p155 : jNz σ144 := jNz.fr (f146 34 (of_decide_eq_true rfl)) p95
                      have I156 : jI31 σ144 := jI31_fr (congrFun (f146 31 (of_decide_eq_true rfl)) 8) (congrFun (f146 31 (of_decide_eq_true rfl)) 10) (congrFun (f146 31 (of_decide_eq_true rfl)) 11) (f146 33 (of_decide_eq_true rfl)) (f146 35 (of_decide_eq_true rfl)) (f146 36 (of_decide_eq_true rfl)) I89
                      exact by exact ihlp40 x42 x43 r145 x149 σ144 _ _ ls (by have h93 := tx149; omega) (by have h93 := tx149; omega) (by have h93 := tx149; omega) (fun i hi => ((f146 i (imp_140 i hi)).trans ((f87 i (imp_141 i hi)).trans (f60 i hi)))) (fun i hi => ((congrFun (f146 31 (of_decide_eq_true rfl)) i).trans ((f88 i hi).trans (f61 i hi))))  p150 p151 p152 p153 p154 p155 I156 I147 hP hS (lv_sub hl [0, 1, 4, 5, 6, 7, 8] rfl)
                  · have kc143 := jnle c143 rfl rfl
                    refine lv_iload hx hb dX11_turnOrder_127 (lv_at hl 1 rfl) ?_
                    refine lv_istore (lv' := [(4, .int r109), (8, .int r114), (7, .int r109), (6, .int x45), (5, .int x44), (3, .int x42), (2, .int r20), (0, .ref (ad 0)), (1, .int a1)]) hx hb dX11_turnOrder_129 hl (of_decide_eq_true rfl) rfl (fun ls hl => ?_)
                    refine lv_iload hx hb dX11_turnOrder_131 (lv_at hl 1 rfl) ?_
                    refine lv_istore_n (lv' := [(3, .int r114), (4, .int r109), (8, .int r114), (7, .int r109), (6, .int x45), (5, .int x44), (2, .int r20), (0, .ref (ad 0)), (1, .int a1)]) hx hb dX11_turnOrder_133 rfl hl (of_decide_eq_true rfl) rfl (fun ls hl => ?_)
                    refine lv_aload_n hx hb dX11_turnOrder_134 rfl (lv_at hl 7 rfl) ?_
                    refine va_get (D := D) hx hb hts inlX11 hown hK hP 0 (jc_0 cI cL ad σ85 τ) rfl 11 (of_decide_eq_true rfl) (hts _ kw_3_7) (fun _ h9 => h9) rfl dX11_turnOrder_135 ?_
                    refine lv_aload_n hx hb dX11_turnOrder_138 rfl (lv_at hl 7 rfl) ?_
                    refine va_get (D := D) hx hb hts inlX11 hown hK hP 0 (jc_0 cI cL ad σ85 τ) rfl 2 (of_decide_eq_true rfl) (hts _ kw_2_0) (fun _ h9 => h9) rfl dX11_turnOrder_139 ?_
                    refine va_get (D := D) hx hb hts inlX6 hown hK hP 16 (jc_16 cI cL ad σ85 τ) rfl 0 (of_decide_eq_true rfl) (hts _ kw_13_12) (fun _ h9 => h9) rfl dX11_turnOrder_142 ?_
                    refine jtopr m111 ?_
                    exact by
                     refine jcallS (As := [.ref (ad 1), .int (σ 16 0)]) (rest := []) ⟨hx, hb, hml, hown, hts⟩ hK hP hA hS hZ (c_X6_turnOn l D cI cL ad zz hJ σ85 τ (σ 16 0) ((σ 16 0).toInt) rfl I112 (by omega)) cw_RX11_340 ⟨Nat.le_of_ble_eq_true rfl, Nat.le_of_ble_eq_true rfl⟩ rfl rfl rfl hl.1 rfl (Nat.le_of_ble_eq_true rfl) dX11_turnOrder_145 ⟨Nat.zero_le _, Nat.zero_le _⟩ (fun r158 σ157 τ157 H locs h157 hP hS => ?_)
                     obtain ⟨rfl, f159, I160, h157⟩ := h157
                     refine lv_istore (lv' := [(5, .int r158), (3, .int r114), (4, .int r109), (8, .int r114), (7, .int r109), (6, .int x45), (2, .int r20), (0, .ref (ad 0)), (1, .int a1)]) hx hb dX11_turnOrder_148 hl (of_decide_eq_true rfl) rfl (fun ls hl => ?_)
                     obtain ⟨x162, ex162⟩ : ∃ y : Int32, y = x45 + 1 := ⟨_, rfl⟩
                     have tx162 : x162.toInt = x45.toInt + 1 := (jadd ex162 rfl jz_1 (by omega) (by omega)).trans (by omega)
                     refine lv_iinc (v := x162) (lv' := [(6, .int x162), (5, .int r158), (3, .int r114), (4, .int r109), (8, .int r114), (7, .int r109), (2, .int r20), (0, .ref (ad 0)), (1, .int a1)]) hx hb dX11_turnOrder_150 hl (k := 5) rfl (by rw [ex162]; rfl) (of_decide_eq_true rfl) rfl (fun ls hl => ?_)
                     refine lv_goto (tgt := 52) hx hb dX11_turnOrder_153 (of_decide_eq_true rfl) ?_
                     have p163 : jN67 σ157 := jN67.fr (f159 24 (of_decide_eq_true rfl)) p90
                     have p164 : jBl σ157 := jBl.fr (congrFun (f159 22 (of_decide_eq_true rfl)) 0) (congrFun (f159 22 (of_decide_eq_true rfl)) 1) (f159 23 (of_decide_eq_true rfl)) (congrFun (f159 26 (of_decide_eq_true rfl)) 6) (congrFun (f159 26 (of_decide_eq_true rfl)) 7) (f159 29 (of_decide_eq_true rfl)) (f159 30 (of_decide_eq_true rfl)) p91
                     exact by
                      have p165 : jKb σ157 := jKb.fr (congrFun (f159 31 (of_decide_eq_true rfl)) 8) (congrFun (f159 31 (of_decide_eq_true rfl)) 11) (f159 32 (of_decide_eq_true rfl)) p92
                      have p166 : jKh σ157 := jKh.fr (congrFun (f159 31 (of_decide_eq_true rfl)) 8) (f159 32 (of_decide_eq_true rfl)) (f159 36 (of_decide_eq_true rfl)) (f159 37 (of_decide_eq_true rfl)) p93
                      have p167 : jKg σ157 := jKg.fr (congrFun (f159 31 (of_decide_eq_true rfl)) 8) (congrFun (f159 31 (of_decide_eq_true rfl)) 9) (congrFun (f159 31 (of_decide_eq_true rfl)) 11) (congrFun (f159 31 (of_decide_eq_true rfl)) 12) (f159 32 (of_decide_eq_true rfl)) (f159 33 (of_decide_eq_true rfl)) p94
                      have p168 : jNz σ157 := jNz.fr (f159 34 (of_decide_eq_true rfl)) p95
                      have I169 : jI31 σ157 := jI31_fr (congrFun (f159 31 (of_decide_eq_true rfl)) 8) (congrFun (f159 31 (of_decide_eq_true rfl)) 10) (congrFun (f159 31 (of_decide_eq_true rfl)) 11) (f159 33 (of_decide_eq_true rfl)) (f159 35 (of_decide_eq_true rfl)) (f159 36 (of_decide_eq_true rfl)) I89
                      exact by exact ihlp40 r114 r109 r158 x162 σ157 _ _ ls (by have h93 := tx162; omega) (by have h93 := tx162; omega) (by have h93 := tx162; omega) (fun i hi => ((f159 i (imp_140 i hi)).trans ((f87 i (imp_141 i hi)).trans (f60 i hi)))) (fun i hi => ((congrFun (f159 31 (of_decide_eq_true rfl)) i).trans ((f88 i hi).trans (f61 i hi))))  p163 p164 p165 p166 p167 p168 I169 I160 hP hS (lv_sub hl [0, 1, 3, 2, 6, 7, 8] rfl)
    exact by exact lp40 1000000 0 (-1) x27 0 σ35 _ _ ls (by have h90 := jz_0; have h91 := jz_m1; have h92 := tx27; have h93 := jz_0; omega) (by have h90 := jz_0; have h91 := jz_m1; have h92 := tx27; have h93 := jz_0; omega) (by have h90 := jz_0; have h91 := jz_m1; have h92 := tx27; have h93 := jz_0; omega) (fun _ _ => rfl) (fun _ _ => rfl)  p51 p52 p53 p54 p55 p56 I49 I38 hP hS hl
set_option maxHeartbeats 4000000 in
set_option maxRecDepth 100000 in
theorem c_X11_theirs (l : Launch) (D : va_G) (cI cL : ClassId) (ad zz : Nat → Nat) (hJ : jD ad) (σ : Nat → Nat → Int32) (τ : Nat → Nat → Int64) (a1 : Int32) (A1 : Int) (t1 : a1.toInt = A1) (hI2 : jI2 σ) (hI16 : jI16 σ) (hI22 : jI22 σ) (hI31 : jI31 σ) (hI0 : jI0 σ) (hI26 : jI26 σ) (hs_jN67 : jN67 σ) (hs_jBl : jBl σ) (hs_jKb : jKb σ) (hs_jKh : jKh σ) (hs_jKg : jKg σ) (hs_jNz : jNz σ) : jM l yX11_theirs cX11_theirs 2 (some .int) ({ frames := 6, cells := 0, slots := 0, locals := 167 }) D cI cL ad zz [.ref (ad 0), .int a1] σ τ (fun r σ' τ' => τ = τ' ∧ (∀ i : Nat, (i < 1 ∨ 1 < i) ∧ (i < 24 ∨ 25 < i) ∧ (i < 27 ∨ 37 < i) → σ' i = σ i) ∧ (∀ k : Nat, (k < 8 ∨ 8 < k) ∧ (k < 9 ∨ 9 < k) ∧ (k < 10 ∨ 10 < k) ∧ (k < 11 ∨ 11 < k) ∧ (k < 12 ∨ 12 < k) → σ' 31 k = σ 31 k) ∧ (jI31 σ') ∧ (jI0 σ') ∧ (jN67 σ') ∧ (jBl σ') ∧ (jKb σ') ∧ (jKh σ') ∧ (jKg σ') ∧ (jNz σ') ∧ True) := by
  refine jM.of hJ (by decide +kernel) (nt := .int) rfl (Nat.le_of_ble_eq_true rfl) ?_
  intro p e s m args below meth c Q ls hC hret hl hP
  obtain ⟨hx, hb, hr, hml, hown, hts, hK, -, hlocks, hZ⟩ := hC
  have hown : s.vm.findClass RX11 = some m.cls := hown
  have hS : va_S (jA ad) s.heap s.heap [] := va_S.rf
  have hA : ∀ q, jA ad q → jA ad q := fun _ h => h
  have hl : lv_has ls 2 [(0, .ref (ad 0)), (1, .int a1)] := hl
  have g1 := jrg t1
  obtain ⟨i1, i2, i3, w4⟩ : (1 ≤ (σ 16 0).toInt ∧ (σ 16 0).toInt ≤ 8) ∧ (1 ≤ (σ 16 1).toInt ∧ (σ 16 1).toInt ≤ 12) ∧ (0 ≤ (σ 16 2).toInt ∧ (σ 16 2).toInt ≤ 999) ∧ (∀ k : Nat, k < 8 → 0 ≤ (σ 17 k).toInt ∧ (σ 17 k).toInt ≤ 3) := id hI16
  refine lv_iload_n hx hb dX11_theirs_0 rfl (lv_at hl 1 rfl) ?_
  refine lv_iconst (v := 0) hx hb dX11_theirs_1 (of_decide_eq_true rfl) ?_
  refine lv_iconst (v := 1) hx hb dX11_theirs_2 (of_decide_eq_true rfl) ?_
  refine jcallS (As := [.int a1, .int 0, .int 1]) (rest := []) ⟨hx, hb, hml, hown, hts⟩ hK hP hA hS hZ (c_X11_outside l D cI cL ad zz hJ σ τ a1 (A1) t1 0 (0) jz_0 1 (1) jz_1) cw_RX11_94 ⟨Nat.le_of_ble_eq_true rfl, Nat.le_of_ble_eq_true rfl⟩ rfl rfl rfl hl.1 rfl (Nat.le_of_ble_eq_true rfl) dX11_theirs_3 ⟨Nat.zero_le _, Nat.zero_le _⟩ (fun r6 σ5 τ5 H locs h5 hP hS => ?_)
  obtain ⟨⟨rfl, rfl⟩, h5⟩ := h5
  rcases h5 with h7 | h8
  · obtain ⟨q10, k9⟩ := h7
    have q10 := q10.symm
    subst q10
    refine lv_if_eq (tgt := 11) hx hb dX11_theirs_6 (of_decide_eq_true rfl) (fun c => absurd c (of_decide_eq_true rfl)) (fun _ => ?_)
    refine lv_iconst (v := (-1)) hx hb dX11_theirs_9 (of_decide_eq_true rfl) ?_
    exact hret (-1) σ τ _ _ _ _ rfl ⟨rfl, (fun _ _ => rfl), (fun _ _ => rfl), hI31, hI0, hs_jN67, hs_jBl, hs_jKb, hs_jKh, hs_jKg, hs_jNz, trivial⟩ hP hS dX11_theirs_10
  · obtain ⟨q12, k11⟩ := h8
    have q12 := q12.symm
    subst q12
    refine lv_if_eq (tgt := 11) hx hb dX11_theirs_6 (of_decide_eq_true rfl) (fun _ => ?_) (fun c => absurd (of_decide_eq_true rfl) c)
    refine lv_aload_n hx hb dX11_theirs_11 rfl (lv_at hl 0 rfl) ?_
    refine va_get (D := D) hx hb hts inlX11 hown hK hP 0 (jc_0 cI cL ad σ τ) rfl 2 (of_decide_eq_true rfl) (hts _ kw_2_0) (fun _ h9 => h9) rfl dX11_theirs_12 ?_
    refine va_get (D := D) hx hb hts inlX6 hown hK hP 16 (jc_16 cI cL ad σ τ) rfl 0 (of_decide_eq_true rfl) (hts _ kw_13_12) (fun _ h9 => h9) rfl dX11_theirs_15 ?_
    refine lv_iconst (v := 5) hx hb dX11_theirs_18 (of_decide_eq_true rfl) ?_
    refine lv_icmp_gt (tgt := 34) hx hb dX11_theirs_19 (of_decide_eq_true rfl) (fun c13 => ?_) (fun c13 => ?_)
    · have kc13 := jlt c13 jz_5 rfl
      refine lv_bipush (v := (-4)) hx hb dX11_theirs_34 (of_decide_eq_true rfl) ?_
      exact hret (-4) σ τ _ _ _ _ rfl ⟨rfl, (fun _ _ => rfl), (fun _ _ => rfl), hI31, hI0, hs_jN67, hs_jBl, hs_jKb, hs_jKh, hs_jKg, hs_jNz, trivial⟩ hP hS dX11_theirs_36
    · have kc13 := jnlt c13 jz_5 rfl
      refine lv_aload_n hx hb dX11_theirs_22 rfl (lv_at hl 0 rfl) ?_
      refine va_get (D := D) hx hb hts inlX11 hown hK hP 0 (jc_0 cI cL ad σ τ) rfl 2 (of_decide_eq_true rfl) (hts _ kw_2_0) (fun _ h9 => h9) rfl dX11_theirs_23 ?_
      refine va_get (D := D) hx hb hts inlX6 hown hK hP 16 (jc_16 cI cL ad σ τ) rfl 1 (of_decide_eq_true rfl) (hts _ kw_20_5) (fun _ h9 => h9) rfl dX11_theirs_26 ?_
      refine lv_bipush (v := 8) hx hb dX11_theirs_29 (of_decide_eq_true rfl) ?_
      refine lv_icmp_le (tgt := 37) hx hb dX11_theirs_31 (of_decide_eq_true rfl) (fun c14 => ?_) (fun c14 => ?_)
      · have kc14 := jle c14 rfl jz_8
        refine lv_aload_n hx hb dX11_theirs_37 rfl (lv_at hl 0 rfl) ?_
        refine lv_iload_n hx hb dX11_theirs_38 rfl (lv_at hl 1 rfl) ?_
        refine jcallV (As := [.int a1]) (rest := []) ⟨hx, hb, hml, hown, hts⟩ hK hP hA hS hZ (c_X11_turnOrder l D cI cL ad zz hJ σ τ a1 (A1) t1 hI2 hI16 hI22 hI31 hI0 hI26 hs_jN67 hs_jBl hs_jKb hs_jKh hs_jKg hs_jNz) cw_RX11_235 (jc_0 cI cL ad σ τ) rfl ⟨Nat.le_of_ble_eq_true rfl, Nat.le_of_ble_eq_true rfl⟩ rfl rfl rfl hl.1 rfl (Nat.le_of_ble_eq_true rfl) dX11_theirs_39 ⟨Nat.zero_le _, Nat.zero_le _⟩ (fun r16 σ15 τ15 H locs h15 hP hS => ?_)
        obtain ⟨rfl, f17, f18, I19, I20, p21, p22, p23, p24, p25, p26, h15⟩ := h15
        exact hret r16 σ15 τ _ _ _ _ rfl ⟨rfl, (fun i hi => (f17 i hi)), (fun i hi => (f18 i hi)), I19, I20, p21, p22, p23, p24, p25, p26, trivial⟩ hP hS dX11_theirs_42
      · have kc14 := jnle c14 rfl jz_8
        refine lv_bipush (v := (-4)) hx hb dX11_theirs_34 (of_decide_eq_true rfl) ?_
        exact hret (-4) σ τ _ _ _ _ rfl ⟨rfl, (fun _ _ => rfl), (fun _ _ => rfl), hI31, hI0, hs_jN67, hs_jBl, hs_jKb, hs_jKh, hs_jKg, hs_jNz, trivial⟩ hP hS dX11_theirs_36
set_option maxHeartbeats 4000000 in
set_option maxRecDepth 100000 in
theorem c_X11_mayBeBooked (l : Launch) (D : va_G) (cI cL : ClassId) (ad zz : Nat → Nat) (hJ : jD ad) (σ : Nat → Nat → Int32) (τ : Nat → Nat → Int64) (a1 : Int32) (A1 : Int) (t1 : a1.toInt = A1) (hI2 : jI2 σ) (hI16 : jI16 σ) (hI47 : jI47 σ) : jM l yX11_mayBeBooked cX11_mayBeBooked 4 (some .boolean) ({ frames := 4, cells := 0, slots := 0, locals := 88 }) D cI cL ad zz [.ref (ad 0), .int a1] σ τ (fun r σ' τ' => (σ = σ' ∧ τ = τ') ∧ ((jOk (σ 3)) → ((r = 1 ∧ jMy (σ 48) (σ 49) (σ 3) ((σ 2 0).toInt) ((σ 47 0).toInt) ((σ 16 0).toInt) ((σ 16 1).toInt) a1) ∨ (r = 0 ∧ ¬ jMy (σ 48) (σ 49) (σ 3) ((σ 2 0).toInt) ((σ 47 0).toInt) ((σ 16 0).toInt) ((σ 16 1).toInt) a1))) ∧ True) := by
  refine jM.of hJ (by decide +kernel) (nt := .boolean) rfl (Nat.le_of_ble_eq_true rfl) ?_
  intro p e s m args below meth c Q ls hC hret hl hP
  obtain ⟨hx, hb, hr, hml, hown, hts, hK, -, hlocks, hZ⟩ := hC
  have hown : s.vm.findClass RX11 = some m.cls := hown
  have hS : va_S (jA ad) s.heap s.heap [] := va_S.rf
  have hA : ∀ q, jA ad q → jA ad q := fun _ h => h
  have hl : lv_has ls 4 [(0, .ref (ad 0)), (1, .int a1)] := hl
  have g1 := jrg t1
  obtain ⟨i1, w2, w3⟩ : (0 ≤ (σ 47 0).toInt ∧ (σ 47 0).toInt ≤ 12) ∧ (∀ k : Nat, k < 12 → 0 ≤ (σ 48 k).toInt ∧ (σ 48 k).toInt ≤ 3) ∧ (∀ k : Nat, k < 12 → 0 ≤ (σ 49 k).toInt ∧ (σ 49 k).toInt ≤ 1) := id hI47
  refine lv_aload_n hx hb dX11_mayBeBooked_0 rfl (lv_at hl 0 rfl) ?_
  refine va_get (D := D) hx hb hts inlX11 hown hK hP 0 (jc_0 cI cL ad σ τ) rfl 9 (of_decide_eq_true rfl) (hts _ kw_3_1) (fun _ h9 => h9) rfl dX11_mayBeBooked_1 ?_
  refine va_get (D := D) hx hb hts inlX2 hown hK hP 47 (jc_47 cI cL ad σ τ) rfl 0 (of_decide_eq_true rfl) (hts _ kw_13_11) (fun _ h9 => h9) rfl dX11_mayBeBooked_4 ?_
  refine lv_istore_n (lv' := [(2, .int (σ 47 0)), (0, .ref (ad 0)), (1, .int a1)]) hx hb dX11_mayBeBooked_7 rfl hl (of_decide_eq_true rfl) rfl (fun ls hl => ?_)
  refine lv_aload_n hx hb dX11_mayBeBooked_8 rfl (lv_at hl 1 rfl) ?_
  refine va_get (D := D) hx hb hts inlX11 hown hK hP 0 (jc_0 cI cL ad σ τ) rfl 9 (of_decide_eq_true rfl) (hts _ kw_3_1) (fun _ h9 => h9) rfl dX11_mayBeBooked_9 ?_
  refine lv_iload_n hx hb dX11_mayBeBooked_12 rfl (lv_at hl 0 rfl) ?_
  refine lv_aload_n hx hb dX11_mayBeBooked_13 rfl (lv_at hl 1 rfl) ?_
  refine va_get (D := D) hx hb hts inlX11 hown hK hP 0 (jc_0 cI cL ad σ τ) rfl 0 (of_decide_eq_true rfl) (hts _ kw_1_16) (fun _ h9 => h9) rfl dX11_mayBeBooked_14 ?_
  refine jcallV (As := [.int (σ 47 0), .ref (ad 2)]) (rest := []) ⟨hx, hb, hml, hown, hts⟩ hK hP hA hS hZ (c_X2_attackAhead_47 l D cI cL ad zz hJ σ τ (σ 47 0) ((σ 47 0).toInt) rfl hI2 hI47) cw_RX11_186 (jc_47 cI cL ad σ τ) rfl ⟨Nat.le_of_ble_eq_true rfl, Nat.le_of_ble_eq_true rfl⟩ rfl rfl rfl hl.1 rfl (Nat.le_of_ble_eq_true rfl) dX11_mayBeBooked_17 ⟨Nat.zero_le _, Nat.zero_le _⟩ (fun r5 σ4 τ4 H locs h4 hP hS => ?_)
  obtain ⟨⟨rfl, rfl⟩, w6, w7, h4⟩ := h4
  have h8 := h4
  obtain ⟨q10, k9⟩ := h8
  refine lv_istore_n (lv' := [(3, .int r5), (2, .int (σ 47 0)), (0, .ref (ad 0)), (1, .int a1)]) hx hb dX11_mayBeBooked_20 rfl hl (of_decide_eq_true rfl) rfl (fun ls hl => ?_)
  refine lv_aload_n hx hb dX11_mayBeBooked_21 rfl (lv_at hl 2 rfl) ?_
  refine va_get (D := D) hx hb hts inlX11 hown hK hP 0 (jc_0 cI cL ad σ τ) rfl 2 (of_decide_eq_true rfl) (hts _ kw_2_0) (fun _ h9 => h9) rfl dX11_mayBeBooked_22 ?_
  refine lv_iload_n hx hb dX11_mayBeBooked_25 rfl (lv_at hl 1 rfl) ?_
  refine lv_aload_n hx hb dX11_mayBeBooked_26 rfl (lv_at hl 2 rfl) ?_
  refine va_get (D := D) hx hb hts inlX11 hown hK hP 0 (jc_0 cI cL ad σ τ) rfl 9 (of_decide_eq_true rfl) (hts _ kw_3_1) (fun _ h9 => h9) rfl dX11_mayBeBooked_27 ?_
  refine lv_iload_n hx hb dX11_mayBeBooked_30 rfl (lv_at hl 1 rfl) ?_
  refine jcallV (As := [.int (σ 47 0)]) (rest := [.int (σ 47 0), .ref (ad 16)]) ⟨hx, hb, hml, hown, hts⟩ hK hP hA hS hZ (c_X2_outs_47 l D cI cL ad zz hJ σ τ (σ 47 0) ((σ 47 0).toInt) rfl hI47) cw_RX11_180 (jc_47 cI cL ad σ τ) rfl ⟨Nat.le_of_ble_eq_true rfl, Nat.le_of_ble_eq_true rfl⟩ rfl rfl rfl hl.1 rfl (Nat.le_of_ble_eq_true rfl) dX11_mayBeBooked_31 ⟨Nat.zero_le _, Nat.zero_le _⟩ (fun r12 σ11 τ11 H locs h11 hP hS => ?_)
  obtain ⟨⟨rfl, rfl⟩, w13, h11⟩ := h11
  have h14 := h11
  obtain ⟨q16, k15⟩ := h14
  refine lv_iload_n hx hb dX11_mayBeBooked_34 rfl (lv_at hl 0 rfl) ?_
  refine jcallV (As := [.int (σ 47 0), .int r12, .int r5]) (rest := []) ⟨hx, hb, hml, hown, hts⟩ hK hP hA hS hZ (c_X6_ended_16 l D cI cL ad zz hJ σ τ (σ 47 0) ((σ 47 0).toInt) rfl r12 (r12.toInt) rfl r5 (r5.toInt) rfl) cw_RX11_190 (jc_16 cI cL ad σ τ) rfl ⟨Nat.le_of_ble_eq_true rfl, Nat.le_of_ble_eq_true rfl⟩ rfl rfl rfl hl.1 rfl (Nat.le_of_ble_eq_true rfl) dX11_mayBeBooked_35 ⟨Nat.zero_le _, Nat.zero_le _⟩ (fun r18 σ17 τ17 H locs h17 hP hS => ?_)
  obtain ⟨⟨rfl, rfl⟩, w19, h17⟩ := h17
  refine lv_if_ne (tgt := 53) hx hb dX11_mayBeBooked_38 (of_decide_eq_true rfl) (fun c20 => ?_) (fun c20 => ?_)
  · have kc20 := jne c20 rfl jz_0
    refine lv_iconst (v := 0) hx hb dX11_mayBeBooked_53 (of_decide_eq_true rfl) ?_
    exact by exact hret 0 σ τ _ _ _ _ rfl ⟨⟨rfl, rfl⟩, (fun ok => by have k21 := w6 (by omega) (by omega) ok; have c22 := w13 (by omega) (by omega); exact Or.inr ⟨rfl, fun w => absurd (w19.2 (by have e := w.1; omega) w.2.1 _ (k21.mb.mp w.2.2)) (by first | decide | omega)⟩), trivial⟩ hP hS dX11_mayBeBooked_54
  · have kc20 := jeq c20 rfl jz_0
    refine lv_iload_n hx hb dX11_mayBeBooked_41 rfl (lv_at hl 0 rfl) ?_
    refine lv_iload_n hx hb dX11_mayBeBooked_42 rfl (lv_at hl 3 rfl) ?_
    refine jcallS (As := [.int r5, .int a1]) (rest := []) ⟨hx, hb, hml, hown, hts⟩ hK hP hA hS hZ (c_X0_mayBowl l D cI cL ad zz hJ σ τ r5 (r5.toInt) rfl a1 (A1) t1) cw_RX11_325 ⟨Nat.le_of_ble_eq_true rfl, Nat.le_of_ble_eq_true rfl⟩ rfl rfl rfl hl.1 rfl (Nat.le_of_ble_eq_true rfl) dX11_mayBeBooked_43 ⟨Nat.zero_le _, Nat.zero_le _⟩ (fun r24 σ23 τ23 H locs h23 hP hS => ?_)
    obtain ⟨⟨rfl, rfl⟩, w25, h23⟩ := h23
    rcases h23 with h26 | h27
    · obtain ⟨q29, k28⟩ := h26
      have q29 := q29.symm
      subst q29
      refine lv_if_eq (tgt := 53) hx hb dX11_mayBeBooked_46 (of_decide_eq_true rfl) (fun c => absurd c (of_decide_eq_true rfl)) (fun _ => ?_)
      refine lv_iconst (v := 1) hx hb dX11_mayBeBooked_49 (of_decide_eq_true rfl) ?_
      refine lv_goto (tgt := 54) hx hb dX11_mayBeBooked_50 (of_decide_eq_true rfl) ?_
      exact by exact hret 1 σ τ _ _ _ _ rfl ⟨⟨rfl, rfl⟩, (fun ok => by have k30 := w6 (by omega) (by omega) ok; have c31 := w13 (by omega) (by omega); exact w25.elim (fun z => Or.inl ⟨rfl, by have e := w19.1 (by first | rfl | omega); omega, by have e := w19.1 (by first | rfl | omega); omega, k30.mb.mpr z.2⟩) (fun z => by first | exact absurd z.1 (of_decide_eq_true rfl) | exact absurd (congrArg Int32.toInt z.1) (by rw [jz_0]; omega))), trivial⟩ hP hS dX11_mayBeBooked_54
    · obtain ⟨q33, k32⟩ := h27
      have q33 := q33.symm
      subst q33
      refine lv_if_eq (tgt := 53) hx hb dX11_mayBeBooked_46 (of_decide_eq_true rfl) (fun _ => ?_) (fun c => absurd (of_decide_eq_true rfl) c)
      refine lv_iconst (v := 0) hx hb dX11_mayBeBooked_53 (of_decide_eq_true rfl) ?_
      exact by exact hret 0 σ τ _ _ _ _ rfl ⟨⟨rfl, rfl⟩, (fun ok => by have k34 := w6 (by omega) (by omega) ok; have c35 := w13 (by omega) (by omega); exact w25.elim (fun z => by first | exact absurd z.1 (of_decide_eq_true rfl) | exact absurd (congrArg Int32.toInt z.1) (by rw [jz_1]; omega)) (fun z => Or.inr ⟨rfl, fun w => z.2 (k34.mb.mp w.2.2)⟩)), trivial⟩ hP hS dX11_mayBeBooked_54
set_option maxHeartbeats 4000000 in
set_option maxRecDepth 100000 in
theorem c_X11_book (l : Launch) (D : va_G) (cI cL : ClassId) (ad zz : Nat → Nat) (hJ : jD ad) (σ : Nat → Nat → Int32) (τ : Nat → Nat → Int64) (a1 : Int32) (A1 : Int) (t1 : a1.toInt = A1) (a2 : Int32) (A2 : Int) (t2 : a2.toInt = A2) (hI2 : jI2 σ) (hI16 : jI16 σ) (hI47 : jI47 σ) : jM l yX11_book cX11_book 3 (some .int) ({ frames := 5, cells := 0, slots := 0, locals := 111 }) D cI cL ad zz [.ref (ad 0), .int a1, .int a2] σ τ (fun r σ' τ' => τ = τ' ∧ (∀ i : Nat, (i < 47 ∨ 49 < i) → σ' i = σ i) ∧ (∀ k : Nat, (k < 0 ∨ 0 < k) → σ' 47 k = σ 47 k) ∧ (jI47 σ') ∧ ((jOk (σ 3) → jBo (0 ≤ A1 ∧ A1 < (σ 2 0).toInt ∧ 0 ≤ A2 ∧ A2 ≤ 1) (jMy (σ 48) (σ 49) (σ 3) ((σ 2 0).toInt) ((σ 47 0).toInt) ((σ 16 0).toInt) ((σ 16 1).toInt) a1) (r.toInt) ((σ 47 0).toInt) ((σ' 47 0).toInt) a1 a2 (σ 48) (σ' 48) (σ 49) (σ' 49))) ∧ True) := by
  refine jM.of hJ (by decide +kernel) (nt := .int) rfl (Nat.le_of_ble_eq_true rfl) ?_
  intro p e s m args below meth c Q ls hC hret hl hP
  obtain ⟨hx, hb, hr, hml, hown, hts, hK, -, hlocks, hZ⟩ := hC
  have hown : s.vm.findClass RX11 = some m.cls := hown
  have hS : va_S (jA ad) s.heap s.heap [] := va_S.rf
  have hA : ∀ q, jA ad q → jA ad q := fun _ h => h
  have hl : lv_has ls 3 [(0, .ref (ad 0)), (1, .int a1), (2, .int a2)] := hl
  have g1 := jrg t1
  have g2 := jrg t2
  obtain ⟨i1, i2, i3, i4, i5, w6, w7⟩ : (0 ≤ (σ 2 0).toInt ∧ (σ 2 0).toInt ≤ 4) ∧ (0 ≤ (σ 2 1).toInt ∧ (σ 2 1).toInt ≤ 3) ∧ (0 ≤ (σ 2 2).toInt) ∧ (0 ≤ (σ 2 3).toInt) ∧ ((σ 2 2).toInt + (σ 2 3).toInt ≤ 40) ∧ (∀ k : Nat, k < 40 → 0 ≤ (σ 6 k).toInt ∧ (σ 6 k).toInt ≤ 67) ∧ (∀ k : Nat, k < 4 → 0 ≤ (σ 5 k).toInt ∧ (σ 5 k).toInt ≤ 20) := id hI2
  obtain ⟨i8, i9, i10, w11⟩ : (1 ≤ (σ 16 0).toInt ∧ (σ 16 0).toInt ≤ 8) ∧ (1 ≤ (σ 16 1).toInt ∧ (σ 16 1).toInt ≤ 12) ∧ (0 ≤ (σ 16 2).toInt ∧ (σ 16 2).toInt ≤ 999) ∧ (∀ k : Nat, k < 8 → 0 ≤ (σ 17 k).toInt ∧ (σ 17 k).toInt ≤ 3) := id hI16
  obtain ⟨i12, w13, w14⟩ : (0 ≤ (σ 47 0).toInt ∧ (σ 47 0).toInt ≤ 12) ∧ (∀ k : Nat, k < 12 → 0 ≤ (σ 48 k).toInt ∧ (σ 48 k).toInt ≤ 3) ∧ (∀ k : Nat, k < 12 → 0 ≤ (σ 49 k).toInt ∧ (σ 49 k).toInt ≤ 1) := id hI47
  refine lv_aload_n hx hb dX11_book_0 rfl (lv_at hl 0 rfl) ?_
  refine lv_iload_n hx hb dX11_book_1 rfl (lv_at hl 1 rfl) ?_
  refine jcallV (As := [.int a1]) (rest := []) ⟨hx, hb, hml, hown, hts⟩ hK hP hA hS hZ (c_X11_noBowler l D cI cL ad zz hJ σ τ a1 (A1) t1 hI2) cw_RX11_152 (jc_0 cI cL ad σ τ) rfl ⟨Nat.le_of_ble_eq_true rfl, Nat.le_of_ble_eq_true rfl⟩ rfl rfl rfl hl.1 rfl (Nat.le_of_ble_eq_true rfl) dX11_book_2 ⟨Nat.zero_le _, Nat.zero_le _⟩ (fun r16 σ15 τ15 H locs h15 hP hS => ?_)
  obtain ⟨⟨rfl, rfl⟩, h15⟩ := h15
  rcases h15 with h17 | h18
  · obtain ⟨q20, k19⟩ := h17
    have q20 := q20.symm
    subst q20
    refine lv_if_ne (tgt := 17) hx hb dX11_book_5 (of_decide_eq_true rfl) (fun _ => ?_) (fun c => absurd c (of_decide_eq_true rfl))
    refine lv_iconst (v := (-1)) hx hb dX11_book_17 (of_decide_eq_true rfl) ?_
    exact hret (-1) σ τ _ _ _ _ rfl ⟨rfl, (fun _ _ => rfl), (fun _ _ => rfl), hI47, (fun ok => Or.inl ⟨(by have h9 := jz_m1; omega), (fun w => by omega), by omega, rfl, rfl⟩), trivial⟩ hP hS dX11_book_18
  · obtain ⟨q22, k21⟩ := h18
    have q22 := q22.symm
    subst q22
    refine lv_if_ne (tgt := 17) hx hb dX11_book_5 (of_decide_eq_true rfl) (fun c => absurd (of_decide_eq_true rfl) c) (fun _ => ?_)
    refine lv_iload_n hx hb dX11_book_8 rfl (lv_at hl 2 rfl) ?_
    refine lv_iconst (v := 0) hx hb dX11_book_9 (of_decide_eq_true rfl) ?_
    refine lv_iconst (v := 1) hx hb dX11_book_10 (of_decide_eq_true rfl) ?_
    refine jcallS (As := [.int a2, .int 0, .int 1]) (rest := []) ⟨hx, hb, hml, hown, hts⟩ hK hP hA hS hZ (c_X11_outside l D cI cL ad zz hJ σ τ a2 (A2) t2 0 (0) jz_0 1 (1) jz_1) cw_RX11_94 ⟨Nat.le_of_ble_eq_true rfl, Nat.le_of_ble_eq_true rfl⟩ rfl rfl rfl hl.1 rfl (Nat.le_of_ble_eq_true rfl) dX11_book_11 ⟨Nat.zero_le _, Nat.zero_le _⟩ (fun r24 σ23 τ23 H locs h23 hP hS => ?_)
    obtain ⟨⟨rfl, rfl⟩, h23⟩ := h23
    rcases h23 with h25 | h26
    · obtain ⟨q28, k27⟩ := h25
      have q28 := q28.symm
      subst q28
      refine lv_if_eq (tgt := 19) hx hb dX11_book_14 (of_decide_eq_true rfl) (fun c => absurd c (of_decide_eq_true rfl)) (fun _ => ?_)
      refine lv_iconst (v := (-1)) hx hb dX11_book_17 (of_decide_eq_true rfl) ?_
      exact hret (-1) σ τ _ _ _ _ rfl ⟨rfl, (fun _ _ => rfl), (fun _ _ => rfl), hI47, (fun ok => Or.inl ⟨(by have h9 := jz_m1; omega), (fun w => by omega), by omega, rfl, rfl⟩), trivial⟩ hP hS dX11_book_18
    · obtain ⟨q30, k29⟩ := h26
      have q30 := q30.symm
      subst q30
      refine lv_if_eq (tgt := 19) hx hb dX11_book_14 (of_decide_eq_true rfl) (fun _ => ?_) (fun c => absurd (of_decide_eq_true rfl) c)
      refine lv_aload_n hx hb dX11_book_19 rfl (lv_at hl 0 rfl) ?_
      refine lv_iload_n hx hb dX11_book_20 rfl (lv_at hl 1 rfl) ?_
      refine jcallV (As := [.int a1]) (rest := []) ⟨hx, hb, hml, hown, hts⟩ hK hP hA hS hZ (c_X11_mayBeBooked l D cI cL ad zz hJ σ τ a1 (A1) t1 hI2 hI16 hI47) cw_RX11_243 (jc_0 cI cL ad σ τ) rfl ⟨Nat.le_of_ble_eq_true rfl, Nat.le_of_ble_eq_true rfl⟩ rfl rfl rfl hl.1 rfl (Nat.le_of_ble_eq_true rfl) dX11_book_21 ⟨Nat.zero_le _, Nat.zero_le _⟩ (fun r32 σ31 τ31 H locs h31 hP hS => ?_)
      obtain ⟨⟨rfl, rfl⟩, w33, h31⟩ := h31
      refine lv_if_ne (tgt := 30) hx hb dX11_book_24 (of_decide_eq_true rfl) (fun c34 => ?_) (fun c34 => ?_)
      · have kc34 := jne c34 rfl jz_0
        refine lv_aload_n hx hb dX11_book_30 rfl (lv_at hl 0 rfl) ?_
        refine va_get (D := D) hx hb hts inlX11 hown hK hP 0 (jc_0 cI cL ad σ τ) rfl 9 (of_decide_eq_true rfl) (hts _ kw_3_1) (fun _ h9 => h9) rfl dX11_book_31 ?_
        refine va_get (D := D) hx hb hts inlX2 hown hK hP 47 (jc_47 cI cL ad σ τ) rfl 0 (of_decide_eq_true rfl) (hts _ kw_13_11) (fun _ h9 => h9) rfl dX11_book_34 ?_
        refine lv_bipush (v := 12) hx hb dX11_book_37 (of_decide_eq_true rfl) ?_
        refine lv_icmp_lt (tgt := 45) hx hb dX11_book_39 (of_decide_eq_true rfl) (fun c35 => ?_) (fun c35 => ?_)
        · have kc35 := jlt c35 rfl jz_12
          refine lv_aload_n hx hb dX11_book_45 rfl (lv_at hl 0 rfl) ?_
          refine va_get (D := D) hx hb hts inlX11 hown hK hP 0 (jc_0 cI cL ad σ τ) rfl 9 (of_decide_eq_true rfl) (hts _ kw_3_1) (fun _ h9 => h9) rfl dX11_book_46 ?_
          refine lv_iload_n hx hb dX11_book_49 rfl (lv_at hl 1 rfl) ?_
          refine lv_iload_n hx hb dX11_book_50 rfl (lv_at hl 2 rfl) ?_
          exact by
           refine jcallV (As := [.int a1, .int a2]) (rest := []) ⟨hx, hb, hml, hown, hts⟩ hK hP hA hS hZ (c_X2_write_47 l D cI cL ad zz hJ σ τ a1 (A1) t1 a2 (A2) t2 hI47 (by omega) (by omega)) cw_RX11_246 (jc_47 cI cL ad σ τ) rfl ⟨Nat.le_of_ble_eq_true rfl, Nat.le_of_ble_eq_true rfl⟩ rfl rfl rfl hl.1 rfl (Nat.le_of_ble_eq_true rfl) dX11_book_51 ⟨Nat.zero_le _, Nat.zero_le _⟩ (fun r37 σ36 τ36 H locs h36 hP hS => ?_)
           obtain ⟨rfl, f38, f39, I40, h36⟩ := h36
           obtain ⟨i42, w43, w44⟩ : (0 ≤ (σ36 47 0).toInt ∧ (σ36 47 0).toInt ≤ 12) ∧ (∀ k : Nat, k < 12 → 0 ≤ (σ36 48 k).toInt ∧ (σ36 48 k).toInt ≤ 3) ∧ (∀ k : Nat, k < 12 → 0 ≤ (σ36 49 k).toInt ∧ (σ36 49 k).toInt ≤ 1) := id I40
           rcases h36 with h45 | h46
           · obtain ⟨q50, k47, k48, k49⟩ := h45
             exact absurd (by omega : False) id
           · obtain ⟨q55, k51, k52, k53, k54⟩ := h46
             exact by exact hret r37 σ36 τ _ _ _ _ rfl ⟨rfl, (fun i hi => (f38 i hi)), (fun i hi => (f39 i hi)), I40, (fun ok => Or.inr (Or.inr ⟨(by omega), ⟨by omega, by omega, by omega, by omega⟩, (w33 ok).elim (fun q => q.2) (fun q => absurd (congrArg Int32.toInt q.1) (by rw [jz_0]; omega)), by omega, k54.1, k54.2⟩)), trivial⟩ hP hS dX11_book_54
        · have kc35 := jnlt c35 rfl jz_12
          refine lv_bipush (v := (-3)) hx hb dX11_book_42 (of_decide_eq_true rfl) ?_
          exact by exact hret (-3) σ τ _ _ _ _ rfl ⟨rfl, (fun _ _ => rfl), (fun _ _ => rfl), hI47, (fun ok => (w33 ok).elim (fun q => False.elim (by have e := q.2.2.1; omega)) (fun q => absurd (congrArg Int32.toInt (show (r32 : Int32) = 0 from q.1)) (by rw [jz_0]; omega))), trivial⟩ hP hS dX11_book_44
      · have kc34 := jeq c34 rfl jz_0
        refine lv_bipush (v := (-5)) hx hb dX11_book_27 (of_decide_eq_true rfl) ?_
        exact by exact hret (-5) σ τ _ _ _ _ rfl ⟨rfl, (fun _ _ => rfl), (fun _ _ => rfl), hI47, (fun ok => Or.inr (Or.inl ⟨(by have h9 := jz_m5; omega), ⟨by omega, by omega, by omega, by omega⟩, (w33 ok).elim (fun q => absurd (congrArg Int32.toInt q.1) (by rw [jz_1]; omega)) (fun q => q.2), by omega, rfl, rfl⟩)), trivial⟩ hP hS dX11_book_29
set_option maxHeartbeats 4000000 in
set_option maxRecDepth 100000 in
theorem c_X11_books (l : Launch) (D : va_G) (cI cL : ClassId) (ad zz : Nat → Nat) (hJ : jD ad) (σ : Nat → Nat → Int32) (τ : Nat → Nat → Int64) (a1 : Int32) (A1 : Int) (t1 : a1.toInt = A1) (a2 : Int32) (A2 : Int) (t2 : a2.toInt = A2) (hI2 : jI2 σ) (hI16 : jI16 σ) (hI47 : jI47 σ) (hI50 : jI50 σ) : jM l yX11_books cX11_books 6 (some .int) ({ frames := 6, cells := 0, slots := 0, locals := 127 }) D cI cL ad zz [.ref (ad 0), .int a1, .int a2] σ τ (fun r σ' τ' => τ = τ' ∧ (∀ i : Nat, (i < 47 ∨ 49 < i) → σ' i = σ i) ∧ (∀ k : Nat, (k < 0 ∨ 0 < k) → σ' 47 k = σ 47 k) ∧ (jI47 σ') ∧ ((jOk (σ 3) → (0 ≤ A1 → A1 ≤ 5 → ((σ 51 a1.toNatClampNeg).toInt) = 0 → ∀ p : Nat, (p : Int) < ((σ 52 a1.toNatClampNeg).toInt) → -128 ≤ (τ 54 (60 * (A1) + (p : Int)).toNat).toInt ∧ (τ 54 (60 * (A1) + (p : Int)).toNat).toInt ≤ 127) → jBb (A1 < 0 ∨ 5 < A1) (((σ 51 a1.toNatClampNeg).toInt) ≠ -2 ∧ ((σ 51 a1.toNatClampNeg).toInt) ≠ 0) (r.toInt) ((σ 47 0).toInt) ((σ' 47 0).toInt) (σ 48) (σ' 48) (σ 49) (σ' 49) (jBs (fun k : Nat => τ 54 (60 * (A1) + (A2) + (k : Int)).toNat) (if ((σ 51 a1.toNatClampNeg).toInt) = 0 ∧ 0 ≤ A2 then ((σ 52 a1.toNatClampNeg).toInt) - (A2) else 0) ((σ 2 0).toInt) ((σ 16 0).toInt) ((σ 16 1).toInt) (σ 3) (σ' 48) (σ' 49) ((σ' 47 0).toInt)))) ∧ True) := by
  refine jM.of hJ (by decide +kernel) (nt := .int) rfl (Nat.le_of_ble_eq_true rfl) ?_
  intro p e s m args below meth c Q ls hC hret hl hP
  obtain ⟨hx, hb, hr, hml, hown, hts, hK, -, hlocks, hZ⟩ := hC
  have hown : s.vm.findClass RX11 = some m.cls := hown
  have hS : va_S (jA ad) s.heap s.heap [] := va_S.rf
  have hA : ∀ q, jA ad q → jA ad q := fun _ h => h
  have hl : lv_has ls 6 [(0, .ref (ad 0)), (1, .int a1), (2, .int a2)] := hl
  have g1 := jrg t1
  have g2 := jrg t2
  obtain ⟨i1, i2, i3, i4, i5, w6, w7⟩ : (0 ≤ (σ 2 0).toInt ∧ (σ 2 0).toInt ≤ 4) ∧ (0 ≤ (σ 2 1).toInt ∧ (σ 2 1).toInt ≤ 3) ∧ (0 ≤ (σ 2 2).toInt) ∧ (0 ≤ (σ 2 3).toInt) ∧ ((σ 2 2).toInt + (σ 2 3).toInt ≤ 40) ∧ (∀ k : Nat, k < 40 → 0 ≤ (σ 6 k).toInt ∧ (σ 6 k).toInt ≤ 67) ∧ (∀ k : Nat, k < 4 → 0 ≤ (σ 5 k).toInt ∧ (σ 5 k).toInt ≤ 20) := id hI2
  obtain ⟨i8, i9, i10, w11⟩ : (1 ≤ (σ 16 0).toInt ∧ (σ 16 0).toInt ≤ 8) ∧ (1 ≤ (σ 16 1).toInt ∧ (σ 16 1).toInt ≤ 12) ∧ (0 ≤ (σ 16 2).toInt ∧ (σ 16 2).toInt ≤ 999) ∧ (∀ k : Nat, k < 8 → 0 ≤ (σ 17 k).toInt ∧ (σ 17 k).toInt ≤ 3) := id hI16
  obtain ⟨i12, w13, w14⟩ : (0 ≤ (σ 47 0).toInt ∧ (σ 47 0).toInt ≤ 12) ∧ (∀ k : Nat, k < 12 → 0 ≤ (σ 48 k).toInt ∧ (σ 48 k).toInt ≤ 3) ∧ (∀ k : Nat, k < 12 → 0 ≤ (σ 49 k).toInt ∧ (σ 49 k).toInt ≤ 1) := id hI47
  have w15 : ∀ k : Nat, k < 6 → 0 ≤ (σ 52 k).toInt ∧ (σ 52 k).toInt ≤ 60 := hI50
  refine lv_iload_n hx hb dX11_books_0 rfl (lv_at hl 1 rfl) ?_
  refine jcallS (As := [.int a1]) (rest := []) ⟨hx, hb, hml, hown, hts⟩ hK hP hA hS hZ (c_X11_noShelf l D cI cL ad zz hJ σ τ a1 (A1) t1) cw_RX11_249 ⟨Nat.le_of_ble_eq_true rfl, Nat.le_of_ble_eq_true rfl⟩ rfl rfl rfl hl.1 rfl (Nat.le_of_ble_eq_true rfl) dX11_books_1 ⟨Nat.zero_le _, Nat.zero_le _⟩ (fun r17 σ16 τ16 H locs h16 hP hS => ?_)
  obtain ⟨⟨rfl, rfl⟩, h16⟩ := h16
  rcases h16 with h18 | h19
  · obtain ⟨q21, k20⟩ := h18
    have q21 := q21.symm
    subst q21
    refine lv_if_eq (tgt := 9) hx hb dX11_books_4 (of_decide_eq_true rfl) (fun c => absurd c (of_decide_eq_true rfl)) (fun _ => ?_)
    refine lv_iconst (v := (-1)) hx hb dX11_books_7 (of_decide_eq_true rfl) ?_
    exact hret (-1) σ τ _ _ _ _ rfl ⟨rfl, (fun _ _ => rfl), (fun _ _ => rfl), hI47, (fun ok hy => Or.inl ⟨(by have h9 := jz_m1; omega), by omega, rfl, rfl, rfl⟩), trivial⟩ hP hS dX11_books_8
  · obtain ⟨q23, k22⟩ := h19
    have q23 := q23.symm
    subst q23
    refine lv_if_eq (tgt := 9) hx hb dX11_books_4 (of_decide_eq_true rfl) (fun _ => ?_) (fun c => absurd (of_decide_eq_true rfl) c)
    refine lv_aload_n hx hb dX11_books_9 rfl (lv_at hl 0 rfl) ?_
    refine va_get (D := D) hx hb hts inlX11 hown hK hP 0 (jc_0 cI cL ad σ τ) rfl 10 (of_decide_eq_true rfl) (hts _ kw_3_5) (fun _ h9 => h9) rfl dX11_books_10 ?_
    refine lv_iload_n hx hb dX11_books_13 rfl (lv_at hl 1 rfl) ?_
    refine jcallV (As := [.int a1]) (rest := []) ⟨hx, hb, hml, hown, hts⟩ hK hP hA hS hZ (c_X9_isEmpty_50 l D cI cL ad zz hJ σ τ a1 (A1) t1) cw_RX11_252 (jc_50 cI cL ad σ τ) rfl ⟨Nat.le_of_ble_eq_true rfl, Nat.le_of_ble_eq_true rfl⟩ rfl rfl rfl hl.1 rfl (Nat.le_of_ble_eq_true rfl) dX11_books_14 ⟨Nat.zero_le _, Nat.zero_le _⟩ (fun r25 σ24 τ24 H locs h24 hP hS => ?_)
    obtain ⟨⟨rfl, rfl⟩, h24⟩ := h24
    rcases h24 with h26 | h27
    · obtain ⟨q30, k28, k29⟩ := h26
      have q30 := q30.symm
      subst q30
      refine lv_if_ne (tgt := 34) hx hb dX11_books_17 (of_decide_eq_true rfl) (fun c => absurd (of_decide_eq_true rfl) c) (fun _ => ?_)
      refine lv_aload_n hx hb dX11_books_20 rfl (lv_at hl 0 rfl) ?_
      refine va_get (D := D) hx hb hts inlX11 hown hK hP 0 (jc_0 cI cL ad σ τ) rfl 10 (of_decide_eq_true rfl) (hts _ kw_3_5) (fun _ h9 => h9) rfl dX11_books_21 ?_
      refine lv_iload_n hx hb dX11_books_24 rfl (lv_at hl 1 rfl) ?_
      refine jcallV (As := [.int a1]) (rest := []) ⟨hx, hb, hml, hown, hts⟩ hK hP hA hS hZ (c_X9_sortOf_50 l D cI cL ad zz hJ σ τ a1 (A1) t1) cw_RX11_255 (jc_50 cI cL ad σ τ) rfl ⟨Nat.le_of_ble_eq_true rfl, Nat.le_of_ble_eq_true rfl⟩ rfl rfl rfl hl.1 rfl (Nat.le_of_ble_eq_true rfl) dX11_books_25 ⟨Nat.zero_le _, Nat.zero_le _⟩ (fun r32 σ31 τ31 H locs h31 hP hS => ?_)
      obtain ⟨⟨rfl, rfl⟩, h31⟩ := h31
      rcases h31 with h33 | h34
      · obtain ⟨q37, k35, k36⟩ := h33
        have q38 : r32 = (σ 51 a1.toNatClampNeg) := q37.trans rfl
        have q38 := q38.symm
        subst q38
        refine lv_if_eq (tgt := 34) hx hb dX11_books_28 (of_decide_eq_true rfl) (fun c39 => ?_) (fun c39 => ?_)
        · have kc39 := jeq c39 rfl jz_0
          refine lv_aload_n hx hb dX11_books_34 rfl (lv_at hl 0 rfl) ?_
          refine va_get (D := D) hx hb hts inlX11 hown hK hP 0 (jc_0 cI cL ad σ τ) rfl 9 (of_decide_eq_true rfl) (hts _ kw_3_1) (fun _ h9 => h9) rfl dX11_books_35 ?_
          refine lv_iconst (v := 0) hx hb dX11_books_38 (of_decide_eq_true rfl) ?_
          refine jput (ty := .int) hx hb hts inlX2 tyX2 tyX2_ok nmX2 hown hK hP hJ hA hS (jc_47 cI cL ad σ τ) rfl (k := 0) (of_decide_eq_true rfl) (Nat.le_of_ble_eq_true rfl) (jp_47_0 cI cL ad σ τ 0) (hts _ kw_13_11) (fun _ h9 => h9) rfl (by decide +kernel) rfl rfl dX11_books_39 (fun σ40 H locs eσ40 hP hS => ?_)
          refine lv_aload_n hx hb dX11_books_42 rfl (lv_at hl 0 rfl) ?_
          refine va_get (D := D) hx hb hts inlX11 hown hK hP 0 (jc_0 cI cL ad σ40 τ) rfl 10 (of_decide_eq_true rfl) (hts _ kw_3_5) (fun _ h9 => h9) rfl dX11_books_43 ?_
          refine lv_iload_n hx hb dX11_books_46 rfl (lv_at hl 1 rfl) ?_
          have I41 : jI50 σ40 := jI50_fr (jnp 52 eσ40 (of_decide_eq_true rfl)) hI50
          refine jcallV (As := [.int a1]) (rest := []) ⟨hx, hb, hml, hown, hts⟩ hK hP hA hS hZ (c_X9_lengthOf_50 l D cI cL ad zz hJ σ40 τ a1 (A1) t1 I41) cw_RX11_258 (jc_50 cI cL ad σ40 τ) rfl ⟨Nat.le_of_ble_eq_true rfl, Nat.le_of_ble_eq_true rfl⟩ rfl rfl rfl hl.1 rfl (Nat.le_of_ble_eq_true rfl) dX11_books_47 ⟨Nat.zero_le _, Nat.zero_le _⟩ (fun r43 σ42 τ42 H locs h42 hP hS => ?_)
          obtain ⟨⟨rfl, rfl⟩, h42⟩ := h42
          rcases h42 with h44 | h45
          · obtain ⟨q50, k46, k47, k48, k49⟩ := h44
            have z51 : (σ40 52 a1.toNatClampNeg).toInt = (σ 52 a1.toNatClampNeg).toInt := by rw [jnp 52 eσ40 (of_decide_eq_true rfl)]
            have z52 : (σ40 51 a1.toNatClampNeg).toInt = (σ 51 a1.toNatClampNeg).toInt := by rw [jnp 51 eσ40 (of_decide_eq_true rfl)]
            exact by
             have q53 : r43 = (σ 52 a1.toNatClampNeg) := q50.trans (by rw [jnp 52 eσ40 (of_decide_eq_true rfl)])
             have q53e : (σ40 52 a1.toNatClampNeg).toInt = (σ 52 a1.toNatClampNeg).toInt := by rw [← q50, ← q53]
             have q53 := q53.symm
             subst q53
             refine lv_istore_n (lv' := [(3, .int (σ 52 a1.toNatClampNeg)), (0, .ref (ad 0)), (1, .int a1), (2, .int a2)]) hx hb dX11_books_50 rfl hl (of_decide_eq_true rfl) rfl (fun ls hl => ?_)
             refine lv_iload_n hx hb dX11_books_51 rfl (lv_at hl 3 rfl) ?_
             refine lv_if_lt (tgt := 60) hx hb dX11_books_52 (of_decide_eq_true rfl) (fun c54 => ?_) (fun c54 => ?_)
             · have kc54 := jlt c54 t2 jz_0
               refine lv_iconst (v := 0) hx hb dX11_books_60 (of_decide_eq_true rfl) ?_
               have z55 : (σ40 47 0).toInt = 0 := ((congrArg Int32.toInt (show σ40 47 0 = 0 from (jsp eσ40))).trans jz_0)
               have w56 : ∀ k : Nat, k < 12 → 0 ≤ (σ40 48 k).toInt ∧ (σ40 48 k).toInt ≤ 3 := (jrr_fr (jnp 48 eσ40 (of_decide_eq_true rfl)) w13)
               have w57 : ∀ k : Nat, k < 12 → 0 ≤ (σ40 49 k).toInt ∧ (σ40 49 k).toInt ≤ 1 := (jrr_fr (jnp 49 eσ40 (of_decide_eq_true rfl)) w14)
               exact by
                have I58 : jI47 σ40 := ⟨(by omega), w56, w57⟩
                exact by exact hret 0 σ40 τ _ _ _ _ rfl ⟨rfl, (fun i hi => (jnp i eσ40 (imp_116 i hi))), (fun i hi => (jkp i eσ40 (imp_4 i hi))), I58, (fun ok hy => Or.inr (Or.inr ⟨by omega, by omega, (by have h9 := jz_0; omega), (jBf.first (by omega)).stop (fun w => by
                  have e := w.1
                  revert e; split <;> intro e <;> omega)⟩)), trivial⟩ hP hS dX11_books_61
             · have kc54 := jnlt c54 t2 jz_0
               refine lv_iload_n hx hb dX11_books_55 rfl (lv_at hl 3 rfl) ?_
               refine lv_iload_n hx hb dX11_books_56 rfl (lv_at hl 0 rfl) ?_
               refine lv_icmp_lt (tgt := 62) hx hb dX11_books_57 (of_decide_eq_true rfl) (fun c59 => ?_) (fun c59 => ?_)
               · have kc59 := jlt c59 t2 rfl
                 refine lv_iload_n hx hb dX11_books_62 rfl (lv_at hl 3 rfl) ?_
                 refine lv_istore (lv' := [(4, .int a2), (3, .int (σ 52 a1.toNatClampNeg)), (0, .ref (ad 0)), (1, .int a1), (2, .int a2)]) hx hb dX11_books_63 hl (of_decide_eq_true rfl) rfl (fun ls hl => ?_)
                 have z65 : (σ40 47 0).toInt = 0 := ((congrArg Int32.toInt (show σ40 47 0 = 0 from (jsp eσ40))).trans jz_0)
                 have w66 : ∀ k : Nat, k < 12 → 0 ≤ (σ40 48 k).toInt ∧ (σ40 48 k).toInt ≤ 3 := (jrr_fr (jnp 48 eσ40 (of_decide_eq_true rfl)) w13)
                 have w67 : ∀ k : Nat, k < 12 → 0 ≤ (σ40 49 k).toInt ∧ (σ40 49 k).toInt ≤ 1 := (jrr_fr (jnp 49 eσ40 (of_decide_eq_true rfl)) w14)
                 exact by
                  have I68 : jI47 σ40 := ⟨(by omega), w66, w67⟩
                  have lp60 : ∀ (n61 : Nat) (x62 : Int32) (σ64 : Nat → Nat → Int32) (H : Heap) (locs : List Loc) (ls : Array Slot), ((σ 52 a1.toNatClampNeg).toInt - x62.toInt : Int) < n61 → 0 ≤ x62.toInt → x62.toInt ≤ 60 → x62.toInt ≤ (σ 52 a1.toNatClampNeg).toInt → (σ64 47 0).toInt = x62.toInt - A2 → (∀ i : Nat, (i < 47 ∨ 49 < i) → σ64 i = σ40 i) → (∀ k : Nat, (k < 0 ∨ 0 < k) → σ64 47 k = σ40 47 k) → jI47 σ64 → ((jOk (σ 3) → (0 ≤ A1 → A1 ≤ 5 → ((σ 51 a1.toNatClampNeg).toInt) = 0 → ∀ p : Nat, (p : Int) < ((σ 52 a1.toNatClampNeg).toInt) → -128 ≤ (τ 54 (60 * (A1) + (p : Int)).toNat).toInt ∧ (τ 54 (60 * (A1) + (p : Int)).toNat).toInt ≤ 127) → jBf (fun k : Nat => τ 54 (60 * (A1) + (A2) + (k : Int)).toNat) (((σ 52 a1.toNatClampNeg).toInt) - (A2)) ((σ 2 0).toInt) ((σ 16 0).toInt) ((σ 16 1).toInt) (σ 3) (σ64 48) (σ64 49) ((σ64 47 0).toInt))) → jH D cI cL ad σ64 τ H → va_S (jA ad) s.heap H locs → lv_has ls 6 [(4, .int x62), (3, .int (σ 52 a1.toNatClampNeg)), (0, .ref (ad 0)), (1, .int a1), (2, .int a2)] → W p l e ({ frames := 6, cells := 0, slots := 0, locals := 127 }) s m args below meth c H locs 0 0 Q (F0 m 65 ls []) := by
                    intro n61
                    induction n61 with
                    | zero => intro x62 σ64 H locs ls h70 h71 h72 h73 h74; exact absurd h70 (by omega)
                    | succ n61 ihlp60 =>
                      intro x62 σ64 H locs ls h70 h71 h72 h73 h74 f75 f76 p77 q78 hP hS hl
                      obtain ⟨i79, w80, w81⟩ : (0 ≤ (σ64 47 0).toInt ∧ (σ64 47 0).toInt ≤ 12) ∧ (∀ k : Nat, k < 12 → 0 ≤ (σ64 48 k).toInt ∧ (σ64 48 k).toInt ≤ 3) ∧ (∀ k : Nat, k < 12 → 0 ≤ (σ64 49 k).toInt ∧ (σ64 49 k).toInt ≤ 1) := id p77
                      refine lv_iload hx hb dX11_books_65 (lv_at hl 0 rfl) ?_
                      exact by
                       refine lv_iload_n hx hb dX11_books_67 rfl (lv_at hl 1 rfl) ?_
                       refine lv_icmp_ge (tgt := 161) hx hb dX11_books_68 (of_decide_eq_true rfl) (fun c82 => ?_) (fun c82 => ?_)
                       · have kc82 := jle c82 rfl rfl
                         refine lv_aload_n hx hb dX11_books_161 rfl (lv_at hl 2 rfl) ?_
                         refine va_get (D := D) hx hb hts inlX11 hown hK hP 0 (jc_0 cI cL ad σ64 τ) rfl 9 (of_decide_eq_true rfl) (hts _ kw_3_1) (fun _ h9 => h9) rfl dX11_books_162 ?_
                         refine va_get (D := D) hx hb hts inlX2 hown hK hP 47 (jc_47 cI cL ad σ64 τ) rfl 0 (of_decide_eq_true rfl) (hts _ kw_13_11) (fun _ h9 => h9) rfl dX11_books_165 ?_
                         exact hret (σ64 47 0) σ64 τ _ _ _ _ rfl ⟨rfl, (fun i hi => ((f75 i hi).trans (jnp i eσ40 (imp_116 i hi)))), (fun i hi => ((f76 i hi).trans (jkp i eσ40 (imp_4 i hi)))), p77, (fun ok hy => Or.inr (Or.inr ⟨by omega, by omega, (by omega), (by
                           rw [if_pos (by omega)]
                           exact (q78 ok hy).stop ((fun w => absurd w.1 (by omega))))⟩)), trivial⟩ hP hS dX11_books_168
                       · exact by
                          have kc82 := jnle c82 rfl rfl
                          refine lv_aload_n hx hb dX11_books_71 rfl (lv_at hl 2 rfl) ?_
                          refine va_get (D := D) hx hb hts inlX11 hown hK hP 0 (jc_0 cI cL ad σ64 τ) rfl 10 (of_decide_eq_true rfl) (hts _ kw_3_5) (fun _ h9 => h9) rfl dX11_books_72 ?_
                          refine lv_iload_n hx hb dX11_books_75 rfl (lv_at hl 3 rfl) ?_
                          refine lv_iload hx hb dX11_books_76 (lv_at hl 0 rfl) ?_
                          have I83 : jI50 σ64 := jI50_fr (f75 52 (of_decide_eq_true rfl)) I41
                          refine jcallVl (As := [.int a1, .int x62]) (rest := []) ⟨hx, hb, hml, hown, hts⟩ hK hP hA hS hZ (c_X9_elementAt_50 l D cI cL ad zz hJ σ64 τ a1 (A1) t1 x62 (x62.toInt) rfl I83) cw_RX11_261 (jc_50 cI cL ad σ64 τ) rfl ⟨Nat.le_of_ble_eq_true rfl, Nat.le_of_ble_eq_true rfl⟩ rfl rfl rfl hl.1 rfl (Nat.le_of_ble_eq_true rfl) dX11_books_78 ⟨Nat.zero_le _, Nat.zero_le _⟩ (fun lxr85 σ84 τ84 H locs h84 hP hS => ?_)
                          obtain ⟨⟨rfl, rfl⟩, w86, h84⟩ := h84
                          refine lv_l2i hx hb dX11_books_81 rfl ?_
                          refine lv_topi (fun x87 ex87 => ?_)
                          have gx87 := jrg (rfl : x87.toInt = x87.toInt)
                          refine lv_istore (lv' := [(5, .int x87), (4, .int x62), (3, .int (σ 52 a1.toNatClampNeg)), (0, .ref (ad 0)), (1, .int a1), (2, .int a2)]) hx hb dX11_books_82 hl (of_decide_eq_true rfl) rfl (fun ls hl => ?_)
                          refine lv_iload hx hb dX11_books_84 (lv_at hl 0 rfl) ?_
                          refine lv_iconst (v := 0) hx hb dX11_books_86 (of_decide_eq_true rfl) ?_
                          refine lv_bipush (v := 19) hx hb dX11_books_87 (of_decide_eq_true rfl) ?_
                          refine jcallS (As := [.int x87, .int 0, .int 19]) (rest := []) ⟨hx, hb, hml, hown, hts⟩ hK hP hA hS hZ (c_X11_outside l D cI cL ad zz hJ σ64 τ x87 (x87.toInt) rfl 0 (0) jz_0 19 (19) jz_19) cw_RX11_94 ⟨Nat.le_of_ble_eq_true rfl, Nat.le_of_ble_eq_true rfl⟩ rfl rfl rfl hl.1 rfl (Nat.le_of_ble_eq_true rfl) dX11_books_89 ⟨Nat.zero_le _, Nat.zero_le _⟩ (fun r89 σ88 τ88 H locs h88 hP hS => ?_)
                          obtain ⟨⟨rfl, rfl⟩, h88⟩ := h88
                          rcases h88 with h90 | h91
                          · obtain ⟨q93, k92⟩ := h90
                            have q93 := q93.symm
                            subst q93
                            refine lv_if_ne (tgt := 161) hx hb dX11_books_92 (of_decide_eq_true rfl) (fun _ => ?_) (fun c => absurd c (of_decide_eq_true rfl))
                            refine lv_aload_n hx hb dX11_books_161 rfl (lv_at hl 3 rfl) ?_
                            refine va_get (D := D) hx hb hts inlX11 hown hK hP 0 (jc_0 cI cL ad σ64 τ) rfl 9 (of_decide_eq_true rfl) (hts _ kw_3_1) (fun _ h9 => h9) rfl dX11_books_162 ?_
                            refine va_get (D := D) hx hb hts inlX2 hown hK hP 47 (jc_47 cI cL ad σ64 τ) rfl 0 (of_decide_eq_true rfl) (hts _ kw_13_11) (fun _ h9 => h9) rfl dX11_books_165 ?_
                            exact hret (σ64 47 0) σ64 τ _ _ _ _ rfl ⟨rfl, (fun i hi => ((f75 i hi).trans (jnp i eσ40 (imp_116 i hi)))), (fun i hi => ((f76 i hi).trans (jkp i eσ40 (imp_4 i hi)))), p77, (fun ok hy => Or.inr (Or.inr ⟨by omega, by omega, (by omega), (by
                              rw [if_pos (by omega)]
                              exact (q78 ok hy).stop (fun w => by
                                  exact by
                                   have z51 : (σ64 51 a1.toNatClampNeg).toInt = (σ 51 a1.toNatClampNeg).toInt := by rw [show σ64 51 = σ 51 from ((f75 51 (of_decide_eq_true rfl)).trans (jnp 51 eσ40 (of_decide_eq_true rfl)))]
                                   have z52 : (σ64 52 a1.toNatClampNeg).toInt = (σ 52 a1.toNatClampNeg).toInt := by rw [show σ64 52 = σ 52 from ((f75 52 (of_decide_eq_true rfl)).trans (jnp 52 eσ40 (of_decide_eq_true rfl)))]
                                   have g1 := jGt.get w86 (by unfold jRf; first | ((repeat (first | rw [if_pos (by omega)] | rw [if_neg (by omega)])) <;> omega) | ((repeat' split) <;> omega))
                                   have g3 := hy (by omega) (by omega) (by omega) (x62.toInt).toNat (by omega)
                                   rw [show ((x62.toInt).toNat : Int) = x62.toInt by omega, ← g1] at g3
                                   have g4 : x87.toInt = lxr85.toInt := jtoI ex87 rfl (by omega) (by omega)
                                   have hE : (τ 54 (60 * (A1) + (A2) + ((((σ64 47 0).toInt).toNat : Nat) : Int)).toNat).toInt = x87.toInt := by rw [show 60 * (A1) + (A2) + ((((σ64 47 0).toInt).toNat : Nat) : Int) = 60 * (A1) + (x62.toInt) by omega, ← g1]; exact g4.symm
                                   obtain ⟨w1, w2, w3, b, w4, w5⟩ := w
                                   have w2 : 0 ≤ (τ 54 (60 * (A1) + (A2) + ((((σ64 47 0).toInt).toNat : Nat) : Int)).toNat).toInt ∧ (τ 54 (60 * (A1) + (A2) + ((((σ64 47 0).toInt).toNat : Nat) : Int)).toNat).toInt < 20 := w2
                                   exact by
                                    have w3 : (τ 54 (60 * (A1) + (A2) + ((((σ64 47 0).toInt).toNat : Nat) : Int)).toNat).toInt % 10 < (σ 2 0).toInt := w3
                                    have w4 : b.toInt = (τ 54 (60 * (A1) + (A2) + ((((σ64 47 0).toInt).toNat : Nat) : Int)).toNat).toInt % 10 := w4
                                    omega))⟩)), trivial⟩ hP hS dX11_books_168
                          · obtain ⟨q95, k94⟩ := h91
                            have q95 := q95.symm
                            subst q95
                            refine lv_if_ne (tgt := 161) hx hb dX11_books_92 (of_decide_eq_true rfl) (fun c => absurd (of_decide_eq_true rfl) c) (fun _ => ?_)
                            refine lv_aload_n hx hb dX11_books_95 rfl (lv_at hl 3 rfl) ?_
                            refine lv_iload hx hb dX11_books_96 (lv_at hl 0 rfl) ?_
                            refine lv_bipush (v := 10) hx hb dX11_books_98 (of_decide_eq_true rfl) ?_
                            refine lv_irem hx hb dX11_books_100 (of_decide_eq_true rfl) ?_
                            refine lv_topi (fun x96 ex96 => ?_)
                            exact by
                             have tx96 : x96.toInt = (x87.toInt % 10) := jrem ex96 rfl jz_10 (by omega)
                             have I97 : jI2 σ64 := jI2_fr ((congrFun (f75 2 (of_decide_eq_true rfl)) 0).trans (congrFun (jnp 2 eσ40 (of_decide_eq_true rfl)) 0)) ((congrFun (f75 2 (of_decide_eq_true rfl)) 1).trans (congrFun (jnp 2 eσ40 (of_decide_eq_true rfl)) 1)) ((congrFun (f75 2 (of_decide_eq_true rfl)) 2).trans (congrFun (jnp 2 eσ40 (of_decide_eq_true rfl)) 2)) ((congrFun (f75 2 (of_decide_eq_true rfl)) 3).trans (congrFun (jnp 2 eσ40 (of_decide_eq_true rfl)) 3)) ((f75 6 (of_decide_eq_true rfl)).trans (jnp 6 eσ40 (of_decide_eq_true rfl))) ((f75 5 (of_decide_eq_true rfl)).trans (jnp 5 eσ40 (of_decide_eq_true rfl))) hI2
                             have z98 : (σ64 2 0).toInt = (σ 2 0).toInt := (congrArg Int32.toInt (show σ64 2 0 = (σ 2 0) from ((congrFun (f75 2 (of_decide_eq_true rfl)) 0).trans (congrFun (jnp 2 eσ40 (of_decide_eq_true rfl)) 0))))
                             refine jcallV (As := [.int x96]) (rest := []) ⟨hx, hb, hml, hown, hts⟩ hK hP hA hS hZ (c_X11_noBowler l D cI cL ad zz hJ σ64 τ x96 ((x87.toInt % 10)) tx96 I97) cw_RX11_152 (jc_0 cI cL ad σ64 τ) rfl ⟨Nat.le_of_ble_eq_true rfl, Nat.le_of_ble_eq_true rfl⟩ rfl rfl rfl hl.1 rfl (Nat.le_of_ble_eq_true rfl) dX11_books_101 ⟨Nat.zero_le _, Nat.zero_le _⟩ (fun r100 σ99 τ99 H locs h99 hP hS => ?_)
                             obtain ⟨⟨rfl, rfl⟩, h99⟩ := h99
                             rcases h99 with h101 | h102
                             · obtain ⟨q104, k103⟩ := h101
                               have q104 := q104.symm
                               subst q104
                               refine lv_if_ne (tgt := 161) hx hb dX11_books_104 (of_decide_eq_true rfl) (fun _ => ?_) (fun c => absurd c (of_decide_eq_true rfl))
                               refine lv_aload_n hx hb dX11_books_161 rfl (lv_at hl 3 rfl) ?_
                               refine va_get (D := D) hx hb hts inlX11 hown hK hP 0 (jc_0 cI cL ad σ64 τ) rfl 9 (of_decide_eq_true rfl) (hts _ kw_3_1) (fun _ h9 => h9) rfl dX11_books_162 ?_
                               refine va_get (D := D) hx hb hts inlX2 hown hK hP 47 (jc_47 cI cL ad σ64 τ) rfl 0 (of_decide_eq_true rfl) (hts _ kw_13_11) (fun _ h9 => h9) rfl dX11_books_165 ?_
                               exact hret (σ64 47 0) σ64 τ _ _ _ _ rfl ⟨rfl, (fun i hi => ((f75 i hi).trans (jnp i eσ40 (imp_116 i hi)))), (fun i hi => ((f76 i hi).trans (jkp i eσ40 (imp_4 i hi)))), p77, (fun ok hy => Or.inr (Or.inr ⟨by omega, by omega, (by omega), (by
                                 rw [if_pos (by omega)]
                                 exact (q78 ok hy).stop (fun w => by
                                     exact by
                                      have z51 : (σ64 51 a1.toNatClampNeg).toInt = (σ 51 a1.toNatClampNeg).toInt := by rw [show σ64 51 = σ 51 from ((f75 51 (of_decide_eq_true rfl)).trans (jnp 51 eσ40 (of_decide_eq_true rfl)))]
                                      have z52 : (σ64 52 a1.toNatClampNeg).toInt = (σ 52 a1.toNatClampNeg).toInt := by rw [show σ64 52 = σ 52 from ((f75 52 (of_decide_eq_true rfl)).trans (jnp 52 eσ40 (of_decide_eq_true rfl)))]
                                      have g1 := jGt.get w86 (by unfold jRf; first | ((repeat (first | rw [if_pos (by omega)] | rw [if_neg (by omega)])) <;> omega) | ((repeat' split) <;> omega))
                                      have g3 := hy (by omega) (by omega) (by omega) (x62.toInt).toNat (by omega)
                                      rw [show ((x62.toInt).toNat : Int) = x62.toInt by omega, ← g1] at g3
                                      have g4 : x87.toInt = lxr85.toInt := jtoI ex87 rfl (by omega) (by omega)
                                      have hE : (τ 54 (60 * (A1) + (A2) + ((((σ64 47 0).toInt).toNat : Nat) : Int)).toNat).toInt = x87.toInt := by rw [show 60 * (A1) + (A2) + ((((σ64 47 0).toInt).toNat : Nat) : Int) = 60 * (A1) + (x62.toInt) by omega, ← g1]; exact g4.symm
                                      obtain ⟨w1, w2, w3, b, w4, w5⟩ := w
                                      have w2 : 0 ≤ (τ 54 (60 * (A1) + (A2) + ((((σ64 47 0).toInt).toNat : Nat) : Int)).toNat).toInt ∧ (τ 54 (60 * (A1) + (A2) + ((((σ64 47 0).toInt).toNat : Nat) : Int)).toNat).toInt < 20 := w2
                                      exact by
                                       have w3 : (τ 54 (60 * (A1) + (A2) + ((((σ64 47 0).toInt).toNat : Nat) : Int)).toNat).toInt % 10 < (σ 2 0).toInt := w3
                                       have w4 : b.toInt = (τ 54 (60 * (A1) + (A2) + ((((σ64 47 0).toInt).toNat : Nat) : Int)).toNat).toInt % 10 := w4
                                       omega))⟩)), trivial⟩ hP hS dX11_books_168
                             · obtain ⟨q106, k105⟩ := h102
                               have q106 := q106.symm
                               subst q106
                               refine lv_if_ne (tgt := 161) hx hb dX11_books_104 (of_decide_eq_true rfl) (fun c => absurd (of_decide_eq_true rfl) c) (fun _ => ?_)
                               refine lv_aload_n hx hb dX11_books_107 rfl (lv_at hl 3 rfl) ?_
                               refine lv_iload hx hb dX11_books_108 (lv_at hl 0 rfl) ?_
                               refine lv_bipush (v := 10) hx hb dX11_books_110 (of_decide_eq_true rfl) ?_
                               refine lv_irem hx hb dX11_books_112 (of_decide_eq_true rfl) ?_
                               refine lv_topi (fun x107 ex107 => ?_)
                               exact by
                                have tx107 : x107.toInt = (x87.toInt % 10) := jrem ex107 rfl jz_10 (by omega)
                                have I108 : jI16 σ64 := jI16_fr ((congrFun (f75 16 (of_decide_eq_true rfl)) 0).trans (congrFun (jnp 16 eσ40 (of_decide_eq_true rfl)) 0)) ((congrFun (f75 16 (of_decide_eq_true rfl)) 1).trans (congrFun (jnp 16 eσ40 (of_decide_eq_true rfl)) 1)) ((congrFun (f75 16 (of_decide_eq_true rfl)) 2).trans (congrFun (jnp 16 eσ40 (of_decide_eq_true rfl)) 2)) ((f75 17 (of_decide_eq_true rfl)).trans (jnp 17 eσ40 (of_decide_eq_true rfl))) hI16
                                refine jcallV (As := [.int x107]) (rest := []) ⟨hx, hb, hml, hown, hts⟩ hK hP hA hS hZ (c_X11_mayBeBooked l D cI cL ad zz hJ σ64 τ x107 ((x87.toInt % 10)) tx107 I97 I108 p77) cw_RX11_243 (jc_0 cI cL ad σ64 τ) rfl ⟨Nat.le_of_ble_eq_true rfl, Nat.le_of_ble_eq_true rfl⟩ rfl rfl rfl hl.1 rfl (Nat.le_of_ble_eq_true rfl) dX11_books_113 ⟨Nat.zero_le _, Nat.zero_le _⟩ (fun r110 σ109 τ109 H locs h109 hP hS => ?_)
                                obtain ⟨⟨rfl, rfl⟩, w111, h109⟩ := h109
                                have z112 : (σ64 16 0).toInt = (σ 16 0).toInt := (congrArg Int32.toInt (show σ64 16 0 = (σ 16 0) from ((congrFun (f75 16 (of_decide_eq_true rfl)) 0).trans (congrFun (jnp 16 eσ40 (of_decide_eq_true rfl)) 0))))
                                have z113 : (σ64 16 1).toInt = (σ 16 1).toInt := (congrArg Int32.toInt (show σ64 16 1 = (σ 16 1) from ((congrFun (f75 16 (of_decide_eq_true rfl)) 1).trans (congrFun (jnp 16 eσ40 (of_decide_eq_true rfl)) 1))))
                                rw [show σ64 3 = σ 3 from ((f75 3 (of_decide_eq_true rfl)).trans (jnp 3 eσ40 (of_decide_eq_true rfl))), show (σ64 2 0).toInt = (σ 2 0).toInt from by omega, show (σ64 16 0).toInt = (σ 16 0).toInt from by omega, show (σ64 16 1).toInt = (σ 16 1).toInt from by omega] at w111
                                refine lv_if_ne (tgt := 122) hx hb dX11_books_116 (of_decide_eq_true rfl) (fun c114 => ?_) (fun c114 => ?_)
                                · have kc114 := jne c114 rfl jz_0
                                  refine lv_aload_n hx hb dX11_books_122 rfl (lv_at hl 3 rfl) ?_
                                  refine va_get (D := D) hx hb hts inlX11 hown hK hP 0 (jc_0 cI cL ad σ64 τ) rfl 9 (of_decide_eq_true rfl) (hts _ kw_3_1) (fun _ h9 => h9) rfl dX11_books_123 ?_
                                  refine va_get (D := D) hx hb hts inlX2 hown hK hP 47 (jc_47 cI cL ad σ64 τ) rfl 0 (of_decide_eq_true rfl) (hts _ kw_13_11) (fun _ h9 => h9) rfl dX11_books_126 ?_
                                  refine lv_bipush (v := 12) hx hb dX11_books_129 (of_decide_eq_true rfl) ?_
                                  refine lv_icmp_lt (tgt := 137) hx hb dX11_books_131 (of_decide_eq_true rfl) (fun c115 => ?_) (fun c115 => ?_)
                                  · have kc115 := jlt c115 rfl jz_12
                                    refine lv_aload_n hx hb dX11_books_137 rfl (lv_at hl 3 rfl) ?_
                                    refine va_get (D := D) hx hb hts inlX11 hown hK hP 0 (jc_0 cI cL ad σ64 τ) rfl 9 (of_decide_eq_true rfl) (hts _ kw_3_1) (fun _ h9 => h9) rfl dX11_books_138 ?_
                                    refine lv_iload hx hb dX11_books_141 (lv_at hl 0 rfl) ?_
                                    refine lv_bipush (v := 10) hx hb dX11_books_143 (of_decide_eq_true rfl) ?_
                                    refine lv_irem hx hb dX11_books_145 (of_decide_eq_true rfl) ?_
                                    refine lv_topi (fun x116 ex116 => ?_)
                                    exact by
                                     have tx116 : x116.toInt = (x87.toInt % 10) := jrem ex116 rfl jz_10 (by omega)
                                     refine lv_iload hx hb dX11_books_146 (lv_at hl 0 rfl) ?_
                                     refine lv_bipush (v := 10) hx hb dX11_books_148 (of_decide_eq_true rfl) ?_
                                     refine lv_idiv hx hb dX11_books_150 (of_decide_eq_true rfl) ?_
                                     refine lv_topi (fun x117 ex117 => ?_)
                                     have tx117 : x117.toInt = (x87.toInt / 10) := jdiv ex117 rfl jz_10 (by omega) (by omega)
                                     refine jcallV (As := [.int x116, .int x117]) (rest := []) ⟨hx, hb, hml, hown, hts⟩ hK hP hA hS hZ (c_X2_write_47 l D cI cL ad zz hJ σ64 τ x116 ((x87.toInt % 10)) tx116 x117 ((x87.toInt / 10)) tx117 p77 (by omega) (by omega)) cw_RX11_246 (jc_47 cI cL ad σ64 τ) rfl ⟨Nat.le_of_ble_eq_true rfl, Nat.le_of_ble_eq_true rfl⟩ rfl rfl rfl hl.1 rfl (Nat.le_of_ble_eq_true rfl) dX11_books_151 ⟨Nat.zero_le _, Nat.zero_le _⟩ (fun r119 σ118 τ118 H locs h118 hP hS => ?_)
                                     obtain ⟨rfl, f120, f121, I122, h118⟩ := h118
                                     obtain ⟨i124, w125, w126⟩ : (0 ≤ (σ118 47 0).toInt ∧ (σ118 47 0).toInt ≤ 12) ∧ (∀ k : Nat, k < 12 → 0 ≤ (σ118 48 k).toInt ∧ (σ118 48 k).toInt ≤ 3) ∧ (∀ k : Nat, k < 12 → 0 ≤ (σ118 49 k).toInt ∧ (σ118 49 k).toInt ≤ 1) := id I122
                                     exact by
                                      rcases h118 with h127 | h128
                                      · obtain ⟨q132, k129, k130, k131⟩ := h127
                                        exact absurd (by omega : False) id
                                      · obtain ⟨q137, k133, k134, k135, k136⟩ := h128
                                        refine lv_pop hx hb dX11_books_154 rfl ?_
                                        obtain ⟨x138, ex138⟩ : ∃ y : Int32, y = x62 + 1 := ⟨_, rfl⟩
                                        have tx138 : x138.toInt = x62.toInt + 1 := (jadd ex138 rfl jz_1 (by omega) (by omega)).trans (by omega)
                                        refine lv_iinc (v := x138) (lv' := [(4, .int x138), (5, .int x87), (3, .int (σ 52 a1.toNatClampNeg)), (0, .ref (ad 0)), (1, .int a1), (2, .int a2)]) hx hb dX11_books_155 hl (k := 1) rfl (by rw [ex138]; rfl) (of_decide_eq_true rfl) rfl (fun ls hl => ?_)
                                        refine lv_goto (tgt := 65) hx hb dX11_books_158 (of_decide_eq_true rfl) ?_
                                        exact by exact ihlp60 x138 σ118 _ _ ls (by have h90 := tx138; omega) (by have h90 := tx138; omega) (by have h90 := tx138; omega) (by have h90 := tx138; omega) (by have h90 := tx138; omega) (fun i hi => ((f120 i hi).trans (f75 i hi))) (fun i hi => ((f121 i hi).trans (f76 i hi)))  I122 (fun ok hy => by
                                              exact by
                                               have z51 : (σ64 51 a1.toNatClampNeg).toInt = (σ 51 a1.toNatClampNeg).toInt := by rw [show σ64 51 = σ 51 from ((f75 51 (of_decide_eq_true rfl)).trans (jnp 51 eσ40 (of_decide_eq_true rfl)))]
                                               have z52 : (σ64 52 a1.toNatClampNeg).toInt = (σ 52 a1.toNatClampNeg).toInt := by rw [show σ64 52 = σ 52 from ((f75 52 (of_decide_eq_true rfl)).trans (jnp 52 eσ40 (of_decide_eq_true rfl)))]
                                               have g1 := jGt.get w86 (by unfold jRf; first | ((repeat (first | rw [if_pos (by omega)] | rw [if_neg (by omega)])) <;> omega) | ((repeat' split) <;> omega))
                                               have g3 := hy (by omega) (by omega) (by omega) (x62.toInt).toNat (by omega)
                                               rw [show ((x62.toInt).toNat : Int) = x62.toInt by omega, ← g1] at g3
                                               have g4 : x87.toInt = lxr85.toInt := jtoI ex87 rfl (by omega) (by omega)
                                               have hE : (τ 54 (60 * (A1) + (A2) + ((((σ64 47 0).toInt).toNat : Nat) : Int)).toNat).toInt = x87.toInt := by rw [show 60 * (A1) + (A2) + ((((σ64 47 0).toInt).toNat : Nat) : Int) = 60 * (A1) + (x62.toInt) by omega, ← g1]; exact g4.symm
                                               exact by exact (q78 ok hy).step k136.1 k136.2 (by omega) (by show 0 ≤ _ ∧ _ < (20 : Int); rw [hE]; omega) (by show _ % 10 < _; rw [hE]; omega) (by show _ = _ % 10; rw [hE]; have h9 := tx116; omega) (by show _ = _ / 10; rw [hE]; have h9 := tx117; omega) (by rw [show x116 = x107 from Int32.toInt_inj.mp (by have h8 := tx116; have h9 := tx107; omega)]; exact (w111 ok).elim (fun q => q.2) (fun q => absurd (congrArg Int32.toInt q.1) (by rw [jz_0]; omega))) (by omega)) hP hS (lv_sub hl [0, 2, 3, 4, 5] rfl)
                                  · have kc115 := jnlt c115 rfl jz_12
                                    exact by
                                     refine lv_goto (tgt := 161) hx hb dX11_books_134 (of_decide_eq_true rfl) ?_
                                     refine lv_aload_n hx hb dX11_books_161 rfl (lv_at hl 3 rfl) ?_
                                     refine va_get (D := D) hx hb hts inlX11 hown hK hP 0 (jc_0 cI cL ad σ64 τ) rfl 9 (of_decide_eq_true rfl) (hts _ kw_3_1) (fun _ h9 => h9) rfl dX11_books_162 ?_
                                     refine va_get (D := D) hx hb hts inlX2 hown hK hP 47 (jc_47 cI cL ad σ64 τ) rfl 0 (of_decide_eq_true rfl) (hts _ kw_13_11) (fun _ h9 => h9) rfl dX11_books_165 ?_
                                     exact hret (σ64 47 0) σ64 τ _ _ _ _ rfl ⟨rfl, (fun i hi => ((f75 i hi).trans (jnp i eσ40 (imp_116 i hi)))), (fun i hi => ((f76 i hi).trans (jkp i eσ40 (imp_4 i hi)))), p77, (fun ok hy => Or.inr (Or.inr ⟨by omega, by omega, (by omega), (by
                                       rw [if_pos (by omega)]
                                       exact (q78 ok hy).stop (fun w => by
                                           have z51 : (σ64 51 a1.toNatClampNeg).toInt = (σ 51 a1.toNatClampNeg).toInt := by rw [show σ64 51 = σ 51 from ((f75 51 (of_decide_eq_true rfl)).trans (jnp 51 eσ40 (of_decide_eq_true rfl)))]
                                           have z52 : (σ64 52 a1.toNatClampNeg).toInt = (σ 52 a1.toNatClampNeg).toInt := by rw [show σ64 52 = σ 52 from ((f75 52 (of_decide_eq_true rfl)).trans (jnp 52 eσ40 (of_decide_eq_true rfl)))]
                                           exact by
                                            have g1 := jGt.get w86 (by unfold jRf; first | ((repeat (first | rw [if_pos (by omega)] | rw [if_neg (by omega)])) <;> omega) | ((repeat' split) <;> omega))
                                            have g3 := hy (by omega) (by omega) (by omega) (x62.toInt).toNat (by omega)
                                            rw [show ((x62.toInt).toNat : Int) = x62.toInt by omega, ← g1] at g3
                                            have g4 : x87.toInt = lxr85.toInt := jtoI ex87 rfl (by omega) (by omega)
                                            have hE : (τ 54 (60 * (A1) + (A2) + ((((σ64 47 0).toInt).toNat : Nat) : Int)).toNat).toInt = x87.toInt := by rw [show 60 * (A1) + (A2) + ((((σ64 47 0).toInt).toNat : Nat) : Int) = 60 * (A1) + (x62.toInt) by omega, ← g1]; exact g4.symm
                                            obtain ⟨w1, w2, w3, b, w4, w5⟩ := w
                                            have w2 : 0 ≤ (τ 54 (60 * (A1) + (A2) + ((((σ64 47 0).toInt).toNat : Nat) : Int)).toNat).toInt ∧ (τ 54 (60 * (A1) + (A2) + ((((σ64 47 0).toInt).toNat : Nat) : Int)).toNat).toInt < 20 := w2
                                            have w3 : (τ 54 (60 * (A1) + (A2) + ((((σ64 47 0).toInt).toNat : Nat) : Int)).toNat).toInt % 10 < (σ 2 0).toInt := w3
                                            have w4 : b.toInt = (τ 54 (60 * (A1) + (A2) + ((((σ64 47 0).toInt).toNat : Nat) : Int)).toNat).toInt % 10 := w4
                                            rw [show (((σ64 47 0).toInt).toNat : Int) = (σ64 47 0).toInt by omega, show b = x107 from Int32.toInt_inj.mp (by have h9 := tx107; omega)] at w5
                                            exact (w111 ok).elim (fun q => by have e := q.2.2.1; have e2 := q.1; first | omega | exact absurd (congrArg Int32.toInt e2) (by rw [jz_1]; omega)) (fun q => q.2 w5)))⟩)), trivial⟩ hP hS dX11_books_168
                                · exact by
                                   have kc114 := jeq c114 rfl jz_0
                                   refine lv_goto (tgt := 161) hx hb dX11_books_119 (of_decide_eq_true rfl) ?_
                                   refine lv_aload_n hx hb dX11_books_161 rfl (lv_at hl 3 rfl) ?_
                                   refine va_get (D := D) hx hb hts inlX11 hown hK hP 0 (jc_0 cI cL ad σ64 τ) rfl 9 (of_decide_eq_true rfl) (hts _ kw_3_1) (fun _ h9 => h9) rfl dX11_books_162 ?_
                                   refine va_get (D := D) hx hb hts inlX2 hown hK hP 47 (jc_47 cI cL ad σ64 τ) rfl 0 (of_decide_eq_true rfl) (hts _ kw_13_11) (fun _ h9 => h9) rfl dX11_books_165 ?_
                                   exact hret (σ64 47 0) σ64 τ _ _ _ _ rfl ⟨rfl, (fun i hi => ((f75 i hi).trans (jnp i eσ40 (imp_116 i hi)))), (fun i hi => ((f76 i hi).trans (jkp i eσ40 (imp_4 i hi)))), p77, (fun ok hy => Or.inr (Or.inr ⟨by omega, by omega, (by omega), (by
                                     rw [if_pos (by omega)]
                                     exact (q78 ok hy).stop (fun w => by
                                         have z51 : (σ64 51 a1.toNatClampNeg).toInt = (σ 51 a1.toNatClampNeg).toInt := by rw [show σ64 51 = σ 51 from ((f75 51 (of_decide_eq_true rfl)).trans (jnp 51 eσ40 (of_decide_eq_true rfl)))]
                                         exact by
                                          have z52 : (σ64 52 a1.toNatClampNeg).toInt = (σ 52 a1.toNatClampNeg).toInt := by rw [show σ64 52 = σ 52 from ((f75 52 (of_decide_eq_true rfl)).trans (jnp 52 eσ40 (of_decide_eq_true rfl)))]
                                          have g1 := jGt.get w86 (by unfold jRf; first | ((repeat (first | rw [if_pos (by omega)] | rw [if_neg (by omega)])) <;> omega) | ((repeat' split) <;> omega))
                                          have g3 := hy (by omega) (by omega) (by omega) (x62.toInt).toNat (by omega)
                                          rw [show ((x62.toInt).toNat : Int) = x62.toInt by omega, ← g1] at g3
                                          have g4 : x87.toInt = lxr85.toInt := jtoI ex87 rfl (by omega) (by omega)
                                          have hE : (τ 54 (60 * (A1) + (A2) + ((((σ64 47 0).toInt).toNat : Nat) : Int)).toNat).toInt = x87.toInt := by rw [show 60 * (A1) + (A2) + ((((σ64 47 0).toInt).toNat : Nat) : Int) = 60 * (A1) + (x62.toInt) by omega, ← g1]; exact g4.symm
                                          obtain ⟨w1, w2, w3, b, w4, w5⟩ := w
                                          have w2 : 0 ≤ (τ 54 (60 * (A1) + (A2) + ((((σ64 47 0).toInt).toNat : Nat) : Int)).toNat).toInt ∧ (τ 54 (60 * (A1) + (A2) + ((((σ64 47 0).toInt).toNat : Nat) : Int)).toNat).toInt < 20 := w2
                                          have w3 : (τ 54 (60 * (A1) + (A2) + ((((σ64 47 0).toInt).toNat : Nat) : Int)).toNat).toInt % 10 < (σ 2 0).toInt := w3
                                          exact by
                                           have w4 : b.toInt = (τ 54 (60 * (A1) + (A2) + ((((σ64 47 0).toInt).toNat : Nat) : Int)).toNat).toInt % 10 := w4
                                           rw [show (((σ64 47 0).toInt).toNat : Int) = (σ64 47 0).toInt by omega, show b = x107 from Int32.toInt_inj.mp (by have h9 := tx107; omega)] at w5
                                           exact (w111 ok).elim (fun q => by have e := q.2.2.1; have e2 := q.1; first | omega | exact absurd (congrArg Int32.toInt e2) (by rw [jz_1]; omega)) (fun q => q.2 w5)))⟩)), trivial⟩ hP hS dX11_books_168
                  exact by exact lp60 1000000 a2 σ40 _ _ ls (by have h90 := t2; omega) (by have h90 := t2; omega) (by have h90 := t2; omega) (by have h90 := t2; omega) (by have h90 := t2; omega) (fun _ _ => rfl) (fun _ _ => rfl)  I68 (fun ok hy => jBf.first (by omega)) hP hS hl
               · have kc59 := jnlt c59 t2 rfl
                 refine lv_iconst (v := 0) hx hb dX11_books_60 (of_decide_eq_true rfl) ?_
                 have z139 : (σ40 47 0).toInt = 0 := ((congrArg Int32.toInt (show σ40 47 0 = 0 from (jsp eσ40))).trans jz_0)
                 have w140 : ∀ k : Nat, k < 12 → 0 ≤ (σ40 48 k).toInt ∧ (σ40 48 k).toInt ≤ 3 := (jrr_fr (jnp 48 eσ40 (of_decide_eq_true rfl)) w13)
                 have w141 : ∀ k : Nat, k < 12 → 0 ≤ (σ40 49 k).toInt ∧ (σ40 49 k).toInt ≤ 1 := (jrr_fr (jnp 49 eσ40 (of_decide_eq_true rfl)) w14)
                 exact by
                  have I142 : jI47 σ40 := ⟨(by omega), w140, w141⟩
                  exact by exact hret 0 σ40 τ _ _ _ _ rfl ⟨rfl, (fun i hi => (jnp i eσ40 (imp_116 i hi))), (fun i hi => (jkp i eσ40 (imp_4 i hi))), I142, (fun ok hy => Or.inr (Or.inr ⟨by omega, by omega, (by have h9 := jz_0; omega), (jBf.first (by omega)).stop (fun w => by
                    have e := w.1
                    revert e; split <;> intro e <;> omega)⟩)), trivial⟩ hP hS dX11_books_61
          · obtain ⟨q144, k143⟩ := h45
            have z145 : (σ40 52 a1.toNatClampNeg).toInt = (σ 52 a1.toNatClampNeg).toInt := by rw [jnp 52 eσ40 (of_decide_eq_true rfl)]
            have z146 : (σ40 51 a1.toNatClampNeg).toInt = (σ 51 a1.toNatClampNeg).toInt := by rw [jnp 51 eσ40 (of_decide_eq_true rfl)]
            exact absurd (by omega : False) id
        · have kc39 := jne c39 rfl jz_0
          refine lv_bipush (v := (-12)) hx hb dX11_books_31 (of_decide_eq_true rfl) ?_
          exact hret (-12) σ τ _ _ _ _ rfl ⟨rfl, (fun _ _ => rfl), (fun _ _ => rfl), hI47, (fun ok hy => Or.inr (Or.inl ⟨(by have h9 := jz_m12; omega), by omega, ⟨by omega, by omega⟩, rfl, rfl, rfl⟩)), trivial⟩ hP hS dX11_books_33
      · obtain ⟨q148, k147⟩ := h34
        exact absurd (by omega : False) id
    · obtain ⟨q150, k149⟩ := h27
      have q150 := q150.symm
      subst q150
      refine lv_if_ne (tgt := 34) hx hb dX11_books_17 (of_decide_eq_true rfl) (fun _ => ?_) (fun c => absurd c (of_decide_eq_true rfl))
      refine lv_aload_n hx hb dX11_books_34 rfl (lv_at hl 0 rfl) ?_
      refine va_get (D := D) hx hb hts inlX11 hown hK hP 0 (jc_0 cI cL ad σ τ) rfl 9 (of_decide_eq_true rfl) (hts _ kw_3_1) (fun _ h9 => h9) rfl dX11_books_35 ?_
      refine lv_iconst (v := 0) hx hb dX11_books_38 (of_decide_eq_true rfl) ?_
      refine jput (ty := .int) hx hb hts inlX2 tyX2 tyX2_ok nmX2 hown hK hP hJ hA hS (jc_47 cI cL ad σ τ) rfl (k := 0) (of_decide_eq_true rfl) (Nat.le_of_ble_eq_true rfl) (jp_47_0 cI cL ad σ τ 0) (hts _ kw_13_11) (fun _ h9 => h9) rfl (by decide +kernel) rfl rfl dX11_books_39 (fun σ151 H locs eσ151 hP hS => ?_)
      refine lv_aload_n hx hb dX11_books_42 rfl (lv_at hl 0 rfl) ?_
      refine va_get (D := D) hx hb hts inlX11 hown hK hP 0 (jc_0 cI cL ad σ151 τ) rfl 10 (of_decide_eq_true rfl) (hts _ kw_3_5) (fun _ h9 => h9) rfl dX11_books_43 ?_
      refine lv_iload_n hx hb dX11_books_46 rfl (lv_at hl 1 rfl) ?_
      have I152 : jI50 σ151 := jI50_fr (jnp 52 eσ151 (of_decide_eq_true rfl)) hI50
      refine jcallV (As := [.int a1]) (rest := []) ⟨hx, hb, hml, hown, hts⟩ hK hP hA hS hZ (c_X9_lengthOf_50 l D cI cL ad zz hJ σ151 τ a1 (A1) t1 I152) cw_RX11_258 (jc_50 cI cL ad σ151 τ) rfl ⟨Nat.le_of_ble_eq_true rfl, Nat.le_of_ble_eq_true rfl⟩ rfl rfl rfl hl.1 rfl (Nat.le_of_ble_eq_true rfl) dX11_books_47 ⟨Nat.zero_le _, Nat.zero_le _⟩ (fun r154 σ153 τ153 H locs h153 hP hS => ?_)
      obtain ⟨⟨rfl, rfl⟩, h153⟩ := h153
      rcases h153 with h155 | h156
      · obtain ⟨q161, k157, k158, k159, k160⟩ := h155
        have z162 : (σ151 52 a1.toNatClampNeg).toInt = (σ 52 a1.toNatClampNeg).toInt := by rw [jnp 52 eσ151 (of_decide_eq_true rfl)]
        have z163 : (σ151 51 a1.toNatClampNeg).toInt = (σ 51 a1.toNatClampNeg).toInt := by rw [jnp 51 eσ151 (of_decide_eq_true rfl)]
        exact absurd (by omega : False) id
      · obtain ⟨q165, k164⟩ := h156
        have z166 : (σ151 52 a1.toNatClampNeg).toInt = (σ 52 a1.toNatClampNeg).toInt := by rw [jnp 52 eσ151 (of_decide_eq_true rfl)]
        have z167 : (σ151 51 a1.toNatClampNeg).toInt = (σ 51 a1.toNatClampNeg).toInt := by rw [jnp 51 eσ151 (of_decide_eq_true rfl)]
        have q165 := q165.symm
        subst q165
        refine lv_istore_n (lv' := [(3, .int 0), (0, .ref (ad 0)), (1, .int a1), (2, .int a2)]) hx hb dX11_books_50 rfl hl (of_decide_eq_true rfl) rfl (fun ls hl => ?_)
        refine lv_iload_n hx hb dX11_books_51 rfl (lv_at hl 3 rfl) ?_
        refine lv_if_lt (tgt := 60) hx hb dX11_books_52 (of_decide_eq_true rfl) (fun c168 => ?_) (fun c168 => ?_)
        · have kc168 := jlt c168 t2 jz_0
          refine lv_iconst (v := 0) hx hb dX11_books_60 (of_decide_eq_true rfl) ?_
          have z169 : (σ151 47 0).toInt = 0 := ((congrArg Int32.toInt (show σ151 47 0 = 0 from (jsp eσ151))).trans jz_0)
          have w170 : ∀ k : Nat, k < 12 → 0 ≤ (σ151 48 k).toInt ∧ (σ151 48 k).toInt ≤ 3 := (jrr_fr (jnp 48 eσ151 (of_decide_eq_true rfl)) w13)
          have w171 : ∀ k : Nat, k < 12 → 0 ≤ (σ151 49 k).toInt ∧ (σ151 49 k).toInt ≤ 1 := (jrr_fr (jnp 49 eσ151 (of_decide_eq_true rfl)) w14)
          exact by
           have I172 : jI47 σ151 := ⟨(by omega), w170, w171⟩
           exact by exact hret 0 σ151 τ _ _ _ _ rfl ⟨rfl, (fun i hi => (jnp i eσ151 (imp_116 i hi))), (fun i hi => (jkp i eσ151 (imp_4 i hi))), I172, (fun ok hy => Or.inr (Or.inr ⟨by omega, by omega, (by have h9 := jz_0; omega), (jBf.first (by omega)).stop (fun w => by
             have e := w.1
             revert e; split <;> intro e <;> omega)⟩)), trivial⟩ hP hS dX11_books_61
        · have kc168 := jnlt c168 t2 jz_0
          refine lv_iload_n hx hb dX11_books_55 rfl (lv_at hl 3 rfl) ?_
          refine lv_iload_n hx hb dX11_books_56 rfl (lv_at hl 0 rfl) ?_
          refine lv_icmp_lt (tgt := 62) hx hb dX11_books_57 (of_decide_eq_true rfl) (fun c => absurd (jlt c t2 jz_0) (by omega)) (fun c173 => ?_)
          have kc173 := jnlt c173 t2 jz_0
          exact by
           refine lv_iconst (v := 0) hx hb dX11_books_60 (of_decide_eq_true rfl) ?_
           have z174 : (σ151 47 0).toInt = 0 := ((congrArg Int32.toInt (show σ151 47 0 = 0 from (jsp eσ151))).trans jz_0)
           have w175 : ∀ k : Nat, k < 12 → 0 ≤ (σ151 48 k).toInt ∧ (σ151 48 k).toInt ≤ 3 := (jrr_fr (jnp 48 eσ151 (of_decide_eq_true rfl)) w13)
           have w176 : ∀ k : Nat, k < 12 → 0 ≤ (σ151 49 k).toInt ∧ (σ151 49 k).toInt ≤ 1 := (jrr_fr (jnp 49 eσ151 (of_decide_eq_true rfl)) w14)
           have I177 : jI47 σ151 := ⟨(by omega), w175, w176⟩
           exact by exact hret 0 σ151 τ _ _ _ _ rfl ⟨rfl, (fun i hi => (jnp i eσ151 (imp_116 i hi))), (fun i hi => (jkp i eσ151 (imp_4 i hi))), I177, (fun ok hy => Or.inr (Or.inr ⟨by omega, by omega, (by have h9 := jz_0; omega), (jBf.first (by omega)).stop (fun w => by
             have e := w.1
             revert e; split <;> intro e <;> omega)⟩)), trivial⟩ hP hS dX11_books_61
set_option maxHeartbeats 4000000 in
set_option maxRecDepth 100000 in
theorem c_X11_close (l : Launch) (D : va_G) (cI cL : ClassId) (ad zz : Nat → Nat) (hJ : jD ad) (σ : Nat → Nat → Int32) (τ : Nat → Nat → Int64) (hI47 : jI47 σ) : jM l yX11_close cX11_close 2 (some .int) ({ frames := 0, cells := 0, slots := 0, locals := 0 }) D cI cL ad zz [.ref (ad 0)] σ τ (fun r σ' τ' => τ = τ' ∧ (∀ i : Nat, (i < 47 ∨ 47 < i) → σ' i = σ i) ∧ (∀ k : Nat, (k < 0 ∨ 0 < k) → σ' 47 k = σ 47 k) ∧ (jI47 σ') ∧ ((True ∧ (r.toInt = (σ 47 0).toInt) ∧ ((σ' 47 0).toInt = 0)))) := by
  refine jM.of hJ (by decide +kernel) (nt := .int) rfl (Nat.le_of_ble_eq_true rfl) ?_
  intro p e s m args below meth c Q ls hC hret hl hP
  obtain ⟨hx, hb, hr, hml, hown, hts, hK, -, hlocks, hZ⟩ := hC
  have hown : s.vm.findClass RX11 = some m.cls := hown
  have hS : va_S (jA ad) s.heap s.heap [] := va_S.rf
  have hA : ∀ q, jA ad q → jA ad q := fun _ h => h
  have hl : lv_has ls 2 [(0, .ref (ad 0))] := hl
  obtain ⟨i1, w2, w3⟩ : (0 ≤ (σ 47 0).toInt ∧ (σ 47 0).toInt ≤ 12) ∧ (∀ k : Nat, k < 12 → 0 ≤ (σ 48 k).toInt ∧ (σ 48 k).toInt ≤ 3) ∧ (∀ k : Nat, k < 12 → 0 ≤ (σ 49 k).toInt ∧ (σ 49 k).toInt ≤ 1) := id hI47
  refine lv_aload_n hx hb dX11_close_0 rfl (lv_at hl 0 rfl) ?_
  refine va_get (D := D) hx hb hts inlX11 hown hK hP 0 (jc_0 cI cL ad σ τ) rfl 9 (of_decide_eq_true rfl) (hts _ kw_3_1) (fun _ h9 => h9) rfl dX11_close_1 ?_
  refine va_get (D := D) hx hb hts inlX2 hown hK hP 47 (jc_47 cI cL ad σ τ) rfl 0 (of_decide_eq_true rfl) (hts _ kw_13_11) (fun _ h9 => h9) rfl dX11_close_4 ?_
  refine lv_istore_n (lv' := [(1, .int (σ 47 0)), (0, .ref (ad 0))]) hx hb dX11_close_7 rfl hl (of_decide_eq_true rfl) rfl (fun ls hl => ?_)
  refine lv_aload_n hx hb dX11_close_8 rfl (lv_at hl 1 rfl) ?_
  refine va_get (D := D) hx hb hts inlX11 hown hK hP 0 (jc_0 cI cL ad σ τ) rfl 9 (of_decide_eq_true rfl) (hts _ kw_3_1) (fun _ h9 => h9) rfl dX11_close_9 ?_
  refine lv_iconst (v := 0) hx hb dX11_close_12 (of_decide_eq_true rfl) ?_
  refine jput (ty := .int) hx hb hts inlX2 tyX2 tyX2_ok nmX2 hown hK hP hJ hA hS (jc_47 cI cL ad σ τ) rfl (k := 0) (of_decide_eq_true rfl) (Nat.le_of_ble_eq_true rfl) (jp_47_0 cI cL ad σ τ 0) (hts _ kw_13_11) (fun _ h9 => h9) rfl (by decide +kernel) rfl rfl dX11_close_13 (fun σ4 H locs eσ4 hP hS => ?_)
  refine lv_iload_n hx hb dX11_close_16 rfl (lv_at hl 0 rfl) ?_
  have z5 : (σ4 47 0).toInt = 0 := ((congrArg Int32.toInt (show σ4 47 0 = 0 from (jsp eσ4))).trans jz_0)
  have w6 : ∀ k : Nat, k < 12 → 0 ≤ (σ4 48 k).toInt ∧ (σ4 48 k).toInt ≤ 3 := (jrr_fr (jnp 48 eσ4 (of_decide_eq_true rfl)) w2)
  have w7 : ∀ k : Nat, k < 12 → 0 ≤ (σ4 49 k).toInt ∧ (σ4 49 k).toInt ≤ 1 := (jrr_fr (jnp 49 eσ4 (of_decide_eq_true rfl)) w3)
  exact by
   have I8 : jI47 σ4 := ⟨(by omega), w6, w7⟩
   exact by exact hret (σ 47 0) σ4 τ _ _ _ _ rfl ⟨rfl, (fun i hi => (jnp i eσ4 (imp_142 i hi))), (fun i hi => (jkp i eσ4 (imp_4 i hi))), I8, ⟨trivial, (by omega), (by omega)⟩⟩ hP hS dX11_close_17
set_option maxHeartbeats 4000000 in
set_option maxRecDepth 100000 in
theorem c_X11_costOf (l : Launch) (D : va_G) (cI cL : ClassId) (ad zz : Nat → Nat) (hJ : jD ad) (σ : Nat → Nat → Int32) (τ : Nat → Nat → Int64) (a1 : Int32) (A1 : Int) (t1 : a1.toInt = A1) (hI2 : jI2 σ) (hI16 : jI16 σ) (hI22 : jI22 σ) (hI31 : jI31 σ) (hI47 : jI47 σ) (hI26 : jI26 σ) (hs_jOk3 : jOk3 σ) (hs_jN67 : jN67 σ) (hs_jBl : jBl σ) (hs_jKb : jKb σ) (hs_jKh : jKh σ) (hs_jKg : jKg σ) (hs_jNz : jNz σ) (hp0 : 0 ≤ A1) (hp1 : A1 < (σ 47 0).toInt) : jM l yX11_costOf cX11_costOf 12 (some .int) ({ frames := 6, cells := 0, slots := 0, locals := 162 }) D cI cL ad zz [.ref (ad 0), .int a1] σ τ (fun r σ' τ' => τ = τ' ∧ (∀ i : Nat, (i < 24 ∨ 25 < i) ∧ (i < 27 ∨ 37 < i) → σ' i = σ i) ∧ (∀ k : Nat, (k < 8 ∨ 8 < k) ∧ (k < 9 ∨ 9 < k) ∧ (k < 10 ∨ 10 < k) ∧ (k < 11 ∨ 11 < k) ∧ (k < 12 ∨ 12 < k) → σ' 31 k = σ 31 k) ∧ (jI31 σ') ∧ (jOk3 σ') ∧ (jN67 σ') ∧ (jBl σ') ∧ (jKb σ') ∧ (jKh σ') ∧ (jKg σ') ∧ (jNz σ') ∧ True) := by
  refine jM.of hJ (by decide +kernel) (nt := .int) rfl (Nat.le_of_ble_eq_true rfl) ?_
  intro p e s m args below meth c Q ls hC hret hl hP
  obtain ⟨hx, hb, hr, hml, hown, hts, hK, -, hlocks, hZ⟩ := hC
  have hown : s.vm.findClass RX11 = some m.cls := hown
  have hS : va_S (jA ad) s.heap s.heap [] := va_S.rf
  have hA : ∀ q, jA ad q → jA ad q := fun _ h => h
  have hl : lv_has ls 12 [(0, .ref (ad 0)), (1, .int a1)] := hl
  have g1 := jrg t1
  obtain ⟨i1, i2, i3, i4, i5, w6, w7⟩ : (0 ≤ (σ 2 0).toInt ∧ (σ 2 0).toInt ≤ 4) ∧ (0 ≤ (σ 2 1).toInt ∧ (σ 2 1).toInt ≤ 3) ∧ (0 ≤ (σ 2 2).toInt) ∧ (0 ≤ (σ 2 3).toInt) ∧ ((σ 2 2).toInt + (σ 2 3).toInt ≤ 40) ∧ (∀ k : Nat, k < 40 → 0 ≤ (σ 6 k).toInt ∧ (σ 6 k).toInt ≤ 67) ∧ (∀ k : Nat, k < 4 → 0 ≤ (σ 5 k).toInt ∧ (σ 5 k).toInt ≤ 20) := id hI2
  obtain ⟨i8, i9, i10, w11⟩ : (1 ≤ (σ 16 0).toInt ∧ (σ 16 0).toInt ≤ 8) ∧ (1 ≤ (σ 16 1).toInt ∧ (σ 16 1).toInt ≤ 12) ∧ (0 ≤ (σ 16 2).toInt ∧ (σ 16 2).toInt ≤ 999) ∧ (∀ k : Nat, k < 8 → 0 ≤ (σ 17 k).toInt ∧ (σ 17 k).toInt ≤ 3) := id hI16
  obtain ⟨i12, i13, i14, i15, w16, w17, w18⟩ : (0 ≤ (σ 31 8).toInt ∧ (σ 31 8).toInt ≤ 350) ∧ (0 ≤ (σ 31 10).toInt ∧ (σ 31 10).toInt ≤ 12) ∧ (0 ≤ (σ 31 11).toInt ∧ (σ 31 11).toInt ≤ 8) ∧ ((σ 31 10).toInt + (σ 31 11).toInt ≤ 12) ∧ (∀ k : Nat, k < 1400 → (-1) ≤ (σ 33 k).toInt ∧ (σ 33 k).toInt ≤ 350) ∧ (∀ k : Nat, k < 3159 → (-1) ≤ (σ 35 k).toInt ∧ (σ 35 k).toInt ≤ 3) ∧ (∀ k : Nat, k < 1024 → 0 ≤ (σ 36 k).toInt ∧ (σ 36 k).toInt ≤ 349) := id hI31
  obtain ⟨i19, w20, w21⟩ : (0 ≤ (σ 47 0).toInt ∧ (σ 47 0).toInt ≤ 12) ∧ (∀ k : Nat, k < 12 → 0 ≤ (σ 48 k).toInt ∧ (σ 48 k).toInt ≤ 3) ∧ (∀ k : Nat, k < 12 → 0 ≤ (σ 49 k).toInt ∧ (σ 49 k).toInt ≤ 1) := id hI47
  refine lv_aload_n hx hb dX11_costOf_0 rfl (lv_at hl 0 rfl) ?_
  refine va_get (D := D) hx hb hts inlX11 hown hK hP 0 (jc_0 cI cL ad σ τ) rfl 9 (of_decide_eq_true rfl) (hts _ kw_3_1) (fun _ h9 => h9) rfl dX11_costOf_1 ?_
  refine lv_iload_n hx hb dX11_costOf_4 rfl (lv_at hl 1 rfl) ?_
  refine jcallV (As := [.int a1]) (rest := []) ⟨hx, hb, hml, hown, hts⟩ hK hP hA hS hZ (c_X2_outs_47 l D cI cL ad zz hJ σ τ a1 (A1) t1 hI47) cw_RX11_180 (jc_47 cI cL ad σ τ) rfl ⟨Nat.le_of_ble_eq_true rfl, Nat.le_of_ble_eq_true rfl⟩ rfl rfl rfl hl.1 rfl (Nat.le_of_ble_eq_true rfl) dX11_costOf_5 ⟨Nat.zero_le _, Nat.zero_le _⟩ (fun r23 σ22 τ22 H locs h22 hP hS => ?_)
  obtain ⟨⟨rfl, rfl⟩, w24, h22⟩ := h22
  have h25 := h22
  obtain ⟨q27, k26⟩ := h25
  refine lv_istore_n (lv' := [(2, .int r23), (0, .ref (ad 0)), (1, .int a1)]) hx hb dX11_costOf_8 rfl hl (of_decide_eq_true rfl) rfl (fun ls hl => ?_)
  refine lv_aload_n hx hb dX11_costOf_9 rfl (lv_at hl 1 rfl) ?_
  refine va_get (D := D) hx hb hts inlX11 hown hK hP 0 (jc_0 cI cL ad σ τ) rfl 9 (of_decide_eq_true rfl) (hts _ kw_3_1) (fun _ h9 => h9) rfl dX11_costOf_10 ?_
  refine lv_iload_n hx hb dX11_costOf_13 rfl (lv_at hl 2 rfl) ?_
  refine lv_aload_n hx hb dX11_costOf_14 rfl (lv_at hl 1 rfl) ?_
  refine va_get (D := D) hx hb hts inlX11 hown hK hP 0 (jc_0 cI cL ad σ τ) rfl 0 (of_decide_eq_true rfl) (hts _ kw_1_16) (fun _ h9 => h9) rfl dX11_costOf_15 ?_
  refine jcallV (As := [.int a1, .ref (ad 2)]) (rest := []) ⟨hx, hb, hml, hown, hts⟩ hK hP hA hS hZ (c_X2_attackAhead_47 l D cI cL ad zz hJ σ τ a1 (A1) t1 hI2 hI47) cw_RX11_186 (jc_47 cI cL ad σ τ) rfl ⟨Nat.le_of_ble_eq_true rfl, Nat.le_of_ble_eq_true rfl⟩ rfl rfl rfl hl.1 rfl (Nat.le_of_ble_eq_true rfl) dX11_costOf_18 ⟨Nat.zero_le _, Nat.zero_le _⟩ (fun r29 σ28 τ28 H locs h28 hP hS => ?_)
  obtain ⟨⟨rfl, rfl⟩, w30, w31, h28⟩ := h28
  have h32 := h28
  obtain ⟨q34, k33⟩ := h32
  refine lv_istore_n (lv' := [(3, .int r29), (2, .int r23), (0, .ref (ad 0)), (1, .int a1)]) hx hb dX11_costOf_21 rfl hl (of_decide_eq_true rfl) rfl (fun ls hl => ?_)
  refine lv_aload_n hx hb dX11_costOf_22 rfl (lv_at hl 2 rfl) ?_
  refine va_get (D := D) hx hb hts inlX11 hown hK hP 0 (jc_0 cI cL ad σ τ) rfl 9 (of_decide_eq_true rfl) (hts _ kw_3_1) (fun _ h9 => h9) rfl dX11_costOf_23 ?_
  refine lv_iload_n hx hb dX11_costOf_26 rfl (lv_at hl 3 rfl) ?_
  exact by
   refine jcallV (As := [.int a1]) (rest := []) ⟨hx, hb, hml, hown, hts⟩ hK hP hA hS hZ (c_X2_bowlerAt_i l D cI cL ad zz hJ σ τ a1 (A1) t1 hI47 (by omega) (by omega)) cw_RX11_343 (jc_47 cI cL ad σ τ) rfl ⟨Nat.le_of_ble_eq_true rfl, Nat.le_of_ble_eq_true rfl⟩ rfl rfl rfl hl.1 rfl (Nat.le_of_ble_eq_true rfl) dX11_costOf_27 ⟨Nat.zero_le _, Nat.zero_le _⟩ (fun r36 σ35 τ35 H locs h35 hP hS => ?_)
   obtain ⟨⟨rfl, rfl⟩, h35⟩ := h35
   have h37 := h35
   obtain ⟨q39, k38⟩ := h37
   refine lv_istore (lv' := [(4, .int r36), (3, .int r29), (2, .int r23), (0, .ref (ad 0)), (1, .int a1)]) hx hb dX11_costOf_30 hl (of_decide_eq_true rfl) rfl (fun ls hl => ?_)
   refine lv_aload_n hx hb dX11_costOf_32 rfl (lv_at hl 3 rfl) ?_
   refine va_get (D := D) hx hb hts inlX11 hown hK hP 0 (jc_0 cI cL ad σ τ) rfl 2 (of_decide_eq_true rfl) (hts _ kw_2_0) (fun _ h9 => h9) rfl dX11_costOf_33 ?_
   refine lv_iload_n hx hb dX11_costOf_36 rfl (lv_at hl 4 rfl) ?_
   refine lv_iload_n hx hb dX11_costOf_37 rfl (lv_at hl 2 rfl) ?_
   refine lv_iload_n hx hb dX11_costOf_38 rfl (lv_at hl 1 rfl) ?_
   refine jcallV (As := [.int a1, .int r23, .int r29]) (rest := []) ⟨hx, hb, hml, hown, hts⟩ hK hP hA hS hZ (c_X6_ended_16 l D cI cL ad zz hJ σ τ a1 (A1) t1 r23 (r23.toInt) rfl r29 (r29.toInt) rfl) cw_RX11_190 (jc_16 cI cL ad σ τ) rfl ⟨Nat.le_of_ble_eq_true rfl, Nat.le_of_ble_eq_true rfl⟩ rfl rfl rfl hl.1 rfl (Nat.le_of_ble_eq_true rfl) dX11_costOf_39 ⟨Nat.zero_le _, Nat.zero_le _⟩ (fun r41 σ40 τ40 H locs h40 hP hS => ?_)
   obtain ⟨⟨rfl, rfl⟩, w42, h40⟩ := h40
   refine lv_if_eq (tgt := 47) hx hb dX11_costOf_42 (of_decide_eq_true rfl) (fun c43 => ?_) (fun c43 => ?_)
   · have kc43 := jeq c43 rfl jz_0
     refine lv_aload_n hx hb dX11_costOf_47 rfl (lv_at hl 3 rfl) ?_
     refine va_get (D := D) hx hb hts inlX11 hown hK hP 0 (jc_0 cI cL ad σ τ) rfl 5 (of_decide_eq_true rfl) (hts _ kw_2_9) (fun _ h9 => h9) rfl dX11_costOf_48 ?_
     refine lv_aload_n hx hb dX11_costOf_51 rfl (lv_at hl 3 rfl) ?_
     refine va_get (D := D) hx hb hts inlX11 hown hK hP 0 (jc_0 cI cL ad σ τ) rfl 0 (of_decide_eq_true rfl) (hts _ kw_1_16) (fun _ h9 => h9) rfl dX11_costOf_52 ?_
     refine va_get (D := D) hx hb hts inlX4 hown hK hP 2 (jc_2 cI cL ad σ τ) rfl 1 (of_decide_eq_true rfl) (hts _ kw_12_8) (fun _ h9 => h9) rfl dX11_costOf_55 ?_
     exact by
      refine jcallVv (As := [.int (σ 2 1)]) (rest := []) ⟨hx, hb, hml, hown, hts⟩ hK hP hA hS hZ (c_X5_lay_26 l D cI cL ad zz hJ σ τ (σ 2 1) ((σ 2 1).toInt) rfl (by omega)) cw_RX11_156 (jc_26 cI cL ad σ τ) rfl ⟨Nat.le_of_ble_eq_true rfl, Nat.le_of_ble_eq_true rfl⟩ rfl rfl rfl hl.1 rfl (Nat.le_of_ble_eq_true rfl) dX11_costOf_58 ⟨Nat.zero_le _, Nat.zero_le _⟩ (fun σ44 τ44 H locs h44 hP hS => ?_)
      obtain ⟨rfl, f46, w47, h44⟩ := h44
      refine lv_aload_n hx hb dX11_costOf_61 rfl (lv_at hl 3 rfl) ?_
      refine va_get (D := D) hx hb hts inlX11 hown hK hP 0 (jc_0 cI cL ad σ44 τ) rfl 6 (of_decide_eq_true rfl) (hts _ kw_2_13) (fun _ h9 => h9) rfl dX11_costOf_62 ?_
      refine lv_iload_n hx hb dX11_costOf_65 rfl (lv_at hl 1 rfl) ?_
      refine lv_iload_n hx hb dX11_costOf_66 rfl (lv_at hl 4 rfl) ?_
      refine lv_iload_n hx hb dX11_costOf_67 rfl (lv_at hl 2 rfl) ?_
      have I49 : jI16 σ44 := jI16_fr (congrFun (f46 16 (of_decide_eq_true rfl)) 0) (congrFun (f46 16 (of_decide_eq_true rfl)) 1) (congrFun (f46 16 (of_decide_eq_true rfl)) 2) (f46 17 (of_decide_eq_true rfl)) hI16
      have I50 : jI22 σ44 := jI22_fr (congrFun (f46 22 (of_decide_eq_true rfl)) 0) (f46 23 (of_decide_eq_true rfl)) hI22
      have I51 : jI31 σ44 := jI31_fr (congrFun (f46 31 (of_decide_eq_true rfl)) 8) (congrFun (f46 31 (of_decide_eq_true rfl)) 10) (congrFun (f46 31 (of_decide_eq_true rfl)) 11) (f46 33 (of_decide_eq_true rfl)) (f46 35 (of_decide_eq_true rfl)) (f46 36 (of_decide_eq_true rfl)) hI31
      have I52 : jI26 σ44 := jI26_fr (congrFun (f46 26 (of_decide_eq_true rfl)) 6) hI26
      have p53 : jN67 σ44 := jN67.fr (f46 24 (of_decide_eq_true rfl)) hs_jN67
      have p54 : jBl σ44 := jBl.fr (congrFun (f46 22 (of_decide_eq_true rfl)) 0) (congrFun (f46 22 (of_decide_eq_true rfl)) 1) (f46 23 (of_decide_eq_true rfl)) (congrFun (f46 26 (of_decide_eq_true rfl)) 6) (congrFun (f46 26 (of_decide_eq_true rfl)) 7) (f46 29 (of_decide_eq_true rfl)) (f46 30 (of_decide_eq_true rfl)) hs_jBl
      have p55 : jKb σ44 := jKb.fr (congrFun (f46 31 (of_decide_eq_true rfl)) 8) (congrFun (f46 31 (of_decide_eq_true rfl)) 11) (f46 32 (of_decide_eq_true rfl)) hs_jKb
      have p56 : jKh σ44 := jKh.fr (congrFun (f46 31 (of_decide_eq_true rfl)) 8) (f46 32 (of_decide_eq_true rfl)) (f46 36 (of_decide_eq_true rfl)) (f46 37 (of_decide_eq_true rfl)) hs_jKh
      have p57 : jKg σ44 := jKg.fr (congrFun (f46 31 (of_decide_eq_true rfl)) 8) (congrFun (f46 31 (of_decide_eq_true rfl)) 9) (congrFun (f46 31 (of_decide_eq_true rfl)) 11) (congrFun (f46 31 (of_decide_eq_true rfl)) 12) (f46 32 (of_decide_eq_true rfl)) (f46 33 (of_decide_eq_true rfl)) hs_jKg
      have p58 : jNz σ44 := jNz.fr (f46 34 (of_decide_eq_true rfl)) hs_jNz
      have z59 : (σ44 16 1).toInt = (σ 16 1).toInt := (congrArg Int32.toInt (show σ44 16 1 = (σ 16 1) from (congrFun (f46 16 (of_decide_eq_true rfl)) 1)))
      exact by
       refine jcallVv (As := [.int r29, .int a1, .int r23]) (rest := []) ⟨hx, hb, hml, hown, hts⟩ hK hP hA hS hZ (c_X1_seek_31 l D cI cL ad zz hJ σ44 τ r29 (r29.toInt) rfl a1 (A1) t1 r23 (r23.toInt) rfl I49 I50 I51 I52 p53 p54 p55 p56 p57 p58 (by omega) (by omega) (by omega)) cw_RX11_193 (jc_31 cI cL ad σ44 τ) rfl ⟨Nat.le_of_ble_eq_true rfl, Nat.le_of_ble_eq_true rfl⟩ rfl rfl rfl hl.1 rfl (Nat.le_of_ble_eq_true rfl) dX11_costOf_68 ⟨Nat.zero_le _, Nat.zero_le _⟩ (fun σ60 τ60 H locs h60 hP hS => ?_)
       obtain ⟨rfl, f62, f63, I64, p65, p66, p67, p68, p69, p70, h60⟩ := h60
       obtain ⟨i72, i73, i74, i75, w76, w77, w78⟩ : (0 ≤ (σ60 31 8).toInt ∧ (σ60 31 8).toInt ≤ 350) ∧ (0 ≤ (σ60 31 10).toInt ∧ (σ60 31 10).toInt ≤ 12) ∧ (0 ≤ (σ60 31 11).toInt ∧ (σ60 31 11).toInt ≤ 8) ∧ ((σ60 31 10).toInt + (σ60 31 11).toInt ≤ 12) ∧ (∀ k : Nat, k < 1400 → (-1) ≤ (σ60 33 k).toInt ∧ (σ60 33 k).toInt ≤ 350) ∧ (∀ k : Nat, k < 3159 → (-1) ≤ (σ60 35 k).toInt ∧ (σ60 35 k).toInt ≤ 3) ∧ (∀ k : Nat, k < 1024 → 0 ≤ (σ60 36 k).toInt ∧ (σ60 36 k).toInt ≤ 349) := id I64
       obtain ⟨k79, k80, k81, h60⟩ := h60
       refine lv_aload_n hx hb dX11_costOf_71 rfl (lv_at hl 3 rfl) ?_
       refine va_get (D := D) hx hb hts inlX11 hown hK hP 0 (jc_0 cI cL ad σ60 τ) rfl 6 (of_decide_eq_true rfl) (hts _ kw_2_13) (fun _ h9 => h9) rfl dX11_costOf_72 ?_
       refine lv_iconst (v := 0) hx hb dX11_costOf_75 (of_decide_eq_true rfl) ?_
       refine lv_iload_n hx hb dX11_costOf_76 rfl (lv_at hl 2 rfl) ?_
       have I82 : jI16 σ60 := jI16_fr (congrFun (f62 16 (of_decide_eq_true rfl)) 0) (congrFun (f62 16 (of_decide_eq_true rfl)) 1) (congrFun (f62 16 (of_decide_eq_true rfl)) 2) (f62 17 (of_decide_eq_true rfl)) I49
       refine jcallV (As := [.int 0, .int r23]) (rest := []) ⟨hx, hb, hml, hown, hts⟩ hK hP hA hS hZ (c_X1_valueAt_31 l D cI cL ad zz hJ σ60 τ 0 (0) jz_0 r23 (r23.toInt) rfl I82 I64) cw_RX11_215 (jc_31 cI cL ad σ60 τ) rfl ⟨Nat.le_of_ble_eq_true rfl, Nat.le_of_ble_eq_true rfl⟩ rfl rfl rfl hl.1 rfl (Nat.le_of_ble_eq_true rfl) dX11_costOf_77 ⟨Nat.zero_le _, Nat.zero_le _⟩ (fun r84 σ83 τ83 H locs h83 hP hS => ?_)
       obtain ⟨⟨rfl, rfl⟩, w85, h83⟩ := h83
       refine lv_istore (lv' := [(5, .int r84), (4, .int r36), (3, .int r29), (2, .int r23), (0, .ref (ad 0)), (1, .int a1)]) hx hb dX11_costOf_80 hl (of_decide_eq_true rfl) rfl (fun ls hl => ?_)
       refine lv_iconst (v := 0) hx hb dX11_costOf_82 (of_decide_eq_true rfl) ?_
       refine lv_istore (lv' := [(6, .int 0), (5, .int r84), (4, .int r36), (3, .int r29), (2, .int r23), (0, .ref (ad 0)), (1, .int a1)]) hx hb dX11_costOf_83 hl (of_decide_eq_true rfl) rfl (fun ls hl => ?_)
       refine lv_iconst (v := 0) hx hb dX11_costOf_85 (of_decide_eq_true rfl) ?_
       refine lv_istore (lv' := [(7, .int 0), (6, .int 0), (5, .int r84), (4, .int r36), (3, .int r29), (2, .int r23), (0, .ref (ad 0)), (1, .int a1)]) hx hb dX11_costOf_86 hl (of_decide_eq_true rfl) rfl (fun ls hl => ?_)
       refine lv_iload_n hx hb dX11_costOf_88 rfl (lv_at hl 4 rfl) ?_
       refine lv_iload hx hb dX11_costOf_89 (lv_at hl 3 rfl) ?_
       exact by
        refine jcallS (As := [.int r29, .int r36]) (rest := []) ⟨hx, hb, hml, hown, hts⟩ hK hP hA hS hZ (c_X0_after_r l D cI cL ad zz hJ σ60 τ r29 (r29.toInt) rfl r36 (r36.toInt) rfl (by omega)) cw_RX11_232 ⟨Nat.le_of_ble_eq_true rfl, Nat.le_of_ble_eq_true rfl⟩ rfl rfl rfl hl.1 rfl (Nat.le_of_ble_eq_true rfl) dX11_costOf_91 ⟨Nat.zero_le _, Nat.zero_le _⟩ (fun r87 σ86 τ86 H locs h86 hP hS => ?_)
        obtain ⟨⟨rfl, rfl⟩, w88, w89, h86⟩ := h86
        have h90 := h86
        obtain ⟨q92, k91⟩ := h90
        refine lv_istore (lv' := [(8, .int r87), (7, .int 0), (6, .int 0), (5, .int r84), (4, .int r36), (3, .int r29), (2, .int r23), (0, .ref (ad 0)), (1, .int a1)]) hx hb dX11_costOf_94 hl (of_decide_eq_true rfl) rfl (fun ls hl => ?_)
        refine lv_iload_n hx hb dX11_costOf_96 rfl (lv_at hl 8 rfl) ?_
        refine lv_iconst (v := 1) hx hb dX11_costOf_97 (of_decide_eq_true rfl) ?_
        refine lv_iadd hx hb dX11_costOf_98 ?_
        refine lv_topi (fun x93 ex93 => ?_)
        exact by
         have tx93 : x93.toInt = A1 + 1 := (jadd ex93 t1 jz_1 (by omega) (by omega)).trans (by omega)
         refine lv_aload_n hx hb dX11_costOf_99 rfl (lv_at hl 7 rfl) ?_
         refine va_get (D := D) hx hb hts inlX11 hown hK hP 0 (jc_0 cI cL ad σ60 τ) rfl 2 (of_decide_eq_true rfl) (hts _ kw_2_0) (fun _ h9 => h9) rfl dX11_costOf_100 ?_
         refine va_get (D := D) hx hb hts inlX6 hown hK hP 16 (jc_16 cI cL ad σ60 τ) rfl 1 (of_decide_eq_true rfl) (hts _ kw_20_5) (fun _ h9 => h9) rfl dX11_costOf_103 ?_
         have m94 : σ60 16 1 = (σ 16 1) := ((congrFun (f62 16 (of_decide_eq_true rfl)) 1).trans (congrFun (f46 16 (of_decide_eq_true rfl)) 1))
         refine jtopr m94 ?_
         refine lv_icmp_ge (tgt := 146) hx hb dX11_costOf_106 (of_decide_eq_true rfl) (fun c95 => ?_) (fun c95 => ?_)
         · have kc95 := jle c95 rfl tx93
           refine lv_aload_n hx hb dX11_costOf_146 rfl (lv_at hl 7 rfl) ?_
           refine va_get (D := D) hx hb hts inlX11 hown hK hP 0 (jc_0 cI cL ad σ60 τ) rfl 2 (of_decide_eq_true rfl) (hts _ kw_2_0) (fun _ h9 => h9) rfl dX11_costOf_147 ?_
           refine lv_iload_n hx hb dX11_costOf_150 rfl (lv_at hl 6 rfl) ?_
           refine jcallV (As := [.int r23]) (rest := []) ⟨hx, hb, hml, hown, hts⟩ hK hP hA hS hZ (c_X6_sortAt_16 l D cI cL ad zz hJ σ60 τ r23 (r23.toInt) rfl I82) cw_RX11_149 (jc_16 cI cL ad σ60 τ) rfl ⟨Nat.le_of_ble_eq_true rfl, Nat.le_of_ble_eq_true rfl⟩ rfl rfl rfl hl.1 rfl (Nat.le_of_ble_eq_true rfl) dX11_costOf_151 ⟨Nat.zero_le _, Nat.zero_le _⟩ (fun r97 σ96 τ96 H locs h96 hP hS => ?_)
           obtain ⟨⟨rfl, rfl⟩, h96⟩ := h96
           rcases h96 with h98 | h99
           · obtain ⟨q102, k100, k101⟩ := h98
             have z103 : (σ60 17 r23.toNatClampNeg).toInt = (σ 17 r23.toNatClampNeg).toInt := by rw [f62 17 (of_decide_eq_true rfl), f46 17 (of_decide_eq_true rfl)]
             exact by
              have q104 : r97 = (σ 17 r23.toNatClampNeg) := q102.trans (by rw [f62 17 (of_decide_eq_true rfl), f46 17 (of_decide_eq_true rfl)])
              have q104e : (σ60 17 r23.toNatClampNeg).toInt = (σ 17 r23.toNatClampNeg).toInt := by rw [← q102, ← q104]
              have q104 := q104.symm
              subst q104
              refine lv_istore (lv' := [(9, .int (σ 17 r23.toNatClampNeg)), (8, .int r87), (7, .int 0), (6, .int 0), (5, .int r84), (4, .int r36), (3, .int r29), (2, .int r23), (0, .ref (ad 0)), (1, .int a1)]) hx hb dX11_costOf_154 hl (of_decide_eq_true rfl) rfl (fun ls hl => ?_)
              refine lv_iload_n hx hb dX11_costOf_156 rfl (lv_at hl 6 rfl) ?_
              refine lv_iload hx hb dX11_costOf_157 (lv_at hl 5 rfl) ?_
              refine jcallS (As := [.int r29, .int r36]) (rest := []) ⟨hx, hb, hml, hown, hts⟩ hK hP hA hS hZ (c_X0_steps l D cI cL ad zz hJ σ60 τ r29 (r29.toInt) rfl r36 (r36.toInt) rfl) cw_RX11_346 ⟨Nat.le_of_ble_eq_true rfl, Nat.le_of_ble_eq_true rfl⟩ rfl rfl rfl hl.1 rfl (Nat.le_of_ble_eq_true rfl) dX11_costOf_159 ⟨Nat.zero_le _, Nat.zero_le _⟩ (fun r106 σ105 τ105 H locs h105 hP hS => ?_)
              obtain ⟨⟨rfl, rfl⟩, w107, h105⟩ := h105
              have k108 := congrArg Int32.toInt w107
              have h109 := h105
              obtain ⟨q111, k110⟩ := h109
              refine lv_istore (lv' := [(10, .int r106), (9, .int (σ 17 r23.toNatClampNeg)), (8, .int r87), (7, .int 0), (6, .int 0), (5, .int r84), (4, .int r36), (3, .int r29), (2, .int r23), (0, .ref (ad 0)), (1, .int a1)]) hx hb dX11_costOf_162 hl (of_decide_eq_true rfl) rfl (fun ls hl => ?_)
              refine lv_aload_n hx hb dX11_costOf_164 rfl (lv_at hl 9 rfl) ?_
              refine va_get (D := D) hx hb hts inlX11 hown hK hP 0 (jc_0 cI cL ad σ60 τ) rfl 5 (of_decide_eq_true rfl) (hts _ kw_2_9) (fun _ h9 => h9) rfl dX11_costOf_165 ?_
              refine lv_iload hx hb dX11_costOf_168 (lv_at hl 6 rfl) ?_
              refine lv_iload hx hb dX11_costOf_170 (lv_at hl 1 rfl) ?_
              refine lv_iload hx hb dX11_costOf_172 (lv_at hl 0 rfl) ?_
              refine lv_aload_n hx hb dX11_costOf_174 rfl (lv_at hl 9 rfl) ?_
              refine va_get (D := D) hx hb hts inlX11 hown hK hP 0 (jc_0 cI cL ad σ60 τ) rfl 9 (of_decide_eq_true rfl) (hts _ kw_3_1) (fun _ h9 => h9) rfl dX11_costOf_175 ?_
              refine lv_iload_n hx hb dX11_costOf_178 rfl (lv_at hl 10 rfl) ?_
              refine lv_iload hx hb dX11_costOf_179 (lv_at hl 6 rfl) ?_
              refine lv_aload_n hx hb dX11_costOf_181 rfl (lv_at hl 9 rfl) ?_
              refine va_get (D := D) hx hb hts inlX11 hown hK hP 0 (jc_0 cI cL ad σ60 τ) rfl 0 (of_decide_eq_true rfl) (hts _ kw_1_16) (fun _ h9 => h9) rfl dX11_costOf_182 ?_
              have I112 : jI47 σ60 := jI47_fr ((congrFun (f62 47 (of_decide_eq_true rfl)) 0).trans (congrFun (f46 47 (of_decide_eq_true rfl)) 0)) ((f62 48 (of_decide_eq_true rfl)).trans (f46 48 (of_decide_eq_true rfl))) ((f62 49 (of_decide_eq_true rfl)).trans (f46 49 (of_decide_eq_true rfl))) hI47
              have p113 : jOk3 σ60 := jOk3.fr ((f62 3 (of_decide_eq_true rfl)).trans (f46 3 (of_decide_eq_true rfl))) hs_jOk3
              exact by
               refine jcallV (As := [.int a1, .int r36, .ref (ad 2)]) (rest := [.int r106, .int (σ 17 r23.toNatClampNeg), .int r36, .ref (ad 26)]) ⟨hx, hb, hml, hown, hts⟩ hK hP hA hS hZ (c_X2_leftAhead_47 l D cI cL ad zz hJ σ60 τ a1 (A1) t1 r36 (r36.toInt) rfl I112 p113 (by omega)) cw_RX11_349 (jc_47 cI cL ad σ60 τ) rfl ⟨Nat.le_of_ble_eq_true rfl, Nat.le_of_ble_eq_true rfl⟩ rfl rfl rfl hl.1 rfl (Nat.le_of_ble_eq_true rfl) dX11_costOf_185 ⟨Nat.zero_le _, Nat.zero_le _⟩ (fun r115 σ114 τ114 H locs h114 hP hS => ?_)
               obtain ⟨⟨rfl, rfl⟩, h114⟩ := h114
               have h116 := h114
               obtain ⟨q118, k117⟩ := h116
               refine lv_iload_n hx hb dX11_costOf_188 rfl (lv_at hl 10 rfl) ?_
               refine lv_iload_n hx hb dX11_costOf_189 rfl (lv_at hl 8 rfl) ?_
               have I119 : jI22 σ60 := jI22_fr (congrFun (f62 22 (of_decide_eq_true rfl)) 0) (f62 23 (of_decide_eq_true rfl)) I50
               have I120 : jI26 σ60 := jI26_fr (congrFun (f62 26 (of_decide_eq_true rfl)) 6) I52
               refine jcallV (As := [.int r36, .int (σ 17 r23.toNatClampNeg), .int r106, .int r115, .int a1, .int r23]) (rest := []) ⟨hx, hb, hml, hown, hts⟩ hK hP hA hS hZ (c_X5_outOf_26 l D cI cL ad zz hJ σ60 τ r36 (r36.toInt) rfl (σ 17 r23.toNatClampNeg) ((σ 17 r23.toNatClampNeg).toInt) rfl r106 (r106.toInt) rfl r115 (r115.toInt) rfl a1 (A1) t1 r23 (r23.toInt) rfl I119 I120 p65 p66 (by omega) (by omega) (by omega) (by omega) (by omega) (by omega)) cw_RX11_166 (jc_26 cI cL ad σ60 τ) rfl ⟨Nat.le_of_ble_eq_true rfl, Nat.le_of_ble_eq_true rfl⟩ rfl rfl rfl hl.1 rfl (Nat.le_of_ble_eq_true rfl) dX11_costOf_190 ⟨Nat.zero_le _, Nat.zero_le _⟩ (fun r122 σ121 τ121 H locs h121 hP hS => ?_)
               exact by
                obtain ⟨rfl, f123, p124, p125, w126, h121⟩ := h121
                refine lv_istore (lv' := [(11, .int r122), (10, .int r106), (9, .int (σ 17 r23.toNatClampNeg)), (8, .int r87), (7, .int 0), (6, .int 0), (5, .int r84), (4, .int r36), (3, .int r29), (2, .int r23), (0, .ref (ad 0)), (1, .int a1)]) hx hb dX11_costOf_193 hl (of_decide_eq_true rfl) rfl (fun ls hl => ?_)
                refine lv_aload_n hx hb dX11_costOf_195 rfl (lv_at hl 10 rfl) ?_
                refine va_get (D := D) hx hb hts inlX11 hown hK hP 0 (jc_0 cI cL ad σ121 τ) rfl 2 (of_decide_eq_true rfl) (hts _ kw_2_0) (fun _ h9 => h9) rfl dX11_costOf_196 ?_
                refine lv_aload_n hx hb dX11_costOf_199 rfl (lv_at hl 10 rfl) ?_
                refine va_get (D := D) hx hb hts inlX11 hown hK hP 0 (jc_0 cI cL ad σ121 τ) rfl 5 (of_decide_eq_true rfl) (hts _ kw_2_9) (fun _ h9 => h9) rfl dX11_costOf_200 ?_
                refine lv_iload hx hb dX11_costOf_203 (lv_at hl 7 rfl) ?_
                refine lv_iload hx hb dX11_costOf_205 (lv_at hl 2 rfl) ?_
                refine lv_iload hx hb dX11_costOf_207 (lv_at hl 1 rfl) ?_
                exact by
                 refine jcallV (As := [.int r36, .int (σ 17 r23.toNatClampNeg), .int r106]) (rest := [.ref (ad 16)]) ⟨hx, hb, hml, hown, hts⟩ hK hP hA hS hZ (c_X5_runsOf_26 l D cI cL ad zz hJ σ121 τ r36 (r36.toInt) rfl (σ 17 r23.toNatClampNeg) ((σ 17 r23.toNatClampNeg).toInt) rfl r106 (r106.toInt) rfl (by omega) (by omega) (by omega)) cw_RX11_160 (jc_26 cI cL ad σ121 τ) rfl ⟨Nat.le_of_ble_eq_true rfl, Nat.le_of_ble_eq_true rfl⟩ rfl rfl rfl hl.1 rfl (Nat.le_of_ble_eq_true rfl) dX11_costOf_209 ⟨Nat.zero_le _, Nat.zero_le _⟩ (fun r129 σ128 τ128 H locs h128 hP hS => ?_)
                 obtain ⟨⟨rfl, rfl⟩, w130, h128⟩ := h128
                 refine lv_iload hx hb dX11_costOf_212 (lv_at hl 0 rfl) ?_
                 refine lv_iload hx hb dX11_costOf_214 (lv_at hl 5 rfl) ?_
                 refine lv_iload hx hb dX11_costOf_216 (lv_at hl 4 rfl) ?_
                 refine jcallV (As := [.int r129, .int r122, .int 0, .int 0]) (rest := []) ⟨hx, hb, hml, hown, hts⟩ hK hP hA hS hZ (c_X6_meanOf_16 l D cI cL ad zz hJ σ121 τ r129 (r129.toInt) rfl r122 (r122.toInt) rfl 0 (0) jz_0 0 (0) jz_0) cw_RX11_353 (jc_16 cI cL ad σ121 τ) rfl ⟨Nat.le_of_ble_eq_true rfl, Nat.le_of_ble_eq_true rfl⟩ rfl rfl rfl hl.1 rfl (Nat.le_of_ble_eq_true rfl) dX11_costOf_218 ⟨Nat.zero_le _, Nat.zero_le _⟩ (fun r132 σ131 τ131 H locs h131 hP hS => ?_)
                 obtain ⟨⟨rfl, rfl⟩, w133, h131⟩ := h131
                 refine lv_iload hx hb dX11_costOf_221 (lv_at hl 6 rfl) ?_
                 have g134 := jrg (rfl : r132.toInt = r132.toInt)
                 have g135 := jrg (rfl : r84.toInt = r84.toInt)
                 refine lv_isub hx hb dX11_costOf_223 ?_
                 refine lv_topi (fun x136 ex136 => ?_)
                 have gx136 := jrg (rfl : x136.toInt = x136.toInt)
                 have I137 : jI31 σ121 := jI31_fr (congrFun (f123 31 (of_decide_eq_true rfl)) 8) (congrFun (f123 31 (of_decide_eq_true rfl)) 10) (congrFun (f123 31 (of_decide_eq_true rfl)) 11) (f123 33 (of_decide_eq_true rfl)) (f123 35 (of_decide_eq_true rfl)) (f123 36 (of_decide_eq_true rfl)) I64
                 have p138 : jOk3 σ121 := jOk3.fr (f123 3 (of_decide_eq_true rfl)) p113
                 have p139 : jKb σ121 := jKb.fr (congrFun (f123 31 (of_decide_eq_true rfl)) 8) (congrFun (f123 31 (of_decide_eq_true rfl)) 11) (f123 32 (of_decide_eq_true rfl)) p67
                 have p140 : jKh σ121 := jKh.fr (congrFun (f123 31 (of_decide_eq_true rfl)) 8) (f123 32 (of_decide_eq_true rfl)) (f123 36 (of_decide_eq_true rfl)) (f123 37 (of_decide_eq_true rfl)) p68
                 have p141 : jKg σ121 := jKg.fr (congrFun (f123 31 (of_decide_eq_true rfl)) 8) (congrFun (f123 31 (of_decide_eq_true rfl)) 9) (congrFun (f123 31 (of_decide_eq_true rfl)) 11) (congrFun (f123 31 (of_decide_eq_true rfl)) 12) (f123 32 (of_decide_eq_true rfl)) (f123 33 (of_decide_eq_true rfl)) p69
                 have p142 : jNz σ121 := jNz.fr (f123 34 (of_decide_eq_true rfl)) p70
                 exact hret x136 σ121 τ _ _ _ _ rfl ⟨rfl, (fun i hi => ((f123 i (imp_143 i hi)).trans ((f62 i (imp_132 i hi)).trans (f46 i (imp_131 i hi))))), (fun i hi => ((congrFun (f123 31 (of_decide_eq_true rfl)) i).trans ((f63 i hi).trans (congrFun (f46 31 (of_decide_eq_true rfl)) i)))), I137, p138, p124, p125, p139, p140, p141, p142, trivial⟩ hP hS dX11_costOf_224
           · obtain ⟨q144, k143⟩ := h99
             have z145 : (σ60 17 r23.toNatClampNeg).toInt = (σ 17 r23.toNatClampNeg).toInt := by rw [f62 17 (of_decide_eq_true rfl), f46 17 (of_decide_eq_true rfl)]
             have q144 := q144.symm
             subst q144
             refine lv_istore (lv' := [(9, .int 0), (8, .int r87), (7, .int 0), (6, .int 0), (5, .int r84), (4, .int r36), (3, .int r29), (2, .int r23), (0, .ref (ad 0)), (1, .int a1)]) hx hb dX11_costOf_154 hl (of_decide_eq_true rfl) rfl (fun ls hl => ?_)
             refine lv_iload_n hx hb dX11_costOf_156 rfl (lv_at hl 6 rfl) ?_
             refine lv_iload hx hb dX11_costOf_157 (lv_at hl 5 rfl) ?_
             refine jcallS (As := [.int r29, .int r36]) (rest := []) ⟨hx, hb, hml, hown, hts⟩ hK hP hA hS hZ (c_X0_steps l D cI cL ad zz hJ σ60 τ r29 (r29.toInt) rfl r36 (r36.toInt) rfl) cw_RX11_346 ⟨Nat.le_of_ble_eq_true rfl, Nat.le_of_ble_eq_true rfl⟩ rfl rfl rfl hl.1 rfl (Nat.le_of_ble_eq_true rfl) dX11_costOf_159 ⟨Nat.zero_le _, Nat.zero_le _⟩ (fun r147 σ146 τ146 H locs h146 hP hS => ?_)
             obtain ⟨⟨rfl, rfl⟩, w148, h146⟩ := h146
             have k149 := congrArg Int32.toInt w148
             have h150 := h146
             obtain ⟨q152, k151⟩ := h150
             refine lv_istore (lv' := [(10, .int r147), (9, .int 0), (8, .int r87), (7, .int 0), (6, .int 0), (5, .int r84), (4, .int r36), (3, .int r29), (2, .int r23), (0, .ref (ad 0)), (1, .int a1)]) hx hb dX11_costOf_162 hl (of_decide_eq_true rfl) rfl (fun ls hl => ?_)
             refine lv_aload_n hx hb dX11_costOf_164 rfl (lv_at hl 9 rfl) ?_
             refine va_get (D := D) hx hb hts inlX11 hown hK hP 0 (jc_0 cI cL ad σ60 τ) rfl 5 (of_decide_eq_true rfl) (hts _ kw_2_9) (fun _ h9 => h9) rfl dX11_costOf_165 ?_
             refine lv_iload hx hb dX11_costOf_168 (lv_at hl 6 rfl) ?_
             refine lv_iload hx hb dX11_costOf_170 (lv_at hl 1 rfl) ?_
             refine lv_iload hx hb dX11_costOf_172 (lv_at hl 0 rfl) ?_
             refine lv_aload_n hx hb dX11_costOf_174 rfl (lv_at hl 9 rfl) ?_
             refine va_get (D := D) hx hb hts inlX11 hown hK hP 0 (jc_0 cI cL ad σ60 τ) rfl 9 (of_decide_eq_true rfl) (hts _ kw_3_1) (fun _ h9 => h9) rfl dX11_costOf_175 ?_
             refine lv_iload_n hx hb dX11_costOf_178 rfl (lv_at hl 10 rfl) ?_
             refine lv_iload hx hb dX11_costOf_179 (lv_at hl 6 rfl) ?_
             refine lv_aload_n hx hb dX11_costOf_181 rfl (lv_at hl 9 rfl) ?_
             refine va_get (D := D) hx hb hts inlX11 hown hK hP 0 (jc_0 cI cL ad σ60 τ) rfl 0 (of_decide_eq_true rfl) (hts _ kw_1_16) (fun _ h9 => h9) rfl dX11_costOf_182 ?_
             have I153 : jI47 σ60 := jI47_fr ((congrFun (f62 47 (of_decide_eq_true rfl)) 0).trans (congrFun (f46 47 (of_decide_eq_true rfl)) 0)) ((f62 48 (of_decide_eq_true rfl)).trans (f46 48 (of_decide_eq_true rfl))) ((f62 49 (of_decide_eq_true rfl)).trans (f46 49 (of_decide_eq_true rfl))) hI47
             have p154 : jOk3 σ60 := jOk3.fr ((f62 3 (of_decide_eq_true rfl)).trans (f46 3 (of_decide_eq_true rfl))) hs_jOk3
             exact by
              refine jcallV (As := [.int a1, .int r36, .ref (ad 2)]) (rest := [.int r147, .int 0, .int r36, .ref (ad 26)]) ⟨hx, hb, hml, hown, hts⟩ hK hP hA hS hZ (c_X2_leftAhead_47 l D cI cL ad zz hJ σ60 τ a1 (A1) t1 r36 (r36.toInt) rfl I153 p154 (by omega)) cw_RX11_349 (jc_47 cI cL ad σ60 τ) rfl ⟨Nat.le_of_ble_eq_true rfl, Nat.le_of_ble_eq_true rfl⟩ rfl rfl rfl hl.1 rfl (Nat.le_of_ble_eq_true rfl) dX11_costOf_185 ⟨Nat.zero_le _, Nat.zero_le _⟩ (fun r156 σ155 τ155 H locs h155 hP hS => ?_)
              obtain ⟨⟨rfl, rfl⟩, h155⟩ := h155
              have h157 := h155
              obtain ⟨q159, k158⟩ := h157
              refine lv_iload_n hx hb dX11_costOf_188 rfl (lv_at hl 10 rfl) ?_
              refine lv_iload_n hx hb dX11_costOf_189 rfl (lv_at hl 8 rfl) ?_
              have I160 : jI22 σ60 := jI22_fr (congrFun (f62 22 (of_decide_eq_true rfl)) 0) (f62 23 (of_decide_eq_true rfl)) I50
              have I161 : jI26 σ60 := jI26_fr (congrFun (f62 26 (of_decide_eq_true rfl)) 6) I52
              refine jcallV (As := [.int r36, .int 0, .int r147, .int r156, .int a1, .int r23]) (rest := []) ⟨hx, hb, hml, hown, hts⟩ hK hP hA hS hZ (c_X5_outOf_26 l D cI cL ad zz hJ σ60 τ r36 (r36.toInt) rfl 0 (0) jz_0 r147 (r147.toInt) rfl r156 (r156.toInt) rfl a1 (A1) t1 r23 (r23.toInt) rfl I160 I161 p65 p66 (by omega) (by omega) (by omega) (by omega) (by omega) (by omega)) cw_RX11_166 (jc_26 cI cL ad σ60 τ) rfl ⟨Nat.le_of_ble_eq_true rfl, Nat.le_of_ble_eq_true rfl⟩ rfl rfl rfl hl.1 rfl (Nat.le_of_ble_eq_true rfl) dX11_costOf_190 ⟨Nat.zero_le _, Nat.zero_le _⟩ (fun r163 σ162 τ162 H locs h162 hP hS => ?_)
              exact by
               obtain ⟨rfl, f164, p165, p166, w167, h162⟩ := h162
               refine lv_istore (lv' := [(11, .int r163), (10, .int r147), (9, .int 0), (8, .int r87), (7, .int 0), (6, .int 0), (5, .int r84), (4, .int r36), (3, .int r29), (2, .int r23), (0, .ref (ad 0)), (1, .int a1)]) hx hb dX11_costOf_193 hl (of_decide_eq_true rfl) rfl (fun ls hl => ?_)
               refine lv_aload_n hx hb dX11_costOf_195 rfl (lv_at hl 10 rfl) ?_
               refine va_get (D := D) hx hb hts inlX11 hown hK hP 0 (jc_0 cI cL ad σ162 τ) rfl 2 (of_decide_eq_true rfl) (hts _ kw_2_0) (fun _ h9 => h9) rfl dX11_costOf_196 ?_
               refine lv_aload_n hx hb dX11_costOf_199 rfl (lv_at hl 10 rfl) ?_
               refine va_get (D := D) hx hb hts inlX11 hown hK hP 0 (jc_0 cI cL ad σ162 τ) rfl 5 (of_decide_eq_true rfl) (hts _ kw_2_9) (fun _ h9 => h9) rfl dX11_costOf_200 ?_
               refine lv_iload hx hb dX11_costOf_203 (lv_at hl 7 rfl) ?_
               refine lv_iload hx hb dX11_costOf_205 (lv_at hl 2 rfl) ?_
               refine lv_iload hx hb dX11_costOf_207 (lv_at hl 1 rfl) ?_
               exact by
                refine jcallV (As := [.int r36, .int 0, .int r147]) (rest := [.ref (ad 16)]) ⟨hx, hb, hml, hown, hts⟩ hK hP hA hS hZ (c_X5_runsOf_26 l D cI cL ad zz hJ σ162 τ r36 (r36.toInt) rfl 0 (0) jz_0 r147 (r147.toInt) rfl (by omega) (by omega) (by omega)) cw_RX11_160 (jc_26 cI cL ad σ162 τ) rfl ⟨Nat.le_of_ble_eq_true rfl, Nat.le_of_ble_eq_true rfl⟩ rfl rfl rfl hl.1 rfl (Nat.le_of_ble_eq_true rfl) dX11_costOf_209 ⟨Nat.zero_le _, Nat.zero_le _⟩ (fun r170 σ169 τ169 H locs h169 hP hS => ?_)
                obtain ⟨⟨rfl, rfl⟩, w171, h169⟩ := h169
                refine lv_iload hx hb dX11_costOf_212 (lv_at hl 0 rfl) ?_
                refine lv_iload hx hb dX11_costOf_214 (lv_at hl 5 rfl) ?_
                refine lv_iload hx hb dX11_costOf_216 (lv_at hl 4 rfl) ?_
                refine jcallV (As := [.int r170, .int r163, .int 0, .int 0]) (rest := []) ⟨hx, hb, hml, hown, hts⟩ hK hP hA hS hZ (c_X6_meanOf_16 l D cI cL ad zz hJ σ162 τ r170 (r170.toInt) rfl r163 (r163.toInt) rfl 0 (0) jz_0 0 (0) jz_0) cw_RX11_353 (jc_16 cI cL ad σ162 τ) rfl ⟨Nat.le_of_ble_eq_true rfl, Nat.le_of_ble_eq_true rfl⟩ rfl rfl rfl hl.1 rfl (Nat.le_of_ble_eq_true rfl) dX11_costOf_218 ⟨Nat.zero_le _, Nat.zero_le _⟩ (fun r173 σ172 τ172 H locs h172 hP hS => ?_)
                obtain ⟨⟨rfl, rfl⟩, w174, h172⟩ := h172
                refine lv_iload hx hb dX11_costOf_221 (lv_at hl 6 rfl) ?_
                have g175 := jrg (rfl : r173.toInt = r173.toInt)
                have g176 := jrg (rfl : r84.toInt = r84.toInt)
                refine lv_isub hx hb dX11_costOf_223 ?_
                refine lv_topi (fun x177 ex177 => ?_)
                have gx177 := jrg (rfl : x177.toInt = x177.toInt)
                have I178 : jI31 σ162 := jI31_fr (congrFun (f164 31 (of_decide_eq_true rfl)) 8) (congrFun (f164 31 (of_decide_eq_true rfl)) 10) (congrFun (f164 31 (of_decide_eq_true rfl)) 11) (f164 33 (of_decide_eq_true rfl)) (f164 35 (of_decide_eq_true rfl)) (f164 36 (of_decide_eq_true rfl)) I64
                have p179 : jOk3 σ162 := jOk3.fr (f164 3 (of_decide_eq_true rfl)) p154
                have p180 : jKb σ162 := jKb.fr (congrFun (f164 31 (of_decide_eq_true rfl)) 8) (congrFun (f164 31 (of_decide_eq_true rfl)) 11) (f164 32 (of_decide_eq_true rfl)) p67
                have p181 : jKh σ162 := jKh.fr (congrFun (f164 31 (of_decide_eq_true rfl)) 8) (f164 32 (of_decide_eq_true rfl)) (f164 36 (of_decide_eq_true rfl)) (f164 37 (of_decide_eq_true rfl)) p68
                have p182 : jKg σ162 := jKg.fr (congrFun (f164 31 (of_decide_eq_true rfl)) 8) (congrFun (f164 31 (of_decide_eq_true rfl)) 9) (congrFun (f164 31 (of_decide_eq_true rfl)) 11) (congrFun (f164 31 (of_decide_eq_true rfl)) 12) (f164 32 (of_decide_eq_true rfl)) (f164 33 (of_decide_eq_true rfl)) p69
                have p183 : jNz σ162 := jNz.fr (f164 34 (of_decide_eq_true rfl)) p70
                exact hret x177 σ162 τ _ _ _ _ rfl ⟨rfl, (fun i hi => ((f164 i (imp_143 i hi)).trans ((f62 i (imp_132 i hi)).trans (f46 i (imp_131 i hi))))), (fun i hi => ((congrFun (f164 31 (of_decide_eq_true rfl)) i).trans ((f63 i hi).trans (congrFun (f46 31 (of_decide_eq_true rfl)) i)))), I178, p179, p165, p166, p180, p181, p182, p183, trivial⟩ hP hS dX11_costOf_224
         · have kc95 := jnle c95 rfl tx93
           refine lv_aload_n hx hb dX11_costOf_109 rfl (lv_at hl 7 rfl) ?_
           refine va_get (D := D) hx hb hts inlX11 hown hK hP 0 (jc_0 cI cL ad σ60 τ) rfl 6 (of_decide_eq_true rfl) (hts _ kw_2_13) (fun _ h9 => h9) rfl dX11_costOf_110 ?_
           refine lv_iload hx hb dX11_costOf_113 (lv_at hl 0 rfl) ?_
           refine lv_iload_n hx hb dX11_costOf_115 rfl (lv_at hl 8 rfl) ?_
           refine lv_iconst (v := 1) hx hb dX11_costOf_116 (of_decide_eq_true rfl) ?_
           refine lv_iadd hx hb dX11_costOf_117 ?_
           refine lv_topi (fun x184 ex184 => ?_)
           exact by
            have tx184 : x184.toInt = A1 + 1 := (jadd ex184 t1 jz_1 (by omega) (by omega)).trans (by omega)
            refine lv_iload_n hx hb dX11_costOf_118 rfl (lv_at hl 6 rfl) ?_
            have I185 : jI22 σ60 := jI22_fr (congrFun (f62 22 (of_decide_eq_true rfl)) 0) (f62 23 (of_decide_eq_true rfl)) I50
            have I186 : jI26 σ60 := jI26_fr (congrFun (f62 26 (of_decide_eq_true rfl)) 6) I52
            have z187 : (σ60 16 1).toInt = (σ 16 1).toInt := (congrArg Int32.toInt (show σ60 16 1 = (σ 16 1) from m94))
            refine jcallVv (As := [.int r87, .int x184, .int r23]) (rest := []) ⟨hx, hb, hml, hown, hts⟩ hK hP hA hS hZ (c_X1_seek_31 l D cI cL ad zz hJ σ60 τ r87 (r87.toInt) rfl x184 (A1 + 1) tx184 r23 (r23.toInt) rfl I82 I185 I64 I186 p65 p66 p67 p68 p69 p70 (by omega) (by omega) (by omega)) cw_RX11_193 (jc_31 cI cL ad σ60 τ) rfl ⟨Nat.le_of_ble_eq_true rfl, Nat.le_of_ble_eq_true rfl⟩ rfl rfl rfl hl.1 rfl (Nat.le_of_ble_eq_true rfl) dX11_costOf_119 ⟨Nat.zero_le _, Nat.zero_le _⟩ (fun σ188 τ188 H locs h188 hP hS => ?_)
            obtain ⟨rfl, f190, f191, I192, p193, p194, p195, p196, p197, p198, h188⟩ := h188
            obtain ⟨i200, i201, i202, i203, w204, w205, w206⟩ : (0 ≤ (σ188 31 8).toInt ∧ (σ188 31 8).toInt ≤ 350) ∧ (0 ≤ (σ188 31 10).toInt ∧ (σ188 31 10).toInt ≤ 12) ∧ (0 ≤ (σ188 31 11).toInt ∧ (σ188 31 11).toInt ≤ 8) ∧ ((σ188 31 10).toInt + (σ188 31 11).toInt ≤ 12) ∧ (∀ k : Nat, k < 1400 → (-1) ≤ (σ188 33 k).toInt ∧ (σ188 33 k).toInt ≤ 350) ∧ (∀ k : Nat, k < 3159 → (-1) ≤ (σ188 35 k).toInt ∧ (σ188 35 k).toInt ≤ 3) ∧ (∀ k : Nat, k < 1024 → 0 ≤ (σ188 36 k).toInt ∧ (σ188 36 k).toInt ≤ 349) := id I192
            obtain ⟨k207, k208, k209, h188⟩ := h188
            exact by
             refine lv_aload_n hx hb dX11_costOf_122 rfl (lv_at hl 7 rfl) ?_
             refine va_get (D := D) hx hb hts inlX11 hown hK hP 0 (jc_0 cI cL ad σ188 τ) rfl 6 (of_decide_eq_true rfl) (hts _ kw_2_13) (fun _ h9 => h9) rfl dX11_costOf_123 ?_
             refine lv_iconst (v := 0) hx hb dX11_costOf_126 (of_decide_eq_true rfl) ?_
             refine lv_iload_n hx hb dX11_costOf_127 rfl (lv_at hl 6 rfl) ?_
             refine lv_iconst (v := 1) hx hb dX11_costOf_128 (of_decide_eq_true rfl) ?_
             have g210 := jrg (rfl : r23.toInt = r23.toInt)
             refine lv_iadd hx hb dX11_costOf_129 ?_
             refine lv_topi (fun x211 ex211 => ?_)
             have tx211 : x211.toInt = r23.toInt + 1 := (jadd ex211 rfl jz_1 (by omega) (by omega)).trans (by omega)
             exact by
              have I212 : jI16 σ188 := jI16_fr (congrFun (f190 16 (of_decide_eq_true rfl)) 0) (congrFun (f190 16 (of_decide_eq_true rfl)) 1) (congrFun (f190 16 (of_decide_eq_true rfl)) 2) (f190 17 (of_decide_eq_true rfl)) I82
              refine jcallV (As := [.int 0, .int x211]) (rest := []) ⟨hx, hb, hml, hown, hts⟩ hK hP hA hS hZ (c_X1_valueAt_31 l D cI cL ad zz hJ σ188 τ 0 (0) jz_0 x211 (r23.toInt + 1) tx211 I212 I192) cw_RX11_215 (jc_31 cI cL ad σ188 τ) rfl ⟨Nat.le_of_ble_eq_true rfl, Nat.le_of_ble_eq_true rfl⟩ rfl rfl rfl hl.1 rfl (Nat.le_of_ble_eq_true rfl) dX11_costOf_130 ⟨Nat.zero_le _, Nat.zero_le _⟩ (fun r214 σ213 τ213 H locs h213 hP hS => ?_)
              obtain ⟨⟨rfl, rfl⟩, w215, h213⟩ := h213
              refine lv_istore (lv' := [(6, .int r214), (8, .int r87), (7, .int 0), (5, .int r84), (4, .int r36), (3, .int r29), (2, .int r23), (0, .ref (ad 0)), (1, .int a1)]) hx hb dX11_costOf_133 hl (of_decide_eq_true rfl) rfl (fun ls hl => ?_)
              refine lv_aload_n hx hb dX11_costOf_135 rfl (lv_at hl 7 rfl) ?_
              refine va_get (D := D) hx hb hts inlX11 hown hK hP 0 (jc_0 cI cL ad σ188 τ) rfl 6 (of_decide_eq_true rfl) (hts _ kw_2_13) (fun _ h9 => h9) rfl dX11_costOf_136 ?_
              refine lv_iconst (v := 0) hx hb dX11_costOf_139 (of_decide_eq_true rfl) ?_
              refine lv_iload_n hx hb dX11_costOf_140 rfl (lv_at hl 6 rfl) ?_
              refine jcallV (As := [.int 0, .int r23]) (rest := []) ⟨hx, hb, hml, hown, hts⟩ hK hP hA hS hZ (c_X1_valueAt_31 l D cI cL ad zz hJ σ188 τ 0 (0) jz_0 r23 (r23.toInt) rfl I212 I192) cw_RX11_215 (jc_31 cI cL ad σ188 τ) rfl ⟨Nat.le_of_ble_eq_true rfl, Nat.le_of_ble_eq_true rfl⟩ rfl rfl rfl hl.1 rfl (Nat.le_of_ble_eq_true rfl) dX11_costOf_141 ⟨Nat.zero_le _, Nat.zero_le _⟩ (fun r217 σ216 τ216 H locs h216 hP hS => ?_)
              obtain ⟨⟨rfl, rfl⟩, w218, h216⟩ := h216
              refine lv_istore (lv' := [(7, .int r217), (6, .int r214), (8, .int r87), (5, .int r84), (4, .int r36), (3, .int r29), (2, .int r23), (0, .ref (ad 0)), (1, .int a1)]) hx hb dX11_costOf_144 hl (of_decide_eq_true rfl) rfl (fun ls hl => ?_)
              refine lv_aload_n hx hb dX11_costOf_146 rfl (lv_at hl 7 rfl) ?_
              refine va_get (D := D) hx hb hts inlX11 hown hK hP 0 (jc_0 cI cL ad σ188 τ) rfl 2 (of_decide_eq_true rfl) (hts _ kw_2_0) (fun _ h9 => h9) rfl dX11_costOf_147 ?_
              refine lv_iload_n hx hb dX11_costOf_150 rfl (lv_at hl 6 rfl) ?_
              refine jcallV (As := [.int r23]) (rest := []) ⟨hx, hb, hml, hown, hts⟩ hK hP hA hS hZ (c_X6_sortAt_16 l D cI cL ad zz hJ σ188 τ r23 (r23.toInt) rfl I212) cw_RX11_149 (jc_16 cI cL ad σ188 τ) rfl ⟨Nat.le_of_ble_eq_true rfl, Nat.le_of_ble_eq_true rfl⟩ rfl rfl rfl hl.1 rfl (Nat.le_of_ble_eq_true rfl) dX11_costOf_151 ⟨Nat.zero_le _, Nat.zero_le _⟩ (fun r220 σ219 τ219 H locs h219 hP hS => ?_)
              obtain ⟨⟨rfl, rfl⟩, h219⟩ := h219
              rcases h219 with h221 | h222
              · obtain ⟨q225, k223, k224⟩ := h221
                have z226 : (σ188 17 r23.toNatClampNeg).toInt = (σ 17 r23.toNatClampNeg).toInt := by rw [f190 17 (of_decide_eq_true rfl), f62 17 (of_decide_eq_true rfl), f46 17 (of_decide_eq_true rfl)]
                exact by
                 have q227 : r220 = (σ 17 r23.toNatClampNeg) := q225.trans (by rw [f190 17 (of_decide_eq_true rfl), f62 17 (of_decide_eq_true rfl), f46 17 (of_decide_eq_true rfl)])
                 have q227e : (σ188 17 r23.toNatClampNeg).toInt = (σ 17 r23.toNatClampNeg).toInt := by rw [← q225, ← q227]
                 have q227 := q227.symm
                 subst q227
                 refine lv_istore (lv' := [(9, .int (σ 17 r23.toNatClampNeg)), (7, .int r217), (6, .int r214), (8, .int r87), (5, .int r84), (4, .int r36), (3, .int r29), (2, .int r23), (0, .ref (ad 0)), (1, .int a1)]) hx hb dX11_costOf_154 hl (of_decide_eq_true rfl) rfl (fun ls hl => ?_)
                 refine lv_iload_n hx hb dX11_costOf_156 rfl (lv_at hl 6 rfl) ?_
                 refine lv_iload hx hb dX11_costOf_157 (lv_at hl 5 rfl) ?_
                 refine jcallS (As := [.int r29, .int r36]) (rest := []) ⟨hx, hb, hml, hown, hts⟩ hK hP hA hS hZ (c_X0_steps l D cI cL ad zz hJ σ188 τ r29 (r29.toInt) rfl r36 (r36.toInt) rfl) cw_RX11_346 ⟨Nat.le_of_ble_eq_true rfl, Nat.le_of_ble_eq_true rfl⟩ rfl rfl rfl hl.1 rfl (Nat.le_of_ble_eq_true rfl) dX11_costOf_159 ⟨Nat.zero_le _, Nat.zero_le _⟩ (fun r229 σ228 τ228 H locs h228 hP hS => ?_)
                 obtain ⟨⟨rfl, rfl⟩, w230, h228⟩ := h228
                 have k231 := congrArg Int32.toInt w230
                 have h232 := h228
                 obtain ⟨q234, k233⟩ := h232
                 refine lv_istore (lv' := [(10, .int r229), (9, .int (σ 17 r23.toNatClampNeg)), (7, .int r217), (6, .int r214), (8, .int r87), (5, .int r84), (4, .int r36), (3, .int r29), (2, .int r23), (0, .ref (ad 0)), (1, .int a1)]) hx hb dX11_costOf_162 hl (of_decide_eq_true rfl) rfl (fun ls hl => ?_)
                 refine lv_aload_n hx hb dX11_costOf_164 rfl (lv_at hl 9 rfl) ?_
                 refine va_get (D := D) hx hb hts inlX11 hown hK hP 0 (jc_0 cI cL ad σ188 τ) rfl 5 (of_decide_eq_true rfl) (hts _ kw_2_9) (fun _ h9 => h9) rfl dX11_costOf_165 ?_
                 refine lv_iload hx hb dX11_costOf_168 (lv_at hl 6 rfl) ?_
                 refine lv_iload hx hb dX11_costOf_170 (lv_at hl 1 rfl) ?_
                 refine lv_iload hx hb dX11_costOf_172 (lv_at hl 0 rfl) ?_
                 refine lv_aload_n hx hb dX11_costOf_174 rfl (lv_at hl 9 rfl) ?_
                 refine va_get (D := D) hx hb hts inlX11 hown hK hP 0 (jc_0 cI cL ad σ188 τ) rfl 9 (of_decide_eq_true rfl) (hts _ kw_3_1) (fun _ h9 => h9) rfl dX11_costOf_175 ?_
                 refine lv_iload_n hx hb dX11_costOf_178 rfl (lv_at hl 10 rfl) ?_
                 refine lv_iload hx hb dX11_costOf_179 (lv_at hl 6 rfl) ?_
                 refine lv_aload_n hx hb dX11_costOf_181 rfl (lv_at hl 9 rfl) ?_
                 refine va_get (D := D) hx hb hts inlX11 hown hK hP 0 (jc_0 cI cL ad σ188 τ) rfl 0 (of_decide_eq_true rfl) (hts _ kw_1_16) (fun _ h9 => h9) rfl dX11_costOf_182 ?_
                 have I235 : jI47 σ188 := jI47_fr ((congrFun (f190 47 (of_decide_eq_true rfl)) 0).trans ((congrFun (f62 47 (of_decide_eq_true rfl)) 0).trans (congrFun (f46 47 (of_decide_eq_true rfl)) 0))) ((f190 48 (of_decide_eq_true rfl)).trans ((f62 48 (of_decide_eq_true rfl)).trans (f46 48 (of_decide_eq_true rfl)))) ((f190 49 (of_decide_eq_true rfl)).trans ((f62 49 (of_decide_eq_true rfl)).trans (f46 49 (of_decide_eq_true rfl)))) hI47
                 have p236 : jOk3 σ188 := jOk3.fr ((f190 3 (of_decide_eq_true rfl)).trans ((f62 3 (of_decide_eq_true rfl)).trans (f46 3 (of_decide_eq_true rfl)))) hs_jOk3
                 exact by
                  refine jcallV (As := [.int a1, .int r36, .ref (ad 2)]) (rest := [.int r229, .int (σ 17 r23.toNatClampNeg), .int r36, .ref (ad 26)]) ⟨hx, hb, hml, hown, hts⟩ hK hP hA hS hZ (c_X2_leftAhead_47 l D cI cL ad zz hJ σ188 τ a1 (A1) t1 r36 (r36.toInt) rfl I235 p236 (by omega)) cw_RX11_349 (jc_47 cI cL ad σ188 τ) rfl ⟨Nat.le_of_ble_eq_true rfl, Nat.le_of_ble_eq_true rfl⟩ rfl rfl rfl hl.1 rfl (Nat.le_of_ble_eq_true rfl) dX11_costOf_185 ⟨Nat.zero_le _, Nat.zero_le _⟩ (fun r238 σ237 τ237 H locs h237 hP hS => ?_)
                  obtain ⟨⟨rfl, rfl⟩, h237⟩ := h237
                  have h239 := h237
                  obtain ⟨q241, k240⟩ := h239
                  refine lv_iload_n hx hb dX11_costOf_188 rfl (lv_at hl 10 rfl) ?_
                  refine lv_iload_n hx hb dX11_costOf_189 rfl (lv_at hl 8 rfl) ?_
                  have I242 : jI22 σ188 := jI22_fr (congrFun (f190 22 (of_decide_eq_true rfl)) 0) (f190 23 (of_decide_eq_true rfl)) I185
                  have I243 : jI26 σ188 := jI26_fr (congrFun (f190 26 (of_decide_eq_true rfl)) 6) I186
                  refine jcallV (As := [.int r36, .int (σ 17 r23.toNatClampNeg), .int r229, .int r238, .int a1, .int r23]) (rest := []) ⟨hx, hb, hml, hown, hts⟩ hK hP hA hS hZ (c_X5_outOf_26 l D cI cL ad zz hJ σ188 τ r36 (r36.toInt) rfl (σ 17 r23.toNatClampNeg) ((σ 17 r23.toNatClampNeg).toInt) rfl r229 (r229.toInt) rfl r238 (r238.toInt) rfl a1 (A1) t1 r23 (r23.toInt) rfl I242 I243 p193 p194 (by omega) (by omega) (by omega) (by omega) (by omega) (by omega)) cw_RX11_166 (jc_26 cI cL ad σ188 τ) rfl ⟨Nat.le_of_ble_eq_true rfl, Nat.le_of_ble_eq_true rfl⟩ rfl rfl rfl hl.1 rfl (Nat.le_of_ble_eq_true rfl) dX11_costOf_190 ⟨Nat.zero_le _, Nat.zero_le _⟩ (fun r245 σ244 τ244 H locs h244 hP hS => ?_)
                  exact by
                   obtain ⟨rfl, f246, p247, p248, w249, h244⟩ := h244
                   refine lv_istore (lv' := [(11, .int r245), (10, .int r229), (9, .int (σ 17 r23.toNatClampNeg)), (7, .int r217), (6, .int r214), (8, .int r87), (5, .int r84), (4, .int r36), (3, .int r29), (2, .int r23), (0, .ref (ad 0)), (1, .int a1)]) hx hb dX11_costOf_193 hl (of_decide_eq_true rfl) rfl (fun ls hl => ?_)
                   refine lv_aload_n hx hb dX11_costOf_195 rfl (lv_at hl 10 rfl) ?_
                   refine va_get (D := D) hx hb hts inlX11 hown hK hP 0 (jc_0 cI cL ad σ244 τ) rfl 2 (of_decide_eq_true rfl) (hts _ kw_2_0) (fun _ h9 => h9) rfl dX11_costOf_196 ?_
                   refine lv_aload_n hx hb dX11_costOf_199 rfl (lv_at hl 10 rfl) ?_
                   refine va_get (D := D) hx hb hts inlX11 hown hK hP 0 (jc_0 cI cL ad σ244 τ) rfl 5 (of_decide_eq_true rfl) (hts _ kw_2_9) (fun _ h9 => h9) rfl dX11_costOf_200 ?_
                   refine lv_iload hx hb dX11_costOf_203 (lv_at hl 7 rfl) ?_
                   refine lv_iload hx hb dX11_costOf_205 (lv_at hl 2 rfl) ?_
                   refine lv_iload hx hb dX11_costOf_207 (lv_at hl 1 rfl) ?_
                   exact by
                    refine jcallV (As := [.int r36, .int (σ 17 r23.toNatClampNeg), .int r229]) (rest := [.ref (ad 16)]) ⟨hx, hb, hml, hown, hts⟩ hK hP hA hS hZ (c_X5_runsOf_26 l D cI cL ad zz hJ σ244 τ r36 (r36.toInt) rfl (σ 17 r23.toNatClampNeg) ((σ 17 r23.toNatClampNeg).toInt) rfl r229 (r229.toInt) rfl (by omega) (by omega) (by omega)) cw_RX11_160 (jc_26 cI cL ad σ244 τ) rfl ⟨Nat.le_of_ble_eq_true rfl, Nat.le_of_ble_eq_true rfl⟩ rfl rfl rfl hl.1 rfl (Nat.le_of_ble_eq_true rfl) dX11_costOf_209 ⟨Nat.zero_le _, Nat.zero_le _⟩ (fun r252 σ251 τ251 H locs h251 hP hS => ?_)
                    obtain ⟨⟨rfl, rfl⟩, w253, h251⟩ := h251
                    refine lv_iload hx hb dX11_costOf_212 (lv_at hl 0 rfl) ?_
                    refine lv_iload hx hb dX11_costOf_214 (lv_at hl 4 rfl) ?_
                    refine lv_iload hx hb dX11_costOf_216 (lv_at hl 3 rfl) ?_
                    refine jcallV (As := [.int r252, .int r245, .int r214, .int r217]) (rest := []) ⟨hx, hb, hml, hown, hts⟩ hK hP hA hS hZ (c_X6_meanOf_16 l D cI cL ad zz hJ σ244 τ r252 (r252.toInt) rfl r245 (r245.toInt) rfl r214 (r214.toInt) rfl r217 (r217.toInt) rfl) cw_RX11_353 (jc_16 cI cL ad σ244 τ) rfl ⟨Nat.le_of_ble_eq_true rfl, Nat.le_of_ble_eq_true rfl⟩ rfl rfl rfl hl.1 rfl (Nat.le_of_ble_eq_true rfl) dX11_costOf_218 ⟨Nat.zero_le _, Nat.zero_le _⟩ (fun r255 σ254 τ254 H locs h254 hP hS => ?_)
                    obtain ⟨⟨rfl, rfl⟩, w256, h254⟩ := h254
                    refine lv_iload hx hb dX11_costOf_221 (lv_at hl 6 rfl) ?_
                    have g257 := jrg (rfl : r255.toInt = r255.toInt)
                    have g258 := jrg (rfl : r84.toInt = r84.toInt)
                    refine lv_isub hx hb dX11_costOf_223 ?_
                    refine lv_topi (fun x259 ex259 => ?_)
                    have gx259 := jrg (rfl : x259.toInt = x259.toInt)
                    have I260 : jI31 σ244 := jI31_fr (congrFun (f246 31 (of_decide_eq_true rfl)) 8) (congrFun (f246 31 (of_decide_eq_true rfl)) 10) (congrFun (f246 31 (of_decide_eq_true rfl)) 11) (f246 33 (of_decide_eq_true rfl)) (f246 35 (of_decide_eq_true rfl)) (f246 36 (of_decide_eq_true rfl)) I192
                    have p261 : jOk3 σ244 := jOk3.fr (f246 3 (of_decide_eq_true rfl)) p236
                    have p262 : jKb σ244 := jKb.fr (congrFun (f246 31 (of_decide_eq_true rfl)) 8) (congrFun (f246 31 (of_decide_eq_true rfl)) 11) (f246 32 (of_decide_eq_true rfl)) p195
                    have p263 : jKh σ244 := jKh.fr (congrFun (f246 31 (of_decide_eq_true rfl)) 8) (f246 32 (of_decide_eq_true rfl)) (f246 36 (of_decide_eq_true rfl)) (f246 37 (of_decide_eq_true rfl)) p196
                    have p264 : jKg σ244 := jKg.fr (congrFun (f246 31 (of_decide_eq_true rfl)) 8) (congrFun (f246 31 (of_decide_eq_true rfl)) 9) (congrFun (f246 31 (of_decide_eq_true rfl)) 11) (congrFun (f246 31 (of_decide_eq_true rfl)) 12) (f246 32 (of_decide_eq_true rfl)) (f246 33 (of_decide_eq_true rfl)) p197
                    have p265 : jNz σ244 := jNz.fr (f246 34 (of_decide_eq_true rfl)) p198
                    exact hret x259 σ244 τ _ _ _ _ rfl ⟨rfl, (fun i hi => ((f246 i (imp_143 i hi)).trans ((f190 i (imp_132 i hi)).trans ((f62 i (imp_132 i hi)).trans (f46 i (imp_131 i hi)))))), (fun i hi => ((congrFun (f246 31 (of_decide_eq_true rfl)) i).trans ((f191 i hi).trans ((f63 i hi).trans (congrFun (f46 31 (of_decide_eq_true rfl)) i))))), I260, p261, p247, p248, p262, p263, p264, p265, trivial⟩ hP hS dX11_costOf_224
              · obtain ⟨q267, k266⟩ := h222
                have z268 : (σ188 17 r23.toNatClampNeg).toInt = (σ 17 r23.toNatClampNeg).toInt := by rw [f190 17 (of_decide_eq_true rfl), f62 17 (of_decide_eq_true rfl), f46 17 (of_decide_eq_true rfl)]
                have q267 := q267.symm
                subst q267
                refine lv_istore (lv' := [(9, .int 0), (7, .int r217), (6, .int r214), (8, .int r87), (5, .int r84), (4, .int r36), (3, .int r29), (2, .int r23), (0, .ref (ad 0)), (1, .int a1)]) hx hb dX11_costOf_154 hl (of_decide_eq_true rfl) rfl (fun ls hl => ?_)
                refine lv_iload_n hx hb dX11_costOf_156 rfl (lv_at hl 6 rfl) ?_
                refine lv_iload hx hb dX11_costOf_157 (lv_at hl 5 rfl) ?_
                refine jcallS (As := [.int r29, .int r36]) (rest := []) ⟨hx, hb, hml, hown, hts⟩ hK hP hA hS hZ (c_X0_steps l D cI cL ad zz hJ σ188 τ r29 (r29.toInt) rfl r36 (r36.toInt) rfl) cw_RX11_346 ⟨Nat.le_of_ble_eq_true rfl, Nat.le_of_ble_eq_true rfl⟩ rfl rfl rfl hl.1 rfl (Nat.le_of_ble_eq_true rfl) dX11_costOf_159 ⟨Nat.zero_le _, Nat.zero_le _⟩ (fun r270 σ269 τ269 H locs h269 hP hS => ?_)
                obtain ⟨⟨rfl, rfl⟩, w271, h269⟩ := h269
                have k272 := congrArg Int32.toInt w271
                have h273 := h269
                obtain ⟨q275, k274⟩ := h273
                refine lv_istore (lv' := [(10, .int r270), (9, .int 0), (7, .int r217), (6, .int r214), (8, .int r87), (5, .int r84), (4, .int r36), (3, .int r29), (2, .int r23), (0, .ref (ad 0)), (1, .int a1)]) hx hb dX11_costOf_162 hl (of_decide_eq_true rfl) rfl (fun ls hl => ?_)
                refine lv_aload_n hx hb dX11_costOf_164 rfl (lv_at hl 9 rfl) ?_
                refine va_get (D := D) hx hb hts inlX11 hown hK hP 0 (jc_0 cI cL ad σ188 τ) rfl 5 (of_decide_eq_true rfl) (hts _ kw_2_9) (fun _ h9 => h9) rfl dX11_costOf_165 ?_
                refine lv_iload hx hb dX11_costOf_168 (lv_at hl 6 rfl) ?_
                refine lv_iload hx hb dX11_costOf_170 (lv_at hl 1 rfl) ?_
                refine lv_iload hx hb dX11_costOf_172 (lv_at hl 0 rfl) ?_
                refine lv_aload_n hx hb dX11_costOf_174 rfl (lv_at hl 9 rfl) ?_
                refine va_get (D := D) hx hb hts inlX11 hown hK hP 0 (jc_0 cI cL ad σ188 τ) rfl 9 (of_decide_eq_true rfl) (hts _ kw_3_1) (fun _ h9 => h9) rfl dX11_costOf_175 ?_
                refine lv_iload_n hx hb dX11_costOf_178 rfl (lv_at hl 10 rfl) ?_
                refine lv_iload hx hb dX11_costOf_179 (lv_at hl 6 rfl) ?_
                refine lv_aload_n hx hb dX11_costOf_181 rfl (lv_at hl 9 rfl) ?_
                refine va_get (D := D) hx hb hts inlX11 hown hK hP 0 (jc_0 cI cL ad σ188 τ) rfl 0 (of_decide_eq_true rfl) (hts _ kw_1_16) (fun _ h9 => h9) rfl dX11_costOf_182 ?_
                have I276 : jI47 σ188 := jI47_fr ((congrFun (f190 47 (of_decide_eq_true rfl)) 0).trans ((congrFun (f62 47 (of_decide_eq_true rfl)) 0).trans (congrFun (f46 47 (of_decide_eq_true rfl)) 0))) ((f190 48 (of_decide_eq_true rfl)).trans ((f62 48 (of_decide_eq_true rfl)).trans (f46 48 (of_decide_eq_true rfl)))) ((f190 49 (of_decide_eq_true rfl)).trans ((f62 49 (of_decide_eq_true rfl)).trans (f46 49 (of_decide_eq_true rfl)))) hI47
                have p277 : jOk3 σ188 := jOk3.fr ((f190 3 (of_decide_eq_true rfl)).trans ((f62 3 (of_decide_eq_true rfl)).trans (f46 3 (of_decide_eq_true rfl)))) hs_jOk3
                exact by
                 refine jcallV (As := [.int a1, .int r36, .ref (ad 2)]) (rest := [.int r270, .int 0, .int r36, .ref (ad 26)]) ⟨hx, hb, hml, hown, hts⟩ hK hP hA hS hZ (c_X2_leftAhead_47 l D cI cL ad zz hJ σ188 τ a1 (A1) t1 r36 (r36.toInt) rfl I276 p277 (by omega)) cw_RX11_349 (jc_47 cI cL ad σ188 τ) rfl ⟨Nat.le_of_ble_eq_true rfl, Nat.le_of_ble_eq_true rfl⟩ rfl rfl rfl hl.1 rfl (Nat.le_of_ble_eq_true rfl) dX11_costOf_185 ⟨Nat.zero_le _, Nat.zero_le _⟩ (fun r279 σ278 τ278 H locs h278 hP hS => ?_)
                 obtain ⟨⟨rfl, rfl⟩, h278⟩ := h278
                 have h280 := h278
                 obtain ⟨q282, k281⟩ := h280
                 refine lv_iload_n hx hb dX11_costOf_188 rfl (lv_at hl 10 rfl) ?_
                 refine lv_iload_n hx hb dX11_costOf_189 rfl (lv_at hl 8 rfl) ?_
                 have I283 : jI22 σ188 := jI22_fr (congrFun (f190 22 (of_decide_eq_true rfl)) 0) (f190 23 (of_decide_eq_true rfl)) I185
                 have I284 : jI26 σ188 := jI26_fr (congrFun (f190 26 (of_decide_eq_true rfl)) 6) I186
                 refine jcallV (As := [.int r36, .int 0, .int r270, .int r279, .int a1, .int r23]) (rest := []) ⟨hx, hb, hml, hown, hts⟩ hK hP hA hS hZ (c_X5_outOf_26 l D cI cL ad zz hJ σ188 τ r36 (r36.toInt) rfl 0 (0) jz_0 r270 (r270.toInt) rfl r279 (r279.toInt) rfl a1 (A1) t1 r23 (r23.toInt) rfl I283 I284 p193 p194 (by omega) (by omega) (by omega) (by omega) (by omega) (by omega)) cw_RX11_166 (jc_26 cI cL ad σ188 τ) rfl ⟨Nat.le_of_ble_eq_true rfl, Nat.le_of_ble_eq_true rfl⟩ rfl rfl rfl hl.1 rfl (Nat.le_of_ble_eq_true rfl) dX11_costOf_190 ⟨Nat.zero_le _, Nat.zero_le _⟩ (fun r286 σ285 τ285 H locs h285 hP hS => ?_)
                 exact by
                  obtain ⟨rfl, f287, p288, p289, w290, h285⟩ := h285
                  refine lv_istore (lv' := [(11, .int r286), (10, .int r270), (9, .int 0), (7, .int r217), (6, .int r214), (8, .int r87), (5, .int r84), (4, .int r36), (3, .int r29), (2, .int r23), (0, .ref (ad 0)), (1, .int a1)]) hx hb dX11_costOf_193 hl (of_decide_eq_true rfl) rfl (fun ls hl => ?_)
                  refine lv_aload_n hx hb dX11_costOf_195 rfl (lv_at hl 10 rfl) ?_
                  refine va_get (D := D) hx hb hts inlX11 hown hK hP 0 (jc_0 cI cL ad σ285 τ) rfl 2 (of_decide_eq_true rfl) (hts _ kw_2_0) (fun _ h9 => h9) rfl dX11_costOf_196 ?_
                  refine lv_aload_n hx hb dX11_costOf_199 rfl (lv_at hl 10 rfl) ?_
                  refine va_get (D := D) hx hb hts inlX11 hown hK hP 0 (jc_0 cI cL ad σ285 τ) rfl 5 (of_decide_eq_true rfl) (hts _ kw_2_9) (fun _ h9 => h9) rfl dX11_costOf_200 ?_
                  refine lv_iload hx hb dX11_costOf_203 (lv_at hl 7 rfl) ?_
                  refine lv_iload hx hb dX11_costOf_205 (lv_at hl 2 rfl) ?_
                  refine lv_iload hx hb dX11_costOf_207 (lv_at hl 1 rfl) ?_
                  exact by
                   refine jcallV (As := [.int r36, .int 0, .int r270]) (rest := [.ref (ad 16)]) ⟨hx, hb, hml, hown, hts⟩ hK hP hA hS hZ (c_X5_runsOf_26 l D cI cL ad zz hJ σ285 τ r36 (r36.toInt) rfl 0 (0) jz_0 r270 (r270.toInt) rfl (by omega) (by omega) (by omega)) cw_RX11_160 (jc_26 cI cL ad σ285 τ) rfl ⟨Nat.le_of_ble_eq_true rfl, Nat.le_of_ble_eq_true rfl⟩ rfl rfl rfl hl.1 rfl (Nat.le_of_ble_eq_true rfl) dX11_costOf_209 ⟨Nat.zero_le _, Nat.zero_le _⟩ (fun r293 σ292 τ292 H locs h292 hP hS => ?_)
                   obtain ⟨⟨rfl, rfl⟩, w294, h292⟩ := h292
                   refine lv_iload hx hb dX11_costOf_212 (lv_at hl 0 rfl) ?_
                   refine lv_iload hx hb dX11_costOf_214 (lv_at hl 4 rfl) ?_
                   refine lv_iload hx hb dX11_costOf_216 (lv_at hl 3 rfl) ?_
                   refine jcallV (As := [.int r293, .int r286, .int r214, .int r217]) (rest := []) ⟨hx, hb, hml, hown, hts⟩ hK hP hA hS hZ (c_X6_meanOf_16 l D cI cL ad zz hJ σ285 τ r293 (r293.toInt) rfl r286 (r286.toInt) rfl r214 (r214.toInt) rfl r217 (r217.toInt) rfl) cw_RX11_353 (jc_16 cI cL ad σ285 τ) rfl ⟨Nat.le_of_ble_eq_true rfl, Nat.le_of_ble_eq_true rfl⟩ rfl rfl rfl hl.1 rfl (Nat.le_of_ble_eq_true rfl) dX11_costOf_218 ⟨Nat.zero_le _, Nat.zero_le _⟩ (fun r296 σ295 τ295 H locs h295 hP hS => ?_)
                   obtain ⟨⟨rfl, rfl⟩, w297, h295⟩ := h295
                   refine lv_iload hx hb dX11_costOf_221 (lv_at hl 6 rfl) ?_
                   have g298 := jrg (rfl : r296.toInt = r296.toInt)
                   have g299 := jrg (rfl : r84.toInt = r84.toInt)
                   refine lv_isub hx hb dX11_costOf_223 ?_
                   refine lv_topi (fun x300 ex300 => ?_)
                   have gx300 := jrg (rfl : x300.toInt = x300.toInt)
                   have I301 : jI31 σ285 := jI31_fr (congrFun (f287 31 (of_decide_eq_true rfl)) 8) (congrFun (f287 31 (of_decide_eq_true rfl)) 10) (congrFun (f287 31 (of_decide_eq_true rfl)) 11) (f287 33 (of_decide_eq_true rfl)) (f287 35 (of_decide_eq_true rfl)) (f287 36 (of_decide_eq_true rfl)) I192
                   have p302 : jOk3 σ285 := jOk3.fr (f287 3 (of_decide_eq_true rfl)) p277
                   have p303 : jKb σ285 := jKb.fr (congrFun (f287 31 (of_decide_eq_true rfl)) 8) (congrFun (f287 31 (of_decide_eq_true rfl)) 11) (f287 32 (of_decide_eq_true rfl)) p195
                   have p304 : jKh σ285 := jKh.fr (congrFun (f287 31 (of_decide_eq_true rfl)) 8) (f287 32 (of_decide_eq_true rfl)) (f287 36 (of_decide_eq_true rfl)) (f287 37 (of_decide_eq_true rfl)) p196
                   have p305 : jKg σ285 := jKg.fr (congrFun (f287 31 (of_decide_eq_true rfl)) 8) (congrFun (f287 31 (of_decide_eq_true rfl)) 9) (congrFun (f287 31 (of_decide_eq_true rfl)) 11) (congrFun (f287 31 (of_decide_eq_true rfl)) 12) (f287 32 (of_decide_eq_true rfl)) (f287 33 (of_decide_eq_true rfl)) p197
                   have p306 : jNz σ285 := jNz.fr (f287 34 (of_decide_eq_true rfl)) p198
                   exact hret x300 σ285 τ _ _ _ _ rfl ⟨rfl, (fun i hi => ((f287 i (imp_143 i hi)).trans ((f190 i (imp_132 i hi)).trans ((f62 i (imp_132 i hi)).trans (f46 i (imp_131 i hi)))))), (fun i hi => ((congrFun (f287 31 (of_decide_eq_true rfl)) i).trans ((f191 i hi).trans ((f63 i hi).trans (congrFun (f46 31 (of_decide_eq_true rfl)) i))))), I301, p302, p288, p289, p303, p304, p305, p306, trivial⟩ hP hS dX11_costOf_224
   · have kc43 := jne c43 rfl jz_0
     refine lv_iconst (v := 0) hx hb dX11_costOf_45 (of_decide_eq_true rfl) ?_
     exact hret 0 σ τ _ _ _ _ rfl ⟨rfl, (fun _ _ => rfl), (fun _ _ => rfl), hI31, hs_jOk3, hs_jN67, hs_jBl, hs_jKb, hs_jKh, hs_jKg, hs_jNz, trivial⟩ hP hS dX11_costOf_46
set_option maxHeartbeats 4000000 in
set_option maxRecDepth 100000 in
theorem c_X11_cost (l : Launch) (D : va_G) (cI cL : ClassId) (ad zz : Nat → Nat) (hJ : jD ad) (σ : Nat → Nat → Int32) (τ : Nat → Nat → Int64) (a1 : Int32) (A1 : Int) (t1 : a1.toInt = A1) (hI2 : jI2 σ) (hI16 : jI16 σ) (hI22 : jI22 σ) (hI31 : jI31 σ) (hI47 : jI47 σ) (hI26 : jI26 σ) (hs_jOk3 : jOk3 σ) (hs_jN67 : jN67 σ) (hs_jBl : jBl σ) (hs_jKb : jKb σ) (hs_jKh : jKh σ) (hs_jKg : jKg σ) (hs_jNz : jNz σ) : jM l yX11_cost cX11_cost 2 (some .int) ({ frames := 7, cells := 0, slots := 0, locals := 193 }) D cI cL ad zz [.ref (ad 0), .int a1] σ τ (fun r σ' τ' => τ = τ' ∧ (∀ i : Nat, (i < 24 ∨ 25 < i) ∧ (i < 27 ∨ 37 < i) → σ' i = σ i) ∧ (∀ k : Nat, (k < 8 ∨ 8 < k) ∧ (k < 9 ∨ 9 < k) ∧ (k < 10 ∨ 10 < k) ∧ (k < 11 ∨ 11 < k) ∧ (k < 12 ∨ 12 < k) → σ' 31 k = σ 31 k) ∧ (jI31 σ') ∧ (jOk3 σ') ∧ (jN67 σ') ∧ (jBl σ') ∧ (jKb σ') ∧ (jKh σ') ∧ (jKg σ') ∧ (jNz σ') ∧ True) := by
  refine jM.of hJ (by decide +kernel) (nt := .int) rfl (Nat.le_of_ble_eq_true rfl) ?_
  intro p e s m args below meth c Q ls hC hret hl hP
  obtain ⟨hx, hb, hr, hml, hown, hts, hK, -, hlocks, hZ⟩ := hC
  have hown : s.vm.findClass RX11 = some m.cls := hown
  have hS : va_S (jA ad) s.heap s.heap [] := va_S.rf
  have hA : ∀ q, jA ad q → jA ad q := fun _ h => h
  have hl : lv_has ls 2 [(0, .ref (ad 0)), (1, .int a1)] := hl
  have g1 := jrg t1
  obtain ⟨i1, i2, i3, w4⟩ : (1 ≤ (σ 16 0).toInt ∧ (σ 16 0).toInt ≤ 8) ∧ (1 ≤ (σ 16 1).toInt ∧ (σ 16 1).toInt ≤ 12) ∧ (0 ≤ (σ 16 2).toInt ∧ (σ 16 2).toInt ≤ 999) ∧ (∀ k : Nat, k < 8 → 0 ≤ (σ 17 k).toInt ∧ (σ 17 k).toInt ≤ 3) := id hI16
  obtain ⟨i5, w6, w7⟩ : (0 ≤ (σ 47 0).toInt ∧ (σ 47 0).toInt ≤ 12) ∧ (∀ k : Nat, k < 12 → 0 ≤ (σ 48 k).toInt ∧ (σ 48 k).toInt ≤ 3) ∧ (∀ k : Nat, k < 12 → 0 ≤ (σ 49 k).toInt ∧ (σ 49 k).toInt ≤ 1) := id hI47
  refine lv_iload_n hx hb dX11_cost_0 rfl (lv_at hl 1 rfl) ?_
  refine lv_iconst (v := 0) hx hb dX11_cost_1 (of_decide_eq_true rfl) ?_
  refine lv_aload_n hx hb dX11_cost_2 rfl (lv_at hl 0 rfl) ?_
  refine va_get (D := D) hx hb hts inlX11 hown hK hP 0 (jc_0 cI cL ad σ τ) rfl 9 (of_decide_eq_true rfl) (hts _ kw_3_1) (fun _ h9 => h9) rfl dX11_cost_3 ?_
  refine va_get (D := D) hx hb hts inlX2 hown hK hP 47 (jc_47 cI cL ad σ τ) rfl 0 (of_decide_eq_true rfl) (hts _ kw_13_11) (fun _ h9 => h9) rfl dX11_cost_6 ?_
  refine lv_iconst (v := 1) hx hb dX11_cost_9 (of_decide_eq_true rfl) ?_
  have g8 := jrg (rfl : (σ 47 0).toInt = (σ 47 0).toInt)
  refine lv_isub hx hb dX11_cost_10 ?_
  refine lv_topi (fun x9 ex9 => ?_)
  exact by
   have tx9 : x9.toInt = (σ 47 0).toInt - 1 := (jsub ex9 rfl jz_1 (by omega) (by omega)).trans (by omega)
   refine jcallS (As := [.int a1, .int 0, .int x9]) (rest := []) ⟨hx, hb, hml, hown, hts⟩ hK hP hA hS hZ (c_X11_outside l D cI cL ad zz hJ σ τ a1 (A1) t1 0 (0) jz_0 x9 ((σ 47 0).toInt - 1) tx9) cw_RX11_94 ⟨Nat.le_of_ble_eq_true rfl, Nat.le_of_ble_eq_true rfl⟩ rfl rfl rfl hl.1 rfl (Nat.le_of_ble_eq_true rfl) dX11_cost_11 ⟨Nat.zero_le _, Nat.zero_le _⟩ (fun r11 σ10 τ10 H locs h10 hP hS => ?_)
   obtain ⟨⟨rfl, rfl⟩, h10⟩ := h10
   rcases h10 with h12 | h13
   · obtain ⟨q15, k14⟩ := h12
     have q15 := q15.symm
     subst q15
     refine lv_if_ne (tgt := 31) hx hb dX11_cost_14 (of_decide_eq_true rfl) (fun _ => ?_) (fun c => absurd c (of_decide_eq_true rfl))
     refine lv_ldc (v := (-2000000000)) hx hb hown (hts _ kw_9_21) dX11_cost_31 ?_
     exact hret (-2000000000) σ τ _ _ _ _ rfl ⟨rfl, (fun _ _ => rfl), (fun _ _ => rfl), hI31, hs_jOk3, hs_jN67, hs_jBl, hs_jKb, hs_jKh, hs_jKg, hs_jNz, trivial⟩ hP hS dX11_cost_33
   · obtain ⟨q17, k16⟩ := h13
     have q17 := q17.symm
     subst q17
     refine lv_if_ne (tgt := 31) hx hb dX11_cost_14 (of_decide_eq_true rfl) (fun c => absurd (of_decide_eq_true rfl) c) (fun _ => ?_)
     refine lv_aload_n hx hb dX11_cost_17 rfl (lv_at hl 0 rfl) ?_
     refine va_get (D := D) hx hb hts inlX11 hown hK hP 0 (jc_0 cI cL ad σ τ) rfl 2 (of_decide_eq_true rfl) (hts _ kw_2_0) (fun _ h9 => h9) rfl dX11_cost_18 ?_
     refine va_get (D := D) hx hb hts inlX6 hown hK hP 16 (jc_16 cI cL ad σ τ) rfl 1 (of_decide_eq_true rfl) (hts _ kw_20_5) (fun _ h9 => h9) rfl dX11_cost_21 ?_
     refine lv_iload_n hx hb dX11_cost_24 rfl (lv_at hl 1 rfl) ?_
     have g18 := jrg (rfl : (σ 16 1).toInt = (σ 16 1).toInt)
     refine lv_isub hx hb dX11_cost_25 ?_
     refine lv_topi (fun x19 ex19 => ?_)
     exact by
      have tx19 : x19.toInt = (σ 16 1).toInt - A1 := (jsub ex19 rfl t1 (by omega) (by omega)).trans (by omega)
      refine lv_bipush (v := 8) hx hb dX11_cost_26 (of_decide_eq_true rfl) ?_
      refine lv_icmp_le (tgt := 34) hx hb dX11_cost_28 (of_decide_eq_true rfl) (fun c20 => ?_) (fun c20 => ?_)
      · have kc20 := jle c20 tx19 jz_8
        refine lv_aload_n hx hb dX11_cost_34 rfl (lv_at hl 0 rfl) ?_
        refine lv_iload_n hx hb dX11_cost_35 rfl (lv_at hl 1 rfl) ?_
        refine jcallV (As := [.int a1]) (rest := []) ⟨hx, hb, hml, hown, hts⟩ hK hP hA hS hZ (c_X11_costOf l D cI cL ad zz hJ σ τ a1 (A1) t1 hI2 hI16 hI22 hI31 hI47 hI26 hs_jOk3 hs_jN67 hs_jBl hs_jKb hs_jKh hs_jKg hs_jNz (by omega) (by omega)) cw_RX11_265 (jc_0 cI cL ad σ τ) rfl ⟨Nat.le_of_ble_eq_true rfl, Nat.le_of_ble_eq_true rfl⟩ rfl rfl rfl hl.1 rfl (Nat.le_of_ble_eq_true rfl) dX11_cost_36 ⟨Nat.zero_le _, Nat.zero_le _⟩ (fun r22 σ21 τ21 H locs h21 hP hS => ?_)
        obtain ⟨rfl, f23, f24, I25, p26, p27, p28, p29, p30, p31, p32, h21⟩ := h21
        exact hret r22 σ21 τ _ _ _ _ rfl ⟨rfl, (fun i hi => (f23 i hi)), (fun i hi => (f24 i hi)), I25, p26, p27, p28, p29, p30, p31, p32, trivial⟩ hP hS dX11_cost_39
      · exact by
         have kc20 := jnle c20 tx19 jz_8
         refine lv_ldc (v := (-2000000000)) hx hb hown (hts _ kw_9_21) dX11_cost_31 ?_
         exact hret (-2000000000) σ τ _ _ _ _ rfl ⟨rfl, (fun _ _ => rfl), (fun _ _ => rfl), hI31, hs_jOk3, hs_jN67, hs_jBl, hs_jKb, hs_jKh, hs_jKg, hs_jNz, trivial⟩ hP hS dX11_cost_33
set_option maxHeartbeats 4000000 in
set_option maxRecDepth 100000 in
theorem c_X11_lost (l : Launch) (D : va_G) (cI cL : ClassId) (ad zz : Nat → Nat) (hJ : jD ad) (σ : Nat → Nat → Int32) (τ : Nat → Nat → Int64) (a1 : Int32) (A1 : Int) (t1 : a1.toInt = A1) (hI2 : jI2 σ) (hI16 : jI16 σ) (hI22 : jI22 σ) (hI31 : jI31 σ) (hI47 : jI47 σ) (hI26 : jI26 σ) (hs_jOk3 : jOk3 σ) (hs_jN67 : jN67 σ) (hs_jBl : jBl σ) (hs_jKb : jKb σ) (hs_jKh : jKh σ) (hs_jKg : jKg σ) (hs_jNz : jNz σ) : jM l yX11_lost cX11_lost 7 (some .int) ({ frames := 7, cells := 0, slots := 0, locals := 193 }) D cI cL ad zz [.ref (ad 0), .int a1] σ τ (fun r σ' τ' => τ = τ' ∧ (∀ i : Nat, (i < 24 ∨ 25 < i) ∧ (i < 27 ∨ 37 < i) → σ' i = σ i) ∧ (∀ k : Nat, (k < 8 ∨ 8 < k) ∧ (k < 9 ∨ 9 < k) ∧ (k < 10 ∨ 10 < k) ∧ (k < 11 ∨ 11 < k) ∧ (k < 12 ∨ 12 < k) → σ' 31 k = σ 31 k) ∧ (jI31 σ') ∧ (jOk3 σ') ∧ (jN67 σ') ∧ (jBl σ') ∧ (jKb σ') ∧ (jKh σ') ∧ (jKg σ') ∧ (jNz σ') ∧ True) := by
  refine jM.of hJ (by decide +kernel) (nt := .int) rfl (Nat.le_of_ble_eq_true rfl) ?_
  intro p e s m args below meth c Q ls hC hret hl hP
  obtain ⟨hx, hb, hr, hml, hown, hts, hK, -, hlocks, hZ⟩ := hC
  have hown : s.vm.findClass RX11 = some m.cls := hown
  have hS : va_S (jA ad) s.heap s.heap [] := va_S.rf
  have hA : ∀ q, jA ad q → jA ad q := fun _ h => h
  have hl : lv_has ls 7 [(0, .ref (ad 0)), (1, .int a1)] := hl
  have g1 := jrg t1
  obtain ⟨i1, i2, i3, w4⟩ : (1 ≤ (σ 16 0).toInt ∧ (σ 16 0).toInt ≤ 8) ∧ (1 ≤ (σ 16 1).toInt ∧ (σ 16 1).toInt ≤ 12) ∧ (0 ≤ (σ 16 2).toInt ∧ (σ 16 2).toInt ≤ 999) ∧ (∀ k : Nat, k < 8 → 0 ≤ (σ 17 k).toInt ∧ (σ 17 k).toInt ≤ 3) := id hI16
  obtain ⟨i5, w6, w7⟩ : (0 ≤ (σ 47 0).toInt ∧ (σ 47 0).toInt ≤ 12) ∧ (∀ k : Nat, k < 12 → 0 ≤ (σ 48 k).toInt ∧ (σ 48 k).toInt ≤ 3) ∧ (∀ k : Nat, k < 12 → 0 ≤ (σ 49 k).toInt ∧ (σ 49 k).toInt ≤ 1) := id hI47
  refine lv_iload_n hx hb dX11_lost_0 rfl (lv_at hl 1 rfl) ?_
  refine lv_iconst (v := 0) hx hb dX11_lost_1 (of_decide_eq_true rfl) ?_
  refine lv_iconst (v := 2) hx hb dX11_lost_2 (of_decide_eq_true rfl) ?_
  refine jcallS (As := [.int a1, .int 0, .int 2]) (rest := []) ⟨hx, hb, hml, hown, hts⟩ hK hP hA hS hZ (c_X11_outside l D cI cL ad zz hJ σ τ a1 (A1) t1 0 (0) jz_0 2 (2) jz_2) cw_RX11_94 ⟨Nat.le_of_ble_eq_true rfl, Nat.le_of_ble_eq_true rfl⟩ rfl rfl rfl hl.1 rfl (Nat.le_of_ble_eq_true rfl) dX11_lost_3 ⟨Nat.zero_le _, Nat.zero_le _⟩ (fun r9 σ8 τ8 H locs h8 hP hS => ?_)
  obtain ⟨⟨rfl, rfl⟩, h8⟩ := h8
  rcases h8 with h10 | h11
  · obtain ⟨q13, k12⟩ := h10
    have q13 := q13.symm
    subst q13
    refine lv_if_ne (tgt := 19) hx hb dX11_lost_6 (of_decide_eq_true rfl) (fun _ => ?_) (fun c => absurd c (of_decide_eq_true rfl))
    refine lv_iconst (v := (-1)) hx hb dX11_lost_19 (of_decide_eq_true rfl) ?_
    exact hret (-1) σ τ _ _ _ _ rfl ⟨rfl, (fun _ _ => rfl), (fun _ _ => rfl), hI31, hs_jOk3, hs_jN67, hs_jBl, hs_jKb, hs_jKh, hs_jKg, hs_jNz, trivial⟩ hP hS dX11_lost_20
  · obtain ⟨q15, k14⟩ := h11
    have q15 := q15.symm
    subst q15
    refine lv_if_ne (tgt := 19) hx hb dX11_lost_6 (of_decide_eq_true rfl) (fun c => absurd (of_decide_eq_true rfl) c) (fun _ => ?_)
    refine lv_aload_n hx hb dX11_lost_9 rfl (lv_at hl 0 rfl) ?_
    refine va_get (D := D) hx hb hts inlX11 hown hK hP 0 (jc_0 cI cL ad σ τ) rfl 9 (of_decide_eq_true rfl) (hts _ kw_3_1) (fun _ h9 => h9) rfl dX11_lost_10 ?_
    refine va_get (D := D) hx hb hts inlX2 hown hK hP 47 (jc_47 cI cL ad σ τ) rfl 0 (of_decide_eq_true rfl) (hts _ kw_13_11) (fun _ h9 => h9) rfl dX11_lost_13 ?_
    refine lv_if_ne (tgt := 21) hx hb dX11_lost_16 (of_decide_eq_true rfl) (fun c16 => ?_) (fun c16 => ?_)
    · have kc16 := jne c16 rfl jz_0
      refine lv_aload_n hx hb dX11_lost_21 rfl (lv_at hl 0 rfl) ?_
      refine va_get (D := D) hx hb hts inlX11 hown hK hP 0 (jc_0 cI cL ad σ τ) rfl 2 (of_decide_eq_true rfl) (hts _ kw_2_0) (fun _ h9 => h9) rfl dX11_lost_22 ?_
      refine va_get (D := D) hx hb hts inlX6 hown hK hP 16 (jc_16 cI cL ad σ τ) rfl 1 (of_decide_eq_true rfl) (hts _ kw_20_5) (fun _ h9 => h9) rfl dX11_lost_25 ?_
      refine lv_bipush (v := 8) hx hb dX11_lost_28 (of_decide_eq_true rfl) ?_
      refine lv_icmp_le (tgt := 36) hx hb dX11_lost_30 (of_decide_eq_true rfl) (fun c17 => ?_) (fun c17 => ?_)
      · have kc17 := jle c17 rfl jz_8
        refine lv_iconst (v := 0) hx hb dX11_lost_36 (of_decide_eq_true rfl) ?_
        refine lv_istore_n (lv' := [(2, .int 0), (0, .ref (ad 0)), (1, .int a1)]) hx hb dX11_lost_37 rfl hl (of_decide_eq_true rfl) rfl (fun ls hl => ?_)
        refine lv_iconst (v := 0) hx hb dX11_lost_38 (of_decide_eq_true rfl) ?_
        refine lv_istore_n (lv' := [(3, .int 0), (2, .int 0), (0, .ref (ad 0)), (1, .int a1)]) hx hb dX11_lost_39 rfl hl (of_decide_eq_true rfl) rfl (fun ls hl => ?_)
        refine lv_iconst (v := 0) hx hb dX11_lost_40 (of_decide_eq_true rfl) ?_
        refine lv_istore (lv' := [(4, .int 0), (3, .int 0), (2, .int 0), (0, .ref (ad 0)), (1, .int a1)]) hx hb dX11_lost_41 hl (of_decide_eq_true rfl) rfl (fun ls hl => ?_)
        refine lv_iconst (v := 0) hx hb dX11_lost_43 (of_decide_eq_true rfl) ?_
        refine lv_istore (lv' := [(5, .int 0), (4, .int 0), (3, .int 0), (2, .int 0), (0, .ref (ad 0)), (1, .int a1)]) hx hb dX11_lost_44 hl (of_decide_eq_true rfl) rfl (fun ls hl => ?_)
        have lp18 : ∀ (n19 : Nat) (x20 : Int32) (x21 : Int32) (x22 : Int32) (x23 : Int32) (σ25 : Nat → Nat → Int32) (H : Heap) (locs : List Loc) (ls : Array Slot), ((σ25 47 0).toInt - x23.toInt : Int) < n19 → 0 ≤ x23.toInt → x23.toInt ≤ 12 → x23.toInt ≤ (σ25 47 0).toInt → (∀ i : Nat, (i < 24 ∨ 25 < i) ∧ (i < 27 ∨ 37 < i) → σ25 i = σ i) → (∀ k : Nat, (k < 8 ∨ 8 < k) ∧ (k < 9 ∨ 9 < k) ∧ (k < 10 ∨ 10 < k) ∧ (k < 11 ∨ 11 < k) ∧ (k < 12 ∨ 12 < k) → σ25 31 k = σ 31 k) → jN67 σ25 → jBl σ25 → jKb σ25 → jKh σ25 → jKg σ25 → jNz σ25 → jI31 σ25 → jH D cI cL ad σ25 τ H → va_S (jA ad) s.heap H locs → lv_has ls 7 [(5, .int x23), (4, .int x22), (3, .int x21), (2, .int x20), (0, .ref (ad 0)), (1, .int a1)] → W p l e ({ frames := 7, cells := 0, slots := 0, locals := 193 }) s m args below meth c H locs 0 0 Q (F0 m 46 ls []) := by
          intro n19
          induction n19 with
          | zero => intro x20 x21 x22 x23 σ25 H locs ls h27 h28 h29 h30; have gx20 := jrg (rfl : x20.toInt = x20.toInt); have gx21 := jrg (rfl : x21.toInt = x21.toInt); have gx22 := jrg (rfl : x22.toInt = x22.toInt); exact absurd h27 (by omega)
          | succ n19 ihlp18 =>
            intro x20 x21 x22 x23 σ25 H locs ls h27 h28 h29 h30 f31 f32 p33 p34 p35 p36 p37 p38 p39 hP hS hl
            exact by
             have gx20 := jrg (rfl : x20.toInt = x20.toInt); have gx21 := jrg (rfl : x21.toInt = x21.toInt); have gx22 := jrg (rfl : x22.toInt = x22.toInt)
             have z40 : (σ25 47 0).toInt = (σ 47 0).toInt := (congrArg Int32.toInt (show σ25 47 0 = (σ 47 0) from (congrFun (f31 47 (of_decide_eq_true rfl)) 0)))
             refine lv_iload hx hb dX11_lost_46 (lv_at hl 0 rfl) ?_
             refine lv_aload_n hx hb dX11_lost_48 rfl (lv_at hl 4 rfl) ?_
             refine va_get (D := D) hx hb hts inlX11 hown hK hP 0 (jc_0 cI cL ad σ25 τ) rfl 9 (of_decide_eq_true rfl) (hts _ kw_3_1) (fun _ h9 => h9) rfl dX11_lost_49 ?_
             refine va_get (D := D) hx hb hts inlX2 hown hK hP 47 (jc_47 cI cL ad σ25 τ) rfl 0 (of_decide_eq_true rfl) (hts _ kw_13_11) (fun _ h9 => h9) rfl dX11_lost_52 ?_
             have m41 : σ25 47 0 = (σ 47 0) := (congrFun (f31 47 (of_decide_eq_true rfl)) 0)
             refine jtopr m41 ?_
             refine lv_icmp_ge (tgt := 96) hx hb dX11_lost_55 (of_decide_eq_true rfl) (fun c42 => ?_) (fun c42 => ?_)
             · have kc42 := jle c42 rfl rfl
               refine lv_iload_n hx hb dX11_lost_96 rfl (lv_at hl 5 rfl) ?_
               refine lv_if_ne (tgt := 102) hx hb dX11_lost_97 (of_decide_eq_true rfl) (fun c43 => ?_) (fun c43 => ?_)
               · have kc43 := jne c43 t1 jz_0
                 refine lv_iload_n hx hb dX11_lost_102 rfl (lv_at hl 5 rfl) ?_
                 refine lv_iconst (v := 1) hx hb dX11_lost_103 (of_decide_eq_true rfl) ?_
                 refine lv_icmp_ne (tgt := 111) hx hb dX11_lost_104 (of_decide_eq_true rfl) (fun c44 => ?_) (fun c44 => ?_)
                 · have kc44 := jne c44 t1 jz_1
                   refine lv_iload hx hb dX11_lost_111 (lv_at hl 1 rfl) ?_
                   have p45 : jOk3 σ25 := jOk3.fr (f31 3 (of_decide_eq_true rfl)) hs_jOk3
                   exact hret x22 σ25 τ _ _ _ _ rfl ⟨rfl, (fun i hi => (f31 i hi)), (fun i hi => (f32 i hi)), p39, p45, p33, p34, p35, p36, p37, p38, trivial⟩ hP hS dX11_lost_113
                 · have kc44 := jeq c44 t1 jz_1
                   refine lv_iload_n hx hb dX11_lost_107 rfl (lv_at hl 2 rfl) ?_
                   refine lv_goto (tgt := 113) hx hb dX11_lost_108 (of_decide_eq_true rfl) ?_
                   have p46 : jOk3 σ25 := jOk3.fr (f31 3 (of_decide_eq_true rfl)) hs_jOk3
                   exact hret x21 σ25 τ _ _ _ _ rfl ⟨rfl, (fun i hi => (f31 i hi)), (fun i hi => (f32 i hi)), p39, p46, p33, p34, p35, p36, p37, p38, trivial⟩ hP hS dX11_lost_113
               · have kc43 := jeq c43 t1 jz_0
                 refine lv_iload_n hx hb dX11_lost_100 rfl (lv_at hl 3 rfl) ?_
                 have p47 : jOk3 σ25 := jOk3.fr (f31 3 (of_decide_eq_true rfl)) hs_jOk3
                 exact hret x20 σ25 τ _ _ _ _ rfl ⟨rfl, (fun i hi => (f31 i hi)), (fun i hi => (f32 i hi)), p39, p47, p33, p34, p35, p36, p37, p38, trivial⟩ hP hS dX11_lost_101
             · have kc42 := jnle c42 rfl rfl
               refine lv_aload_n hx hb dX11_lost_58 rfl (lv_at hl 4 rfl) ?_
               refine lv_iload hx hb dX11_lost_59 (lv_at hl 0 rfl) ?_
               have I48 : jI2 σ25 := jI2_fr (congrFun (f31 2 (of_decide_eq_true rfl)) 0) (congrFun (f31 2 (of_decide_eq_true rfl)) 1) (congrFun (f31 2 (of_decide_eq_true rfl)) 2) (congrFun (f31 2 (of_decide_eq_true rfl)) 3) (f31 6 (of_decide_eq_true rfl)) (f31 5 (of_decide_eq_true rfl)) hI2
               have I49 : jI16 σ25 := jI16_fr (congrFun (f31 16 (of_decide_eq_true rfl)) 0) (congrFun (f31 16 (of_decide_eq_true rfl)) 1) (congrFun (f31 16 (of_decide_eq_true rfl)) 2) (f31 17 (of_decide_eq_true rfl)) hI16
               have I50 : jI22 σ25 := jI22_fr (congrFun (f31 22 (of_decide_eq_true rfl)) 0) (f31 23 (of_decide_eq_true rfl)) hI22
               have I51 : jI47 σ25 := jI47_fr (congrFun (f31 47 (of_decide_eq_true rfl)) 0) (f31 48 (of_decide_eq_true rfl)) (f31 49 (of_decide_eq_true rfl)) hI47
               have I52 : jI26 σ25 := jI26_fr (congrFun (f31 26 (of_decide_eq_true rfl)) 6) hI26
               have p53 : jOk3 σ25 := jOk3.fr (f31 3 (of_decide_eq_true rfl)) hs_jOk3
               exact by
                refine jcallV (As := [.int x23]) (rest := []) ⟨hx, hb, hml, hown, hts⟩ hK hP hA hS hZ (c_X11_costOf l D cI cL ad zz hJ σ25 τ x23 (x23.toInt) rfl I48 I49 I50 p39 I51 I52 p53 p33 p34 p35 p36 p37 p38 (by omega) (by omega)) cw_RX11_265 (jc_0 cI cL ad σ25 τ) rfl ⟨Nat.le_of_ble_eq_true rfl, Nat.le_of_ble_eq_true rfl⟩ rfl rfl rfl hl.1 rfl (Nat.le_of_ble_eq_true rfl) dX11_lost_61 ⟨Nat.zero_le _, Nat.zero_le _⟩ (fun r55 σ54 τ54 H locs h54 hP hS => ?_)
                obtain ⟨rfl, f56, f57, I58, p59, p60, p61, p62, p63, p64, p65, h54⟩ := h54
                refine lv_istore (lv' := [(6, .int r55), (5, .int x23), (4, .int x22), (3, .int x21), (2, .int x20), (0, .ref (ad 0)), (1, .int a1)]) hx hb dX11_lost_64 hl (of_decide_eq_true rfl) rfl (fun ls hl => ?_)
                refine lv_iload hx hb dX11_lost_66 (lv_at hl 2 rfl) ?_
                refine lv_iload hx hb dX11_lost_68 (lv_at hl 0 rfl) ?_
                have g67 := jrg (rfl : x22.toInt = x22.toInt)
                have g68 := jrg (rfl : r55.toInt = r55.toInt)
                refine lv_iadd hx hb dX11_lost_70 ?_
                refine lv_topi (fun x69 ex69 => ?_)
                have gx69 := jrg (rfl : x69.toInt = x69.toInt)
                refine lv_istore (lv' := [(4, .int x69), (6, .int r55), (5, .int x23), (3, .int x21), (2, .int x20), (0, .ref (ad 0)), (1, .int a1)]) hx hb dX11_lost_71 hl (of_decide_eq_true rfl) rfl (fun ls hl => ?_)
                refine lv_iload hx hb dX11_lost_73 (lv_at hl 2 rfl) ?_
                refine lv_if_eq (tgt := 84) hx hb dX11_lost_75 (of_decide_eq_true rfl) (fun c70 => ?_) (fun c70 => ?_)
                · have kc70 := jeq c70 rfl jz_0
                  refine lv_iload hx hb dX11_lost_84 (lv_at hl 2 rfl) ?_
                  refine lv_istore_n (lv' := [(2, .int x23), (4, .int x69), (6, .int r55), (5, .int x23), (3, .int x21), (0, .ref (ad 0)), (1, .int a1)]) hx hb dX11_lost_86 rfl hl (of_decide_eq_true rfl) rfl (fun ls hl => ?_)
                  refine lv_iload hx hb dX11_lost_87 (lv_at hl 2 rfl) ?_
                  refine lv_istore_n (lv' := [(3, .int r55), (2, .int x23), (4, .int x69), (6, .int r55), (5, .int x23), (0, .ref (ad 0)), (1, .int a1)]) hx hb dX11_lost_89 rfl hl (of_decide_eq_true rfl) rfl (fun ls hl => ?_)
                  obtain ⟨x71, ex71⟩ : ∃ y : Int32, y = x23 + 1 := ⟨_, rfl⟩
                  exact by
                   have tx71 : x71.toInt = x23.toInt + 1 := (jadd ex71 rfl jz_1 (by omega) (by omega)).trans (by omega)
                   refine lv_iinc (v := x71) (lv' := [(5, .int x71), (3, .int r55), (2, .int x23), (4, .int x69), (6, .int r55), (0, .ref (ad 0)), (1, .int a1)]) hx hb dX11_lost_90 hl (k := 4) rfl (by rw [ex71]; rfl) (of_decide_eq_true rfl) rfl (fun ls hl => ?_)
                   refine lv_goto (tgt := 46) hx hb dX11_lost_93 (of_decide_eq_true rfl) ?_
                   have z72 : (σ54 47 0).toInt = (σ 47 0).toInt := (congrArg Int32.toInt (show σ54 47 0 = (σ 47 0) from ((congrFun (f56 47 (of_decide_eq_true rfl)) 0).trans m41)))
                   exact by exact ihlp18 x23 r55 x69 x71 σ54 _ _ ls (by have h93 := tx71; omega) (by have h93 := tx71; omega) (by have h93 := tx71; omega) (by have h93 := tx71; omega) (fun i hi => ((f56 i hi).trans (f31 i hi))) (fun i hi => ((f57 i hi).trans (f32 i hi)))  p60 p61 p62 p63 p64 p65 I58 hP hS (lv_sub hl [0, 3, 1, 2, 5, 6] rfl)
                · have kc70 := jne c70 rfl jz_0
                  refine lv_iload hx hb dX11_lost_78 (lv_at hl 1 rfl) ?_
                  refine lv_iload_n hx hb dX11_lost_80 rfl (lv_at hl 3 rfl) ?_
                  refine lv_icmp_le (tgt := 90) hx hb dX11_lost_81 (of_decide_eq_true rfl) (fun c73 => ?_) (fun c73 => ?_)
                  · exact by
                     have kc73 := jle c73 rfl rfl
                     obtain ⟨x74, ex74⟩ : ∃ y : Int32, y = x23 + 1 := ⟨_, rfl⟩
                     have tx74 : x74.toInt = x23.toInt + 1 := (jadd ex74 rfl jz_1 (by omega) (by omega)).trans (by omega)
                     refine lv_iinc (v := x74) (lv' := [(5, .int x74), (4, .int x69), (6, .int r55), (3, .int x21), (2, .int x20), (0, .ref (ad 0)), (1, .int a1)]) hx hb dX11_lost_90 hl (k := 2) rfl (by rw [ex74]; rfl) (of_decide_eq_true rfl) rfl (fun ls hl => ?_)
                     refine lv_goto (tgt := 46) hx hb dX11_lost_93 (of_decide_eq_true rfl) ?_
                     have z75 : (σ54 47 0).toInt = (σ 47 0).toInt := (congrArg Int32.toInt (show σ54 47 0 = (σ 47 0) from ((congrFun (f56 47 (of_decide_eq_true rfl)) 0).trans m41)))
                     exact by exact ihlp18 x20 x21 x69 x74 σ54 _ _ ls (by have h93 := tx74; omega) (by have h93 := tx74; omega) (by have h93 := tx74; omega) (by have h93 := tx74; omega) (fun i hi => ((f56 i hi).trans (f31 i hi))) (fun i hi => ((f57 i hi).trans (f32 i hi)))  p60 p61 p62 p63 p64 p65 I58 hP hS (lv_sub hl [0, 1, 3, 4, 5, 6] rfl)
                  · have kc73 := jnle c73 rfl rfl
                    refine lv_iload hx hb dX11_lost_84 (lv_at hl 2 rfl) ?_
                    exact by
                     refine lv_istore_n (lv' := [(2, .int x23), (4, .int x69), (6, .int r55), (5, .int x23), (3, .int x21), (0, .ref (ad 0)), (1, .int a1)]) hx hb dX11_lost_86 rfl hl (of_decide_eq_true rfl) rfl (fun ls hl => ?_)
                     refine lv_iload hx hb dX11_lost_87 (lv_at hl 2 rfl) ?_
                     refine lv_istore_n (lv' := [(3, .int r55), (2, .int x23), (4, .int x69), (6, .int r55), (5, .int x23), (0, .ref (ad 0)), (1, .int a1)]) hx hb dX11_lost_89 rfl hl (of_decide_eq_true rfl) rfl (fun ls hl => ?_)
                     obtain ⟨x76, ex76⟩ : ∃ y : Int32, y = x23 + 1 := ⟨_, rfl⟩
                     have tx76 : x76.toInt = x23.toInt + 1 := (jadd ex76 rfl jz_1 (by omega) (by omega)).trans (by omega)
                     refine lv_iinc (v := x76) (lv' := [(5, .int x76), (3, .int r55), (2, .int x23), (4, .int x69), (6, .int r55), (0, .ref (ad 0)), (1, .int a1)]) hx hb dX11_lost_90 hl (k := 4) rfl (by rw [ex76]; rfl) (of_decide_eq_true rfl) rfl (fun ls hl => ?_)
                     refine lv_goto (tgt := 46) hx hb dX11_lost_93 (of_decide_eq_true rfl) ?_
                     have z77 : (σ54 47 0).toInt = (σ 47 0).toInt := (congrArg Int32.toInt (show σ54 47 0 = (σ 47 0) from ((congrFun (f56 47 (of_decide_eq_true rfl)) 0).trans m41)))
                     exact by exact ihlp18 x23 r55 x69 x76 σ54 _ _ ls (by have h93 := tx76; omega) (by have h93 := tx76; omega) (by have h93 := tx76; omega) (by have h93 := tx76; omega) (fun i hi => ((f56 i hi).trans (f31 i hi))) (fun i hi => ((f57 i hi).trans (f32 i hi)))  p60 p61 p62 p63 p64 p65 I58 hP hS (lv_sub hl [0, 3, 1, 2, 5, 6] rfl)
        exact by exact lp18 1000000 0 0 0 0 σ _ _ ls (by have h90 := jz_0; have h91 := jz_0; have h92 := jz_0; have h93 := jz_0; omega) (by have h90 := jz_0; have h91 := jz_0; have h92 := jz_0; have h93 := jz_0; omega) (by have h90 := jz_0; have h91 := jz_0; have h92 := jz_0; have h93 := jz_0; omega) (by have h90 := jz_0; have h91 := jz_0; have h92 := jz_0; have h93 := jz_0; omega) (fun _ _ => rfl) (fun _ _ => rfl)  hs_jN67 hs_jBl hs_jKb hs_jKh hs_jKg hs_jNz hI31 hP hS hl
      · exact by
         have kc17 := jnle c17 rfl jz_8
         refine lv_bipush (v := (-4)) hx hb dX11_lost_33 (of_decide_eq_true rfl) ?_
         exact hret (-4) σ τ _ _ _ _ rfl ⟨rfl, (fun _ _ => rfl), (fun _ _ => rfl), hI31, hs_jOk3, hs_jN67, hs_jBl, hs_jKb, hs_jKh, hs_jKg, hs_jNz, trivial⟩ hP hS dX11_lost_35
    · have kc16 := jeq c16 rfl jz_0
      refine lv_iconst (v := (-1)) hx hb dX11_lost_19 (of_decide_eq_true rfl) ?_
      exact hret (-1) σ τ _ _ _ _ rfl ⟨rfl, (fun _ _ => rfl), (fun _ _ => rfl), hI31, hs_jOk3, hs_jN67, hs_jBl, hs_jKb, hs_jKh, hs_jKg, hs_jNz, trivial⟩ hP hS dX11_lost_20
set_option maxHeartbeats 4000000 in
set_option maxRecDepth 100000 in
theorem c_X11_game (l : Launch) (D : va_G) (cI cL : ClassId) (ad zz : Nat → Nat) (hJ : jD ad) (σ : Nat → Nat → Int32) (τ : Nat → Nat → Int64) (a1 : Int32) (A1 : Int) (t1 : a1.toInt = A1) (a2 : Int32) (A2 : Int) (t2 : a2.toInt = A2) (hI2 : jI2 σ) (hI16 : jI16 σ) (hI18 : jI18 σ) (hI22 : jI22 σ) (hI31 : jI31 σ) (hI38 : jI38 σ) (hI43 : jI43 σ) (hI26 : jI26 σ) (hs_jN67 : jN67 σ) (hs_jBl : jBl σ) (hs_jKb : jKb σ) (hs_jKh : jKh σ) (hs_jKg : jKg σ) (hs_jNz : jNz σ) (hs_jKh : jKh σ) : jM l yX11_game cX11_game 3 (some .int) ({ frames := 7, cells := 0, slots := 0, locals := 188 }) D cI cL ad zz [.ref (ad 0), .int a1, .int a2] σ τ (fun r σ' τ' => τ = τ' ∧ (∀ i : Nat, (i < 20 ∨ 21 < i) ∧ (i < 24 ∨ 25 < i) ∧ (i < 27 ∨ 37 < i) ∧ (i < 43 ∨ 46 < i) → σ' i = σ i) ∧ (∀ k : Nat, (k < 8 ∨ 8 < k) ∧ (k < 9 ∨ 9 < k) ∧ (k < 10 ∨ 10 < k) ∧ (k < 11 ∨ 11 < k) ∧ (k < 12 ∨ 12 < k) → σ' 31 k = σ 31 k) ∧ (∀ k : Nat, (k < 8 ∨ 8 < k) → σ' 43 k = σ 43 k) ∧ (jI31 σ') ∧ (jI43 σ') ∧ (jN67 σ') ∧ (jBl σ') ∧ (jKb σ') ∧ (jKh σ') ∧ (jKg σ') ∧ (jNz σ') ∧ (jKh σ') ∧ True) := by
  refine jM.of hJ (by decide +kernel) (nt := .int) rfl (Nat.le_of_ble_eq_true rfl) ?_
  intro p e s m args below meth c Q ls hC hret hl hP
  obtain ⟨hx, hb, hr, hml, hown, hts, hK, -, hlocks, hZ⟩ := hC
  have hown : s.vm.findClass RX11 = some m.cls := hown
  have hS : va_S (jA ad) s.heap s.heap [] := va_S.rf
  have hA : ∀ q, jA ad q → jA ad q := fun _ h => h
  have hl : lv_has ls 3 [(0, .ref (ad 0)), (1, .int a1), (2, .int a2)] := hl
  have g1 := jrg t1
  have g2 := jrg t2
  obtain ⟨i1, i2, i3, w4⟩ : (1 ≤ (σ 16 0).toInt ∧ (σ 16 0).toInt ≤ 8) ∧ (1 ≤ (σ 16 1).toInt ∧ (σ 16 1).toInt ≤ 12) ∧ (0 ≤ (σ 16 2).toInt ∧ (σ 16 2).toInt ≤ 999) ∧ (∀ k : Nat, k < 8 → 0 ≤ (σ 17 k).toInt ∧ (σ 17 k).toInt ≤ 3) := id hI16
  obtain ⟨i5, i6, w7⟩ : (0 ≤ (σ 38 0).toInt ∧ (σ 38 0).toInt ≤ 20) ∧ (0 ≤ (σ 38 1).toInt ∧ (σ 38 1).toInt ≤ 1000) ∧ (∀ k : Nat, k < 20 → 0 ≤ (σ 39 k).toInt ∧ (σ 39 k).toInt ≤ 6) := id hI38
  refine lv_aload_n hx hb dX11_game_0 rfl (lv_at hl 0 rfl) ?_
  refine lv_iload_n hx hb dX11_game_1 rfl (lv_at hl 1 rfl) ?_
  refine jcallV (As := [.int a1]) (rest := []) ⟨hx, hb, hml, hown, hts⟩ hK hP hA hS hZ (c_X11_noRule l D cI cL ad zz hJ σ τ a1 (A1) t1 hI38) cw_RX11_177 (jc_0 cI cL ad σ τ) rfl ⟨Nat.le_of_ble_eq_true rfl, Nat.le_of_ble_eq_true rfl⟩ rfl rfl rfl hl.1 rfl (Nat.le_of_ble_eq_true rfl) dX11_game_2 ⟨Nat.zero_le _, Nat.zero_le _⟩ (fun r9 σ8 τ8 H locs h8 hP hS => ?_)
  obtain ⟨⟨rfl, rfl⟩, h8⟩ := h8
  rcases h8 with h10 | h11
  · obtain ⟨q13, k12⟩ := h10
    have q13 := q13.symm
    subst q13
    refine lv_if_eq (tgt := 10) hx hb dX11_game_5 (of_decide_eq_true rfl) (fun c => absurd c (of_decide_eq_true rfl)) (fun _ => ?_)
    refine lv_iconst (v := (-1)) hx hb dX11_game_8 (of_decide_eq_true rfl) ?_
    exact hret (-1) σ τ _ _ _ _ rfl ⟨rfl, (fun _ _ => rfl), (fun _ _ => rfl), (fun _ _ => rfl), hI31, hI43, hs_jN67, hs_jBl, hs_jKb, hs_jKh, hs_jKg, hs_jNz, hs_jKh, trivial⟩ hP hS dX11_game_9
  · obtain ⟨q15, k14⟩ := h11
    have q15 := q15.symm
    subst q15
    refine lv_if_eq (tgt := 10) hx hb dX11_game_5 (of_decide_eq_true rfl) (fun _ => ?_) (fun c => absurd (of_decide_eq_true rfl) c)
    refine lv_aload_n hx hb dX11_game_10 rfl (lv_at hl 0 rfl) ?_
    refine va_get (D := D) hx hb hts inlX11 hown hK hP 0 (jc_0 cI cL ad σ τ) rfl 2 (of_decide_eq_true rfl) (hts _ kw_2_0) (fun _ h9 => h9) rfl dX11_game_11 ?_
    refine va_get (D := D) hx hb hts inlX6 hown hK hP 16 (jc_16 cI cL ad σ τ) rfl 1 (of_decide_eq_true rfl) (hts _ kw_20_5) (fun _ h9 => h9) rfl dX11_game_14 ?_
    refine lv_bipush (v := 8) hx hb dX11_game_17 (of_decide_eq_true rfl) ?_
    refine lv_icmp_le (tgt := 25) hx hb dX11_game_19 (of_decide_eq_true rfl) (fun c16 => ?_) (fun c16 => ?_)
    · have kc16 := jle c16 rfl jz_8
      refine lv_aload_n hx hb dX11_game_25 rfl (lv_at hl 0 rfl) ?_
      refine lv_iload_n hx hb dX11_game_26 rfl (lv_at hl 1 rfl) ?_
      refine jcallVv (As := [.int a1]) (rest := []) ⟨hx, hb, hml, hown, hts⟩ hK hP hA hS hZ (c_X11_makeReady l D cI cL ad zz hJ σ τ a1 (A1) t1 hI2 hI16 hI22 hI31 hI38 hI26 hs_jN67 hs_jBl hs_jKb hs_jKh hs_jKg hs_jNz) cw_RX11_201 (jc_0 cI cL ad σ τ) rfl ⟨Nat.le_of_ble_eq_true rfl, Nat.le_of_ble_eq_true rfl⟩ rfl rfl rfl hl.1 rfl (Nat.le_of_ble_eq_true rfl) dX11_game_27 ⟨Nat.zero_le _, Nat.zero_le _⟩ (fun σ17 τ17 H locs h17 hP hS => ?_)
      obtain ⟨rfl, f19, f20, I21, p22, p23, p24, p25, p26, p27, h17⟩ := h17
      refine lv_aload_n hx hb dX11_game_30 rfl (lv_at hl 0 rfl) ?_
      refine va_get (D := D) hx hb hts inlX11 hown hK hP 0 (jc_0 cI cL ad σ17 τ) rfl 8 (of_decide_eq_true rfl) (hts _ kw_2_21) (fun _ h9 => h9) rfl dX11_game_31 ?_
      refine lv_iload_n hx hb dX11_game_34 rfl (lv_at hl 1 rfl) ?_
      refine lv_iload_n hx hb dX11_game_35 rfl (lv_at hl 2 rfl) ?_
      refine lv_aload_n hx hb dX11_game_36 rfl (lv_at hl 0 rfl) ?_
      refine va_get (D := D) hx hb hts inlX11 hown hK hP 0 (jc_0 cI cL ad σ17 τ) rfl 0 (of_decide_eq_true rfl) (hts _ kw_1_16) (fun _ h9 => h9) rfl dX11_game_37 ?_
      have I29 : jI2 σ17 := jI2_fr (congrFun (f19 2 (of_decide_eq_true rfl)) 0) (congrFun (f19 2 (of_decide_eq_true rfl)) 1) (congrFun (f19 2 (of_decide_eq_true rfl)) 2) (congrFun (f19 2 (of_decide_eq_true rfl)) 3) (f19 6 (of_decide_eq_true rfl)) (f19 5 (of_decide_eq_true rfl)) hI2
      refine jcallV (As := []) (rest := [.int a2, .int a1, .ref (ad 43)]) ⟨hx, hb, hml, hown, hts⟩ hK hP hA hS hZ (c_X4_freshAttack_2 l D cI cL ad zz hJ σ17 τ I29) cw_RX11_204 (jc_2 cI cL ad σ17 τ) rfl ⟨Nat.le_of_ble_eq_true rfl, Nat.le_of_ble_eq_true rfl⟩ rfl rfl rfl hl.1 rfl (Nat.le_of_ble_eq_true rfl) dX11_game_40 ⟨Nat.zero_le _, Nat.zero_le _⟩ (fun r31 σ30 τ30 H locs h30 hP hS => ?_)
      obtain ⟨⟨rfl, rfl⟩, w32, w33, h30⟩ := h30
      have h34 := h30
      obtain ⟨q36, k35⟩ := h34
      have I37 : jI16 σ17 := jI16_fr (congrFun (f19 16 (of_decide_eq_true rfl)) 0) (congrFun (f19 16 (of_decide_eq_true rfl)) 1) (congrFun (f19 16 (of_decide_eq_true rfl)) 2) (f19 17 (of_decide_eq_true rfl)) hI16
      have I38 : jI18 σ17 := jI18_fr (congrFun (f19 18 (of_decide_eq_true rfl)) 0) (f19 19 (of_decide_eq_true rfl)) hI18
      have I39 : jI22 σ17 := jI22_fr (congrFun (f19 22 (of_decide_eq_true rfl)) 0) (f19 23 (of_decide_eq_true rfl)) hI22
      have I40 : jI26 σ17 := jI26_fr (congrFun (f19 26 (of_decide_eq_true rfl)) 6) hI26
      have I41 : jI38 σ17 := jI38_fr (congrFun (f19 38 (of_decide_eq_true rfl)) 0) (congrFun (f19 38 (of_decide_eq_true rfl)) 1) (f19 39 (of_decide_eq_true rfl)) hI38
      have I42 : jI43 σ17 := jI43_fr (congrFun (f19 43 (of_decide_eq_true rfl)) 8) hI43
      exact by
       refine jcallV (As := [.int a1, .int a2, .int r31]) (rest := []) ⟨hx, hb, hml, hown, hts⟩ hK hP hA hS hZ (c_X3_play_43 l D cI cL ad zz hJ σ17 τ a1 (A1) t1 a2 (A2) t2 r31 (r31.toInt) rfl I37 I38 I39 I40 I21 I41 I42 p22 p23 p25 (by omega)) cw_RX11_268 (jc_43 cI cL ad σ17 τ) rfl ⟨Nat.le_of_ble_eq_true rfl, Nat.le_of_ble_eq_true rfl⟩ rfl rfl rfl hl.1 rfl (Nat.le_of_ble_eq_true rfl) dX11_game_43 ⟨Nat.zero_le _, Nat.zero_le _⟩ (fun r44 σ43 τ43 H locs h43 hP hS => ?_)
       obtain ⟨rfl, f45, f46, I47, p48, p49, p50, h43⟩ := h43
       have I52 : jI31 σ43 := jI31_fr (congrFun (f45 31 (of_decide_eq_true rfl)) 8) (congrFun (f45 31 (of_decide_eq_true rfl)) 10) (congrFun (f45 31 (of_decide_eq_true rfl)) 11) (f45 33 (of_decide_eq_true rfl)) (f45 35 (of_decide_eq_true rfl)) (f45 36 (of_decide_eq_true rfl)) I21
       have p53 : jKb σ43 := jKb.fr (congrFun (f45 31 (of_decide_eq_true rfl)) 8) (congrFun (f45 31 (of_decide_eq_true rfl)) 11) (f45 32 (of_decide_eq_true rfl)) p24
       have p54 : jKg σ43 := jKg.fr (congrFun (f45 31 (of_decide_eq_true rfl)) 8) (congrFun (f45 31 (of_decide_eq_true rfl)) 9) (congrFun (f45 31 (of_decide_eq_true rfl)) 11) (congrFun (f45 31 (of_decide_eq_true rfl)) 12) (f45 32 (of_decide_eq_true rfl)) (f45 33 (of_decide_eq_true rfl)) p26
       have p55 : jNz σ43 := jNz.fr (f45 34 (of_decide_eq_true rfl)) p27
       exact hret r44 σ43 τ _ _ _ _ rfl ⟨rfl, (fun i hi => ((f45 i (imp_144 i hi)).trans (f19 i (imp_145 i hi)))), (fun i hi => ((congrFun (f45 31 (of_decide_eq_true rfl)) i).trans (f20 i hi))), (fun i hi => ((f46 i hi).trans (congrFun (f19 43 (of_decide_eq_true rfl)) i))), I52, I47, p48, p49, p53, p50, p54, p55, p50, trivial⟩ hP hS dX11_game_46
    · have kc16 := jnle c16 rfl jz_8
      refine lv_bipush (v := (-4)) hx hb dX11_game_22 (of_decide_eq_true rfl) ?_
      exact hret (-4) σ τ _ _ _ _ rfl ⟨rfl, (fun _ _ => rfl), (fun _ _ => rfl), (fun _ _ => rfl), hI31, hI43, hs_jN67, hs_jBl, hs_jKb, hs_jKh, hs_jKg, hs_jNz, hs_jKh, trivial⟩ hP hS dX11_game_24
set_option maxHeartbeats 4000000 in
set_option maxRecDepth 100000 in
theorem c_X11_led (l : Launch) (D : va_G) (cI cL : ClassId) (ad zz : Nat → Nat) (hJ : jD ad) (σ : Nat → Nat → Int32) (τ : Nat → Nat → Int64) (a1 : Int32) (A1 : Int) (t1 : a1.toInt = A1) (a2 : Int32) (A2 : Int) (t2 : a2.toInt = A2) (hI43 : jI43 σ) : jM l yX11_led cX11_led 3 (some .int) ({ frames := 1, cells := 0, slots := 0, locals := 22 }) D cI cL ad zz [.ref (ad 0), .int a1, .int a2] σ τ (fun r σ' τ' => (σ = σ' ∧ τ = τ') ∧ True) := by
  refine jM.of hJ (by decide +kernel) (nt := .int) rfl (Nat.le_of_ble_eq_true rfl) ?_
  intro p e s m args below meth c Q ls hC hret hl hP
  obtain ⟨hx, hb, hr, hml, hown, hts, hK, -, hlocks, hZ⟩ := hC
  have hown : s.vm.findClass RX11 = some m.cls := hown
  have hS : va_S (jA ad) s.heap s.heap [] := va_S.rf
  have hA : ∀ q, jA ad q → jA ad q := fun _ h => h
  have hl : lv_has ls 3 [(0, .ref (ad 0)), (1, .int a1), (2, .int a2)] := hl
  have g1 := jrg t1
  have g2 := jrg t2
  have i1 : 0 ≤ (σ 43 8).toInt ∧ (σ 43 8).toInt ≤ 8 := hI43
  refine lv_iload_n hx hb dX11_led_0 rfl (lv_at hl 1 rfl) ?_
  refine lv_iconst (v := (-1)) hx hb dX11_led_1 (of_decide_eq_true rfl) ?_
  refine lv_icmp_ne (tgt := 17) hx hb dX11_led_2 (of_decide_eq_true rfl) (fun c2 => ?_) (fun c2 => ?_)
  · have kc2 := jne c2 t1 jz_m1
    refine lv_iload_n hx hb dX11_led_17 rfl (lv_at hl 1 rfl) ?_
    refine lv_iconst (v := 0) hx hb dX11_led_18 (of_decide_eq_true rfl) ?_
    refine lv_aload_n hx hb dX11_led_19 rfl (lv_at hl 0 rfl) ?_
    refine va_get (D := D) hx hb hts inlX11 hown hK hP 0 (jc_0 cI cL ad σ τ) rfl 8 (of_decide_eq_true rfl) (hts _ kw_2_21) (fun _ h9 => h9) rfl dX11_led_20 ?_
    refine va_get (D := D) hx hb hts inlX3 hown hK hP 43 (jc_43 cI cL ad σ τ) rfl 8 (of_decide_eq_true rfl) (hts _ kw_46_19) (fun _ h9 => h9) rfl dX11_led_23 ?_
    refine lv_iconst (v := 1) hx hb dX11_led_26 (of_decide_eq_true rfl) ?_
    have g3 := jrg (rfl : (σ 43 8).toInt = (σ 43 8).toInt)
    refine lv_isub hx hb dX11_led_27 ?_
    refine lv_topi (fun x4 ex4 => ?_)
    exact by
     have tx4 : x4.toInt = (σ 43 8).toInt - 1 := (jsub ex4 rfl jz_1 (by omega) (by omega)).trans (by omega)
     refine jcallS (As := [.int a1, .int 0, .int x4]) (rest := []) ⟨hx, hb, hml, hown, hts⟩ hK hP hA hS hZ (c_X11_outside l D cI cL ad zz hJ σ τ a1 (A1) t1 0 (0) jz_0 x4 ((σ 43 8).toInt - 1) tx4) cw_RX11_94 ⟨Nat.le_of_ble_eq_true rfl, Nat.le_of_ble_eq_true rfl⟩ rfl rfl rfl hl.1 rfl (Nat.le_of_ble_eq_true rfl) dX11_led_28 ⟨Nat.zero_le _, Nat.zero_le _⟩ (fun r6 σ5 τ5 H locs h5 hP hS => ?_)
     obtain ⟨⟨rfl, rfl⟩, h5⟩ := h5
     rcases h5 with h7 | h8
     · obtain ⟨q10, k9⟩ := h7
       have q10 := q10.symm
       subst q10
       refine lv_if_ne (tgt := 43) hx hb dX11_led_31 (of_decide_eq_true rfl) (fun _ => ?_) (fun c => absurd c (of_decide_eq_true rfl))
       refine lv_iconst (v := (-1)) hx hb dX11_led_43 (of_decide_eq_true rfl) ?_
       exact hret (-1) σ τ _ _ _ _ rfl ⟨⟨rfl, rfl⟩, trivial⟩ hP hS dX11_led_44
     · obtain ⟨q12, k11⟩ := h8
       have q12 := q12.symm
       subst q12
       refine lv_if_ne (tgt := 43) hx hb dX11_led_31 (of_decide_eq_true rfl) (fun c => absurd (of_decide_eq_true rfl) c) (fun _ => ?_)
       refine lv_iload_n hx hb dX11_led_34 rfl (lv_at hl 2 rfl) ?_
       refine lv_iconst (v := 0) hx hb dX11_led_35 (of_decide_eq_true rfl) ?_
       refine lv_iconst (v := 2) hx hb dX11_led_36 (of_decide_eq_true rfl) ?_
       refine jcallS (As := [.int a2, .int 0, .int 2]) (rest := []) ⟨hx, hb, hml, hown, hts⟩ hK hP hA hS hZ (c_X11_outside l D cI cL ad zz hJ σ τ a2 (A2) t2 0 (0) jz_0 2 (2) jz_2) cw_RX11_94 ⟨Nat.le_of_ble_eq_true rfl, Nat.le_of_ble_eq_true rfl⟩ rfl rfl rfl hl.1 rfl (Nat.le_of_ble_eq_true rfl) dX11_led_37 ⟨Nat.zero_le _, Nat.zero_le _⟩ (fun r14 σ13 τ13 H locs h13 hP hS => ?_)
       obtain ⟨⟨rfl, rfl⟩, h13⟩ := h13
       rcases h13 with h15 | h16
       · obtain ⟨q18, k17⟩ := h15
         have q18 := q18.symm
         subst q18
         refine lv_if_eq (tgt := 45) hx hb dX11_led_40 (of_decide_eq_true rfl) (fun c => absurd c (of_decide_eq_true rfl)) (fun _ => ?_)
         refine lv_iconst (v := (-1)) hx hb dX11_led_43 (of_decide_eq_true rfl) ?_
         exact hret (-1) σ τ _ _ _ _ rfl ⟨⟨rfl, rfl⟩, trivial⟩ hP hS dX11_led_44
       · obtain ⟨q20, k19⟩ := h16
         have q20 := q20.symm
         subst q20
         refine lv_if_eq (tgt := 45) hx hb dX11_led_40 (of_decide_eq_true rfl) (fun _ => ?_) (fun c => absurd (of_decide_eq_true rfl) c)
         refine lv_aload_n hx hb dX11_led_45 rfl (lv_at hl 0 rfl) ?_
         refine va_get (D := D) hx hb hts inlX11 hown hK hP 0 (jc_0 cI cL ad σ τ) rfl 8 (of_decide_eq_true rfl) (hts _ kw_2_21) (fun _ h9 => h9) rfl dX11_led_46 ?_
         refine lv_iload_n hx hb dX11_led_49 rfl (lv_at hl 1 rfl) ?_
         refine lv_iload_n hx hb dX11_led_50 rfl (lv_at hl 2 rfl) ?_
         refine jcallV (As := [.int a1, .int a2]) (rest := []) ⟨hx, hb, hml, hown, hts⟩ hK hP hA hS hZ (c_X3_ledAt_43 l D cI cL ad zz hJ σ τ a1 (A1) t1 a2 (A2) t2) cw_RX11_274 (jc_43 cI cL ad σ τ) rfl ⟨Nat.le_of_ble_eq_true rfl, Nat.le_of_ble_eq_true rfl⟩ rfl rfl rfl hl.1 rfl (Nat.le_of_ble_eq_true rfl) dX11_led_51 ⟨Nat.zero_le _, Nat.zero_le _⟩ (fun r22 σ21 τ21 H locs h21 hP hS => ?_)
         obtain ⟨⟨rfl, rfl⟩, h21⟩ := h21
         exact hret r22 σ τ _ _ _ _ rfl ⟨⟨rfl, rfl⟩, trivial⟩ hP hS dX11_led_54
  · have kc2 := jeq c2 t1 jz_m1
    refine lv_iload_n hx hb dX11_led_5 rfl (lv_at hl 2 rfl) ?_
    refine lv_if_ne (tgt := 17) hx hb dX11_led_6 (of_decide_eq_true rfl) (fun c23 => ?_) (fun c23 => ?_)
    · have kc23 := jne c23 t2 jz_0
      refine lv_iload_n hx hb dX11_led_17 rfl (lv_at hl 1 rfl) ?_
      refine lv_iconst (v := 0) hx hb dX11_led_18 (of_decide_eq_true rfl) ?_
      refine lv_aload_n hx hb dX11_led_19 rfl (lv_at hl 0 rfl) ?_
      refine va_get (D := D) hx hb hts inlX11 hown hK hP 0 (jc_0 cI cL ad σ τ) rfl 8 (of_decide_eq_true rfl) (hts _ kw_2_21) (fun _ h9 => h9) rfl dX11_led_20 ?_
      refine va_get (D := D) hx hb hts inlX3 hown hK hP 43 (jc_43 cI cL ad σ τ) rfl 8 (of_decide_eq_true rfl) (hts _ kw_46_19) (fun _ h9 => h9) rfl dX11_led_23 ?_
      refine lv_iconst (v := 1) hx hb dX11_led_26 (of_decide_eq_true rfl) ?_
      have g24 := jrg (rfl : (σ 43 8).toInt = (σ 43 8).toInt)
      refine lv_isub hx hb dX11_led_27 ?_
      refine lv_topi (fun x25 ex25 => ?_)
      exact by
       have tx25 : x25.toInt = (σ 43 8).toInt - 1 := (jsub ex25 rfl jz_1 (by omega) (by omega)).trans (by omega)
       refine jcallS (As := [.int a1, .int 0, .int x25]) (rest := []) ⟨hx, hb, hml, hown, hts⟩ hK hP hA hS hZ (c_X11_outside l D cI cL ad zz hJ σ τ a1 (A1) t1 0 (0) jz_0 x25 ((σ 43 8).toInt - 1) tx25) cw_RX11_94 ⟨Nat.le_of_ble_eq_true rfl, Nat.le_of_ble_eq_true rfl⟩ rfl rfl rfl hl.1 rfl (Nat.le_of_ble_eq_true rfl) dX11_led_28 ⟨Nat.zero_le _, Nat.zero_le _⟩ (fun r27 σ26 τ26 H locs h26 hP hS => ?_)
       obtain ⟨⟨rfl, rfl⟩, h26⟩ := h26
       rcases h26 with h28 | h29
       · obtain ⟨q31, k30⟩ := h28
         have q31 := q31.symm
         subst q31
         refine lv_if_ne (tgt := 43) hx hb dX11_led_31 (of_decide_eq_true rfl) (fun _ => ?_) (fun c => absurd c (of_decide_eq_true rfl))
         refine lv_iconst (v := (-1)) hx hb dX11_led_43 (of_decide_eq_true rfl) ?_
         exact hret (-1) σ τ _ _ _ _ rfl ⟨⟨rfl, rfl⟩, trivial⟩ hP hS dX11_led_44
       · obtain ⟨q33, k32⟩ := h29
         exact absurd (by omega : False) id
    · have kc23 := jeq c23 t2 jz_0
      refine lv_aload_n hx hb dX11_led_9 rfl (lv_at hl 0 rfl) ?_
      refine va_get (D := D) hx hb hts inlX11 hown hK hP 0 (jc_0 cI cL ad σ τ) rfl 8 (of_decide_eq_true rfl) (hts _ kw_2_21) (fun _ h9 => h9) rfl dX11_led_10 ?_
      refine va_get (D := D) hx hb hts inlX3 hown hK hP 43 (jc_43 cI cL ad σ τ) rfl 8 (of_decide_eq_true rfl) (hts _ kw_46_19) (fun _ h9 => h9) rfl dX11_led_13 ?_
      exact hret (σ 43 8) σ τ _ _ _ _ rfl ⟨⟨rfl, rfl⟩, trivial⟩ hP hS dX11_led_16
set_option maxHeartbeats 4000000 in
set_option maxRecDepth 100000 in
theorem c_X11_trace (l : Launch) (D : va_G) (cI cL : ClassId) (ad zz : Nat → Nat) (hJ : jD ad) (σ : Nat → Nat → Int32) (τ : Nat → Nat → Int64) (a1 : Int32) (A1 : Int) (t1 : a1.toInt = A1) (hI38 : jI38 σ) : jM l yX11_trace cX11_trace 2 (some .int) ({ frames := 1, cells := 0, slots := 0, locals := 22 }) D cI cL ad zz [.ref (ad 0), .int a1] σ τ (fun r σ' τ' => (σ = σ' ∧ τ = τ') ∧ ((r = (σ 42 a1.toNatClampNeg) ∧ (0 ≤ A1) ∧ (A1 ≤ 23) ∧ (A1 < (σ 38 1).toInt)) ∨ (r = (-1) ∧ ((A1 < 0) ∨ (23 < A1) ∨ ((σ 38 1).toInt ≤ A1))))) := by
  refine jM.of hJ (by decide +kernel) (nt := .int) rfl (Nat.le_of_ble_eq_true rfl) ?_
  intro p e s m args below meth c Q ls hC hret hl hP
  obtain ⟨hx, hb, hr, hml, hown, hts, hK, -, hlocks, hZ⟩ := hC
  have hown : s.vm.findClass RX11 = some m.cls := hown
  have hS : va_S (jA ad) s.heap s.heap [] := va_S.rf
  have hA : ∀ q, jA ad q → jA ad q := fun _ h => h
  have hl : lv_has ls 2 [(0, .ref (ad 0)), (1, .int a1)] := hl
  have g1 := jrg t1
  obtain ⟨i1, i2, w3⟩ : (0 ≤ (σ 38 0).toInt ∧ (σ 38 0).toInt ≤ 20) ∧ (0 ≤ (σ 38 1).toInt ∧ (σ 38 1).toInt ≤ 1000) ∧ (∀ k : Nat, k < 20 → 0 ≤ (σ 39 k).toInt ∧ (σ 39 k).toInt ≤ 6) := id hI38
  refine lv_iload_n hx hb dX11_trace_0 rfl (lv_at hl 1 rfl) ?_
  refine lv_iconst (v := 0) hx hb dX11_trace_1 (of_decide_eq_true rfl) ?_
  refine lv_aload_n hx hb dX11_trace_2 rfl (lv_at hl 0 rfl) ?_
  refine va_get (D := D) hx hb hts inlX11 hown hK hP 0 (jc_0 cI cL ad σ τ) rfl 7 (of_decide_eq_true rfl) (hts _ kw_2_17) (fun _ h9 => h9) rfl dX11_trace_3 ?_
  refine va_get (D := D) hx hb hts inlX8 hown hK hP 38 (jc_38 cI cL ad σ τ) rfl 1 (of_decide_eq_true rfl) (hts _ kw_48_10) (fun _ h9 => h9) rfl dX11_trace_6 ?_
  refine lv_bipush (v := 24) hx hb dX11_trace_9 (of_decide_eq_true rfl) ?_
  refine va_mmin hx hb (hml.trans hl.1.symm) hown (hts _ kw_41_3) (hts _ kw_22_11) (hts _ kw_21_1) (hts _ kw_22_12) (Nat.le_of_ble_eq_true rfl) (Nat.le_of_ble_eq_true rfl) (Nat.le_of_ble_eq_true rfl) (Nat.le_of_ble_eq_true rfl) dX11_trace_11 ?_
  refine lv_topi (fun x4 ex4 => ?_)
  have g5 := jmin ex4 rfl jz_24
  refine lv_iconst (v := 1) hx hb dX11_trace_14 (of_decide_eq_true rfl) ?_
  have g6 := jrg (rfl : x4.toInt = x4.toInt)
  refine lv_isub hx hb dX11_trace_15 ?_
  refine lv_topi (fun x7 ex7 => ?_)
  exact by
   have tx7 : x7.toInt = x4.toInt - 1 := (jsub ex7 rfl jz_1 (by omega) (by omega)).trans (by omega)
   refine jcallS (As := [.int a1, .int 0, .int x7]) (rest := []) ⟨hx, hb, hml, hown, hts⟩ hK hP hA hS hZ (c_X11_outside l D cI cL ad zz hJ σ τ a1 (A1) t1 0 (0) jz_0 x7 (x4.toInt - 1) tx7) cw_RX11_94 ⟨Nat.le_of_ble_eq_true rfl, Nat.le_of_ble_eq_true rfl⟩ rfl rfl rfl hl.1 rfl (Nat.le_of_ble_eq_true rfl) dX11_trace_16 ⟨Nat.zero_le _, Nat.zero_le _⟩ (fun r9 σ8 τ8 H locs h8 hP hS => ?_)
   obtain ⟨⟨rfl, rfl⟩, h8⟩ := h8
   rcases h8 with h10 | h11
   · obtain ⟨q13, k12⟩ := h10
     have q13 := q13.symm
     subst q13
     refine lv_if_eq (tgt := 24) hx hb dX11_trace_19 (of_decide_eq_true rfl) (fun c => absurd c (of_decide_eq_true rfl)) (fun _ => ?_)
     refine lv_iconst (v := (-1)) hx hb dX11_trace_22 (of_decide_eq_true rfl) ?_
     exact hret (-1) σ τ _ _ _ _ rfl ⟨⟨rfl, rfl⟩, Or.inr (⟨rfl, (by have h9 := jz_m1; omega)⟩)⟩ hP hS dX11_trace_23
   · obtain ⟨q15, k14⟩ := h11
     have q15 := q15.symm
     subst q15
     refine lv_if_eq (tgt := 24) hx hb dX11_trace_19 (of_decide_eq_true rfl) (fun _ => ?_) (fun c => absurd (of_decide_eq_true rfl) c)
     refine lv_aload_n hx hb dX11_trace_24 rfl (lv_at hl 0 rfl) ?_
     refine va_get (D := D) hx hb hts inlX11 hown hK hP 0 (jc_0 cI cL ad σ τ) rfl 7 (of_decide_eq_true rfl) (hts _ kw_2_17) (fun _ h9 => h9) rfl dX11_trace_25 ?_
     refine lv_iload_n hx hb dX11_trace_28 rfl (lv_at hl 1 rfl) ?_
     refine jcallV (As := [.int a1]) (rest := []) ⟨hx, hb, hml, hown, hts⟩ hK hP hA hS hZ (c_X8_traceAt_38 l D cI cL ad zz hJ σ τ a1 (A1) t1) cw_RX11_295 (jc_38 cI cL ad σ τ) rfl ⟨Nat.le_of_ble_eq_true rfl, Nat.le_of_ble_eq_true rfl⟩ rfl rfl rfl hl.1 rfl (Nat.le_of_ble_eq_true rfl) dX11_trace_29 ⟨Nat.zero_le _, Nat.zero_le _⟩ (fun r17 σ16 τ16 H locs h16 hP hS => ?_)
     obtain ⟨⟨rfl, rfl⟩, h16⟩ := h16
     rcases h16 with h18 | h19
     · obtain ⟨q21, k20⟩ := h18
       have q22 : r17 = (σ 42 a1.toNatClampNeg) := q21.trans rfl
       have q22 := q22.symm
       subst q22
       exact by exact hret (σ 42 a1.toNatClampNeg) σ τ _ _ _ _ rfl ⟨⟨rfl, rfl⟩, Or.inl ⟨rfl, (by omega), (by omega), (by omega)⟩⟩ hP hS dX11_trace_32
     · obtain ⟨q24, k23⟩ := h19
       exact absurd (by omega : False) id
set_option maxHeartbeats 4000000 in
set_option maxRecDepth 100000 in
theorem c_X11_keep (l : Launch) (D : va_G) (cI cL : ClassId) (ad zz : Nat → Nat) (hJ : jD ad) (σ : Nat → Nat → Int32) (τ : Nat → Nat → Int64) (a1 : Int32) (A1 : Int) (t1 : a1.toInt = A1) (a2 : Int32) (A2 : Int) (t2 : a2.toInt = A2) (hI38 : jI38 σ) (hI50 : jI50 σ) : jM l yX11_keep cX11_keep 3 (some .int) ({ frames := 2, cells := 0, slots := 0, locals := 43 }) D cI cL ad zz [.ref (ad 0), .int a1, .int a2] σ τ (fun r σ' τ' => τ = τ' ∧ (∀ i : Nat, (i < 51 ∨ 53 < i) → σ' i = σ i) ∧ (jI50 σ') ∧ ((r = 1 ∧ (0 ≤ A1 ∧ A1 ≤ 5) ∧ (A2 = (-1)) ∧ (σ' 51 = jupd (σ 51) (A1).toNat (-2) ∧ σ' 53 = jupd (σ 53) (A1).toNat (-1) ∧ σ' 52 = jupd (σ 52) (A1).toNat 0)) ∨ (r = 1 ∧ (0 ≤ A1 ∧ A1 ≤ 5) ∧ (0 ≤ A2 ∧ A2 < (σ 38 0).toInt) ∧ (σ' 51 = jupd (σ 51) (A1).toNat (-1) ∧ σ' 53 = jupd (σ 53) (A1).toNat a2 ∧ σ' 52 = jupd (σ 52) (A1).toNat 0)) ∨ (r = (-1) ∧ ((A1 < 0) ∨ (5 < A1) ∨ (A2 < (-1)) ∨ (0 ≤ A2 ∧ (σ 38 0).toInt ≤ A2)) ∧ (σ' 51 = σ 51 ∧ σ' 52 = σ 52 ∧ σ' 53 = σ 53)))) := by
  refine jM.of hJ (by decide +kernel) (nt := .int) rfl (Nat.le_of_ble_eq_true rfl) ?_
  intro p e s m args below meth c Q ls hC hret hl hP
  obtain ⟨hx, hb, hr, hml, hown, hts, hK, -, hlocks, hZ⟩ := hC
  have hown : s.vm.findClass RX11 = some m.cls := hown
  have hS : va_S (jA ad) s.heap s.heap [] := va_S.rf
  have hA : ∀ q, jA ad q → jA ad q := fun _ h => h
  have hl : lv_has ls 3 [(0, .ref (ad 0)), (1, .int a1), (2, .int a2)] := hl
  have g1 := jrg t1
  have g2 := jrg t2
  obtain ⟨i1, i2, w3⟩ : (0 ≤ (σ 38 0).toInt ∧ (σ 38 0).toInt ≤ 20) ∧ (0 ≤ (σ 38 1).toInt ∧ (σ 38 1).toInt ≤ 1000) ∧ (∀ k : Nat, k < 20 → 0 ≤ (σ 39 k).toInt ∧ (σ 39 k).toInt ≤ 6) := id hI38
  refine lv_iload_n hx hb dX11_keep_0 rfl (lv_at hl 1 rfl) ?_
  refine jcallS (As := [.int a1]) (rest := []) ⟨hx, hb, hml, hown, hts⟩ hK hP hA hS hZ (c_X11_noShelf l D cI cL ad zz hJ σ τ a1 (A1) t1) cw_RX11_249 ⟨Nat.le_of_ble_eq_true rfl, Nat.le_of_ble_eq_true rfl⟩ rfl rfl rfl hl.1 rfl (Nat.le_of_ble_eq_true rfl) dX11_keep_1 ⟨Nat.zero_le _, Nat.zero_le _⟩ (fun r5 σ4 τ4 H locs h4 hP hS => ?_)
  obtain ⟨⟨rfl, rfl⟩, h4⟩ := h4
  rcases h4 with h6 | h7
  · obtain ⟨q9, k8⟩ := h6
    have q9 := q9.symm
    subst q9
    refine lv_if_ne (tgt := 20) hx hb dX11_keep_4 (of_decide_eq_true rfl) (fun _ => ?_) (fun c => absurd c (of_decide_eq_true rfl))
    refine lv_iconst (v := (-1)) hx hb dX11_keep_20 (of_decide_eq_true rfl) ?_
    exact hret (-1) σ τ _ _ _ _ rfl ⟨rfl, (fun _ _ => rfl), hI50, Or.inr (Or.inr (⟨rfl, (by have h9 := jz_m1; omega), ⟨rfl, rfl, rfl⟩⟩))⟩ hP hS dX11_keep_21
  · obtain ⟨q11, k10⟩ := h7
    have q11 := q11.symm
    subst q11
    refine lv_if_ne (tgt := 20) hx hb dX11_keep_4 (of_decide_eq_true rfl) (fun c => absurd (of_decide_eq_true rfl) c) (fun _ => ?_)
    refine lv_iload_n hx hb dX11_keep_7 rfl (lv_at hl 2 rfl) ?_
    refine lv_iconst (v := (-1)) hx hb dX11_keep_8 (of_decide_eq_true rfl) ?_
    refine lv_icmp_eq (tgt := 22) hx hb dX11_keep_9 (of_decide_eq_true rfl) (fun c12 => ?_) (fun c12 => ?_)
    · have kc12 := jeq c12 t2 jz_m1
      refine lv_aload_n hx hb dX11_keep_22 rfl (lv_at hl 0 rfl) ?_
      refine va_get (D := D) hx hb hts inlX11 hown hK hP 0 (jc_0 cI cL ad σ τ) rfl 10 (of_decide_eq_true rfl) (hts _ kw_3_5) (fun _ h9 => h9) rfl dX11_keep_23 ?_
      refine lv_iload_n hx hb dX11_keep_26 rfl (lv_at hl 1 rfl) ?_
      refine lv_iload_n hx hb dX11_keep_27 rfl (lv_at hl 2 rfl) ?_
      exact by
       refine jcallVv (As := [.int a1, .int a2]) (rest := []) ⟨hx, hb, hml, hown, hts⟩ hK hP hA hS hZ (c_X9_hold_50 l D cI cL ad zz hJ σ τ a1 (A1) t1 a2 (A2) t2 hI38 hI50 (by omega) (by omega) (by omega)) cw_RX11_298 (jc_50 cI cL ad σ τ) rfl ⟨Nat.le_of_ble_eq_true rfl, Nat.le_of_ble_eq_true rfl⟩ rfl rfl rfl hl.1 rfl (Nat.le_of_ble_eq_true rfl) dX11_keep_28 ⟨Nat.zero_le _, Nat.zero_le _⟩ (fun σ13 τ13 H locs h13 hP hS => ?_)
       obtain ⟨rfl, f15, I16, h13⟩ := h13
       rcases h13 with h18 | h19
       · obtain ⟨q22, k20, k21⟩ := h18
         refine lv_iconst (v := 1) hx hb dX11_keep_31 (of_decide_eq_true rfl) ?_
         exact by exact hret 1 σ13 τ _ _ _ _ rfl ⟨rfl, (fun i hi => (f15 i hi)), I16, Or.inl ⟨rfl, (by have h9 := jz_1; omega), (by have h9 := jz_1; omega), k21⟩⟩ hP hS dX11_keep_32
       · obtain ⟨q25, k23, k24⟩ := h19
         exact absurd (by omega : False) id
    · have kc12 := jne c12 t2 jz_m1
      refine lv_aload_n hx hb dX11_keep_12 rfl (lv_at hl 0 rfl) ?_
      refine lv_iload_n hx hb dX11_keep_13 rfl (lv_at hl 2 rfl) ?_
      refine jcallV (As := [.int a2]) (rest := []) ⟨hx, hb, hml, hown, hts⟩ hK hP hA hS hZ (c_X11_noRule l D cI cL ad zz hJ σ τ a2 (A2) t2 hI38) cw_RX11_177 (jc_0 cI cL ad σ τ) rfl ⟨Nat.le_of_ble_eq_true rfl, Nat.le_of_ble_eq_true rfl⟩ rfl rfl rfl hl.1 rfl (Nat.le_of_ble_eq_true rfl) dX11_keep_14 ⟨Nat.zero_le _, Nat.zero_le _⟩ (fun r27 σ26 τ26 H locs h26 hP hS => ?_)
      obtain ⟨⟨rfl, rfl⟩, h26⟩ := h26
      rcases h26 with h28 | h29
      · obtain ⟨q31, k30⟩ := h28
        have q31 := q31.symm
        subst q31
        refine lv_if_eq (tgt := 22) hx hb dX11_keep_17 (of_decide_eq_true rfl) (fun c => absurd c (of_decide_eq_true rfl)) (fun _ => ?_)
        refine lv_iconst (v := (-1)) hx hb dX11_keep_20 (of_decide_eq_true rfl) ?_
        exact hret (-1) σ τ _ _ _ _ rfl ⟨rfl, (fun _ _ => rfl), hI50, Or.inr (Or.inr (⟨rfl, (by have h9 := jz_m1; omega), ⟨rfl, rfl, rfl⟩⟩))⟩ hP hS dX11_keep_21
      · obtain ⟨q33, k32⟩ := h29
        have q33 := q33.symm
        subst q33
        refine lv_if_eq (tgt := 22) hx hb dX11_keep_17 (of_decide_eq_true rfl) (fun _ => ?_) (fun c => absurd (of_decide_eq_true rfl) c)
        refine lv_aload_n hx hb dX11_keep_22 rfl (lv_at hl 0 rfl) ?_
        refine va_get (D := D) hx hb hts inlX11 hown hK hP 0 (jc_0 cI cL ad σ τ) rfl 10 (of_decide_eq_true rfl) (hts _ kw_3_5) (fun _ h9 => h9) rfl dX11_keep_23 ?_
        refine lv_iload_n hx hb dX11_keep_26 rfl (lv_at hl 1 rfl) ?_
        refine lv_iload_n hx hb dX11_keep_27 rfl (lv_at hl 2 rfl) ?_
        exact by
         refine jcallVv (As := [.int a1, .int a2]) (rest := []) ⟨hx, hb, hml, hown, hts⟩ hK hP hA hS hZ (c_X9_hold_50 l D cI cL ad zz hJ σ τ a1 (A1) t1 a2 (A2) t2 hI38 hI50 (by omega) (by omega) (by omega)) cw_RX11_298 (jc_50 cI cL ad σ τ) rfl ⟨Nat.le_of_ble_eq_true rfl, Nat.le_of_ble_eq_true rfl⟩ rfl rfl rfl hl.1 rfl (Nat.le_of_ble_eq_true rfl) dX11_keep_28 ⟨Nat.zero_le _, Nat.zero_le _⟩ (fun σ34 τ34 H locs h34 hP hS => ?_)
         obtain ⟨rfl, f36, I37, h34⟩ := h34
         rcases h34 with h39 | h40
         · obtain ⟨q43, k41, k42⟩ := h39
           exact absurd (by omega : False) id
         · obtain ⟨q46, k44, k45⟩ := h40
           refine lv_iconst (v := 1) hx hb dX11_keep_31 (of_decide_eq_true rfl) ?_
           exact by exact hret 1 σ34 τ _ _ _ _ rfl ⟨rfl, (fun i hi => (f36 i hi)), I37, Or.inr (Or.inl ⟨rfl, (by have h9 := jz_1; omega), (by have h9 := jz_1; omega), k45⟩)⟩ hP hS dX11_keep_32
set_option maxHeartbeats 4000000 in
set_option maxRecDepth 100000 in
theorem c_X11_row (l : Launch) (D : va_G) (cI cL : ClassId) (ad zz : Nat → Nat) (hJ : jD ad) (σ : Nat → Nat → Int32) (τ : Nat → Nat → Int64) (a1 : Int32) (A1 : Int) (t1 : a1.toInt = A1) (a2 : Int32) (A2 : Int) (t2 : a2.toInt = A2) (a3 : Int32) (A3 : Int) (t3 : a3.toInt = A3) (hI50 : jI50 σ) : jM l yX11_row cX11_row 4 (some .int) ({ frames := 2, cells := 0, slots := 0, locals := 44 }) D cI cL ad zz [.ref (ad 0), .int a1, .int a2, .int a3] σ τ (fun r σ' τ' => (∀ i : Nat, (i < 54 ∨ 54 < i) → τ' i = τ i) ∧ (∀ i : Nat, (i < 51 ∨ 53 < i) → σ' i = σ i) ∧ (jI50 σ') ∧ ((r = (-1) ∧ ((A1 < 0) ∨ (5 < A1) ∨ (A2 < 0) ∨ (4 < A2) ∨ (60 < A3)) ∧ (σ' 51 = σ 51 ∧ σ' 52 = σ 52 ∧ σ' 53 = σ 53) ∧ (τ' 54 = τ 54)) ∨ (r = (-14) ∧ (0 ≤ A1 ∧ A1 ≤ 5) ∧ (0 ≤ A2 ∧ A2 ≤ 4) ∧ (A3 < 0) ∧ (σ' 51 = σ 51 ∧ σ' 52 = σ 52 ∧ σ' 53 = σ 53) ∧ (τ' 54 = τ 54)) ∨ (r = 1 ∧ (0 ≤ A1 ∧ A1 ≤ 5) ∧ (0 ≤ A2 ∧ A2 ≤ 4) ∧ (0 ≤ A3 ∧ A3 ≤ 60) ∧ (σ' 51 = jupd (σ 51) (A1).toNat a2 ∧ σ' 52 = jupd (σ 52) (A1).toNat a3 ∧ σ' 53 = jupd (σ 53) (A1).toNat (-1)) ∧ (jFl (τ 54) (τ' 54) (60 * (A1)).toNat (A3))))) := by
  refine jM.of hJ (by decide +kernel) (nt := .int) rfl (Nat.le_of_ble_eq_true rfl) ?_
  intro p e s m args below meth c Q ls hC hret hl hP
  obtain ⟨hx, hb, hr, hml, hown, hts, hK, -, hlocks, hZ⟩ := hC
  have hown : s.vm.findClass RX11 = some m.cls := hown
  have hS : va_S (jA ad) s.heap s.heap [] := va_S.rf
  have hA : ∀ q, jA ad q → jA ad q := fun _ h => h
  have hl : lv_has ls 4 [(0, .ref (ad 0)), (1, .int a1), (2, .int a2), (3, .int a3)] := hl
  have g1 := jrg t1
  have g2 := jrg t2
  have g3 := jrg t3
  refine lv_iload_n hx hb dX11_row_0 rfl (lv_at hl 1 rfl) ?_
  refine jcallS (As := [.int a1]) (rest := []) ⟨hx, hb, hml, hown, hts⟩ hK hP hA hS hZ (c_X11_noShelf l D cI cL ad zz hJ σ τ a1 (A1) t1) cw_RX11_249 ⟨Nat.le_of_ble_eq_true rfl, Nat.le_of_ble_eq_true rfl⟩ rfl rfl rfl hl.1 rfl (Nat.le_of_ble_eq_true rfl) dX11_row_1 ⟨Nat.zero_le _, Nat.zero_le _⟩ (fun r2 σ1 τ1 H locs h1 hP hS => ?_)
  obtain ⟨⟨rfl, rfl⟩, h1⟩ := h1
  rcases h1 with h3 | h4
  · obtain ⟨q6, k5⟩ := h3
    have q6 := q6.symm
    subst q6
    refine lv_if_ne (tgt := 22) hx hb dX11_row_4 (of_decide_eq_true rfl) (fun _ => ?_) (fun c => absurd c (of_decide_eq_true rfl))
    refine lv_iconst (v := (-1)) hx hb dX11_row_22 (of_decide_eq_true rfl) ?_
    exact hret (-1) σ τ _ _ _ _ rfl ⟨(fun _ _ => rfl), (fun _ _ => rfl), hI50, Or.inl ⟨rfl, (by have h9 := jz_m1; omega), ⟨rfl, rfl, rfl⟩, rfl⟩⟩ hP hS dX11_row_23
  · obtain ⟨q8, k7⟩ := h4
    have q8 := q8.symm
    subst q8
    refine lv_if_ne (tgt := 22) hx hb dX11_row_4 (of_decide_eq_true rfl) (fun c => absurd (of_decide_eq_true rfl) c) (fun _ => ?_)
    refine lv_iload_n hx hb dX11_row_7 rfl (lv_at hl 2 rfl) ?_
    refine lv_iconst (v := 0) hx hb dX11_row_8 (of_decide_eq_true rfl) ?_
    refine lv_iconst (v := 4) hx hb dX11_row_9 (of_decide_eq_true rfl) ?_
    refine jcallS (As := [.int a2, .int 0, .int 4]) (rest := []) ⟨hx, hb, hml, hown, hts⟩ hK hP hA hS hZ (c_X11_outside l D cI cL ad zz hJ σ τ a2 (A2) t2 0 (0) jz_0 4 (4) jz_4) cw_RX11_94 ⟨Nat.le_of_ble_eq_true rfl, Nat.le_of_ble_eq_true rfl⟩ rfl rfl rfl hl.1 rfl (Nat.le_of_ble_eq_true rfl) dX11_row_10 ⟨Nat.zero_le _, Nat.zero_le _⟩ (fun r10 σ9 τ9 H locs h9 hP hS => ?_)
    obtain ⟨⟨rfl, rfl⟩, h9⟩ := h9
    rcases h9 with h11 | h12
    · obtain ⟨q14, k13⟩ := h11
      have q14 := q14.symm
      subst q14
      refine lv_if_ne (tgt := 22) hx hb dX11_row_13 (of_decide_eq_true rfl) (fun _ => ?_) (fun c => absurd c (of_decide_eq_true rfl))
      refine lv_iconst (v := (-1)) hx hb dX11_row_22 (of_decide_eq_true rfl) ?_
      exact hret (-1) σ τ _ _ _ _ rfl ⟨(fun _ _ => rfl), (fun _ _ => rfl), hI50, Or.inl ⟨rfl, (by have h9 := jz_m1; omega), ⟨rfl, rfl, rfl⟩, rfl⟩⟩ hP hS dX11_row_23
    · obtain ⟨q16, k15⟩ := h12
      have q16 := q16.symm
      subst q16
      refine lv_if_ne (tgt := 22) hx hb dX11_row_13 (of_decide_eq_true rfl) (fun c => absurd (of_decide_eq_true rfl) c) (fun _ => ?_)
      refine lv_iload_n hx hb dX11_row_16 rfl (lv_at hl 3 rfl) ?_
      refine lv_bipush (v := 60) hx hb dX11_row_17 (of_decide_eq_true rfl) ?_
      refine lv_icmp_le (tgt := 24) hx hb dX11_row_19 (of_decide_eq_true rfl) (fun c17 => ?_) (fun c17 => ?_)
      · have kc17 := jle c17 t3 jz_60
        refine lv_iload_n hx hb dX11_row_24 rfl (lv_at hl 3 rfl) ?_
        refine lv_if_ge (tgt := 31) hx hb dX11_row_25 (of_decide_eq_true rfl) (fun c18 => ?_) (fun c18 => ?_)
        · have kc18 := jle c18 jz_0 t3
          refine lv_aload_n hx hb dX11_row_31 rfl (lv_at hl 0 rfl) ?_
          refine va_get (D := D) hx hb hts inlX11 hown hK hP 0 (jc_0 cI cL ad σ τ) rfl 10 (of_decide_eq_true rfl) (hts _ kw_3_5) (fun _ h9 => h9) rfl dX11_row_32 ?_
          refine lv_iload_n hx hb dX11_row_35 rfl (lv_at hl 1 rfl) ?_
          refine lv_iload_n hx hb dX11_row_36 rfl (lv_at hl 2 rfl) ?_
          refine lv_iload_n hx hb dX11_row_37 rfl (lv_at hl 3 rfl) ?_
          exact by
           refine jcallVv (As := [.int a1, .int a2, .int a3]) (rest := []) ⟨hx, hb, hml, hown, hts⟩ hK hP hA hS hZ (c_X9_lay_50 l D cI cL ad zz hJ σ τ a1 (A1) t1 a2 (A2) t2 a3 (A3) t3 hI50 (by omega) (by omega)) cw_RX11_302 (jc_50 cI cL ad σ τ) rfl ⟨Nat.le_of_ble_eq_true rfl, Nat.le_of_ble_eq_true rfl⟩ rfl rfl rfl hl.1 rfl (Nat.le_of_ble_eq_true rfl) dX11_row_38 ⟨Nat.zero_le _, Nat.zero_le _⟩ (fun σ19 τ19 H locs h19 hP hS => ?_)
           obtain ⟨f23, f21, I22, h19⟩ := h19
           have h24 := h19
           obtain ⟨q27, k25, k26⟩ := h24
           refine lv_iconst (v := 1) hx hb dX11_row_41 (of_decide_eq_true rfl) ?_
           exact by exact hret 1 σ19 τ19 _ _ _ _ rfl ⟨(fun i hi => (f23 i hi)), (fun i hi => (f21 i hi)), I22, Or.inr (Or.inr (⟨rfl, (by have h9 := jz_1; omega), (by have h9 := jz_1; omega), (by have h9 := jz_1; omega), k25, k26⟩))⟩ hP hS dX11_row_42
        · have kc18 := jnle c18 jz_0 t3
          refine lv_bipush (v := (-14)) hx hb dX11_row_28 (of_decide_eq_true rfl) ?_
          exact by exact hret (-14) σ τ _ _ _ _ rfl ⟨(fun _ _ => rfl), (fun _ _ => rfl), hI50, Or.inr (Or.inl ⟨rfl, (by have h9 := jz_m14; omega), (by have h9 := jz_m14; omega), (by have h9 := jz_m14; omega), ⟨rfl, rfl, rfl⟩, rfl⟩)⟩ hP hS dX11_row_30
      · have kc17 := jnle c17 t3 jz_60
        refine lv_iconst (v := (-1)) hx hb dX11_row_22 (of_decide_eq_true rfl) ?_
        exact hret (-1) σ τ _ _ _ _ rfl ⟨(fun _ _ => rfl), (fun _ _ => rfl), hI50, Or.inl ⟨rfl, (by have h9 := jz_m1; omega), ⟨rfl, rfl, rfl⟩, rfl⟩⟩ hP hS dX11_row_23
set_option maxHeartbeats 4000000 in
set_option maxRecDepth 100000 in
theorem c_X11_put (l : Launch) (D : va_G) (cI cL : ClassId) (ad zz : Nat → Nat) (hJ : jD ad) (σ : Nat → Nat → Int32) (τ : Nat → Nat → Int64) (a1 : Int32) (A1 : Int) (t1 : a1.toInt = A1) (a2 : Int32) (A2 : Int) (t2 : a2.toInt = A2) (a3 : Int64) (AL3 : Int) (t3 : a3.toInt = AL3) (hI50 : jI50 σ) : jM l yX11_put cX11_put 6 (some .int) ({ frames := 6, cells := 0, slots := 0, locals := 129 }) D cI cL ad zz [.ref (ad 0), .int a1, .int a2, .long a3] σ τ (fun r σ' τ' => (∀ i : Nat, (i < 54 ∨ 54 < i) → τ' i = τ i) ∧ (∀ i : Nat, (0 = 0) → σ' i = σ i) ∧ (r.toInt = jRf (A1) (A2) ((σ 51 a1.toNatClampNeg).toInt) ((σ 52 a1.toNatClampNeg).toInt)) ∧ (jPt (r.toInt) (60 * (A1) + (A2)).toNat (jCut ((σ 51 a1.toNatClampNeg).toInt) a3) (τ 54) (τ' 54)) ∧ True) := by
  refine jM.of hJ (by decide +kernel) (nt := .int) rfl (Nat.le_of_ble_eq_true rfl) ?_
  intro p e s m args below meth c Q ls hC hret hl hP
  obtain ⟨hx, hb, hr, hml, hown, hts, hK, -, hlocks, hZ⟩ := hC
  have hown : s.vm.findClass RX11 = some m.cls := hown
  have hS : va_S (jA ad) s.heap s.heap [] := va_S.rf
  have hA : ∀ q, jA ad q → jA ad q := fun _ h => h
  have hl : lv_has ls 6 [(0, .ref (ad 0)), (1, .int a1), (2, .int a2), (3, .long a3)] := hl
  have g1 := jrg t1
  have g2 := jrg t2
  have g3 := jrgL t3
  refine lv_iload_n hx hb dX11_put_0 rfl (lv_at hl 1 rfl) ?_
  refine jcallS (As := [.int a1]) (rest := []) ⟨hx, hb, hml, hown, hts⟩ hK hP hA hS hZ (c_X11_noShelf l D cI cL ad zz hJ σ τ a1 (A1) t1) cw_RX11_249 ⟨Nat.le_of_ble_eq_true rfl, Nat.le_of_ble_eq_true rfl⟩ rfl rfl rfl hl.1 rfl (Nat.le_of_ble_eq_true rfl) dX11_put_1 ⟨Nat.zero_le _, Nat.zero_le _⟩ (fun r2 σ1 τ1 H locs h1 hP hS => ?_)
  obtain ⟨⟨rfl, rfl⟩, h1⟩ := h1
  rcases h1 with h3 | h4
  · obtain ⟨q6, k5⟩ := h3
    have q6 := q6.symm
    subst q6
    refine lv_if_eq (tgt := 9) hx hb dX11_put_4 (of_decide_eq_true rfl) (fun c => absurd c (of_decide_eq_true rfl)) (fun _ => ?_)
    refine lv_iconst (v := (-1)) hx hb dX11_put_7 (of_decide_eq_true rfl) ?_
    exact by exact hret (-1) σ τ _ _ _ _ rfl ⟨(fun _ _ => rfl), (fun _ _ => rfl), (by have h9 := jz_m1; unfold jRf; first | ((repeat (first | rw [if_pos (by omega)] | rw [if_neg (by omega)])) <;> omega) | ((repeat' split) <;> omega)), (Or.inr ⟨(by have h9 := jz_m1; omega), rfl⟩), trivial⟩ hP hS dX11_put_8
  · obtain ⟨q8, k7⟩ := h4
    have q8 := q8.symm
    subst q8
    refine lv_if_eq (tgt := 9) hx hb dX11_put_4 (of_decide_eq_true rfl) (fun _ => ?_) (fun c => absurd (of_decide_eq_true rfl) c)
    refine lv_aload_n hx hb dX11_put_9 rfl (lv_at hl 0 rfl) ?_
    refine va_get (D := D) hx hb hts inlX11 hown hK hP 0 (jc_0 cI cL ad σ τ) rfl 10 (of_decide_eq_true rfl) (hts _ kw_3_5) (fun _ h9 => h9) rfl dX11_put_10 ?_
    refine lv_iload_n hx hb dX11_put_13 rfl (lv_at hl 1 rfl) ?_
    refine lv_iload_n hx hb dX11_put_14 rfl (lv_at hl 2 rfl) ?_
    refine jcallV (As := [.int a1, .int a2]) (rest := []) ⟨hx, hb, hml, hown, hts⟩ hK hP hA hS hZ (c_X9_refusal_50 l D cI cL ad zz hJ σ τ a1 (A1) t1 a2 (A2) t2 hI50) cw_RX11_304 (jc_50 cI cL ad σ τ) rfl ⟨Nat.le_of_ble_eq_true rfl, Nat.le_of_ble_eq_true rfl⟩ rfl rfl rfl hl.1 rfl (Nat.le_of_ble_eq_true rfl) dX11_put_15 ⟨Nat.zero_le _, Nat.zero_le _⟩ (fun r10 σ9 τ9 H locs h9 hP hS => ?_)
    obtain ⟨⟨rfl, rfl⟩, h9⟩ := h9
    rcases h9 with h11 | h12 | h13 | h14
    · obtain ⟨q20, k15, k16, k17, k18, k19⟩ := h11
      have q20 := q20.symm
      subst q20
      refine lv_istore (lv' := [(5, .int 0), (0, .ref (ad 0)), (1, .int a1), (2, .int a2), (3, .long a3)]) hx hb dX11_put_18 hl (of_decide_eq_true rfl) rfl (fun ls hl => ?_)
      refine lv_iload hx hb dX11_put_20 (lv_at hl 0 rfl) ?_
      refine lv_if_ge (tgt := 28) hx hb dX11_put_22 (of_decide_eq_true rfl) (fun _ => ?_) (fun c => absurd (of_decide_eq_true rfl) c)
      refine lv_aload_n hx hb dX11_put_28 rfl (lv_at hl 1 rfl) ?_
      refine va_get (D := D) hx hb hts inlX11 hown hK hP 0 (jc_0 cI cL ad σ τ) rfl 10 (of_decide_eq_true rfl) (hts _ kw_3_5) (fun _ h9 => h9) rfl dX11_put_29 ?_
      refine lv_iload_n hx hb dX11_put_32 rfl (lv_at hl 2 rfl) ?_
      refine lv_iload_n hx hb dX11_put_33 rfl (lv_at hl 3 rfl) ?_
      refine lv_lload_n hx hb dX11_put_34 rfl (lv_at hl 4 rfl) ?_
      refine jcallVv (As := [.int a1, .int a2, .long a3]) (rest := []) ⟨hx, hb, hml, hown, hts⟩ hK hP hA hS hZ (c_X9_write_50 l D cI cL ad zz hJ σ τ a1 (A1) t1 a2 (A2) t2 a3 (AL3) t3 hI50) cw_RX11_307 (jc_50 cI cL ad σ τ) rfl ⟨Nat.le_of_ble_eq_true rfl, Nat.le_of_ble_eq_true rfl⟩ rfl rfl rfl hl.1 rfl (Nat.le_of_ble_eq_true rfl) dX11_put_35 ⟨Nat.zero_le _, Nat.zero_le _⟩ (fun σ21 τ21 H locs h21 hP hS => ?_)
      obtain ⟨f25, f23, w24, h21⟩ := h21
      refine lv_iconst (v := 1) hx hb dX11_put_38 (of_decide_eq_true rfl) ?_
      exact by exact hret 1 σ21 τ21 _ _ _ _ rfl ⟨(fun i hi => (f25 i hi)), (fun i hi => (f23 i hi)), (by have h9 := jz_1; unfold jRf; first | ((repeat (first | rw [if_pos (by omega)] | rw [if_neg (by omega)])) <;> omega) | ((repeat' split) <;> omega)), (by rw [show (1 : Int32).toInt = jRf (A1) (A2) ((σ 51 a1.toNatClampNeg).toInt) ((σ 52 a1.toNatClampNeg).toInt) from (by have h9 := jz_1; unfold jRf; first | ((repeat (first | rw [if_pos (by omega)] | rw [if_neg (by omega)])) <;> omega) | ((repeat' split) <;> omega))]; exact w24), trivial⟩ hP hS dX11_put_39
    · obtain ⟨q27, k26⟩ := h12
      have q27 := q27.symm
      subst q27
      refine lv_istore (lv' := [(5, .int (-11)), (0, .ref (ad 0)), (1, .int a1), (2, .int a2), (3, .long a3)]) hx hb dX11_put_18 hl (of_decide_eq_true rfl) rfl (fun ls hl => ?_)
      refine lv_iload hx hb dX11_put_20 (lv_at hl 0 rfl) ?_
      refine lv_if_ge (tgt := 28) hx hb dX11_put_22 (of_decide_eq_true rfl) (fun c => absurd c (of_decide_eq_true rfl)) (fun _ => ?_)
      refine lv_iload hx hb dX11_put_25 (lv_at hl 0 rfl) ?_
      exact by exact hret (-11) σ τ _ _ _ _ rfl ⟨(fun _ _ => rfl), (fun _ _ => rfl), (by have h9 := jz_m11; unfold jRf; first | ((repeat (first | rw [if_pos (by omega)] | rw [if_neg (by omega)])) <;> omega) | ((repeat' split) <;> omega)), (Or.inr ⟨(by have h9 := jz_m11; omega), rfl⟩), trivial⟩ hP hS dX11_put_27
    · obtain ⟨q30, k28, k29⟩ := h13
      have q30 := q30.symm
      subst q30
      refine lv_istore (lv' := [(5, .int (-12)), (0, .ref (ad 0)), (1, .int a1), (2, .int a2), (3, .long a3)]) hx hb dX11_put_18 hl (of_decide_eq_true rfl) rfl (fun ls hl => ?_)
      refine lv_iload hx hb dX11_put_20 (lv_at hl 0 rfl) ?_
      refine lv_if_ge (tgt := 28) hx hb dX11_put_22 (of_decide_eq_true rfl) (fun c => absurd c (of_decide_eq_true rfl)) (fun _ => ?_)
      refine lv_iload hx hb dX11_put_25 (lv_at hl 0 rfl) ?_
      exact by exact hret (-12) σ τ _ _ _ _ rfl ⟨(fun _ _ => rfl), (fun _ _ => rfl), (by have h9 := jz_m12; unfold jRf; first | ((repeat (first | rw [if_pos (by omega)] | rw [if_neg (by omega)])) <;> omega) | ((repeat' split) <;> omega)), (Or.inr ⟨(by have h9 := jz_m12; omega), rfl⟩), trivial⟩ hP hS dX11_put_27
    · obtain ⟨q35, k31, k32, k33, k34⟩ := h14
      have q35 := q35.symm
      subst q35
      refine lv_istore (lv' := [(5, .int (-13)), (0, .ref (ad 0)), (1, .int a1), (2, .int a2), (3, .long a3)]) hx hb dX11_put_18 hl (of_decide_eq_true rfl) rfl (fun ls hl => ?_)
      refine lv_iload hx hb dX11_put_20 (lv_at hl 0 rfl) ?_
      refine lv_if_ge (tgt := 28) hx hb dX11_put_22 (of_decide_eq_true rfl) (fun c => absurd c (of_decide_eq_true rfl)) (fun _ => ?_)
      refine lv_iload hx hb dX11_put_25 (lv_at hl 0 rfl) ?_
      exact by exact hret (-13) σ τ _ _ _ _ rfl ⟨(fun _ _ => rfl), (fun _ _ => rfl), (by have h9 := jz_m13; unfold jRf; first | ((repeat (first | rw [if_pos (by omega)] | rw [if_neg (by omega)])) <;> omega) | ((repeat' split) <;> omega)), (Or.inr ⟨(by have h9 := jz_m13; omega), rfl⟩), trivial⟩ hP hS dX11_put_27
set_option maxHeartbeats 4000000 in
set_option maxRecDepth 100000 in
theorem c_X11_element (l : Launch) (D : va_G) (cI cL : ClassId) (ad zz : Nat → Nat) (hJ : jD ad) (σ : Nat → Nat → Int32) (τ : Nat → Nat → Int64) (a1 : Int32) (A1 : Int) (t1 : a1.toInt = A1) (a2 : Int32) (A2 : Int) (t2 : a2.toInt = A2) (hI50 : jI50 σ) : jMl l yX11_element cX11_element 3 (some .long) ({ frames := 6, cells := 0, slots := 0, locals := 127 }) D cI cL ad zz [.ref (ad 0), .int a1, .int a2] σ τ (fun r σ' τ' => (σ = σ' ∧ τ = τ') ∧ (jGt (jRf (A1) (A2) ((σ 51 a1.toNatClampNeg).toInt) ((σ 52 a1.toNatClampNeg).toInt)) (60 * (A1) + (A2)).toNat (τ 54) r) ∧ True) := by
  refine jMl.of hJ (by decide +kernel) rfl (Nat.le_of_ble_eq_true rfl) ?_
  intro p e s m args below meth c Q ls hC hret hl hP
  obtain ⟨hx, hb, hr, hml, hown, hts, hK, -, hlocks, hZ⟩ := hC
  have hown : s.vm.findClass RX11 = some m.cls := hown
  have hS : va_S (jA ad) s.heap s.heap [] := va_S.rf
  have hA : ∀ q, jA ad q → jA ad q := fun _ h => h
  have hl : lv_has ls 3 [(0, .ref (ad 0)), (1, .int a1), (2, .int a2)] := hl
  have g1 := jrg t1
  have g2 := jrg t2
  refine lv_iload_n hx hb dX11_element_0 rfl (lv_at hl 1 rfl) ?_
  refine jcallS (As := [.int a1]) (rest := []) ⟨hx, hb, hml, hown, hts⟩ hK hP hA hS hZ (c_X11_noShelf l D cI cL ad zz hJ σ τ a1 (A1) t1) cw_RX11_249 ⟨Nat.le_of_ble_eq_true rfl, Nat.le_of_ble_eq_true rfl⟩ rfl rfl rfl hl.1 rfl (Nat.le_of_ble_eq_true rfl) dX11_element_1 ⟨Nat.zero_le _, Nat.zero_le _⟩ (fun r2 σ1 τ1 H locs h1 hP hS => ?_)
  obtain ⟨⟨rfl, rfl⟩, h1⟩ := h1
  rcases h1 with h3 | h4
  · obtain ⟨q6, k5⟩ := h3
    have q6 := q6.symm
    subst q6
    refine lv_if_ne (tgt := 19) hx hb dX11_element_4 (of_decide_eq_true rfl) (fun _ => ?_) (fun c => absurd c (of_decide_eq_true rfl))
    refine lv_ldc2 (v := (-9223372036854775808)) hx hb hown (hts _ kw_52_22) dX11_element_19 ?_
    exact hret (-9223372036854775808) σ τ _ _ _ _ ⟨⟨rfl, rfl⟩, (Or.inr ⟨(by unfold jRf; first | ((repeat (first | rw [if_pos (by omega)] | rw [if_neg (by omega)])) <;> omega) | ((repeat' split) <;> omega)), rfl⟩), trivial⟩ hP hS dX11_element_22
  · obtain ⟨q8, k7⟩ := h4
    have q8 := q8.symm
    subst q8
    refine lv_if_ne (tgt := 19) hx hb dX11_element_4 (of_decide_eq_true rfl) (fun c => absurd (of_decide_eq_true rfl) c) (fun _ => ?_)
    refine lv_aload_n hx hb dX11_element_7 rfl (lv_at hl 0 rfl) ?_
    refine va_get (D := D) hx hb hts inlX11 hown hK hP 0 (jc_0 cI cL ad σ τ) rfl 10 (of_decide_eq_true rfl) (hts _ kw_3_5) (fun _ h9 => h9) rfl dX11_element_8 ?_
    refine lv_iload_n hx hb dX11_element_11 rfl (lv_at hl 1 rfl) ?_
    refine lv_iload_n hx hb dX11_element_12 rfl (lv_at hl 2 rfl) ?_
    refine jcallV (As := [.int a1, .int a2]) (rest := []) ⟨hx, hb, hml, hown, hts⟩ hK hP hA hS hZ (c_X9_refusal_50 l D cI cL ad zz hJ σ τ a1 (A1) t1 a2 (A2) t2 hI50) cw_RX11_304 (jc_50 cI cL ad σ τ) rfl ⟨Nat.le_of_ble_eq_true rfl, Nat.le_of_ble_eq_true rfl⟩ rfl rfl rfl hl.1 rfl (Nat.le_of_ble_eq_true rfl) dX11_element_13 ⟨Nat.zero_le _, Nat.zero_le _⟩ (fun r10 σ9 τ9 H locs h9 hP hS => ?_)
    obtain ⟨⟨rfl, rfl⟩, h9⟩ := h9
    rcases h9 with h11 | h12 | h13 | h14
    · obtain ⟨q20, k15, k16, k17, k18, k19⟩ := h11
      have q20 := q20.symm
      subst q20
      refine lv_if_ge (tgt := 23) hx hb dX11_element_16 (of_decide_eq_true rfl) (fun _ => ?_) (fun c => absurd (of_decide_eq_true rfl) c)
      refine lv_aload_n hx hb dX11_element_23 rfl (lv_at hl 0 rfl) ?_
      refine va_get (D := D) hx hb hts inlX11 hown hK hP 0 (jc_0 cI cL ad σ τ) rfl 10 (of_decide_eq_true rfl) (hts _ kw_3_5) (fun _ h9 => h9) rfl dX11_element_24 ?_
      refine lv_iload_n hx hb dX11_element_27 rfl (lv_at hl 1 rfl) ?_
      refine lv_iload_n hx hb dX11_element_28 rfl (lv_at hl 2 rfl) ?_
      refine jcallVl (As := [.int a1, .int a2]) (rest := []) ⟨hx, hb, hml, hown, hts⟩ hK hP hA hS hZ (c_X9_elementAt_50 l D cI cL ad zz hJ σ τ a1 (A1) t1 a2 (A2) t2 hI50) cw_RX11_261 (jc_50 cI cL ad σ τ) rfl ⟨Nat.le_of_ble_eq_true rfl, Nat.le_of_ble_eq_true rfl⟩ rfl rfl rfl hl.1 rfl (Nat.le_of_ble_eq_true rfl) dX11_element_29 ⟨Nat.zero_le _, Nat.zero_le _⟩ (fun lxr22 σ21 τ21 H locs h21 hP hS => ?_)
      obtain ⟨⟨rfl, rfl⟩, w23, h21⟩ := h21
      exact hret lxr22 σ τ _ _ _ _ ⟨⟨rfl, rfl⟩, w23, trivial⟩ hP hS dX11_element_32
    · obtain ⟨q25, k24⟩ := h12
      have q25 := q25.symm
      subst q25
      refine lv_if_ge (tgt := 23) hx hb dX11_element_16 (of_decide_eq_true rfl) (fun c => absurd c (of_decide_eq_true rfl)) (fun _ => ?_)
      refine lv_ldc2 (v := (-9223372036854775808)) hx hb hown (hts _ kw_52_22) dX11_element_19 ?_
      exact hret (-9223372036854775808) σ τ _ _ _ _ ⟨⟨rfl, rfl⟩, (Or.inr ⟨(by unfold jRf; first | ((repeat (first | rw [if_pos (by omega)] | rw [if_neg (by omega)])) <;> omega) | ((repeat' split) <;> omega)), rfl⟩), trivial⟩ hP hS dX11_element_22
    · obtain ⟨q28, k26, k27⟩ := h13
      have q28 := q28.symm
      subst q28
      refine lv_if_ge (tgt := 23) hx hb dX11_element_16 (of_decide_eq_true rfl) (fun c => absurd c (of_decide_eq_true rfl)) (fun _ => ?_)
      refine lv_ldc2 (v := (-9223372036854775808)) hx hb hown (hts _ kw_52_22) dX11_element_19 ?_
      exact hret (-9223372036854775808) σ τ _ _ _ _ ⟨⟨rfl, rfl⟩, (Or.inr ⟨(by unfold jRf; first | ((repeat (first | rw [if_pos (by omega)] | rw [if_neg (by omega)])) <;> omega) | ((repeat' split) <;> omega)), rfl⟩), trivial⟩ hP hS dX11_element_22
    · obtain ⟨q33, k29, k30, k31, k32⟩ := h14
      have q33 := q33.symm
      subst q33
      refine lv_if_ge (tgt := 23) hx hb dX11_element_16 (of_decide_eq_true rfl) (fun c => absurd c (of_decide_eq_true rfl)) (fun _ => ?_)
      refine lv_ldc2 (v := (-9223372036854775808)) hx hb hown (hts _ kw_52_22) dX11_element_19 ?_
      exact hret (-9223372036854775808) σ τ _ _ _ _ ⟨⟨rfl, rfl⟩, (Or.inr ⟨(by unfold jRf; first | ((repeat (first | rw [if_pos (by omega)] | rw [if_neg (by omega)])) <;> omega) | ((repeat' split) <;> omega)), rfl⟩), trivial⟩ hP hS dX11_element_22
set_option maxHeartbeats 4000000 in
set_option maxRecDepth 100000 in
theorem c_X11_shift (l : Launch) (D : va_G) (cI cL : ClassId) (ad zz : Nat → Nat) (hJ : jD ad) (σ : Nat → Nat → Int32) (τ : Nat → Nat → Int64) (a1 : Int32) (A1 : Int) (t1 : a1.toInt = A1) (a2 : Int32) (A2 : Int) (t2 : a2.toInt = A2) (a3 : Int32) (A3 : Int) (t3 : a3.toInt = A3) (a4 : Int32) (A4 : Int) (t4 : a4.toInt = A4) (a5 : Int32) (A5 : Int) (t5 : a5.toInt = A5) (hI50 : jI50 σ) : jM l yX11_shift cX11_shift 7 (some .int) ({ frames := 5, cells := 0, slots := 0, locals := 108 }) D cI cL ad zz [.ref (ad 0), .int a1, .int a2, .int a3, .int a4, .int a5] σ τ (fun r σ' τ' => (∀ i : Nat, (i < 54 ∨ 54 < i) → τ' i = τ i) ∧ (∀ i : Nat, (0 = 0) → σ' i = σ i) ∧ (r.toInt = jSf (A1) (A2) (A3) (A4) (A5) ((σ 51 a1.toNatClampNeg).toInt) ((σ 51 a3.toNatClampNeg).toInt) ((σ 52 a1.toNatClampNeg).toInt) ((σ 52 a3.toNatClampNeg).toInt)) ∧ (jMvL (r.toInt) (60 * (A1) + (A2)).toNat (60 * (A3) + (A4)).toNat (A5) (τ 54) (τ' 54)) ∧ True) := by
  refine jM.of hJ (by decide +kernel) (nt := .int) rfl (Nat.le_of_ble_eq_true rfl) ?_
  intro p e s m args below meth c Q ls hC hret hl hP
  obtain ⟨hx, hb, hr, hml, hown, hts, hK, -, hlocks, hZ⟩ := hC
  have hown : s.vm.findClass RX11 = some m.cls := hown
  have hS : va_S (jA ad) s.heap s.heap [] := va_S.rf
  have hA : ∀ q, jA ad q → jA ad q := fun _ h => h
  have hl : lv_has ls 7 [(0, .ref (ad 0)), (1, .int a1), (2, .int a2), (3, .int a3), (4, .int a4), (5, .int a5)] := hl
  have g1 := jrg t1
  have g2 := jrg t2
  have g3 := jrg t3
  have g4 := jrg t4
  have g5 := jrg t5
  refine lv_iload_n hx hb dX11_shift_0 rfl (lv_at hl 1 rfl) ?_
  refine jcallS (As := [.int a1]) (rest := []) ⟨hx, hb, hml, hown, hts⟩ hK hP hA hS hZ (c_X11_noShelf l D cI cL ad zz hJ σ τ a1 (A1) t1) cw_RX11_249 ⟨Nat.le_of_ble_eq_true rfl, Nat.le_of_ble_eq_true rfl⟩ rfl rfl rfl hl.1 rfl (Nat.le_of_ble_eq_true rfl) dX11_shift_1 ⟨Nat.zero_le _, Nat.zero_le _⟩ (fun r2 σ1 τ1 H locs h1 hP hS => ?_)
  obtain ⟨⟨rfl, rfl⟩, h1⟩ := h1
  rcases h1 with h3 | h4
  · obtain ⟨q6, k5⟩ := h3
    have q6 := q6.symm
    subst q6
    refine lv_if_ne (tgt := 14) hx hb dX11_shift_4 (of_decide_eq_true rfl) (fun _ => ?_) (fun c => absurd c (of_decide_eq_true rfl))
    refine lv_iconst (v := (-1)) hx hb dX11_shift_14 (of_decide_eq_true rfl) ?_
    exact by exact hret (-1) σ τ _ _ _ _ rfl ⟨(fun _ _ => rfl), (fun _ _ => rfl), (by have h9 := jz_m1; unfold jSf; first | ((repeat (first | rw [if_pos (by omega)] | rw [if_neg (by omega)])) <;> omega) | ((repeat' split) <;> omega)), (Or.inr ⟨(by have h9 := jz_m1; omega), rfl⟩), trivial⟩ hP hS dX11_shift_15
  · obtain ⟨q8, k7⟩ := h4
    have q8 := q8.symm
    subst q8
    refine lv_if_ne (tgt := 14) hx hb dX11_shift_4 (of_decide_eq_true rfl) (fun c => absurd (of_decide_eq_true rfl) c) (fun _ => ?_)
    refine lv_iload_n hx hb dX11_shift_7 rfl (lv_at hl 3 rfl) ?_
    refine jcallS (As := [.int a3]) (rest := []) ⟨hx, hb, hml, hown, hts⟩ hK hP hA hS hZ (c_X11_noShelf l D cI cL ad zz hJ σ τ a3 (A3) t3) cw_RX11_249 ⟨Nat.le_of_ble_eq_true rfl, Nat.le_of_ble_eq_true rfl⟩ rfl rfl rfl hl.1 rfl (Nat.le_of_ble_eq_true rfl) dX11_shift_8 ⟨Nat.zero_le _, Nat.zero_le _⟩ (fun r10 σ9 τ9 H locs h9 hP hS => ?_)
    obtain ⟨⟨rfl, rfl⟩, h9⟩ := h9
    rcases h9 with h11 | h12
    · obtain ⟨q14, k13⟩ := h11
      have q14 := q14.symm
      subst q14
      refine lv_if_eq (tgt := 16) hx hb dX11_shift_11 (of_decide_eq_true rfl) (fun c => absurd c (of_decide_eq_true rfl)) (fun _ => ?_)
      refine lv_iconst (v := (-1)) hx hb dX11_shift_14 (of_decide_eq_true rfl) ?_
      exact by exact hret (-1) σ τ _ _ _ _ rfl ⟨(fun _ _ => rfl), (fun _ _ => rfl), (by have h9 := jz_m1; unfold jSf; first | ((repeat (first | rw [if_pos (by omega)] | rw [if_neg (by omega)])) <;> omega) | ((repeat' split) <;> omega)), (Or.inr ⟨(by have h9 := jz_m1; omega), rfl⟩), trivial⟩ hP hS dX11_shift_15
    · obtain ⟨q16, k15⟩ := h12
      have q16 := q16.symm
      subst q16
      refine lv_if_eq (tgt := 16) hx hb dX11_shift_11 (of_decide_eq_true rfl) (fun _ => ?_) (fun c => absurd (of_decide_eq_true rfl) c)
      refine lv_aload_n hx hb dX11_shift_16 rfl (lv_at hl 0 rfl) ?_
      refine va_get (D := D) hx hb hts inlX11 hown hK hP 0 (jc_0 cI cL ad σ τ) rfl 10 (of_decide_eq_true rfl) (hts _ kw_3_5) (fun _ h9 => h9) rfl dX11_shift_17 ?_
      refine lv_iload_n hx hb dX11_shift_20 rfl (lv_at hl 1 rfl) ?_
      refine jcallV (As := [.int a1]) (rest := []) ⟨hx, hb, hml, hown, hts⟩ hK hP hA hS hZ (c_X9_isEmpty_50 l D cI cL ad zz hJ σ τ a1 (A1) t1) cw_RX11_252 (jc_50 cI cL ad σ τ) rfl ⟨Nat.le_of_ble_eq_true rfl, Nat.le_of_ble_eq_true rfl⟩ rfl rfl rfl hl.1 rfl (Nat.le_of_ble_eq_true rfl) dX11_shift_21 ⟨Nat.zero_le _, Nat.zero_le _⟩ (fun r18 σ17 τ17 H locs h17 hP hS => ?_)
      obtain ⟨⟨rfl, rfl⟩, h17⟩ := h17
      rcases h17 with h19 | h20
      · obtain ⟨q23, k21, k22⟩ := h19
        have q23 := q23.symm
        subst q23
        refine lv_if_ne (tgt := 38) hx hb dX11_shift_24 (of_decide_eq_true rfl) (fun c => absurd (of_decide_eq_true rfl) c) (fun _ => ?_)
        refine lv_aload_n hx hb dX11_shift_27 rfl (lv_at hl 0 rfl) ?_
        refine va_get (D := D) hx hb hts inlX11 hown hK hP 0 (jc_0 cI cL ad σ τ) rfl 10 (of_decide_eq_true rfl) (hts _ kw_3_5) (fun _ h9 => h9) rfl dX11_shift_28 ?_
        refine lv_iload_n hx hb dX11_shift_31 rfl (lv_at hl 3 rfl) ?_
        refine jcallV (As := [.int a3]) (rest := []) ⟨hx, hb, hml, hown, hts⟩ hK hP hA hS hZ (c_X9_isEmpty_50 l D cI cL ad zz hJ σ τ a3 (A3) t3) cw_RX11_252 (jc_50 cI cL ad σ τ) rfl ⟨Nat.le_of_ble_eq_true rfl, Nat.le_of_ble_eq_true rfl⟩ rfl rfl rfl hl.1 rfl (Nat.le_of_ble_eq_true rfl) dX11_shift_32 ⟨Nat.zero_le _, Nat.zero_le _⟩ (fun r25 σ24 τ24 H locs h24 hP hS => ?_)
        obtain ⟨⟨rfl, rfl⟩, h24⟩ := h24
        rcases h24 with h26 | h27
        · obtain ⟨q30, k28, k29⟩ := h26
          have q30 := q30.symm
          subst q30
          refine lv_if_eq (tgt := 41) hx hb dX11_shift_35 (of_decide_eq_true rfl) (fun _ => ?_) (fun c => absurd (of_decide_eq_true rfl) c)
          refine lv_aload_n hx hb dX11_shift_41 rfl (lv_at hl 0 rfl) ?_
          refine va_get (D := D) hx hb hts inlX11 hown hK hP 0 (jc_0 cI cL ad σ τ) rfl 10 (of_decide_eq_true rfl) (hts _ kw_3_5) (fun _ h9 => h9) rfl dX11_shift_42 ?_
          refine lv_iload_n hx hb dX11_shift_45 rfl (lv_at hl 1 rfl) ?_
          refine jcallV (As := [.int a1]) (rest := []) ⟨hx, hb, hml, hown, hts⟩ hK hP hA hS hZ (c_X9_sortOf_50 l D cI cL ad zz hJ σ τ a1 (A1) t1) cw_RX11_255 (jc_50 cI cL ad σ τ) rfl ⟨Nat.le_of_ble_eq_true rfl, Nat.le_of_ble_eq_true rfl⟩ rfl rfl rfl hl.1 rfl (Nat.le_of_ble_eq_true rfl) dX11_shift_46 ⟨Nat.zero_le _, Nat.zero_le _⟩ (fun r32 σ31 τ31 H locs h31 hP hS => ?_)
          obtain ⟨⟨rfl, rfl⟩, h31⟩ := h31
          rcases h31 with h33 | h34
          · obtain ⟨q37, k35, k36⟩ := h33
            have q38 : r32 = (σ 51 a1.toNatClampNeg) := q37.trans rfl
            have q38 := q38.symm
            subst q38
            refine lv_istore (lv' := [(6, .int (σ 51 a1.toNatClampNeg)), (0, .ref (ad 0)), (1, .int a1), (2, .int a2), (3, .int a3), (4, .int a4), (5, .int a5)]) hx hb dX11_shift_49 hl (of_decide_eq_true rfl) rfl (fun ls hl => ?_)
            refine lv_iload hx hb dX11_shift_51 (lv_at hl 0 rfl) ?_
            refine lv_iconst (v := (-1)) hx hb dX11_shift_53 (of_decide_eq_true rfl) ?_
            refine lv_icmp_eq (tgt := 70) hx hb dX11_shift_54 (of_decide_eq_true rfl) (fun c39 => ?_) (fun c39 => ?_)
            · have kc39 := jeq c39 rfl jz_m1
              refine lv_bipush (v := (-12)) hx hb dX11_shift_70 (of_decide_eq_true rfl) ?_
              exact by exact hret (-12) σ τ _ _ _ _ rfl ⟨(fun _ _ => rfl), (fun _ _ => rfl), (by have h9 := jz_m12; unfold jSf; first | ((repeat (first | rw [if_pos (by omega)] | rw [if_neg (by omega)])) <;> omega) | ((repeat' split) <;> omega)), (Or.inr ⟨(by have h9 := jz_m12; omega), rfl⟩), trivial⟩ hP hS dX11_shift_72
            · have kc39 := jne c39 rfl jz_m1
              refine lv_iload hx hb dX11_shift_57 (lv_at hl 0 rfl) ?_
              refine lv_aload_n hx hb dX11_shift_59 rfl (lv_at hl 1 rfl) ?_
              refine va_get (D := D) hx hb hts inlX11 hown hK hP 0 (jc_0 cI cL ad σ τ) rfl 10 (of_decide_eq_true rfl) (hts _ kw_3_5) (fun _ h9 => h9) rfl dX11_shift_60 ?_
              refine lv_iload_n hx hb dX11_shift_63 rfl (lv_at hl 4 rfl) ?_
              refine jcallV (As := [.int a3]) (rest := [.int (σ 51 a1.toNatClampNeg)]) ⟨hx, hb, hml, hown, hts⟩ hK hP hA hS hZ (c_X9_sortOf_50 l D cI cL ad zz hJ σ τ a3 (A3) t3) cw_RX11_255 (jc_50 cI cL ad σ τ) rfl ⟨Nat.le_of_ble_eq_true rfl, Nat.le_of_ble_eq_true rfl⟩ rfl rfl rfl hl.1 rfl (Nat.le_of_ble_eq_true rfl) dX11_shift_64 ⟨Nat.zero_le _, Nat.zero_le _⟩ (fun r41 σ40 τ40 H locs h40 hP hS => ?_)
              obtain ⟨⟨rfl, rfl⟩, h40⟩ := h40
              rcases h40 with h42 | h43
              · obtain ⟨q46, k44, k45⟩ := h42
                have q47 : r41 = (σ 51 a3.toNatClampNeg) := q46.trans rfl
                have q47 := q47.symm
                subst q47
                refine lv_icmp_eq (tgt := 73) hx hb dX11_shift_67 (of_decide_eq_true rfl) (fun c48 => ?_) (fun c48 => ?_)
                · have kc48 := jeq c48 rfl rfl
                  refine lv_iload hx hb dX11_shift_73 (lv_at hl 6 rfl) ?_
                  refine lv_if_lt (tgt := 87) hx hb dX11_shift_75 (of_decide_eq_true rfl) (fun c49 => ?_) (fun c49 => ?_)
                  · have kc49 := jlt c49 t5 jz_0
                    refine lv_bipush (v := (-13)) hx hb dX11_shift_87 (of_decide_eq_true rfl) ?_
                    exact by exact hret (-13) σ τ _ _ _ _ rfl ⟨(fun _ _ => rfl), (fun _ _ => rfl), (by have h9 := jz_m13; unfold jSf; first | ((repeat (first | rw [if_pos (by omega)] | rw [if_neg (by omega)])) <;> omega) | ((repeat' split) <;> omega)), (Or.inr ⟨(by have h9 := jz_m13; omega), rfl⟩), trivial⟩ hP hS dX11_shift_89
                  · have kc49 := jnlt c49 t5 jz_0
                    refine lv_iload_n hx hb dX11_shift_78 rfl (lv_at hl 3 rfl) ?_
                    refine lv_if_lt (tgt := 87) hx hb dX11_shift_79 (of_decide_eq_true rfl) (fun c50 => ?_) (fun c50 => ?_)
                    · have kc50 := jlt c50 t2 jz_0
                      refine lv_bipush (v := (-13)) hx hb dX11_shift_87 (of_decide_eq_true rfl) ?_
                      exact by exact hret (-13) σ τ _ _ _ _ rfl ⟨(fun _ _ => rfl), (fun _ _ => rfl), (by have h9 := jz_m13; unfold jSf; first | ((repeat (first | rw [if_pos (by omega)] | rw [if_neg (by omega)])) <;> omega) | ((repeat' split) <;> omega)), (Or.inr ⟨(by have h9 := jz_m13; omega), rfl⟩), trivial⟩ hP hS dX11_shift_89
                    · have kc50 := jnlt c50 t2 jz_0
                      refine lv_iload hx hb dX11_shift_82 (lv_at hl 5 rfl) ?_
                      refine lv_if_ge (tgt := 90) hx hb dX11_shift_84 (of_decide_eq_true rfl) (fun c51 => ?_) (fun c51 => ?_)
                      · have kc51 := jle c51 jz_0 t4
                        refine lv_iload hx hb dX11_shift_90 (lv_at hl 6 rfl) ?_
                        refine lv_aload_n hx hb dX11_shift_92 rfl (lv_at hl 1 rfl) ?_
                        refine va_get (D := D) hx hb hts inlX11 hown hK hP 0 (jc_0 cI cL ad σ τ) rfl 10 (of_decide_eq_true rfl) (hts _ kw_3_5) (fun _ h9 => h9) rfl dX11_shift_93 ?_
                        refine lv_iload_n hx hb dX11_shift_96 rfl (lv_at hl 2 rfl) ?_
                        refine jcallV (As := [.int a1]) (rest := [.int a5]) ⟨hx, hb, hml, hown, hts⟩ hK hP hA hS hZ (c_X9_lengthOf_50 l D cI cL ad zz hJ σ τ a1 (A1) t1 hI50) cw_RX11_258 (jc_50 cI cL ad σ τ) rfl ⟨Nat.le_of_ble_eq_true rfl, Nat.le_of_ble_eq_true rfl⟩ rfl rfl rfl hl.1 rfl (Nat.le_of_ble_eq_true rfl) dX11_shift_97 ⟨Nat.zero_le _, Nat.zero_le _⟩ (fun r53 σ52 τ52 H locs h52 hP hS => ?_)
                        obtain ⟨⟨rfl, rfl⟩, h52⟩ := h52
                        rcases h52 with h54 | h55
                        · obtain ⟨q60, k56, k57, k58, k59⟩ := h54
                          have q61 : r53 = (σ 52 a1.toNatClampNeg) := q60.trans rfl
                          have q61 := q61.symm
                          subst q61
                          refine lv_iload_n hx hb dX11_shift_100 rfl (lv_at hl 3 rfl) ?_
                          have g62 := jrg (rfl : (σ 52 a1.toNatClampNeg).toInt = (σ 52 a1.toNatClampNeg).toInt)
                          refine lv_isub hx hb dX11_shift_101 ?_
                          refine lv_topi (fun x63 ex63 => ?_)
                          exact by
                           have tx63 : x63.toInt = (σ 52 a1.toNatClampNeg).toInt - A2 := (jsub ex63 rfl t2 (by omega) (by omega)).trans (by omega)
                           refine lv_icmp_gt (tgt := 121) hx hb dX11_shift_102 (of_decide_eq_true rfl) (fun c64 => ?_) (fun c64 => ?_)
                           · have kc64 := jlt c64 tx63 t5
                             refine lv_bipush (v := (-13)) hx hb dX11_shift_121 (of_decide_eq_true rfl) ?_
                             exact by exact hret (-13) σ τ _ _ _ _ rfl ⟨(fun _ _ => rfl), (fun _ _ => rfl), (by have h9 := jz_m13; unfold jSf; first | ((repeat (first | rw [if_pos (by omega)] | rw [if_neg (by omega)])) <;> omega) | ((repeat' split) <;> omega)), (Or.inr ⟨(by have h9 := jz_m13; omega), rfl⟩), trivial⟩ hP hS dX11_shift_123
                           · have kc64 := jnlt c64 tx63 t5
                             refine lv_iload hx hb dX11_shift_105 (lv_at hl 6 rfl) ?_
                             refine lv_aload_n hx hb dX11_shift_107 rfl (lv_at hl 1 rfl) ?_
                             refine va_get (D := D) hx hb hts inlX11 hown hK hP 0 (jc_0 cI cL ad σ τ) rfl 10 (of_decide_eq_true rfl) (hts _ kw_3_5) (fun _ h9 => h9) rfl dX11_shift_108 ?_
                             refine lv_iload_n hx hb dX11_shift_111 rfl (lv_at hl 4 rfl) ?_
                             refine jcallV (As := [.int a3]) (rest := [.int a5]) ⟨hx, hb, hml, hown, hts⟩ hK hP hA hS hZ (c_X9_lengthOf_50 l D cI cL ad zz hJ σ τ a3 (A3) t3 hI50) cw_RX11_258 (jc_50 cI cL ad σ τ) rfl ⟨Nat.le_of_ble_eq_true rfl, Nat.le_of_ble_eq_true rfl⟩ rfl rfl rfl hl.1 rfl (Nat.le_of_ble_eq_true rfl) dX11_shift_112 ⟨Nat.zero_le _, Nat.zero_le _⟩ (fun r66 σ65 τ65 H locs h65 hP hS => ?_)
                             obtain ⟨⟨rfl, rfl⟩, h65⟩ := h65
                             rcases h65 with h67 | h68
                             · obtain ⟨q73, k69, k70, k71, k72⟩ := h67
                               have q74 : r66 = (σ 52 a3.toNatClampNeg) := q73.trans rfl
                               have q74 := q74.symm
                               subst q74
                               refine lv_iload hx hb dX11_shift_115 (lv_at hl 5 rfl) ?_
                               have g75 := jrg (rfl : (σ 52 a3.toNatClampNeg).toInt = (σ 52 a3.toNatClampNeg).toInt)
                               refine lv_isub hx hb dX11_shift_117 ?_
                               refine lv_topi (fun x76 ex76 => ?_)
                               exact by
                                have tx76 : x76.toInt = (σ 52 a3.toNatClampNeg).toInt - A4 := (jsub ex76 rfl t4 (by omega) (by omega)).trans (by omega)
                                refine lv_icmp_le (tgt := 124) hx hb dX11_shift_118 (of_decide_eq_true rfl) (fun c77 => ?_) (fun c77 => ?_)
                                · have kc77 := jle c77 t5 tx76
                                  refine lv_aload_n hx hb dX11_shift_124 rfl (lv_at hl 1 rfl) ?_
                                  refine va_get (D := D) hx hb hts inlX11 hown hK hP 0 (jc_0 cI cL ad σ τ) rfl 10 (of_decide_eq_true rfl) (hts _ kw_3_5) (fun _ h9 => h9) rfl dX11_shift_125 ?_
                                  refine lv_iload_n hx hb dX11_shift_128 rfl (lv_at hl 2 rfl) ?_
                                  refine lv_iload_n hx hb dX11_shift_129 rfl (lv_at hl 3 rfl) ?_
                                  refine lv_iload_n hx hb dX11_shift_130 rfl (lv_at hl 4 rfl) ?_
                                  refine lv_iload hx hb dX11_shift_131 (lv_at hl 5 rfl) ?_
                                  refine lv_iload hx hb dX11_shift_133 (lv_at hl 6 rfl) ?_
                                  exact by
                                   refine jcallVv (As := [.int a1, .int a2, .int a3, .int a4, .int a5]) (rest := []) ⟨hx, hb, hml, hown, hts⟩ hK hP hA hS hZ (c_X9_move_50 l D cI cL ad zz hJ σ τ a1 (A1) t1 a2 (A2) t2 a3 (A3) t3 a4 (A4) t4 a5 (A5) t5 hI50 (by omega) (by omega)) cw_RX11_314 (jc_50 cI cL ad σ τ) rfl ⟨Nat.le_of_ble_eq_true rfl, Nat.le_of_ble_eq_true rfl⟩ rfl rfl rfl hl.1 rfl (Nat.le_of_ble_eq_true rfl) dX11_shift_135 ⟨Nat.zero_le _, Nat.zero_le _⟩ (fun σ78 τ78 H locs h78 hP hS => ?_)
                                   obtain ⟨f81, f80, h78⟩ := h78
                                   rcases h78 with h82 | h83
                                   · obtain ⟨q88, k84, k85, k86, k87⟩ := h82
                                     refine lv_iload hx hb dX11_shift_138 (lv_at hl 6 rfl) ?_
                                     exact by exact hret a5 σ78 τ78 _ _ _ _ rfl ⟨(fun i hi => (f81 i hi)), (fun i hi => (f80 i hi)), (by have h9 := t5; unfold jSf; first | ((repeat (first | rw [if_pos (by omega)] | rw [if_neg (by omega)])) <;> omega) | ((repeat' split) <;> omega)), (k87.c (by omega) (by have h9 := t5; omega)), trivial⟩ hP hS dX11_shift_140
                                   · obtain ⟨q91, k89, k90⟩ := h83
                                     refine lv_iload hx hb dX11_shift_138 (lv_at hl 6 rfl) ?_
                                     exact by exact hret a5 σ78 τ78 _ _ _ _ rfl ⟨(fun i hi => (f81 i hi)), (fun i hi => (f80 i hi)), (by have h9 := t5; unfold jSf; first | ((repeat (first | rw [if_pos (by omega)] | rw [if_neg (by omega)])) <;> omega) | ((repeat' split) <;> omega)), (False.elim (by omega)), trivial⟩ hP hS dX11_shift_140
                                · have kc77 := jnle c77 t5 tx76
                                  refine lv_bipush (v := (-13)) hx hb dX11_shift_121 (of_decide_eq_true rfl) ?_
                                  exact by exact hret (-13) σ τ _ _ _ _ rfl ⟨(fun _ _ => rfl), (fun _ _ => rfl), (by have h9 := jz_m13; unfold jSf; first | ((repeat (first | rw [if_pos (by omega)] | rw [if_neg (by omega)])) <;> omega) | ((repeat' split) <;> omega)), (Or.inr ⟨(by have h9 := jz_m13; omega), rfl⟩), trivial⟩ hP hS dX11_shift_123
                             · obtain ⟨q93, k92⟩ := h68
                               exact absurd (by omega : False) id
                        · obtain ⟨q95, k94⟩ := h55
                          exact absurd (by omega : False) id
                      · have kc51 := jnle c51 jz_0 t4
                        refine lv_bipush (v := (-13)) hx hb dX11_shift_87 (of_decide_eq_true rfl) ?_
                        exact by exact hret (-13) σ τ _ _ _ _ rfl ⟨(fun _ _ => rfl), (fun _ _ => rfl), (by have h9 := jz_m13; unfold jSf; first | ((repeat (first | rw [if_pos (by omega)] | rw [if_neg (by omega)])) <;> omega) | ((repeat' split) <;> omega)), (Or.inr ⟨(by have h9 := jz_m13; omega), rfl⟩), trivial⟩ hP hS dX11_shift_89
                · have kc48 := jne c48 rfl rfl
                  refine lv_bipush (v := (-12)) hx hb dX11_shift_70 (of_decide_eq_true rfl) ?_
                  exact by exact hret (-12) σ τ _ _ _ _ rfl ⟨(fun _ _ => rfl), (fun _ _ => rfl), (by have h9 := jz_m12; unfold jSf; first | ((repeat (first | rw [if_pos (by omega)] | rw [if_neg (by omega)])) <;> omega) | ((repeat' split) <;> omega)), (Or.inr ⟨(by have h9 := jz_m12; omega), rfl⟩), trivial⟩ hP hS dX11_shift_72
              · obtain ⟨q97, k96⟩ := h43
                exact absurd (by omega : False) id
          · obtain ⟨q99, k98⟩ := h34
            exact absurd (by omega : False) id
        · obtain ⟨q101, k100⟩ := h27
          have q101 := q101.symm
          subst q101
          refine lv_if_eq (tgt := 41) hx hb dX11_shift_35 (of_decide_eq_true rfl) (fun c => absurd c (of_decide_eq_true rfl)) (fun _ => ?_)
          refine lv_bipush (v := (-11)) hx hb dX11_shift_38 (of_decide_eq_true rfl) ?_
          exact by exact hret (-11) σ τ _ _ _ _ rfl ⟨(fun _ _ => rfl), (fun _ _ => rfl), (by have h9 := jz_m11; unfold jSf; first | ((repeat (first | rw [if_pos (by omega)] | rw [if_neg (by omega)])) <;> omega) | ((repeat' split) <;> omega)), (Or.inr ⟨(by have h9 := jz_m11; omega), rfl⟩), trivial⟩ hP hS dX11_shift_40
      · obtain ⟨q103, k102⟩ := h20
        have q103 := q103.symm
        subst q103
        refine lv_if_ne (tgt := 38) hx hb dX11_shift_24 (of_decide_eq_true rfl) (fun _ => ?_) (fun c => absurd c (of_decide_eq_true rfl))
        refine lv_bipush (v := (-11)) hx hb dX11_shift_38 (of_decide_eq_true rfl) ?_
        exact by exact hret (-11) σ τ _ _ _ _ rfl ⟨(fun _ _ => rfl), (fun _ _ => rfl), (by have h9 := jz_m11; unfold jSf; first | ((repeat (first | rw [if_pos (by omega)] | rw [if_neg (by omega)])) <;> omega) | ((repeat' split) <;> omega)), (Or.inr ⟨(by have h9 := jz_m11; omega), rfl⟩), trivial⟩ hP hS dX11_shift_40
set_option maxHeartbeats 4000000 in
set_option maxRecDepth 100000 in
theorem c_X11_taken (l : Launch) (D : va_G) (cI cL : ClassId) (ad zz : Nat → Nat) (hJ : jD ad) (σ : Nat → Nat → Int32) (τ : Nat → Nat → Int64) (a1 : Int32) (A1 : Int) (t1 : a1.toInt = A1) (a2 : Int32) (A2 : Int) (t2 : a2.toInt = A2) (hI38 : jI38 σ) : jM l yX11_taken cX11_taken 4 (some .int) ({ frames := 2, cells := 0, slots := 0, locals := 43 }) D cI cL ad zz [.ref (ad 0), .int a1, .int a2] σ τ (fun r σ' τ' => (σ = σ' ∧ τ = τ') ∧ (r.toInt = jTk (A1) (A2) ((σ 51 a1.toNatClampNeg).toInt) ((σ 53 a1.toNatClampNeg).toInt) ((σ 39 (σ 53 a1.toNatClampNeg).toNatClampNeg).toInt) ((σ 38 0).toInt)) ∧ True) := by
  refine jM.of hJ (by decide +kernel) (nt := .int) rfl (Nat.le_of_ble_eq_true rfl) ?_
  intro p e s m args below meth c Q ls hC hret hl hP
  obtain ⟨hx, hb, hr, hml, hown, hts, hK, -, hlocks, hZ⟩ := hC
  have hown : s.vm.findClass RX11 = some m.cls := hown
  have hS : va_S (jA ad) s.heap s.heap [] := va_S.rf
  have hA : ∀ q, jA ad q → jA ad q := fun _ h => h
  have hl : lv_has ls 4 [(0, .ref (ad 0)), (1, .int a1), (2, .int a2)] := hl
  have g1 := jrg t1
  have g2 := jrg t2
  obtain ⟨i1, i2, w3⟩ : (0 ≤ (σ 38 0).toInt ∧ (σ 38 0).toInt ≤ 20) ∧ (0 ≤ (σ 38 1).toInt ∧ (σ 38 1).toInt ≤ 1000) ∧ (∀ k : Nat, k < 20 → 0 ≤ (σ 39 k).toInt ∧ (σ 39 k).toInt ≤ 6) := id hI38
  refine lv_iload_n hx hb dX11_taken_0 rfl (lv_at hl 1 rfl) ?_
  refine jcallS (As := [.int a1]) (rest := []) ⟨hx, hb, hml, hown, hts⟩ hK hP hA hS hZ (c_X11_noShelf l D cI cL ad zz hJ σ τ a1 (A1) t1) cw_RX11_249 ⟨Nat.le_of_ble_eq_true rfl, Nat.le_of_ble_eq_true rfl⟩ rfl rfl rfl hl.1 rfl (Nat.le_of_ble_eq_true rfl) dX11_taken_1 ⟨Nat.zero_le _, Nat.zero_le _⟩ (fun r5 σ4 τ4 H locs h4 hP hS => ?_)
  obtain ⟨⟨rfl, rfl⟩, h4⟩ := h4
  rcases h4 with h6 | h7
  · obtain ⟨q9, k8⟩ := h6
    have q9 := q9.symm
    subst q9
    refine lv_if_ne (tgt := 17) hx hb dX11_taken_4 (of_decide_eq_true rfl) (fun _ => ?_) (fun c => absurd c (of_decide_eq_true rfl))
    refine lv_iconst (v := (-1)) hx hb dX11_taken_17 (of_decide_eq_true rfl) ?_
    exact hret (-1) σ τ _ _ _ _ rfl ⟨⟨rfl, rfl⟩, (by have h9 := jz_m1; unfold jTk; first | ((repeat (first | rw [if_pos (by omega)] | rw [if_neg (by omega)])) <;> omega) | ((repeat' split) <;> omega)), trivial⟩ hP hS dX11_taken_18
  · obtain ⟨q11, k10⟩ := h7
    have q11 := q11.symm
    subst q11
    refine lv_if_ne (tgt := 17) hx hb dX11_taken_4 (of_decide_eq_true rfl) (fun c => absurd (of_decide_eq_true rfl) c) (fun _ => ?_)
    refine lv_iload_n hx hb dX11_taken_7 rfl (lv_at hl 2 rfl) ?_
    refine lv_iconst (v := 0) hx hb dX11_taken_8 (of_decide_eq_true rfl) ?_
    refine lv_bipush (v := 6) hx hb dX11_taken_9 (of_decide_eq_true rfl) ?_
    refine jcallS (As := [.int a2, .int 0, .int 6]) (rest := []) ⟨hx, hb, hml, hown, hts⟩ hK hP hA hS hZ (c_X11_outside l D cI cL ad zz hJ σ τ a2 (A2) t2 0 (0) jz_0 6 (6) jz_6) cw_RX11_94 ⟨Nat.le_of_ble_eq_true rfl, Nat.le_of_ble_eq_true rfl⟩ rfl rfl rfl hl.1 rfl (Nat.le_of_ble_eq_true rfl) dX11_taken_11 ⟨Nat.zero_le _, Nat.zero_le _⟩ (fun r13 σ12 τ12 H locs h12 hP hS => ?_)
    obtain ⟨⟨rfl, rfl⟩, h12⟩ := h12
    rcases h12 with h14 | h15
    · obtain ⟨q17, k16⟩ := h14
      have q17 := q17.symm
      subst q17
      refine lv_if_eq (tgt := 19) hx hb dX11_taken_14 (of_decide_eq_true rfl) (fun c => absurd c (of_decide_eq_true rfl)) (fun _ => ?_)
      refine lv_iconst (v := (-1)) hx hb dX11_taken_17 (of_decide_eq_true rfl) ?_
      exact hret (-1) σ τ _ _ _ _ rfl ⟨⟨rfl, rfl⟩, (by have h9 := jz_m1; unfold jTk; first | ((repeat (first | rw [if_pos (by omega)] | rw [if_neg (by omega)])) <;> omega) | ((repeat' split) <;> omega)), trivial⟩ hP hS dX11_taken_18
    · obtain ⟨q19, k18⟩ := h15
      have q19 := q19.symm
      subst q19
      refine lv_if_eq (tgt := 19) hx hb dX11_taken_14 (of_decide_eq_true rfl) (fun _ => ?_) (fun c => absurd (of_decide_eq_true rfl) c)
      refine lv_aload_n hx hb dX11_taken_19 rfl (lv_at hl 0 rfl) ?_
      refine va_get (D := D) hx hb hts inlX11 hown hK hP 0 (jc_0 cI cL ad σ τ) rfl 10 (of_decide_eq_true rfl) (hts _ kw_3_5) (fun _ h9 => h9) rfl dX11_taken_20 ?_
      refine lv_iload_n hx hb dX11_taken_23 rfl (lv_at hl 1 rfl) ?_
      refine jcallV (As := [.int a1]) (rest := []) ⟨hx, hb, hml, hown, hts⟩ hK hP hA hS hZ (c_X9_isEmpty_50 l D cI cL ad zz hJ σ τ a1 (A1) t1) cw_RX11_252 (jc_50 cI cL ad σ τ) rfl ⟨Nat.le_of_ble_eq_true rfl, Nat.le_of_ble_eq_true rfl⟩ rfl rfl rfl hl.1 rfl (Nat.le_of_ble_eq_true rfl) dX11_taken_24 ⟨Nat.zero_le _, Nat.zero_le _⟩ (fun r21 σ20 τ20 H locs h20 hP hS => ?_)
      obtain ⟨⟨rfl, rfl⟩, h20⟩ := h20
      rcases h20 with h22 | h23
      · obtain ⟨q26, k24, k25⟩ := h22
        have q26 := q26.symm
        subst q26
        refine lv_if_eq (tgt := 33) hx hb dX11_taken_27 (of_decide_eq_true rfl) (fun _ => ?_) (fun c => absurd (of_decide_eq_true rfl) c)
        refine lv_aload_n hx hb dX11_taken_33 rfl (lv_at hl 0 rfl) ?_
        refine va_get (D := D) hx hb hts inlX11 hown hK hP 0 (jc_0 cI cL ad σ τ) rfl 10 (of_decide_eq_true rfl) (hts _ kw_3_5) (fun _ h9 => h9) rfl dX11_taken_34 ?_
        refine lv_iload_n hx hb dX11_taken_37 rfl (lv_at hl 1 rfl) ?_
        refine jcallV (As := [.int a1]) (rest := []) ⟨hx, hb, hml, hown, hts⟩ hK hP hA hS hZ (c_X9_ruleOn_50 l D cI cL ad zz hJ σ τ a1 (A1) t1) cw_RX11_318 (jc_50 cI cL ad σ τ) rfl ⟨Nat.le_of_ble_eq_true rfl, Nat.le_of_ble_eq_true rfl⟩ rfl rfl rfl hl.1 rfl (Nat.le_of_ble_eq_true rfl) dX11_taken_38 ⟨Nat.zero_le _, Nat.zero_le _⟩ (fun r28 σ27 τ27 H locs h27 hP hS => ?_)
        obtain ⟨⟨rfl, rfl⟩, h27⟩ := h27
        rcases h27 with h29 | h30
        · obtain ⟨q32, k31⟩ := h29
          have q33 : r28 = (σ 53 a1.toNatClampNeg) := q32.trans rfl
          have q33 := q33.symm
          subst q33
          refine lv_istore_n (lv' := [(3, .int (σ 53 a1.toNatClampNeg)), (0, .ref (ad 0)), (1, .int a1), (2, .int a2)]) hx hb dX11_taken_41 rfl hl (of_decide_eq_true rfl) rfl (fun ls hl => ?_)
          refine lv_iload_n hx hb dX11_taken_42 rfl (lv_at hl 0 rfl) ?_
          refine lv_if_lt (tgt := 61) hx hb dX11_taken_43 (of_decide_eq_true rfl) (fun c34 => ?_) (fun c34 => ?_)
          · have kc34 := jlt c34 rfl jz_0
            refine lv_bipush (v := (-12)) hx hb dX11_taken_61 (of_decide_eq_true rfl) ?_
            exact hret (-12) σ τ _ _ _ _ rfl ⟨⟨rfl, rfl⟩, (by have h9 := jz_m12; unfold jTk; first | ((repeat (first | rw [if_pos (by omega)] | rw [if_neg (by omega)])) <;> omega) | ((repeat' split) <;> omega)), trivial⟩ hP hS dX11_taken_63
          · have kc34 := jnlt c34 rfl jz_0
            refine lv_aload_n hx hb dX11_taken_46 rfl (lv_at hl 1 rfl) ?_
            refine va_get (D := D) hx hb hts inlX11 hown hK hP 0 (jc_0 cI cL ad σ τ) rfl 7 (of_decide_eq_true rfl) (hts _ kw_2_17) (fun _ h9 => h9) rfl dX11_taken_47 ?_
            refine lv_iload_n hx hb dX11_taken_50 rfl (lv_at hl 0 rfl) ?_
            refine jcallV (As := [.int (σ 53 a1.toNatClampNeg)]) (rest := []) ⟨hx, hb, hml, hown, hts⟩ hK hP hA hS hZ (c_X8_kindOf_e l D cI cL ad zz hJ σ τ (σ 53 a1.toNatClampNeg) ((σ 53 a1.toNatClampNeg).toInt) rfl hI38) cw_RX11_183 (jc_38 cI cL ad σ τ) rfl ⟨Nat.le_of_ble_eq_true rfl, Nat.le_of_ble_eq_true rfl⟩ rfl rfl rfl hl.1 rfl (Nat.le_of_ble_eq_true rfl) dX11_taken_51 ⟨Nat.zero_le _, Nat.zero_le _⟩ (fun r36 σ35 τ35 H locs h35 hP hS => ?_)
            obtain ⟨⟨rfl, rfl⟩, h35⟩ := h35
            rcases h35 with h37 | h38
            · obtain ⟨q42, k39, k40, k41⟩ := h37
              have q43 : r36 = (σ 39 (σ 53 a1.toNatClampNeg).toNatClampNeg) := q42.trans rfl
              have q43 := q43.symm
              subst q43
              refine lv_iload_n hx hb dX11_taken_54 rfl (lv_at hl 3 rfl) ?_
              by_cases c44 : (σ 39 (σ 53 a1.toNatClampNeg).toNatClampNeg) = 0
              · have kc44 := jeq c44 (rfl : (σ 39 (σ 53 a1.toNatClampNeg).toNatClampNeg).toInt = (σ 39 (σ 53 a1.toNatClampNeg).toNatClampNeg).toInt) jz_0
                rw [c44]
                refine jcallS (As := [.int 0, .int a2]) (rest := []) ⟨hx, hb, hml, hown, hts⟩ hK hP hA hS hZ (c_X8_isUnder_0 l D cI cL ad zz hJ σ τ a2 (A2) t2) cw_RX11_321 ⟨Nat.le_of_ble_eq_true rfl, Nat.le_of_ble_eq_true rfl⟩ rfl rfl rfl hl.1 rfl (Nat.le_of_ble_eq_true rfl) dX11_taken_55 ⟨Nat.zero_le _, Nat.zero_le _⟩ (fun r46 σ45 τ45 H locs h45 hP hS => ?_)
                obtain ⟨⟨rfl, rfl⟩, h45⟩ := h45
                rcases h45 with h47 | h48
                · obtain ⟨q50, k49⟩ := h47
                  have q50 := q50.symm
                  subst q50
                  refine lv_if_ne (tgt := 64) hx hb dX11_taken_58 (of_decide_eq_true rfl) (fun _ => ?_) (fun c => absurd c (of_decide_eq_true rfl))
                  refine lv_aload_n hx hb dX11_taken_64 rfl (lv_at hl 1 rfl) ?_
                  refine va_get (D := D) hx hb hts inlX11 hown hK hP 0 (jc_0 cI cL ad σ τ) rfl 7 (of_decide_eq_true rfl) (hts _ kw_2_17) (fun _ h9 => h9) rfl dX11_taken_65 ?_
                  refine lv_iload_n hx hb dX11_taken_68 rfl (lv_at hl 0 rfl) ?_
                  refine jcallV (As := [.int (σ 53 a1.toNatClampNeg)]) (rest := []) ⟨hx, hb, hml, hown, hts⟩ hK hP hA hS hZ (c_X8_kindOf_e l D cI cL ad zz hJ σ τ (σ 53 a1.toNatClampNeg) ((σ 53 a1.toNatClampNeg).toInt) rfl hI38) cw_RX11_183 (jc_38 cI cL ad σ τ) rfl ⟨Nat.le_of_ble_eq_true rfl, Nat.le_of_ble_eq_true rfl⟩ rfl rfl rfl hl.1 rfl (Nat.le_of_ble_eq_true rfl) dX11_taken_69 ⟨Nat.zero_le _, Nat.zero_le _⟩ (fun r52 σ51 τ51 H locs h51 hP hS => ?_)
                  obtain ⟨⟨rfl, rfl⟩, h51⟩ := h51
                  rcases h51 with h53 | h54
                  · obtain ⟨q58, k55, k56, k57⟩ := h53
                    have q59 : r52 = (σ 39 (σ 53 a1.toNatClampNeg).toNatClampNeg) := q58.trans rfl
                    have q59 := q59.symm
                    subst q59
                    exact hret (σ 39 (σ 53 a1.toNatClampNeg).toNatClampNeg) σ τ _ _ _ _ rfl ⟨⟨rfl, rfl⟩, (by unfold jTk; first | ((repeat (first | rw [if_pos (by omega)] | rw [if_neg (by omega)])) <;> omega) | ((repeat' split) <;> omega)), trivial⟩ hP hS dX11_taken_72
                  · obtain ⟨q61, k60⟩ := h54
                    exact absurd (by omega : False) id
                · obtain ⟨q63, k62⟩ := h48
                  have q63 := q63.symm
                  subst q63
                  refine lv_if_ne (tgt := 64) hx hb dX11_taken_58 (of_decide_eq_true rfl) (fun c => absurd (of_decide_eq_true rfl) c) (fun _ => ?_)
                  refine lv_bipush (v := (-12)) hx hb dX11_taken_61 (of_decide_eq_true rfl) ?_
                  exact hret (-12) σ τ _ _ _ _ rfl ⟨⟨rfl, rfl⟩, (by have h9 := jz_m12; unfold jTk; first | ((repeat (first | rw [if_pos (by omega)] | rw [if_neg (by omega)])) <;> omega) | ((repeat' split) <;> omega)), trivial⟩ hP hS dX11_taken_63
              have kc44 := jne c44 (rfl : (σ 39 (σ 53 a1.toNatClampNeg).toNatClampNeg).toInt = (σ 39 (σ 53 a1.toNatClampNeg).toNatClampNeg).toInt) jz_0
              by_cases c64 : (σ 39 (σ 53 a1.toNatClampNeg).toNatClampNeg) = 1
              · have kc64 := jeq c64 (rfl : (σ 39 (σ 53 a1.toNatClampNeg).toNatClampNeg).toInt = (σ 39 (σ 53 a1.toNatClampNeg).toNatClampNeg).toInt) jz_1
                rw [c64]
                refine jcallS (As := [.int 1, .int a2]) (rest := []) ⟨hx, hb, hml, hown, hts⟩ hK hP hA hS hZ (c_X8_isUnder_1 l D cI cL ad zz hJ σ τ a2 (A2) t2) cw_RX11_321 ⟨Nat.le_of_ble_eq_true rfl, Nat.le_of_ble_eq_true rfl⟩ rfl rfl rfl hl.1 rfl (Nat.le_of_ble_eq_true rfl) dX11_taken_55 ⟨Nat.zero_le _, Nat.zero_le _⟩ (fun r66 σ65 τ65 H locs h65 hP hS => ?_)
                obtain ⟨⟨rfl, rfl⟩, h65⟩ := h65
                rcases h65 with h67 | h68
                · obtain ⟨q70, k69⟩ := h67
                  have q70 := q70.symm
                  subst q70
                  refine lv_if_ne (tgt := 64) hx hb dX11_taken_58 (of_decide_eq_true rfl) (fun _ => ?_) (fun c => absurd c (of_decide_eq_true rfl))
                  refine lv_aload_n hx hb dX11_taken_64 rfl (lv_at hl 1 rfl) ?_
                  refine va_get (D := D) hx hb hts inlX11 hown hK hP 0 (jc_0 cI cL ad σ τ) rfl 7 (of_decide_eq_true rfl) (hts _ kw_2_17) (fun _ h9 => h9) rfl dX11_taken_65 ?_
                  refine lv_iload_n hx hb dX11_taken_68 rfl (lv_at hl 0 rfl) ?_
                  refine jcallV (As := [.int (σ 53 a1.toNatClampNeg)]) (rest := []) ⟨hx, hb, hml, hown, hts⟩ hK hP hA hS hZ (c_X8_kindOf_e l D cI cL ad zz hJ σ τ (σ 53 a1.toNatClampNeg) ((σ 53 a1.toNatClampNeg).toInt) rfl hI38) cw_RX11_183 (jc_38 cI cL ad σ τ) rfl ⟨Nat.le_of_ble_eq_true rfl, Nat.le_of_ble_eq_true rfl⟩ rfl rfl rfl hl.1 rfl (Nat.le_of_ble_eq_true rfl) dX11_taken_69 ⟨Nat.zero_le _, Nat.zero_le _⟩ (fun r72 σ71 τ71 H locs h71 hP hS => ?_)
                  obtain ⟨⟨rfl, rfl⟩, h71⟩ := h71
                  rcases h71 with h73 | h74
                  · obtain ⟨q78, k75, k76, k77⟩ := h73
                    have q79 : r72 = (σ 39 (σ 53 a1.toNatClampNeg).toNatClampNeg) := q78.trans rfl
                    have q79 := q79.symm
                    subst q79
                    exact hret (σ 39 (σ 53 a1.toNatClampNeg).toNatClampNeg) σ τ _ _ _ _ rfl ⟨⟨rfl, rfl⟩, (by unfold jTk; first | ((repeat (first | rw [if_pos (by omega)] | rw [if_neg (by omega)])) <;> omega) | ((repeat' split) <;> omega)), trivial⟩ hP hS dX11_taken_72
                  · obtain ⟨q81, k80⟩ := h74
                    exact absurd (by omega : False) id
                · obtain ⟨q84, k82, k83⟩ := h68
                  have q84 := q84.symm
                  subst q84
                  refine lv_if_ne (tgt := 64) hx hb dX11_taken_58 (of_decide_eq_true rfl) (fun c => absurd (of_decide_eq_true rfl) c) (fun _ => ?_)
                  refine lv_bipush (v := (-12)) hx hb dX11_taken_61 (of_decide_eq_true rfl) ?_
                  exact hret (-12) σ τ _ _ _ _ rfl ⟨⟨rfl, rfl⟩, (by have h9 := jz_m12; unfold jTk; first | ((repeat (first | rw [if_pos (by omega)] | rw [if_neg (by omega)])) <;> omega) | ((repeat' split) <;> omega)), trivial⟩ hP hS dX11_taken_63
              have kc64 := jne c64 (rfl : (σ 39 (σ 53 a1.toNatClampNeg).toNatClampNeg).toInt = (σ 39 (σ 53 a1.toNatClampNeg).toNatClampNeg).toInt) jz_1
              by_cases c85 : (σ 39 (σ 53 a1.toNatClampNeg).toNatClampNeg) = 2
              · have kc85 := jeq c85 (rfl : (σ 39 (σ 53 a1.toNatClampNeg).toNatClampNeg).toInt = (σ 39 (σ 53 a1.toNatClampNeg).toNatClampNeg).toInt) jz_2
                rw [c85]
                refine jcallS (As := [.int 2, .int a2]) (rest := []) ⟨hx, hb, hml, hown, hts⟩ hK hP hA hS hZ (c_X8_isUnder_2 l D cI cL ad zz hJ σ τ a2 (A2) t2) cw_RX11_321 ⟨Nat.le_of_ble_eq_true rfl, Nat.le_of_ble_eq_true rfl⟩ rfl rfl rfl hl.1 rfl (Nat.le_of_ble_eq_true rfl) dX11_taken_55 ⟨Nat.zero_le _, Nat.zero_le _⟩ (fun r87 σ86 τ86 H locs h86 hP hS => ?_)
                obtain ⟨⟨rfl, rfl⟩, h86⟩ := h86
                rcases h86 with h88 | h89
                · obtain ⟨q91, k90⟩ := h88
                  have q91 := q91.symm
                  subst q91
                  refine lv_if_ne (tgt := 64) hx hb dX11_taken_58 (of_decide_eq_true rfl) (fun _ => ?_) (fun c => absurd c (of_decide_eq_true rfl))
                  refine lv_aload_n hx hb dX11_taken_64 rfl (lv_at hl 1 rfl) ?_
                  refine va_get (D := D) hx hb hts inlX11 hown hK hP 0 (jc_0 cI cL ad σ τ) rfl 7 (of_decide_eq_true rfl) (hts _ kw_2_17) (fun _ h9 => h9) rfl dX11_taken_65 ?_
                  refine lv_iload_n hx hb dX11_taken_68 rfl (lv_at hl 0 rfl) ?_
                  refine jcallV (As := [.int (σ 53 a1.toNatClampNeg)]) (rest := []) ⟨hx, hb, hml, hown, hts⟩ hK hP hA hS hZ (c_X8_kindOf_e l D cI cL ad zz hJ σ τ (σ 53 a1.toNatClampNeg) ((σ 53 a1.toNatClampNeg).toInt) rfl hI38) cw_RX11_183 (jc_38 cI cL ad σ τ) rfl ⟨Nat.le_of_ble_eq_true rfl, Nat.le_of_ble_eq_true rfl⟩ rfl rfl rfl hl.1 rfl (Nat.le_of_ble_eq_true rfl) dX11_taken_69 ⟨Nat.zero_le _, Nat.zero_le _⟩ (fun r93 σ92 τ92 H locs h92 hP hS => ?_)
                  obtain ⟨⟨rfl, rfl⟩, h92⟩ := h92
                  rcases h92 with h94 | h95
                  · obtain ⟨q99, k96, k97, k98⟩ := h94
                    have q100 : r93 = (σ 39 (σ 53 a1.toNatClampNeg).toNatClampNeg) := q99.trans rfl
                    have q100 := q100.symm
                    subst q100
                    exact hret (σ 39 (σ 53 a1.toNatClampNeg).toNatClampNeg) σ τ _ _ _ _ rfl ⟨⟨rfl, rfl⟩, (by unfold jTk; first | ((repeat (first | rw [if_pos (by omega)] | rw [if_neg (by omega)])) <;> omega) | ((repeat' split) <;> omega)), trivial⟩ hP hS dX11_taken_72
                  · obtain ⟨q102, k101⟩ := h95
                    exact absurd (by omega : False) id
                · obtain ⟨q105, k103, k104⟩ := h89
                  have q105 := q105.symm
                  subst q105
                  refine lv_if_ne (tgt := 64) hx hb dX11_taken_58 (of_decide_eq_true rfl) (fun c => absurd (of_decide_eq_true rfl) c) (fun _ => ?_)
                  refine lv_bipush (v := (-12)) hx hb dX11_taken_61 (of_decide_eq_true rfl) ?_
                  exact hret (-12) σ τ _ _ _ _ rfl ⟨⟨rfl, rfl⟩, (by have h9 := jz_m12; unfold jTk; first | ((repeat (first | rw [if_pos (by omega)] | rw [if_neg (by omega)])) <;> omega) | ((repeat' split) <;> omega)), trivial⟩ hP hS dX11_taken_63
              have kc85 := jne c85 (rfl : (σ 39 (σ 53 a1.toNatClampNeg).toNatClampNeg).toInt = (σ 39 (σ 53 a1.toNatClampNeg).toNatClampNeg).toInt) jz_2
              by_cases c106 : (σ 39 (σ 53 a1.toNatClampNeg).toNatClampNeg) = 3
              · have kc106 := jeq c106 (rfl : (σ 39 (σ 53 a1.toNatClampNeg).toNatClampNeg).toInt = (σ 39 (σ 53 a1.toNatClampNeg).toNatClampNeg).toInt) jz_3
                rw [c106]
                refine jcallS (As := [.int 3, .int a2]) (rest := []) ⟨hx, hb, hml, hown, hts⟩ hK hP hA hS hZ (c_X8_isUnder_3 l D cI cL ad zz hJ σ τ a2 (A2) t2) cw_RX11_321 ⟨Nat.le_of_ble_eq_true rfl, Nat.le_of_ble_eq_true rfl⟩ rfl rfl rfl hl.1 rfl (Nat.le_of_ble_eq_true rfl) dX11_taken_55 ⟨Nat.zero_le _, Nat.zero_le _⟩ (fun r108 σ107 τ107 H locs h107 hP hS => ?_)
                obtain ⟨⟨rfl, rfl⟩, h107⟩ := h107
                rcases h107 with h109 | h110
                · obtain ⟨q112, k111⟩ := h109
                  have q112 := q112.symm
                  subst q112
                  refine lv_if_ne (tgt := 64) hx hb dX11_taken_58 (of_decide_eq_true rfl) (fun _ => ?_) (fun c => absurd c (of_decide_eq_true rfl))
                  refine lv_aload_n hx hb dX11_taken_64 rfl (lv_at hl 1 rfl) ?_
                  refine va_get (D := D) hx hb hts inlX11 hown hK hP 0 (jc_0 cI cL ad σ τ) rfl 7 (of_decide_eq_true rfl) (hts _ kw_2_17) (fun _ h9 => h9) rfl dX11_taken_65 ?_
                  refine lv_iload_n hx hb dX11_taken_68 rfl (lv_at hl 0 rfl) ?_
                  refine jcallV (As := [.int (σ 53 a1.toNatClampNeg)]) (rest := []) ⟨hx, hb, hml, hown, hts⟩ hK hP hA hS hZ (c_X8_kindOf_e l D cI cL ad zz hJ σ τ (σ 53 a1.toNatClampNeg) ((σ 53 a1.toNatClampNeg).toInt) rfl hI38) cw_RX11_183 (jc_38 cI cL ad σ τ) rfl ⟨Nat.le_of_ble_eq_true rfl, Nat.le_of_ble_eq_true rfl⟩ rfl rfl rfl hl.1 rfl (Nat.le_of_ble_eq_true rfl) dX11_taken_69 ⟨Nat.zero_le _, Nat.zero_le _⟩ (fun r114 σ113 τ113 H locs h113 hP hS => ?_)
                  obtain ⟨⟨rfl, rfl⟩, h113⟩ := h113
                  rcases h113 with h115 | h116
                  · obtain ⟨q120, k117, k118, k119⟩ := h115
                    have q121 : r114 = (σ 39 (σ 53 a1.toNatClampNeg).toNatClampNeg) := q120.trans rfl
                    have q121 := q121.symm
                    subst q121
                    exact hret (σ 39 (σ 53 a1.toNatClampNeg).toNatClampNeg) σ τ _ _ _ _ rfl ⟨⟨rfl, rfl⟩, (by unfold jTk; first | ((repeat (first | rw [if_pos (by omega)] | rw [if_neg (by omega)])) <;> omega) | ((repeat' split) <;> omega)), trivial⟩ hP hS dX11_taken_72
                  · obtain ⟨q123, k122⟩ := h116
                    exact absurd (by omega : False) id
                · obtain ⟨q127, k124, k125, k126⟩ := h110
                  have q127 := q127.symm
                  subst q127
                  refine lv_if_ne (tgt := 64) hx hb dX11_taken_58 (of_decide_eq_true rfl) (fun c => absurd (of_decide_eq_true rfl) c) (fun _ => ?_)
                  refine lv_bipush (v := (-12)) hx hb dX11_taken_61 (of_decide_eq_true rfl) ?_
                  exact hret (-12) σ τ _ _ _ _ rfl ⟨⟨rfl, rfl⟩, (by have h9 := jz_m12; unfold jTk; first | ((repeat (first | rw [if_pos (by omega)] | rw [if_neg (by omega)])) <;> omega) | ((repeat' split) <;> omega)), trivial⟩ hP hS dX11_taken_63
              have kc106 := jne c106 (rfl : (σ 39 (σ 53 a1.toNatClampNeg).toNatClampNeg).toInt = (σ 39 (σ 53 a1.toNatClampNeg).toNatClampNeg).toInt) jz_3
              by_cases c128 : (σ 39 (σ 53 a1.toNatClampNeg).toNatClampNeg) = 4
              · have kc128 := jeq c128 (rfl : (σ 39 (σ 53 a1.toNatClampNeg).toNatClampNeg).toInt = (σ 39 (σ 53 a1.toNatClampNeg).toNatClampNeg).toInt) jz_4
                rw [c128]
                refine jcallS (As := [.int 4, .int a2]) (rest := []) ⟨hx, hb, hml, hown, hts⟩ hK hP hA hS hZ (c_X8_isUnder_4 l D cI cL ad zz hJ σ τ a2 (A2) t2) cw_RX11_321 ⟨Nat.le_of_ble_eq_true rfl, Nat.le_of_ble_eq_true rfl⟩ rfl rfl rfl hl.1 rfl (Nat.le_of_ble_eq_true rfl) dX11_taken_55 ⟨Nat.zero_le _, Nat.zero_le _⟩ (fun r130 σ129 τ129 H locs h129 hP hS => ?_)
                obtain ⟨⟨rfl, rfl⟩, h129⟩ := h129
                rcases h129 with h131 | h132
                · obtain ⟨q134, k133⟩ := h131
                  have q134 := q134.symm
                  subst q134
                  refine lv_if_ne (tgt := 64) hx hb dX11_taken_58 (of_decide_eq_true rfl) (fun _ => ?_) (fun c => absurd c (of_decide_eq_true rfl))
                  refine lv_aload_n hx hb dX11_taken_64 rfl (lv_at hl 1 rfl) ?_
                  refine va_get (D := D) hx hb hts inlX11 hown hK hP 0 (jc_0 cI cL ad σ τ) rfl 7 (of_decide_eq_true rfl) (hts _ kw_2_17) (fun _ h9 => h9) rfl dX11_taken_65 ?_
                  refine lv_iload_n hx hb dX11_taken_68 rfl (lv_at hl 0 rfl) ?_
                  refine jcallV (As := [.int (σ 53 a1.toNatClampNeg)]) (rest := []) ⟨hx, hb, hml, hown, hts⟩ hK hP hA hS hZ (c_X8_kindOf_e l D cI cL ad zz hJ σ τ (σ 53 a1.toNatClampNeg) ((σ 53 a1.toNatClampNeg).toInt) rfl hI38) cw_RX11_183 (jc_38 cI cL ad σ τ) rfl ⟨Nat.le_of_ble_eq_true rfl, Nat.le_of_ble_eq_true rfl⟩ rfl rfl rfl hl.1 rfl (Nat.le_of_ble_eq_true rfl) dX11_taken_69 ⟨Nat.zero_le _, Nat.zero_le _⟩ (fun r136 σ135 τ135 H locs h135 hP hS => ?_)
                  obtain ⟨⟨rfl, rfl⟩, h135⟩ := h135
                  rcases h135 with h137 | h138
                  · obtain ⟨q142, k139, k140, k141⟩ := h137
                    have q143 : r136 = (σ 39 (σ 53 a1.toNatClampNeg).toNatClampNeg) := q142.trans rfl
                    have q143 := q143.symm
                    subst q143
                    exact hret (σ 39 (σ 53 a1.toNatClampNeg).toNatClampNeg) σ τ _ _ _ _ rfl ⟨⟨rfl, rfl⟩, (by unfold jTk; first | ((repeat (first | rw [if_pos (by omega)] | rw [if_neg (by omega)])) <;> omega) | ((repeat' split) <;> omega)), trivial⟩ hP hS dX11_taken_72
                  · obtain ⟨q145, k144⟩ := h138
                    exact absurd (by omega : False) id
                · obtain ⟨q149, k146, k147, k148⟩ := h132
                  have q149 := q149.symm
                  subst q149
                  refine lv_if_ne (tgt := 64) hx hb dX11_taken_58 (of_decide_eq_true rfl) (fun c => absurd (of_decide_eq_true rfl) c) (fun _ => ?_)
                  refine lv_bipush (v := (-12)) hx hb dX11_taken_61 (of_decide_eq_true rfl) ?_
                  exact hret (-12) σ τ _ _ _ _ rfl ⟨⟨rfl, rfl⟩, (by have h9 := jz_m12; unfold jTk; first | ((repeat (first | rw [if_pos (by omega)] | rw [if_neg (by omega)])) <;> omega) | ((repeat' split) <;> omega)), trivial⟩ hP hS dX11_taken_63
              have kc128 := jne c128 (rfl : (σ 39 (σ 53 a1.toNatClampNeg).toNatClampNeg).toInt = (σ 39 (σ 53 a1.toNatClampNeg).toNatClampNeg).toInt) jz_4
              by_cases c150 : (σ 39 (σ 53 a1.toNatClampNeg).toNatClampNeg) = 5
              · have kc150 := jeq c150 (rfl : (σ 39 (σ 53 a1.toNatClampNeg).toNatClampNeg).toInt = (σ 39 (σ 53 a1.toNatClampNeg).toNatClampNeg).toInt) jz_5
                rw [c150]
                refine jcallS (As := [.int 5, .int a2]) (rest := []) ⟨hx, hb, hml, hown, hts⟩ hK hP hA hS hZ (c_X8_isUnder_5 l D cI cL ad zz hJ σ τ a2 (A2) t2) cw_RX11_321 ⟨Nat.le_of_ble_eq_true rfl, Nat.le_of_ble_eq_true rfl⟩ rfl rfl rfl hl.1 rfl (Nat.le_of_ble_eq_true rfl) dX11_taken_55 ⟨Nat.zero_le _, Nat.zero_le _⟩ (fun r152 σ151 τ151 H locs h151 hP hS => ?_)
                obtain ⟨⟨rfl, rfl⟩, h151⟩ := h151
                rcases h151 with h153 | h154
                · obtain ⟨q156, k155⟩ := h153
                  have q156 := q156.symm
                  subst q156
                  refine lv_if_ne (tgt := 64) hx hb dX11_taken_58 (of_decide_eq_true rfl) (fun _ => ?_) (fun c => absurd c (of_decide_eq_true rfl))
                  refine lv_aload_n hx hb dX11_taken_64 rfl (lv_at hl 1 rfl) ?_
                  refine va_get (D := D) hx hb hts inlX11 hown hK hP 0 (jc_0 cI cL ad σ τ) rfl 7 (of_decide_eq_true rfl) (hts _ kw_2_17) (fun _ h9 => h9) rfl dX11_taken_65 ?_
                  refine lv_iload_n hx hb dX11_taken_68 rfl (lv_at hl 0 rfl) ?_
                  refine jcallV (As := [.int (σ 53 a1.toNatClampNeg)]) (rest := []) ⟨hx, hb, hml, hown, hts⟩ hK hP hA hS hZ (c_X8_kindOf_e l D cI cL ad zz hJ σ τ (σ 53 a1.toNatClampNeg) ((σ 53 a1.toNatClampNeg).toInt) rfl hI38) cw_RX11_183 (jc_38 cI cL ad σ τ) rfl ⟨Nat.le_of_ble_eq_true rfl, Nat.le_of_ble_eq_true rfl⟩ rfl rfl rfl hl.1 rfl (Nat.le_of_ble_eq_true rfl) dX11_taken_69 ⟨Nat.zero_le _, Nat.zero_le _⟩ (fun r158 σ157 τ157 H locs h157 hP hS => ?_)
                  obtain ⟨⟨rfl, rfl⟩, h157⟩ := h157
                  rcases h157 with h159 | h160
                  · obtain ⟨q164, k161, k162, k163⟩ := h159
                    have q165 : r158 = (σ 39 (σ 53 a1.toNatClampNeg).toNatClampNeg) := q164.trans rfl
                    have q165 := q165.symm
                    subst q165
                    exact hret (σ 39 (σ 53 a1.toNatClampNeg).toNatClampNeg) σ τ _ _ _ _ rfl ⟨⟨rfl, rfl⟩, (by unfold jTk; first | ((repeat (first | rw [if_pos (by omega)] | rw [if_neg (by omega)])) <;> omega) | ((repeat' split) <;> omega)), trivial⟩ hP hS dX11_taken_72
                  · obtain ⟨q167, k166⟩ := h160
                    exact absurd (by omega : False) id
                · obtain ⟨q172, k168, k169, k170, k171⟩ := h154
                  have q172 := q172.symm
                  subst q172
                  refine lv_if_ne (tgt := 64) hx hb dX11_taken_58 (of_decide_eq_true rfl) (fun c => absurd (of_decide_eq_true rfl) c) (fun _ => ?_)
                  refine lv_bipush (v := (-12)) hx hb dX11_taken_61 (of_decide_eq_true rfl) ?_
                  exact hret (-12) σ τ _ _ _ _ rfl ⟨⟨rfl, rfl⟩, (by have h9 := jz_m12; unfold jTk; first | ((repeat (first | rw [if_pos (by omega)] | rw [if_neg (by omega)])) <;> omega) | ((repeat' split) <;> omega)), trivial⟩ hP hS dX11_taken_63
              have kc150 := jne c150 (rfl : (σ 39 (σ 53 a1.toNatClampNeg).toNatClampNeg).toInt = (σ 39 (σ 53 a1.toNatClampNeg).toNatClampNeg).toInt) jz_5
              by_cases c173 : (σ 39 (σ 53 a1.toNatClampNeg).toNatClampNeg) = 6
              · have kc173 := jeq c173 (rfl : (σ 39 (σ 53 a1.toNatClampNeg).toNatClampNeg).toInt = (σ 39 (σ 53 a1.toNatClampNeg).toNatClampNeg).toInt) jz_6
                rw [c173]
                refine jcallS (As := [.int 6, .int a2]) (rest := []) ⟨hx, hb, hml, hown, hts⟩ hK hP hA hS hZ (c_X8_isUnder_6 l D cI cL ad zz hJ σ τ a2 (A2) t2) cw_RX11_321 ⟨Nat.le_of_ble_eq_true rfl, Nat.le_of_ble_eq_true rfl⟩ rfl rfl rfl hl.1 rfl (Nat.le_of_ble_eq_true rfl) dX11_taken_55 ⟨Nat.zero_le _, Nat.zero_le _⟩ (fun r175 σ174 τ174 H locs h174 hP hS => ?_)
                obtain ⟨⟨rfl, rfl⟩, h174⟩ := h174
                rcases h174 with h176 | h177
                · obtain ⟨q179, k178⟩ := h176
                  have q179 := q179.symm
                  subst q179
                  refine lv_if_ne (tgt := 64) hx hb dX11_taken_58 (of_decide_eq_true rfl) (fun _ => ?_) (fun c => absurd c (of_decide_eq_true rfl))
                  refine lv_aload_n hx hb dX11_taken_64 rfl (lv_at hl 1 rfl) ?_
                  refine va_get (D := D) hx hb hts inlX11 hown hK hP 0 (jc_0 cI cL ad σ τ) rfl 7 (of_decide_eq_true rfl) (hts _ kw_2_17) (fun _ h9 => h9) rfl dX11_taken_65 ?_
                  refine lv_iload_n hx hb dX11_taken_68 rfl (lv_at hl 0 rfl) ?_
                  refine jcallV (As := [.int (σ 53 a1.toNatClampNeg)]) (rest := []) ⟨hx, hb, hml, hown, hts⟩ hK hP hA hS hZ (c_X8_kindOf_e l D cI cL ad zz hJ σ τ (σ 53 a1.toNatClampNeg) ((σ 53 a1.toNatClampNeg).toInt) rfl hI38) cw_RX11_183 (jc_38 cI cL ad σ τ) rfl ⟨Nat.le_of_ble_eq_true rfl, Nat.le_of_ble_eq_true rfl⟩ rfl rfl rfl hl.1 rfl (Nat.le_of_ble_eq_true rfl) dX11_taken_69 ⟨Nat.zero_le _, Nat.zero_le _⟩ (fun r181 σ180 τ180 H locs h180 hP hS => ?_)
                  obtain ⟨⟨rfl, rfl⟩, h180⟩ := h180
                  rcases h180 with h182 | h183
                  · obtain ⟨q187, k184, k185, k186⟩ := h182
                    have q188 : r181 = (σ 39 (σ 53 a1.toNatClampNeg).toNatClampNeg) := q187.trans rfl
                    have q188 := q188.symm
                    subst q188
                    exact hret (σ 39 (σ 53 a1.toNatClampNeg).toNatClampNeg) σ τ _ _ _ _ rfl ⟨⟨rfl, rfl⟩, (by unfold jTk; first | ((repeat (first | rw [if_pos (by omega)] | rw [if_neg (by omega)])) <;> omega) | ((repeat' split) <;> omega)), trivial⟩ hP hS dX11_taken_72
                  · obtain ⟨q190, k189⟩ := h183
                    exact absurd (by omega : False) id
                · obtain ⟨q193, k191, k192⟩ := h177
                  have q193 := q193.symm
                  subst q193
                  refine lv_if_ne (tgt := 64) hx hb dX11_taken_58 (of_decide_eq_true rfl) (fun c => absurd (of_decide_eq_true rfl) c) (fun _ => ?_)
                  refine lv_bipush (v := (-12)) hx hb dX11_taken_61 (of_decide_eq_true rfl) ?_
                  exact hret (-12) σ τ _ _ _ _ rfl ⟨⟨rfl, rfl⟩, (by have h9 := jz_m12; unfold jTk; first | ((repeat (first | rw [if_pos (by omega)] | rw [if_neg (by omega)])) <;> omega) | ((repeat' split) <;> omega)), trivial⟩ hP hS dX11_taken_63
              have kc173 := jne c173 (rfl : (σ 39 (σ 53 a1.toNatClampNeg).toNatClampNeg).toInt = (σ 39 (σ 53 a1.toNatClampNeg).toNatClampNeg).toInt) jz_6
              exact absurd (by omega : False) id
            · obtain ⟨q195, k194⟩ := h38
              have q195 := q195.symm
              subst q195
              refine lv_iload_n hx hb dX11_taken_54 rfl (lv_at hl 3 rfl) ?_
              refine jcallS (As := [.int 0, .int a2]) (rest := []) ⟨hx, hb, hml, hown, hts⟩ hK hP hA hS hZ (c_X8_isUnder_0 l D cI cL ad zz hJ σ τ a2 (A2) t2) cw_RX11_321 ⟨Nat.le_of_ble_eq_true rfl, Nat.le_of_ble_eq_true rfl⟩ rfl rfl rfl hl.1 rfl (Nat.le_of_ble_eq_true rfl) dX11_taken_55 ⟨Nat.zero_le _, Nat.zero_le _⟩ (fun r197 σ196 τ196 H locs h196 hP hS => ?_)
              obtain ⟨⟨rfl, rfl⟩, h196⟩ := h196
              rcases h196 with h198 | h199
              · obtain ⟨q201, k200⟩ := h198
                have q201 := q201.symm
                subst q201
                refine lv_if_ne (tgt := 64) hx hb dX11_taken_58 (of_decide_eq_true rfl) (fun _ => ?_) (fun c => absurd c (of_decide_eq_true rfl))
                refine lv_aload_n hx hb dX11_taken_64 rfl (lv_at hl 1 rfl) ?_
                refine va_get (D := D) hx hb hts inlX11 hown hK hP 0 (jc_0 cI cL ad σ τ) rfl 7 (of_decide_eq_true rfl) (hts _ kw_2_17) (fun _ h9 => h9) rfl dX11_taken_65 ?_
                refine lv_iload_n hx hb dX11_taken_68 rfl (lv_at hl 0 rfl) ?_
                refine jcallV (As := [.int (σ 53 a1.toNatClampNeg)]) (rest := []) ⟨hx, hb, hml, hown, hts⟩ hK hP hA hS hZ (c_X8_kindOf_e l D cI cL ad zz hJ σ τ (σ 53 a1.toNatClampNeg) ((σ 53 a1.toNatClampNeg).toInt) rfl hI38) cw_RX11_183 (jc_38 cI cL ad σ τ) rfl ⟨Nat.le_of_ble_eq_true rfl, Nat.le_of_ble_eq_true rfl⟩ rfl rfl rfl hl.1 rfl (Nat.le_of_ble_eq_true rfl) dX11_taken_69 ⟨Nat.zero_le _, Nat.zero_le _⟩ (fun r203 σ202 τ202 H locs h202 hP hS => ?_)
                obtain ⟨⟨rfl, rfl⟩, h202⟩ := h202
                rcases h202 with h204 | h205
                · obtain ⟨q209, k206, k207, k208⟩ := h204
                  exact absurd (by omega : False) id
                · obtain ⟨q211, k210⟩ := h205
                  have q211 := q211.symm
                  subst q211
                  exact hret 0 σ τ _ _ _ _ rfl ⟨⟨rfl, rfl⟩, (by have h9 := jz_0; unfold jTk; first | ((repeat (first | rw [if_pos (by omega)] | rw [if_neg (by omega)])) <;> omega) | ((repeat' split) <;> omega)), trivial⟩ hP hS dX11_taken_72
              · obtain ⟨q213, k212⟩ := h199
                have q213 := q213.symm
                subst q213
                refine lv_if_ne (tgt := 64) hx hb dX11_taken_58 (of_decide_eq_true rfl) (fun c => absurd (of_decide_eq_true rfl) c) (fun _ => ?_)
                refine lv_bipush (v := (-12)) hx hb dX11_taken_61 (of_decide_eq_true rfl) ?_
                exact hret (-12) σ τ _ _ _ _ rfl ⟨⟨rfl, rfl⟩, (by have h9 := jz_m12; unfold jTk; first | ((repeat (first | rw [if_pos (by omega)] | rw [if_neg (by omega)])) <;> omega) | ((repeat' split) <;> omega)), trivial⟩ hP hS dX11_taken_63
        · obtain ⟨q215, k214⟩ := h30
          exact absurd (by omega : False) id
      · obtain ⟨q217, k216⟩ := h23
        have q217 := q217.symm
        subst q217
        refine lv_if_eq (tgt := 33) hx hb dX11_taken_27 (of_decide_eq_true rfl) (fun c => absurd c (of_decide_eq_true rfl)) (fun _ => ?_)
        refine lv_bipush (v := (-11)) hx hb dX11_taken_30 (of_decide_eq_true rfl) ?_
        exact hret (-11) σ τ _ _ _ _ rfl ⟨⟨rfl, rfl⟩, (by have h9 := jz_m11; unfold jTk; first | ((repeat (first | rw [if_pos (by omega)] | rw [if_neg (by omega)])) <;> omega) | ((repeat' split) <;> omega)), trivial⟩ hP hS dX11_taken_32
set_option maxHeartbeats 4000000 in
set_option maxRecDepth 100000 in
theorem c_X11_count (l : Launch) (D : va_G) (cI cL : ClassId) (ad zz : Nat → Nat) (hJ : jD ad) (σ : Nat → Nat → Int32) (τ : Nat → Nat → Int64) (a1 : Int32) (A1 : Int) (t1 : a1.toInt = A1) (hI2 : jI2 σ) (hI9 : jI9 σ) (hI38 : jI38 σ) (hI47 : jI47 σ) : jM l yX11_count cX11_count 2 (some .int) ({ frames := 0, cells := 0, slots := 0, locals := 0 }) D cI cL ad zz [.ref (ad 0), .int a1] σ τ (fun r σ' τ' => (σ = σ' ∧ τ = τ') ∧ ((True ∧ (A1 = 0) ∧ (r.toInt = (σ 2 0).toInt)) ∨ (True ∧ (A1 = 1) ∧ (r.toInt = (σ 38 0).toInt)) ∨ (True ∧ (A1 = 2) ∧ (r.toInt = (σ 9 0).toInt)) ∨ (True ∧ (A1 = 3) ∧ (r.toInt = (σ 47 0).toInt)) ∨ (True ∧ (A1 = 4) ∧ (r.toInt = (σ 2 2).toInt)) ∨ (True ∧ (A1 = 5) ∧ (r.toInt = (σ 38 1).toInt)) ∨ (r = (-1) ∧ ((A1 < 0) ∨ (5 < A1))))) := by
  refine jM.of hJ (by decide +kernel) (nt := .int) rfl (Nat.le_of_ble_eq_true rfl) ?_
  intro p e s m args below meth c Q ls hC hret hl hP
  obtain ⟨hx, hb, hr, hml, hown, hts, hK, -, hlocks, hZ⟩ := hC
  have hown : s.vm.findClass RX11 = some m.cls := hown
  have hS : va_S (jA ad) s.heap s.heap [] := va_S.rf
  have hA : ∀ q, jA ad q → jA ad q := fun _ h => h
  have hl : lv_has ls 2 [(0, .ref (ad 0)), (1, .int a1)] := hl
  have g1 := jrg t1
  obtain ⟨i1, i2, i3, i4, i5, w6, w7⟩ : (0 ≤ (σ 2 0).toInt ∧ (σ 2 0).toInt ≤ 4) ∧ (0 ≤ (σ 2 1).toInt ∧ (σ 2 1).toInt ≤ 3) ∧ (0 ≤ (σ 2 2).toInt) ∧ (0 ≤ (σ 2 3).toInt) ∧ ((σ 2 2).toInt + (σ 2 3).toInt ≤ 40) ∧ (∀ k : Nat, k < 40 → 0 ≤ (σ 6 k).toInt ∧ (σ 6 k).toInt ≤ 67) ∧ (∀ k : Nat, k < 4 → 0 ≤ (σ 5 k).toInt ∧ (σ 5 k).toInt ≤ 20) := id hI2
  obtain ⟨i8, w9, w10⟩ : (0 ≤ (σ 9 0).toInt ∧ (σ 9 0).toInt ≤ 80) ∧ (∀ k : Nat, k < 80 → 0 ≤ (σ 10 k).toInt ∧ (σ 10 k).toInt ≤ 255) ∧ (∀ k : Nat, k < 8 → 0 ≤ (σ 11 k).toInt ∧ (σ 11 k).toInt ≤ 3) := id hI9
  obtain ⟨i11, i12, w13⟩ : (0 ≤ (σ 38 0).toInt ∧ (σ 38 0).toInt ≤ 20) ∧ (0 ≤ (σ 38 1).toInt ∧ (σ 38 1).toInt ≤ 1000) ∧ (∀ k : Nat, k < 20 → 0 ≤ (σ 39 k).toInt ∧ (σ 39 k).toInt ≤ 6) := id hI38
  obtain ⟨i14, w15, w16⟩ : (0 ≤ (σ 47 0).toInt ∧ (σ 47 0).toInt ≤ 12) ∧ (∀ k : Nat, k < 12 → 0 ≤ (σ 48 k).toInt ∧ (σ 48 k).toInt ≤ 3) ∧ (∀ k : Nat, k < 12 → 0 ≤ (σ 49 k).toInt ∧ (σ 49 k).toInt ≤ 1) := id hI47
  refine lv_iload_n hx hb dX11_count_0 rfl (lv_at hl 1 rfl) ?_
  by_cases c17 : a1 = 0
  · have kc17 := jeq c17 t1 jz_0
    refine jtopr c17 ?_
    refine lv_tableIn (off := 39) (tgt := 40) hx hb dX11_count_1 (of_decide_eq_true rfl) (of_decide_eq_true rfl) (of_decide_eq_true rfl) (of_decide_eq_true rfl) ?_
    refine lv_aload_n hx hb dX11_count_40 rfl (lv_at hl 0 rfl) ?_
    refine va_get (D := D) hx hb hts inlX11 hown hK hP 0 (jc_0 cI cL ad σ τ) rfl 0 (of_decide_eq_true rfl) (hts _ kw_1_16) (fun _ h9 => h9) rfl dX11_count_41 ?_
    refine va_get (D := D) hx hb hts inlX4 hown hK hP 2 (jc_2 cI cL ad σ τ) rfl 0 (of_decide_eq_true rfl) (hts _ kw_8_21) (fun _ h9 => h9) rfl dX11_count_44 ?_
    exact by exact hret (σ 2 0) σ τ _ _ _ _ rfl ⟨⟨rfl, rfl⟩, Or.inl ⟨trivial, (by omega), (by omega)⟩⟩ hP hS dX11_count_47
  have kc17 := jne c17 t1 jz_0
  by_cases c18 : a1 = 1
  · have kc18 := jeq c18 t1 jz_1
    refine jtopr c18 ?_
    refine lv_tableIn (off := 47) (tgt := 48) hx hb dX11_count_1 (of_decide_eq_true rfl) (of_decide_eq_true rfl) (of_decide_eq_true rfl) (of_decide_eq_true rfl) ?_
    refine lv_aload_n hx hb dX11_count_48 rfl (lv_at hl 0 rfl) ?_
    refine va_get (D := D) hx hb hts inlX11 hown hK hP 0 (jc_0 cI cL ad σ τ) rfl 7 (of_decide_eq_true rfl) (hts _ kw_2_17) (fun _ h9 => h9) rfl dX11_count_49 ?_
    refine va_get (D := D) hx hb hts inlX8 hown hK hP 38 (jc_38 cI cL ad σ τ) rfl 0 (of_decide_eq_true rfl) (hts _ kw_24_8) (fun _ h9 => h9) rfl dX11_count_52 ?_
    exact by exact hret (σ 38 0) σ τ _ _ _ _ rfl ⟨⟨rfl, rfl⟩, Or.inr (Or.inl ⟨trivial, (by omega), (by omega)⟩)⟩ hP hS dX11_count_55
  have kc18 := jne c18 t1 jz_1
  by_cases c19 : a1 = 2
  · have kc19 := jeq c19 t1 jz_2
    refine jtopr c19 ?_
    refine lv_tableIn (off := 55) (tgt := 56) hx hb dX11_count_1 (of_decide_eq_true rfl) (of_decide_eq_true rfl) (of_decide_eq_true rfl) (of_decide_eq_true rfl) ?_
    refine lv_aload_n hx hb dX11_count_56 rfl (lv_at hl 0 rfl) ?_
    refine va_get (D := D) hx hb hts inlX11 hown hK hP 0 (jc_0 cI cL ad σ τ) rfl 1 (of_decide_eq_true rfl) (hts _ kw_1_20) (fun _ h9 => h9) rfl dX11_count_57 ?_
    refine va_get (D := D) hx hb hts inlX7 hown hK hP 9 (jc_9 cI cL ad σ τ) rfl 0 (of_decide_eq_true rfl) (hts _ kw_12_19) (fun _ h9 => h9) rfl dX11_count_60 ?_
    exact by exact hret (σ 9 0) σ τ _ _ _ _ rfl ⟨⟨rfl, rfl⟩, Or.inr (Or.inr (Or.inl ⟨trivial, (by omega), (by omega)⟩))⟩ hP hS dX11_count_63
  have kc19 := jne c19 t1 jz_2
  by_cases c20 : a1 = 3
  · have kc20 := jeq c20 t1 jz_3
    refine jtopr c20 ?_
    refine lv_tableIn (off := 63) (tgt := 64) hx hb dX11_count_1 (of_decide_eq_true rfl) (of_decide_eq_true rfl) (of_decide_eq_true rfl) (of_decide_eq_true rfl) ?_
    refine lv_aload_n hx hb dX11_count_64 rfl (lv_at hl 0 rfl) ?_
    refine va_get (D := D) hx hb hts inlX11 hown hK hP 0 (jc_0 cI cL ad σ τ) rfl 9 (of_decide_eq_true rfl) (hts _ kw_3_1) (fun _ h9 => h9) rfl dX11_count_65 ?_
    refine va_get (D := D) hx hb hts inlX2 hown hK hP 47 (jc_47 cI cL ad σ τ) rfl 0 (of_decide_eq_true rfl) (hts _ kw_13_11) (fun _ h9 => h9) rfl dX11_count_68 ?_
    exact by exact hret (σ 47 0) σ τ _ _ _ _ rfl ⟨⟨rfl, rfl⟩, Or.inr (Or.inr (Or.inr (Or.inl ⟨trivial, (by omega), (by omega)⟩)))⟩ hP hS dX11_count_71
  have kc20 := jne c20 t1 jz_3
  by_cases c21 : a1 = 4
  · have kc21 := jeq c21 t1 jz_4
    refine jtopr c21 ?_
    refine lv_tableIn (off := 71) (tgt := 72) hx hb dX11_count_1 (of_decide_eq_true rfl) (of_decide_eq_true rfl) (of_decide_eq_true rfl) (of_decide_eq_true rfl) ?_
    refine lv_aload_n hx hb dX11_count_72 rfl (lv_at hl 0 rfl) ?_
    refine va_get (D := D) hx hb hts inlX11 hown hK hP 0 (jc_0 cI cL ad σ τ) rfl 0 (of_decide_eq_true rfl) (hts _ kw_1_16) (fun _ h9 => h9) rfl dX11_count_73 ?_
    refine va_get (D := D) hx hb hts inlX4 hown hK hP 2 (jc_2 cI cL ad σ τ) rfl 2 (of_decide_eq_true rfl) (hts _ kw_47_8) (fun _ h9 => h9) rfl dX11_count_76 ?_
    exact by exact hret (σ 2 2) σ τ _ _ _ _ rfl ⟨⟨rfl, rfl⟩, Or.inr (Or.inr (Or.inr (Or.inr (Or.inl ⟨trivial, (by omega), (by omega)⟩))))⟩ hP hS dX11_count_79
  have kc21 := jne c21 t1 jz_4
  by_cases c22 : a1 = 5
  · have kc22 := jeq c22 t1 jz_5
    refine jtopr c22 ?_
    refine lv_tableIn (off := 79) (tgt := 80) hx hb dX11_count_1 (of_decide_eq_true rfl) (of_decide_eq_true rfl) (of_decide_eq_true rfl) (of_decide_eq_true rfl) ?_
    refine lv_aload_n hx hb dX11_count_80 rfl (lv_at hl 0 rfl) ?_
    refine va_get (D := D) hx hb hts inlX11 hown hK hP 0 (jc_0 cI cL ad σ τ) rfl 7 (of_decide_eq_true rfl) (hts _ kw_2_17) (fun _ h9 => h9) rfl dX11_count_81 ?_
    refine va_get (D := D) hx hb hts inlX8 hown hK hP 38 (jc_38 cI cL ad σ τ) rfl 1 (of_decide_eq_true rfl) (hts _ kw_48_10) (fun _ h9 => h9) rfl dX11_count_84 ?_
    exact by exact hret (σ 38 1) σ τ _ _ _ _ rfl ⟨⟨rfl, rfl⟩, Or.inr (Or.inr (Or.inr (Or.inr (Or.inr (Or.inl ⟨trivial, (by omega), (by omega)⟩)))))⟩ hP hS dX11_count_87
  have kc22 := jne c22 t1 jz_5
  exact by
   refine lv_tableOut (tgt := 88) hx hb dX11_count_1 (by rw [t1]; omega) (of_decide_eq_true rfl) ?_
   refine lv_iconst (v := (-1)) hx hb dX11_count_88 (of_decide_eq_true rfl) ?_
   exact hret (-1) σ τ _ _ _ _ rfl ⟨⟨rfl, rfl⟩, Or.inr (Or.inr (Or.inr (Or.inr (Or.inr (Or.inr (⟨rfl, (by have h9 := jz_m1; omega)⟩))))))⟩ hP hS dX11_count_89
