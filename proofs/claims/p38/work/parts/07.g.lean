set_option maxHeartbeats 4000000 in
set_option maxRecDepth 100000 in
theorem c_X11_bowler (l : Launch) (D : va_G) (cI cL : ClassId) (ad zz : Nat → Nat) (hJ : jD ad) (σ : Nat → Nat → Int32) (τ : Nat → Nat → Int64) (a1 : Int32) (A1 : Int) (t1 : a1.toInt = A1) (a2 : Int32) (A2 : Int) (t2 : a2.toInt = A2) (a3 : Int32) (A3 : Int) (t3 : a3.toInt = A3) (hI2 : jI2 σ) : jM l yX11_bowler cX11_bowler 4 (some .int) ({ frames := 1, cells := 0, slots := 0, locals := 25 }) D cI cL ad zz [.ref (ad 0), .int a1, .int a2, .int a3] σ τ (fun r σ' τ' => τ = τ' ∧ (∀ i : Nat, (i < 2 ∨ 5 < i) → σ' i = σ i) ∧ (∀ k : Nat, (k < 0 ∨ 0 < k) → σ' 2 k = σ 2 k) ∧ (jI2 σ') ∧ ((r = (-1) ∧ ((A1 < 0) ∨ (8 < A1) ∨ (A2 < 0) ∨ (50 < A2) ∨ (A3 < 0) ∨ (20 < A3)) ∧ ((σ' 2 0).toInt = (σ 2 0).toInt) ∧ (σ' 3 = σ 3)) ∨ (r = (-3) ∧ (0 ≤ A1 ∧ A1 ≤ 8) ∧ (0 ≤ A2 ∧ A2 ≤ 50) ∧ (0 ≤ A3 ∧ A3 ≤ 20) ∧ ((σ 2 0).toInt = 4) ∧ ((σ' 2 0).toInt = 4) ∧ (σ' 3 = σ 3)) ∨ (True ∧ (0 ≤ A1 ∧ A1 ≤ 8) ∧ (0 ≤ A2 ∧ A2 ≤ 50) ∧ (0 ≤ A3 ∧ A3 ≤ 20) ∧ ((σ 2 0).toInt < 4) ∧ (r.toInt = (σ 2 0).toInt) ∧ ((σ' 2 0).toInt = (σ 2 0).toInt + 1) ∧ (jJn ((σ 2 0).toInt) a1 (σ 3) (σ' 3))))) := by
  refine jM.of hJ (by decide +kernel) (nt := .int) rfl (Nat.le_of_ble_eq_true rfl) ?_
  intro p e s m args below meth c Q ls hC hret hl hP
  obtain ⟨hx, hb, hr, hml, hown, hts, hK, -, hlocks, hZ⟩ := hC
  have hown : s.vm.findClass RX11 = some m.cls := hown
  have hS : va_S (jA ad) s.heap s.heap [] := va_S.rf
  have hA : ∀ q, jA ad q → jA ad q := fun _ h => h
  have hl : lv_has ls 4 [(0, .ref (ad 0)), (1, .int a1), (2, .int a2), (3, .int a3)] := hl
  have g1 := jrg t1
  have g2 := jrg t2
  have g3 := jrg t3
  obtain ⟨i1, i2, i3, i4, i5, w6⟩ : (0 ≤ (σ 2 0).toInt ∧ (σ 2 0).toInt ≤ 4) ∧ (0 ≤ (σ 2 1).toInt ∧ (σ 2 1).toInt ≤ 3) ∧ (0 ≤ (σ 2 2).toInt) ∧ (0 ≤ (σ 2 3).toInt) ∧ ((σ 2 2).toInt + (σ 2 3).toInt ≤ 40) ∧ (∀ k : Nat, k < 40 → 0 ≤ (σ 6 k).toInt ∧ (σ 6 k).toInt ≤ 67) := id hI2
  refine lv_iload_n hx hb dX11_bowler_0 rfl (lv_at hl 1 rfl) ?_
  refine lv_iconst (v := 0) hx hb dX11_bowler_1 (of_decide_eq_true rfl) ?_
  refine lv_bipush (v := 8) hx hb dX11_bowler_2 (of_decide_eq_true rfl) ?_
  refine jcallS (As := [.int a1, .int 0, .int 8]) (rest := []) ⟨hx, hb, hml, hown, hts⟩ hK hP hA hS hZ (c_X11_outside l D cI cL ad zz hJ σ τ a1 (A1) t1 0 (0) jz_0 8 (8) jz_8) cw_RX11_94 ⟨Nat.le_of_ble_eq_true rfl, Nat.le_of_ble_eq_true rfl⟩ rfl rfl rfl hl.1 rfl (Nat.le_of_ble_eq_true rfl) dX11_bowler_4 ⟨Nat.zero_le _, Nat.zero_le _⟩ (fun r8 σ7 τ7 H locs h7 hP hS => ?_)
  obtain ⟨⟨rfl, rfl⟩, h7⟩ := h7
  rcases h7 with h9 | h10
  · obtain ⟨q12, k11⟩ := h9
    have q12 := q12.symm
    subst q12
    refine lv_if_ne (tgt := 30) hx hb dX11_bowler_7 (of_decide_eq_true rfl) (fun _ => ?_) (fun c => absurd c (of_decide_eq_true rfl))
    refine lv_iconst (v := (-1)) hx hb dX11_bowler_30 (of_decide_eq_true rfl) ?_
    exact by exact hret (-1) σ τ _ _ _ _ rfl ⟨rfl, (fun _ _ => rfl), (fun _ _ => rfl), hI2, Or.inl ⟨rfl, (by have h9 := jz_m1; omega), (by have h9 := jz_m1; omega), rfl⟩⟩ hP hS dX11_bowler_31
  · obtain ⟨q14, k13⟩ := h10
    have q14 := q14.symm
    subst q14
    refine lv_if_ne (tgt := 30) hx hb dX11_bowler_7 (of_decide_eq_true rfl) (fun c => absurd (of_decide_eq_true rfl) c) (fun _ => ?_)
    refine lv_iload_n hx hb dX11_bowler_10 rfl (lv_at hl 2 rfl) ?_
    refine lv_iconst (v := 0) hx hb dX11_bowler_11 (of_decide_eq_true rfl) ?_
    refine lv_bipush (v := 50) hx hb dX11_bowler_12 (of_decide_eq_true rfl) ?_
    refine jcallS (As := [.int a2, .int 0, .int 50]) (rest := []) ⟨hx, hb, hml, hown, hts⟩ hK hP hA hS hZ (c_X11_outside l D cI cL ad zz hJ σ τ a2 (A2) t2 0 (0) jz_0 50 (50) jz_50) cw_RX11_94 ⟨Nat.le_of_ble_eq_true rfl, Nat.le_of_ble_eq_true rfl⟩ rfl rfl rfl hl.1 rfl (Nat.le_of_ble_eq_true rfl) dX11_bowler_14 ⟨Nat.zero_le _, Nat.zero_le _⟩ (fun r16 σ15 τ15 H locs h15 hP hS => ?_)
    obtain ⟨⟨rfl, rfl⟩, h15⟩ := h15
    rcases h15 with h17 | h18
    · obtain ⟨q20, k19⟩ := h17
      have q20 := q20.symm
      subst q20
      refine lv_if_ne (tgt := 30) hx hb dX11_bowler_17 (of_decide_eq_true rfl) (fun _ => ?_) (fun c => absurd c (of_decide_eq_true rfl))
      refine lv_iconst (v := (-1)) hx hb dX11_bowler_30 (of_decide_eq_true rfl) ?_
      exact by exact hret (-1) σ τ _ _ _ _ rfl ⟨rfl, (fun _ _ => rfl), (fun _ _ => rfl), hI2, Or.inl ⟨rfl, (by have h9 := jz_m1; omega), (by have h9 := jz_m1; omega), rfl⟩⟩ hP hS dX11_bowler_31
    · obtain ⟨q22, k21⟩ := h18
      have q22 := q22.symm
      subst q22
      refine lv_if_ne (tgt := 30) hx hb dX11_bowler_17 (of_decide_eq_true rfl) (fun c => absurd (of_decide_eq_true rfl) c) (fun _ => ?_)
      refine lv_iload_n hx hb dX11_bowler_20 rfl (lv_at hl 3 rfl) ?_
      refine lv_iconst (v := 0) hx hb dX11_bowler_21 (of_decide_eq_true rfl) ?_
      refine lv_bipush (v := 20) hx hb dX11_bowler_22 (of_decide_eq_true rfl) ?_
      refine jcallS (As := [.int a3, .int 0, .int 20]) (rest := []) ⟨hx, hb, hml, hown, hts⟩ hK hP hA hS hZ (c_X11_outside l D cI cL ad zz hJ σ τ a3 (A3) t3 0 (0) jz_0 20 (20) jz_20) cw_RX11_94 ⟨Nat.le_of_ble_eq_true rfl, Nat.le_of_ble_eq_true rfl⟩ rfl rfl rfl hl.1 rfl (Nat.le_of_ble_eq_true rfl) dX11_bowler_24 ⟨Nat.zero_le _, Nat.zero_le _⟩ (fun r24 σ23 τ23 H locs h23 hP hS => ?_)
      obtain ⟨⟨rfl, rfl⟩, h23⟩ := h23
      rcases h23 with h25 | h26
      · obtain ⟨q28, k27⟩ := h25
        have q28 := q28.symm
        subst q28
        refine lv_if_eq (tgt := 32) hx hb dX11_bowler_27 (of_decide_eq_true rfl) (fun c => absurd c (of_decide_eq_true rfl)) (fun _ => ?_)
        refine lv_iconst (v := (-1)) hx hb dX11_bowler_30 (of_decide_eq_true rfl) ?_
        exact by exact hret (-1) σ τ _ _ _ _ rfl ⟨rfl, (fun _ _ => rfl), (fun _ _ => rfl), hI2, Or.inl ⟨rfl, (by have h9 := jz_m1; omega), (by have h9 := jz_m1; omega), rfl⟩⟩ hP hS dX11_bowler_31
      · obtain ⟨q30, k29⟩ := h26
        have q30 := q30.symm
        subst q30
        refine lv_if_eq (tgt := 32) hx hb dX11_bowler_27 (of_decide_eq_true rfl) (fun _ => ?_) (fun c => absurd (of_decide_eq_true rfl) c)
        refine lv_aload_n hx hb dX11_bowler_32 rfl (lv_at hl 0 rfl) ?_
        refine va_get (D := D) hx hb hts inlX11 hown hK hP 0 (jc_0 cI cL ad σ τ) rfl 0 (of_decide_eq_true rfl) (hts _ kw_1_16) (fun _ h9 => h9) rfl dX11_bowler_33 ?_
        refine va_get (D := D) hx hb hts inlX4 hown hK hP 2 (jc_2 cI cL ad σ τ) rfl 0 (of_decide_eq_true rfl) (hts _ kw_8_21) (fun _ h9 => h9) rfl dX11_bowler_36 ?_
        refine lv_iconst (v := 4) hx hb dX11_bowler_39 (of_decide_eq_true rfl) ?_
        refine lv_icmp_lt (tgt := 46) hx hb dX11_bowler_40 (of_decide_eq_true rfl) (fun c31 => ?_) (fun c31 => ?_)
        · have kc31 := jlt c31 rfl jz_4
          refine lv_aload_n hx hb dX11_bowler_46 rfl (lv_at hl 0 rfl) ?_
          refine va_get (D := D) hx hb hts inlX11 hown hK hP 0 (jc_0 cI cL ad σ τ) rfl 0 (of_decide_eq_true rfl) (hts _ kw_1_16) (fun _ h9 => h9) rfl dX11_bowler_47 ?_
          refine lv_iload_n hx hb dX11_bowler_50 rfl (lv_at hl 1 rfl) ?_
          refine lv_iload_n hx hb dX11_bowler_51 rfl (lv_at hl 2 rfl) ?_
          refine lv_iload_n hx hb dX11_bowler_52 rfl (lv_at hl 3 rfl) ?_
          refine jcallV (As := [.int a1, .int a2, .int a3]) (rest := []) ⟨hx, hb, hml, hown, hts⟩ hK hP hA hS hZ (c_X4_join_2 l D cI cL ad zz hJ σ τ a1 (A1) t1 a2 (A2) t2 a3 (A3) t3 hI2) cw_RX11_102 (jc_2 cI cL ad σ τ) rfl ⟨Nat.le_of_ble_eq_true rfl, Nat.le_of_ble_eq_true rfl⟩ rfl rfl rfl hl.1 rfl (Nat.le_of_ble_eq_true rfl) dX11_bowler_53 ⟨Nat.zero_le _, Nat.zero_le _⟩ (fun r33 σ32 τ32 H locs h32 hP hS => ?_)
          obtain ⟨rfl, f34, f35, I36, h32⟩ := h32
          obtain ⟨i38, i39, i40, i41, i42, w43⟩ : (0 ≤ (σ32 2 0).toInt ∧ (σ32 2 0).toInt ≤ 4) ∧ (0 ≤ (σ32 2 1).toInt ∧ (σ32 2 1).toInt ≤ 3) ∧ (0 ≤ (σ32 2 2).toInt) ∧ (0 ≤ (σ32 2 3).toInt) ∧ ((σ32 2 2).toInt + (σ32 2 3).toInt ≤ 40) ∧ (∀ k : Nat, k < 40 → 0 ≤ (σ32 6 k).toInt ∧ (σ32 6 k).toInt ≤ 67) := id I36
          have z44 : (σ32 2 1).toInt = (σ 2 1).toInt := (congrArg Int32.toInt (show σ32 2 1 = (σ 2 1) from (f35 1 (of_decide_eq_true rfl))))
          have z45 : (σ32 2 2).toInt = (σ 2 2).toInt := (congrArg Int32.toInt (show σ32 2 2 = (σ 2 2) from (f35 2 (of_decide_eq_true rfl))))
          have z46 : (σ32 2 3).toInt = (σ 2 3).toInt := (congrArg Int32.toInt (show σ32 2 3 = (σ 2 3) from (f35 3 (of_decide_eq_true rfl))))
          rcases h32 with h47 | h48
          · obtain ⟨q52, k49, k50, k51⟩ := h47
            exact absurd (by omega : False) id
          · obtain ⟨q57, k53, k54, k55, k56⟩ := h48
            exact by exact hret r33 σ32 τ _ _ _ _ rfl ⟨rfl, (fun i hi => (f34 i hi)), (fun i hi => (f35 i hi)), I36, Or.inr (Or.inr (⟨trivial, (by omega), (by omega), (by omega), (by omega), (by omega), (by omega), k56⟩))⟩ hP hS dX11_bowler_56
        · have kc31 := jnlt c31 rfl jz_4
          refine lv_bipush (v := (-3)) hx hb dX11_bowler_43 (of_decide_eq_true rfl) ?_
          exact by exact hret (-3) σ τ _ _ _ _ rfl ⟨rfl, (fun _ _ => rfl), (fun _ _ => rfl), hI2, Or.inr (Or.inl ⟨rfl, (by have h9 := jz_m3; omega), (by have h9 := jz_m3; omega), (by have h9 := jz_m3; omega), (by have h9 := jz_m3; omega), (by have h9 := jz_m3; omega), rfl⟩)⟩ hP hS dX11_bowler_45
set_option maxHeartbeats 4000000 in
set_option maxRecDepth 100000 in
theorem c_X11_edgePlace (l : Launch) (D : va_G) (cI cL : ClassId) (ad zz : Nat → Nat) (hJ : jD ad) (σ : Nat → Nat → Int32) (τ : Nat → Nat → Int64) (a1 : Int32) (A1 : Int) (t1 : a1.toInt = A1) (a2 : Int32) (A2 : Int) (t2 : a2.toInt = A2) (hI2 : jI2 σ) : jM l yX11_edgePlace cX11_edgePlace 3 (some .int) ({ frames := 2, cells := 0, slots := 0, locals := 43 }) D cI cL ad zz [.ref (ad 0), .int a1, .int a2] σ τ (fun r σ' τ' => (σ = σ' ∧ τ = τ') ∧ ((True ∧ (A2 = 0) ∧ (0 ≤ A1) ∧ ((A1 / 10) < (σ 2 0).toInt) ∧ ((A1 % 10) ≤ 3) ∧ (r.toInt = 4 * (A1 / 10) + (A1 % 10))) ∨ (True ∧ (A2 = 1) ∧ (0 ≤ A1) ∧ ((A1 / 10) < (σ 2 0).toInt) ∧ ((A1 % 10) ≤ 3) ∧ (r.toInt = 4 * (A1 / 10) + (A1 % 10) + 16)) ∨ (True ∧ (A2 = 2) ∧ (0 ≤ A1) ∧ ((A1 / 10) < (σ 2 0).toInt) ∧ (r.toInt = (A1 / 10) + 32)) ∨ (r = (-1) ∧ ((A1 < 0) ∨ (0 ≤ A1 ∧ (σ 2 0).toInt ≤ (A1 / 10)) ∨ (A2 < 0) ∨ (2 < A2) ∨ (A2 = 0 ∧ 3 < (A1 % 10)) ∨ (A2 = 1 ∧ 3 < (A1 % 10)))))) := by
  refine jM.of hJ (by decide +kernel) (nt := .int) rfl (Nat.le_of_ble_eq_true rfl) ?_
  intro p e s m args below meth c Q ls hC hret hl hP
  obtain ⟨hx, hb, hr, hml, hown, hts, hK, -, hlocks, hZ⟩ := hC
  have hown : s.vm.findClass RX11 = some m.cls := hown
  have hS : va_S (jA ad) s.heap s.heap [] := va_S.rf
  have hA : ∀ q, jA ad q → jA ad q := fun _ h => h
  have hl : lv_has ls 3 [(0, .ref (ad 0)), (1, .int a1), (2, .int a2)] := hl
  have g1 := jrg t1
  have g2 := jrg t2
  obtain ⟨i1, i2, i3, i4, i5, w6⟩ : (0 ≤ (σ 2 0).toInt ∧ (σ 2 0).toInt ≤ 4) ∧ (0 ≤ (σ 2 1).toInt ∧ (σ 2 1).toInt ≤ 3) ∧ (0 ≤ (σ 2 2).toInt) ∧ (0 ≤ (σ 2 3).toInt) ∧ ((σ 2 2).toInt + (σ 2 3).toInt ≤ 40) ∧ (∀ k : Nat, k < 40 → 0 ≤ (σ 6 k).toInt ∧ (σ 6 k).toInt ≤ 67) := id hI2
  refine lv_iload_n hx hb dX11_edgePlace_0 rfl (lv_at hl 1 rfl) ?_
  refine lv_if_lt (tgt := 15) hx hb dX11_edgePlace_1 (of_decide_eq_true rfl) (fun c7 => ?_) (fun c7 => ?_)
  · have kc7 := jlt c7 t1 jz_0
    refine lv_iconst (v := (-1)) hx hb dX11_edgePlace_15 (of_decide_eq_true rfl) ?_
    exact hret (-1) σ τ _ _ _ _ rfl ⟨⟨rfl, rfl⟩, Or.inr (Or.inr (Or.inr (⟨rfl, (by have h9 := jz_m1; omega)⟩)))⟩ hP hS dX11_edgePlace_16
  · have kc7 := jnlt c7 t1 jz_0
    refine lv_aload_n hx hb dX11_edgePlace_4 rfl (lv_at hl 0 rfl) ?_
    refine lv_iload_n hx hb dX11_edgePlace_5 rfl (lv_at hl 1 rfl) ?_
    refine lv_bipush (v := 10) hx hb dX11_edgePlace_6 (of_decide_eq_true rfl) ?_
    refine lv_idiv hx hb dX11_edgePlace_8 (of_decide_eq_true rfl) ?_
    refine lv_topi (fun x8 ex8 => ?_)
    exact by
     have tx8 : x8.toInt = (A1 / 10) := jdiv ex8 t1 jz_10 (by omega) (by omega)
     refine jcallV (As := [.int x8]) (rest := []) ⟨hx, hb, hml, hown, hts⟩ hK hP hA hS hZ (c_X11_noBowler l D cI cL ad zz hJ σ τ x8 ((A1 / 10)) tx8 hI2) cw_RX11_152 (jc_0 cI cL ad σ τ) rfl ⟨Nat.le_of_ble_eq_true rfl, Nat.le_of_ble_eq_true rfl⟩ rfl rfl rfl hl.1 rfl (Nat.le_of_ble_eq_true rfl) dX11_edgePlace_9 ⟨Nat.zero_le _, Nat.zero_le _⟩ (fun r10 σ9 τ9 H locs h9 hP hS => ?_)
     obtain ⟨⟨rfl, rfl⟩, h9⟩ := h9
     rcases h9 with h11 | h12
     · obtain ⟨q14, k13⟩ := h11
       have q14 := q14.symm
       subst q14
       refine lv_if_eq (tgt := 17) hx hb dX11_edgePlace_12 (of_decide_eq_true rfl) (fun c => absurd c (of_decide_eq_true rfl)) (fun _ => ?_)
       refine lv_iconst (v := (-1)) hx hb dX11_edgePlace_15 (of_decide_eq_true rfl) ?_
       exact hret (-1) σ τ _ _ _ _ rfl ⟨⟨rfl, rfl⟩, Or.inr (Or.inr (Or.inr (⟨rfl, (by have h9 := jz_m1; omega)⟩)))⟩ hP hS dX11_edgePlace_16
     · obtain ⟨q16, k15⟩ := h12
       have q16 := q16.symm
       subst q16
       refine lv_if_eq (tgt := 17) hx hb dX11_edgePlace_12 (of_decide_eq_true rfl) (fun _ => ?_) (fun c => absurd (of_decide_eq_true rfl) c)
       refine lv_iload_n hx hb dX11_edgePlace_17 rfl (lv_at hl 2 rfl) ?_
       refine lv_iconst (v := 2) hx hb dX11_edgePlace_18 (of_decide_eq_true rfl) ?_
       refine lv_icmp_ne (tgt := 30) hx hb dX11_edgePlace_19 (of_decide_eq_true rfl) (fun c17 => ?_) (fun c17 => ?_)
       · have kc17 := jne c17 t2 jz_2
         refine lv_iload_n hx hb dX11_edgePlace_30 rfl (lv_at hl 2 rfl) ?_
         refine lv_iconst (v := 0) hx hb dX11_edgePlace_31 (of_decide_eq_true rfl) ?_
         refine lv_iconst (v := 1) hx hb dX11_edgePlace_32 (of_decide_eq_true rfl) ?_
         refine jcallS (As := [.int a2, .int 0, .int 1]) (rest := []) ⟨hx, hb, hml, hown, hts⟩ hK hP hA hS hZ (c_X11_outside l D cI cL ad zz hJ σ τ a2 (A2) t2 0 (0) jz_0 1 (1) jz_1) cw_RX11_94 ⟨Nat.le_of_ble_eq_true rfl, Nat.le_of_ble_eq_true rfl⟩ rfl rfl rfl hl.1 rfl (Nat.le_of_ble_eq_true rfl) dX11_edgePlace_33 ⟨Nat.zero_le _, Nat.zero_le _⟩ (fun r19 σ18 τ18 H locs h18 hP hS => ?_)
         obtain ⟨⟨rfl, rfl⟩, h18⟩ := h18
         rcases h18 with h20 | h21
         · obtain ⟨q23, k22⟩ := h20
           have q23 := q23.symm
           subst q23
           refine lv_if_ne (tgt := 51) hx hb dX11_edgePlace_36 (of_decide_eq_true rfl) (fun _ => ?_) (fun c => absurd c (of_decide_eq_true rfl))
           refine lv_iconst (v := (-1)) hx hb dX11_edgePlace_51 (of_decide_eq_true rfl) ?_
           exact hret (-1) σ τ _ _ _ _ rfl ⟨⟨rfl, rfl⟩, Or.inr (Or.inr (Or.inr (⟨rfl, (by have h9 := jz_m1; omega)⟩)))⟩ hP hS dX11_edgePlace_52
         · obtain ⟨q25, k24⟩ := h21
           have q25 := q25.symm
           subst q25
           refine lv_if_ne (tgt := 51) hx hb dX11_edgePlace_36 (of_decide_eq_true rfl) (fun c => absurd (of_decide_eq_true rfl) c) (fun _ => ?_)
           refine lv_iload_n hx hb dX11_edgePlace_39 rfl (lv_at hl 1 rfl) ?_
           refine lv_bipush (v := 10) hx hb dX11_edgePlace_40 (of_decide_eq_true rfl) ?_
           refine lv_irem hx hb dX11_edgePlace_42 (of_decide_eq_true rfl) ?_
           refine lv_topi (fun x26 ex26 => ?_)
           exact by
            have tx26 : x26.toInt = (A1 % 10) := jrem ex26 t1 jz_10 (by omega)
            refine lv_iconst (v := 0) hx hb dX11_edgePlace_43 (of_decide_eq_true rfl) ?_
            refine lv_iconst (v := 3) hx hb dX11_edgePlace_44 (of_decide_eq_true rfl) ?_
            refine jcallS (As := [.int x26, .int 0, .int 3]) (rest := []) ⟨hx, hb, hml, hown, hts⟩ hK hP hA hS hZ (c_X11_outside l D cI cL ad zz hJ σ τ x26 ((A1 % 10)) tx26 0 (0) jz_0 3 (3) jz_3) cw_RX11_94 ⟨Nat.le_of_ble_eq_true rfl, Nat.le_of_ble_eq_true rfl⟩ rfl rfl rfl hl.1 rfl (Nat.le_of_ble_eq_true rfl) dX11_edgePlace_45 ⟨Nat.zero_le _, Nat.zero_le _⟩ (fun r28 σ27 τ27 H locs h27 hP hS => ?_)
            obtain ⟨⟨rfl, rfl⟩, h27⟩ := h27
            rcases h27 with h29 | h30
            · obtain ⟨q32, k31⟩ := h29
              have q32 := q32.symm
              subst q32
              refine lv_if_eq (tgt := 53) hx hb dX11_edgePlace_48 (of_decide_eq_true rfl) (fun c => absurd c (of_decide_eq_true rfl)) (fun _ => ?_)
              refine lv_iconst (v := (-1)) hx hb dX11_edgePlace_51 (of_decide_eq_true rfl) ?_
              exact hret (-1) σ τ _ _ _ _ rfl ⟨⟨rfl, rfl⟩, Or.inr (Or.inr (Or.inr (⟨rfl, (by have h9 := jz_m1; omega)⟩)))⟩ hP hS dX11_edgePlace_52
            · obtain ⟨q34, k33⟩ := h30
              have q34 := q34.symm
              subst q34
              refine lv_if_eq (tgt := 53) hx hb dX11_edgePlace_48 (of_decide_eq_true rfl) (fun _ => ?_) (fun c => absurd (of_decide_eq_true rfl) c)
              refine lv_iload_n hx hb dX11_edgePlace_53 rfl (lv_at hl 2 rfl) ?_
              refine lv_if_ne (tgt := 61) hx hb dX11_edgePlace_54 (of_decide_eq_true rfl) (fun c35 => ?_) (fun c35 => ?_)
              · have kc35 := jne c35 t2 jz_0
                refine lv_bipush (v := 16) hx hb dX11_edgePlace_61 (of_decide_eq_true rfl) ?_
                refine lv_iload_n hx hb dX11_edgePlace_63 rfl (lv_at hl 1 rfl) ?_
                refine lv_bipush (v := 10) hx hb dX11_edgePlace_64 (of_decide_eq_true rfl) ?_
                refine lv_idiv hx hb dX11_edgePlace_66 (of_decide_eq_true rfl) ?_
                refine lv_topi (fun x36 ex36 => ?_)
                exact by
                 have tx36 : x36.toInt = (A1 / 10) := jdiv ex36 t1 jz_10 (by omega) (by omega)
                 refine lv_iconst (v := 4) hx hb dX11_edgePlace_67 (of_decide_eq_true rfl) ?_
                 refine lv_imul hx hb dX11_edgePlace_68 ?_
                 refine lv_topi (fun x37 ex37 => ?_)
                 have tx37 : x37.toInt = 4 * (A1 / 10) := (jmul ex37 tx36 jz_4 (by omega) (by omega)).trans (by omega)
                 refine lv_iadd hx hb dX11_edgePlace_69 ?_
                 refine lv_topi (fun x38 ex38 => ?_)
                 have tx38 : x38.toInt = 4 * (A1 / 10) + 16 := (jadd ex38 jz_16 tx37 (by omega) (by omega)).trans (by omega)
                 refine lv_iload_n hx hb dX11_edgePlace_70 rfl (lv_at hl 1 rfl) ?_
                 exact by
                  refine lv_bipush (v := 10) hx hb dX11_edgePlace_71 (of_decide_eq_true rfl) ?_
                  refine lv_irem hx hb dX11_edgePlace_73 (of_decide_eq_true rfl) ?_
                  refine lv_topi (fun x39 ex39 => ?_)
                  have tx39 : x39.toInt = (A1 % 10) := jrem ex39 t1 jz_10 (by omega)
                  refine lv_iadd hx hb dX11_edgePlace_74 ?_
                  refine lv_topi (fun x40 ex40 => ?_)
                  have tx40 : x40.toInt = 4 * (A1 / 10) + (A1 % 10) + 16 := (jadd ex40 tx38 tx39 (by omega) (by omega)).trans (by omega)
                  exact by exact hret x40 σ τ _ _ _ _ rfl ⟨⟨rfl, rfl⟩, Or.inr (Or.inl ⟨trivial, (by have h9 := tx40; omega), (by have h9 := tx40; omega), (by have h9 := tx40; omega), (by have h9 := tx40; omega), (by have h9 := tx40; omega)⟩)⟩ hP hS dX11_edgePlace_75
              · have kc35 := jeq c35 t2 jz_0
                exact by
                 refine lv_iconst (v := 0) hx hb dX11_edgePlace_57 (of_decide_eq_true rfl) ?_
                 refine lv_goto (tgt := 63) hx hb dX11_edgePlace_58 (of_decide_eq_true rfl) ?_
                 refine lv_iload_n hx hb dX11_edgePlace_63 rfl (lv_at hl 1 rfl) ?_
                 refine lv_bipush (v := 10) hx hb dX11_edgePlace_64 (of_decide_eq_true rfl) ?_
                 refine lv_idiv hx hb dX11_edgePlace_66 (of_decide_eq_true rfl) ?_
                 refine lv_topi (fun x41 ex41 => ?_)
                 have tx41 : x41.toInt = (A1 / 10) := jdiv ex41 t1 jz_10 (by omega) (by omega)
                 refine lv_iconst (v := 4) hx hb dX11_edgePlace_67 (of_decide_eq_true rfl) ?_
                 refine lv_imul hx hb dX11_edgePlace_68 ?_
                 exact by
                  refine lv_topi (fun x42 ex42 => ?_)
                  have tx42 : x42.toInt = 4 * (A1 / 10) := (jmul ex42 tx41 jz_4 (by omega) (by omega)).trans (by omega)
                  refine lv_iadd hx hb dX11_edgePlace_69 ?_
                  refine jtopr (y := x42) (by rw [Int32.zero_add]) ?_
                  refine lv_iload_n hx hb dX11_edgePlace_70 rfl (lv_at hl 1 rfl) ?_
                  refine lv_bipush (v := 10) hx hb dX11_edgePlace_71 (of_decide_eq_true rfl) ?_
                  refine lv_irem hx hb dX11_edgePlace_73 (of_decide_eq_true rfl) ?_
                  refine lv_topi (fun x43 ex43 => ?_)
                  have tx43 : x43.toInt = (A1 % 10) := jrem ex43 t1 jz_10 (by omega)
                  exact by
                   refine lv_iadd hx hb dX11_edgePlace_74 ?_
                   refine lv_topi (fun x44 ex44 => ?_)
                   have tx44 : x44.toInt = 4 * (A1 / 10) + (A1 % 10) := (jadd ex44 tx42 tx43 (by omega) (by omega)).trans (by omega)
                   exact by exact hret x44 σ τ _ _ _ _ rfl ⟨⟨rfl, rfl⟩, Or.inl ⟨trivial, (by have h9 := tx44; omega), (by have h9 := tx44; omega), (by have h9 := tx44; omega), (by have h9 := tx44; omega), (by have h9 := tx44; omega)⟩⟩ hP hS dX11_edgePlace_75
       · have kc17 := jeq c17 t2 jz_2
         refine lv_bipush (v := 32) hx hb dX11_edgePlace_22 (of_decide_eq_true rfl) ?_
         refine lv_iload_n hx hb dX11_edgePlace_24 rfl (lv_at hl 1 rfl) ?_
         refine lv_bipush (v := 10) hx hb dX11_edgePlace_25 (of_decide_eq_true rfl) ?_
         refine lv_idiv hx hb dX11_edgePlace_27 (of_decide_eq_true rfl) ?_
         exact by
          refine lv_topi (fun x45 ex45 => ?_)
          have tx45 : x45.toInt = (A1 / 10) := jdiv ex45 t1 jz_10 (by omega) (by omega)
          refine lv_iadd hx hb dX11_edgePlace_28 ?_
          refine lv_topi (fun x46 ex46 => ?_)
          have tx46 : x46.toInt = (A1 / 10) + 32 := (jadd ex46 jz_32 tx45 (by omega) (by omega)).trans (by omega)
          exact by exact hret x46 σ τ _ _ _ _ rfl ⟨⟨rfl, rfl⟩, Or.inr (Or.inr (Or.inl ⟨trivial, (by have h9 := tx46; omega), (by have h9 := tx46; omega), (by have h9 := tx46; omega), (by have h9 := tx46; omega)⟩))⟩ hP hS dX11_edgePlace_29
set_option maxHeartbeats 4000000 in
set_option maxRecDepth 100000 in
theorem c_X11_edgePlace_0 (l : Launch) (D : va_G) (cI cL : ClassId) (ad zz : Nat → Nat) (hJ : jD ad) (σ : Nat → Nat → Int32) (τ : Nat → Nat → Int64) (a1 : Int32) (A1 : Int) (t1 : a1.toInt = A1) (hI2 : jI2 σ) : jM l yX11_edgePlace cX11_edgePlace 3 (some .int) ({ frames := 2, cells := 0, slots := 0, locals := 43 }) D cI cL ad zz [.ref (ad 0), .int a1, .int 0] σ τ (fun r σ' τ' => (σ = σ' ∧ τ = τ') ∧ ((True ∧ (0 ≤ r.toInt ∧ r.toInt ≤ 67) ∧ (0 ≤ A1) ∧ ((A1 / 10) < (σ 2 0).toInt) ∧ ((A1 % 10) ≤ 3) ∧ (r.toInt = 4 * (A1 / 10) + (A1 % 10))) ∨ (r = (-1) ∧ ((A1 < 0) ∨ (0 ≤ A1 ∧ (σ 2 0).toInt ≤ (A1 / 10)) ∨ (0 ≤ A1 ∧ 3 < (A1 % 10)))))) := by
  refine jM.of hJ (by decide +kernel) (nt := .int) rfl (Nat.le_of_ble_eq_true rfl) ?_
  intro p e s m args below meth c Q ls hC hret hl hP
  obtain ⟨hx, hb, hr, hml, hown, hts, hK, -, hlocks, hZ⟩ := hC
  have hown : s.vm.findClass RX11 = some m.cls := hown
  have hS : va_S (jA ad) s.heap s.heap [] := va_S.rf
  have hA : ∀ q, jA ad q → jA ad q := fun _ h => h
  have hl : lv_has ls 3 [(0, .ref (ad 0)), (1, .int a1), (2, .int 0)] := hl
  have g1 := jrg t1
  obtain ⟨i1, i2, i3, i4, i5, w6⟩ : (0 ≤ (σ 2 0).toInt ∧ (σ 2 0).toInt ≤ 4) ∧ (0 ≤ (σ 2 1).toInt ∧ (σ 2 1).toInt ≤ 3) ∧ (0 ≤ (σ 2 2).toInt) ∧ (0 ≤ (σ 2 3).toInt) ∧ ((σ 2 2).toInt + (σ 2 3).toInt ≤ 40) ∧ (∀ k : Nat, k < 40 → 0 ≤ (σ 6 k).toInt ∧ (σ 6 k).toInt ≤ 67) := id hI2
  refine lv_iload_n hx hb dX11_edgePlace_0 rfl (lv_at hl 1 rfl) ?_
  refine lv_if_lt (tgt := 15) hx hb dX11_edgePlace_1 (of_decide_eq_true rfl) (fun c7 => ?_) (fun c7 => ?_)
  · have kc7 := jlt c7 t1 jz_0
    refine lv_iconst (v := (-1)) hx hb dX11_edgePlace_15 (of_decide_eq_true rfl) ?_
    exact hret (-1) σ τ _ _ _ _ rfl ⟨⟨rfl, rfl⟩, Or.inr (⟨rfl, (by have h9 := jz_m1; omega)⟩)⟩ hP hS dX11_edgePlace_16
  · have kc7 := jnlt c7 t1 jz_0
    refine lv_aload_n hx hb dX11_edgePlace_4 rfl (lv_at hl 0 rfl) ?_
    refine lv_iload_n hx hb dX11_edgePlace_5 rfl (lv_at hl 1 rfl) ?_
    refine lv_bipush (v := 10) hx hb dX11_edgePlace_6 (of_decide_eq_true rfl) ?_
    refine lv_idiv hx hb dX11_edgePlace_8 (of_decide_eq_true rfl) ?_
    refine lv_topi (fun x8 ex8 => ?_)
    exact by
     have tx8 : x8.toInt = (A1 / 10) := jdiv ex8 t1 jz_10 (by omega) (by omega)
     refine jcallV (As := [.int x8]) (rest := []) ⟨hx, hb, hml, hown, hts⟩ hK hP hA hS hZ (c_X11_noBowler l D cI cL ad zz hJ σ τ x8 ((A1 / 10)) tx8 hI2) cw_RX11_152 (jc_0 cI cL ad σ τ) rfl ⟨Nat.le_of_ble_eq_true rfl, Nat.le_of_ble_eq_true rfl⟩ rfl rfl rfl hl.1 rfl (Nat.le_of_ble_eq_true rfl) dX11_edgePlace_9 ⟨Nat.zero_le _, Nat.zero_le _⟩ (fun r10 σ9 τ9 H locs h9 hP hS => ?_)
     obtain ⟨⟨rfl, rfl⟩, h9⟩ := h9
     rcases h9 with h11 | h12
     · obtain ⟨q14, k13⟩ := h11
       have q14 := q14.symm
       subst q14
       refine lv_if_eq (tgt := 17) hx hb dX11_edgePlace_12 (of_decide_eq_true rfl) (fun c => absurd c (of_decide_eq_true rfl)) (fun _ => ?_)
       refine lv_iconst (v := (-1)) hx hb dX11_edgePlace_15 (of_decide_eq_true rfl) ?_
       exact hret (-1) σ τ _ _ _ _ rfl ⟨⟨rfl, rfl⟩, Or.inr (⟨rfl, (by have h9 := jz_m1; omega)⟩)⟩ hP hS dX11_edgePlace_16
     · obtain ⟨q16, k15⟩ := h12
       have q16 := q16.symm
       subst q16
       refine lv_if_eq (tgt := 17) hx hb dX11_edgePlace_12 (of_decide_eq_true rfl) (fun _ => ?_) (fun c => absurd (of_decide_eq_true rfl) c)
       refine lv_iload_n hx hb dX11_edgePlace_17 rfl (lv_at hl 2 rfl) ?_
       refine lv_iconst (v := 2) hx hb dX11_edgePlace_18 (of_decide_eq_true rfl) ?_
       refine lv_icmp_ne (tgt := 30) hx hb dX11_edgePlace_19 (of_decide_eq_true rfl) (fun _ => ?_) (fun c => absurd c (of_decide_eq_true rfl))
       refine lv_iload_n hx hb dX11_edgePlace_30 rfl (lv_at hl 2 rfl) ?_
       refine lv_iconst (v := 0) hx hb dX11_edgePlace_31 (of_decide_eq_true rfl) ?_
       refine lv_iconst (v := 1) hx hb dX11_edgePlace_32 (of_decide_eq_true rfl) ?_
       refine jcallS (As := [.int 0, .int 0, .int 1]) (rest := []) ⟨hx, hb, hml, hown, hts⟩ hK hP hA hS hZ (c_X11_outside l D cI cL ad zz hJ σ τ 0 (0) jz_0 0 (0) jz_0 1 (1) jz_1) cw_RX11_94 ⟨Nat.le_of_ble_eq_true rfl, Nat.le_of_ble_eq_true rfl⟩ rfl rfl rfl hl.1 rfl (Nat.le_of_ble_eq_true rfl) dX11_edgePlace_33 ⟨Nat.zero_le _, Nat.zero_le _⟩ (fun r18 σ17 τ17 H locs h17 hP hS => ?_)
       obtain ⟨⟨rfl, rfl⟩, h17⟩ := h17
       rcases h17 with h19 | h20
       · obtain ⟨q22, k21⟩ := h19
         exact absurd (by omega : False) id
       · obtain ⟨q24, k23⟩ := h20
         have q24 := q24.symm
         subst q24
         refine lv_if_ne (tgt := 51) hx hb dX11_edgePlace_36 (of_decide_eq_true rfl) (fun c => absurd (of_decide_eq_true rfl) c) (fun _ => ?_)
         refine lv_iload_n hx hb dX11_edgePlace_39 rfl (lv_at hl 1 rfl) ?_
         refine lv_bipush (v := 10) hx hb dX11_edgePlace_40 (of_decide_eq_true rfl) ?_
         refine lv_irem hx hb dX11_edgePlace_42 (of_decide_eq_true rfl) ?_
         refine lv_topi (fun x25 ex25 => ?_)
         exact by
          have tx25 : x25.toInt = (A1 % 10) := jrem ex25 t1 jz_10 (by omega)
          refine lv_iconst (v := 0) hx hb dX11_edgePlace_43 (of_decide_eq_true rfl) ?_
          refine lv_iconst (v := 3) hx hb dX11_edgePlace_44 (of_decide_eq_true rfl) ?_
          refine jcallS (As := [.int x25, .int 0, .int 3]) (rest := []) ⟨hx, hb, hml, hown, hts⟩ hK hP hA hS hZ (c_X11_outside l D cI cL ad zz hJ σ τ x25 ((A1 % 10)) tx25 0 (0) jz_0 3 (3) jz_3) cw_RX11_94 ⟨Nat.le_of_ble_eq_true rfl, Nat.le_of_ble_eq_true rfl⟩ rfl rfl rfl hl.1 rfl (Nat.le_of_ble_eq_true rfl) dX11_edgePlace_45 ⟨Nat.zero_le _, Nat.zero_le _⟩ (fun r27 σ26 τ26 H locs h26 hP hS => ?_)
          obtain ⟨⟨rfl, rfl⟩, h26⟩ := h26
          rcases h26 with h28 | h29
          · obtain ⟨q31, k30⟩ := h28
            have q31 := q31.symm
            subst q31
            refine lv_if_eq (tgt := 53) hx hb dX11_edgePlace_48 (of_decide_eq_true rfl) (fun c => absurd c (of_decide_eq_true rfl)) (fun _ => ?_)
            refine lv_iconst (v := (-1)) hx hb dX11_edgePlace_51 (of_decide_eq_true rfl) ?_
            exact hret (-1) σ τ _ _ _ _ rfl ⟨⟨rfl, rfl⟩, Or.inr (⟨rfl, (by have h9 := jz_m1; omega)⟩)⟩ hP hS dX11_edgePlace_52
          · obtain ⟨q33, k32⟩ := h29
            have q33 := q33.symm
            subst q33
            refine lv_if_eq (tgt := 53) hx hb dX11_edgePlace_48 (of_decide_eq_true rfl) (fun _ => ?_) (fun c => absurd (of_decide_eq_true rfl) c)
            refine lv_iload_n hx hb dX11_edgePlace_53 rfl (lv_at hl 2 rfl) ?_
            refine lv_if_ne (tgt := 61) hx hb dX11_edgePlace_54 (of_decide_eq_true rfl) (fun c => absurd (of_decide_eq_true rfl) c) (fun _ => ?_)
            refine lv_iconst (v := 0) hx hb dX11_edgePlace_57 (of_decide_eq_true rfl) ?_
            refine lv_goto (tgt := 63) hx hb dX11_edgePlace_58 (of_decide_eq_true rfl) ?_
            refine lv_iload_n hx hb dX11_edgePlace_63 rfl (lv_at hl 1 rfl) ?_
            refine lv_bipush (v := 10) hx hb dX11_edgePlace_64 (of_decide_eq_true rfl) ?_
            refine lv_idiv hx hb dX11_edgePlace_66 (of_decide_eq_true rfl) ?_
            refine lv_topi (fun x34 ex34 => ?_)
            exact by
             have tx34 : x34.toInt = (A1 / 10) := jdiv ex34 t1 jz_10 (by omega) (by omega)
             refine lv_iconst (v := 4) hx hb dX11_edgePlace_67 (of_decide_eq_true rfl) ?_
             refine lv_imul hx hb dX11_edgePlace_68 ?_
             refine lv_topi (fun x35 ex35 => ?_)
             have tx35 : x35.toInt = 4 * (A1 / 10) := (jmul ex35 tx34 jz_4 (by omega) (by omega)).trans (by omega)
             refine lv_iadd hx hb dX11_edgePlace_69 ?_
             refine jtopr (y := x35) (by rw [Int32.zero_add]) ?_
             refine lv_iload_n hx hb dX11_edgePlace_70 rfl (lv_at hl 1 rfl) ?_
             refine lv_bipush (v := 10) hx hb dX11_edgePlace_71 (of_decide_eq_true rfl) ?_
             exact by
              refine lv_irem hx hb dX11_edgePlace_73 (of_decide_eq_true rfl) ?_
              refine lv_topi (fun x36 ex36 => ?_)
              have tx36 : x36.toInt = (A1 % 10) := jrem ex36 t1 jz_10 (by omega)
              refine lv_iadd hx hb dX11_edgePlace_74 ?_
              refine lv_topi (fun x37 ex37 => ?_)
              have tx37 : x37.toInt = 4 * (A1 / 10) + (A1 % 10) := (jadd ex37 tx35 tx36 (by omega) (by omega)).trans (by omega)
              exact by exact hret x37 σ τ _ _ _ _ rfl ⟨⟨rfl, rfl⟩, Or.inl ⟨trivial, (by have h9 := tx37; omega), (by have h9 := tx37; omega), (by have h9 := tx37; omega), (by have h9 := tx37; omega), (by have h9 := tx37; omega)⟩⟩ hP hS dX11_edgePlace_75
set_option maxHeartbeats 4000000 in
set_option maxRecDepth 100000 in
theorem c_X11_edge (l : Launch) (D : va_G) (cI cL : ClassId) (ad zz : Nat → Nat) (hJ : jD ad) (σ : Nat → Nat → Int32) (τ : Nat → Nat → Int64) (a1 : Int32) (A1 : Int) (t1 : a1.toInt = A1) (a2 : Int32) (A2 : Int) (t2 : a2.toInt = A2) (a3 : Int32) (A3 : Int) (t3 : a3.toInt = A3) (hI2 : jI2 σ) : jM l yX11_edge cX11_edge 5 (some .int) ({ frames := 3, cells := 0, slots := 0, locals := 65 }) D cI cL ad zz [.ref (ad 0), .int a1, .int a2, .int a3] σ τ (fun r σ' τ' => τ = τ' ∧ (∀ i : Nat, (i < 2 ∨ 3 < i) ∧ (i < 6 ∨ 8 < i) → σ' i = σ i) ∧ (∀ k : Nat, (k < 2 ∨ 2 < k) ∧ (k < 3 ∨ 3 < k) → σ' 2 k = σ 2 k) ∧ (jI2 σ') ∧ ((r = (-2000000000) ∧ ((σ' 2 2).toInt = (σ 2 2).toInt) ∧ ((σ' 2 3).toInt = (σ 2 3).toInt) ∧ (¬ jEok (A1) (A2) (A3) ((σ 2 0).toInt)) ∧ (σ' 3 = σ 3 ∧ σ' 6 = σ 6 ∧ σ' 7 = σ 7 ∧ σ' 8 = σ 8)) ∨ (True ∧ (jEok (A1) (A2) (A3) ((σ 2 0).toInt) ∧ ∃ q : Int, jEpl (A1) (A2) q ∧ jChg (q) a3 r (σ 3) (σ' 3) (σ 6) (σ' 6) (σ 7) (σ' 7) (σ 8) (σ' 8) (σ 2 2).toInt (σ' 2 2).toInt ((σ 2 2).toInt + (σ 2 3).toInt) ((σ' 2 2).toInt + (σ' 2 3).toInt))))) := by
  refine jM.of hJ (by decide +kernel) (nt := .int) rfl (Nat.le_of_ble_eq_true rfl) ?_
  intro p e s m args below meth c Q ls hC hret hl hP
  obtain ⟨hx, hb, hr, hml, hown, hts, hK, -, hlocks, hZ⟩ := hC
  have hown : s.vm.findClass RX11 = some m.cls := hown
  have hS : va_S (jA ad) s.heap s.heap [] := va_S.rf
  have hA : ∀ q, jA ad q → jA ad q := fun _ h => h
  have hl : lv_has ls 5 [(0, .ref (ad 0)), (1, .int a1), (2, .int a2), (3, .int a3)] := hl
  have g1 := jrg t1
  have g2 := jrg t2
  have g3 := jrg t3
  obtain ⟨i1, i2, i3, i4, i5, w6⟩ : (0 ≤ (σ 2 0).toInt ∧ (σ 2 0).toInt ≤ 4) ∧ (0 ≤ (σ 2 1).toInt ∧ (σ 2 1).toInt ≤ 3) ∧ (0 ≤ (σ 2 2).toInt) ∧ (0 ≤ (σ 2 3).toInt) ∧ ((σ 2 2).toInt + (σ 2 3).toInt ≤ 40) ∧ (∀ k : Nat, k < 40 → 0 ≤ (σ 6 k).toInt ∧ (σ 6 k).toInt ≤ 67) := id hI2
  refine lv_aload_n hx hb dX11_edge_0 rfl (lv_at hl 0 rfl) ?_
  refine lv_iload_n hx hb dX11_edge_1 rfl (lv_at hl 1 rfl) ?_
  refine lv_iload_n hx hb dX11_edge_2 rfl (lv_at hl 2 rfl) ?_
  refine jcallV (As := [.int a1, .int a2]) (rest := []) ⟨hx, hb, hml, hown, hts⟩ hK hP hA hS hZ (c_X11_edgePlace l D cI cL ad zz hJ σ τ a1 (A1) t1 a2 (A2) t2 hI2) cw_RX11_106 (jc_0 cI cL ad σ τ) rfl ⟨Nat.le_of_ble_eq_true rfl, Nat.le_of_ble_eq_true rfl⟩ rfl rfl rfl hl.1 rfl (Nat.le_of_ble_eq_true rfl) dX11_edge_3 ⟨Nat.zero_le _, Nat.zero_le _⟩ (fun r8 σ7 τ7 H locs h7 hP hS => ?_)
  obtain ⟨⟨rfl, rfl⟩, h7⟩ := h7
  rcases h7 with h9 | h10 | h11 | h12
  · obtain ⟨q18, k13, k14, k15, k16, k17⟩ := h9
    refine lv_istore (lv' := [(4, .int r8), (0, .ref (ad 0)), (1, .int a1), (2, .int a2), (3, .int a3)]) hx hb dX11_edge_6 hl (of_decide_eq_true rfl) rfl (fun ls hl => ?_)
    refine lv_iload hx hb dX11_edge_8 (lv_at hl 0 rfl) ?_
    refine lv_if_lt (tgt := 30) hx hb dX11_edge_10 (of_decide_eq_true rfl) (fun c19 => ?_) (fun c19 => ?_)
    · have kc19 := jlt c19 rfl jz_0
      refine lv_ldc (v := (-2000000000)) hx hb hown (hts _ kw_9_21) dX11_edge_30 ?_
      exact by exact hret (-2000000000) σ τ _ _ _ _ rfl ⟨rfl, (fun _ _ => rfl), (fun _ _ => rfl), hI2, Or.inl ⟨rfl, (by have h9 := jz_m2000000000; omega), (by have h9 := jz_m2000000000; omega), (fun h => by unfold jEok at h; omega), ⟨rfl, rfl, rfl, rfl⟩⟩⟩ hP hS dX11_edge_32
    · have kc19 := jnlt c19 rfl jz_0
      refine lv_iload_n hx hb dX11_edge_13 rfl (lv_at hl 4 rfl) ?_
      refine lv_iload hx hb dX11_edge_14 (lv_at hl 0 rfl) ?_
      refine jcallS (As := [.int r8]) (rest := [.int a3]) ⟨hx, hb, hml, hown, hts⟩ hK hP hA hS hZ (c_X4_lowest l D cI cL ad zz hJ σ τ r8 (r8.toInt) rfl) cw_RX11_110 ⟨Nat.le_of_ble_eq_true rfl, Nat.le_of_ble_eq_true rfl⟩ rfl rfl rfl hl.1 rfl (Nat.le_of_ble_eq_true rfl) dX11_edge_16 ⟨Nat.zero_le _, Nat.zero_le _⟩ (fun r21 σ20 τ20 H locs h20 hP hS => ?_)
      obtain ⟨⟨rfl, rfl⟩, h20⟩ := h20
      rcases h20 with h22 | h23 | h24
      · obtain ⟨q26, k25⟩ := h22
        have q26 := q26.symm
        subst q26
        refine lv_iload hx hb dX11_edge_19 (lv_at hl 0 rfl) ?_
        refine jcallS (As := [.int r8]) (rest := [.int 0, .int a3]) ⟨hx, hb, hml, hown, hts⟩ hK hP hA hS hZ (c_X4_highest l D cI cL ad zz hJ σ τ r8 (r8.toInt) rfl) cw_RX11_114 ⟨Nat.le_of_ble_eq_true rfl, Nat.le_of_ble_eq_true rfl⟩ rfl rfl rfl hl.1 rfl (Nat.le_of_ble_eq_true rfl) dX11_edge_21 ⟨Nat.zero_le _, Nat.zero_le _⟩ (fun r28 σ27 τ27 H locs h27 hP hS => ?_)
        obtain ⟨⟨rfl, rfl⟩, h27⟩ := h27
        rcases h27 with h29 | h30 | h31 | h32
        · obtain ⟨q34, k33⟩ := h29
          have q34 := q34.symm
          subst q34
          refine jcallS (As := [.int a3, .int 0, .int 500]) (rest := []) ⟨hx, hb, hml, hown, hts⟩ hK hP hA hS hZ (c_X11_outside l D cI cL ad zz hJ σ τ a3 (A3) t3 0 (0) jz_0 500 (500) jz_500) cw_RX11_94 ⟨Nat.le_of_ble_eq_true rfl, Nat.le_of_ble_eq_true rfl⟩ rfl rfl rfl hl.1 rfl (Nat.le_of_ble_eq_true rfl) dX11_edge_24 ⟨Nat.zero_le _, Nat.zero_le _⟩ (fun r36 σ35 τ35 H locs h35 hP hS => ?_)
          obtain ⟨⟨rfl, rfl⟩, h35⟩ := h35
          rcases h35 with h37 | h38
          · obtain ⟨q40, k39⟩ := h37
            have q40 := q40.symm
            subst q40
            refine lv_if_eq (tgt := 33) hx hb dX11_edge_27 (of_decide_eq_true rfl) (fun c => absurd c (of_decide_eq_true rfl)) (fun _ => ?_)
            refine lv_ldc (v := (-2000000000)) hx hb hown (hts _ kw_9_21) dX11_edge_30 ?_
            exact by exact hret (-2000000000) σ τ _ _ _ _ rfl ⟨rfl, (fun _ _ => rfl), (fun _ _ => rfl), hI2, Or.inl ⟨rfl, (by have h9 := jz_m2000000000; omega), (by have h9 := jz_m2000000000; omega), (fun h => by unfold jEok at h; omega), ⟨rfl, rfl, rfl, rfl⟩⟩⟩ hP hS dX11_edge_32
          · obtain ⟨q42, k41⟩ := h38
            have q42 := q42.symm
            subst q42
            refine lv_if_eq (tgt := 33) hx hb dX11_edge_27 (of_decide_eq_true rfl) (fun _ => ?_) (fun c => absurd (of_decide_eq_true rfl) c)
            refine lv_aload_n hx hb dX11_edge_33 rfl (lv_at hl 1 rfl) ?_
            refine va_get (D := D) hx hb hts inlX11 hown hK hP 0 (jc_0 cI cL ad σ τ) rfl 0 (of_decide_eq_true rfl) (hts _ kw_1_16) (fun _ h9 => h9) rfl dX11_edge_34 ?_
            refine lv_iload hx hb dX11_edge_37 (lv_at hl 0 rfl) ?_
            refine lv_iload_n hx hb dX11_edge_39 rfl (lv_at hl 4 rfl) ?_
            exact by
             refine jcallV (As := [.int r8, .int a3]) (rest := []) ⟨hx, hb, hml, hown, hts⟩ hK hP hA hS hZ (c_X4_change_2 l D cI cL ad zz hJ σ τ r8 (r8.toInt) rfl a3 (A3) t3 hI2 (by omega)) cw_RX11_118 (jc_2 cI cL ad σ τ) rfl ⟨Nat.le_of_ble_eq_true rfl, Nat.le_of_ble_eq_true rfl⟩ rfl rfl rfl hl.1 rfl (Nat.le_of_ble_eq_true rfl) dX11_edge_40 ⟨Nat.zero_le _, Nat.zero_le _⟩ (fun r44 σ43 τ43 H locs h43 hP hS => ?_)
             obtain ⟨rfl, f45, f46, I47, w48, h43⟩ := h43
             obtain ⟨i50, i51, i52, i53, i54, w55⟩ : (0 ≤ (σ43 2 0).toInt ∧ (σ43 2 0).toInt ≤ 4) ∧ (0 ≤ (σ43 2 1).toInt ∧ (σ43 2 1).toInt ≤ 3) ∧ (0 ≤ (σ43 2 2).toInt) ∧ (0 ≤ (σ43 2 3).toInt) ∧ ((σ43 2 2).toInt + (σ43 2 3).toInt ≤ 40) ∧ (∀ k : Nat, k < 40 → 0 ≤ (σ43 6 k).toInt ∧ (σ43 6 k).toInt ≤ 67) := id I47
             have z56 : (σ43 2 0).toInt = (σ 2 0).toInt := (congrArg Int32.toInt (show σ43 2 0 = (σ 2 0) from (f46 0 (of_decide_eq_true rfl))))
             have z57 : (σ43 2 1).toInt = (σ 2 1).toInt := (congrArg Int32.toInt (show σ43 2 1 = (σ 2 1) from (f46 1 (of_decide_eq_true rfl))))
             exact by exact hret r44 σ43 τ _ _ _ _ rfl ⟨rfl, (fun i hi => (f45 i hi)), (fun i hi => (f46 i hi)), I47, Or.inr (⟨trivial, ⟨(by unfold jEok; omega), r8.toInt, (by unfold jEpl; omega), w48⟩⟩)⟩ hP hS dX11_edge_43
        · obtain ⟨q59, k58⟩ := h30
          exact absurd (by omega : False) id
        · obtain ⟨q61, k60⟩ := h31
          exact absurd (by omega : False) id
        · obtain ⟨q63, k62⟩ := h32
          exact absurd (by omega : False) id
      · obtain ⟨q65, k64⟩ := h23
        exact absurd (by omega : False) id
      · obtain ⟨q67, k66⟩ := h24
        exact absurd (by omega : False) id
  · obtain ⟨q73, k68, k69, k70, k71, k72⟩ := h10
    refine lv_istore (lv' := [(4, .int r8), (0, .ref (ad 0)), (1, .int a1), (2, .int a2), (3, .int a3)]) hx hb dX11_edge_6 hl (of_decide_eq_true rfl) rfl (fun ls hl => ?_)
    refine lv_iload hx hb dX11_edge_8 (lv_at hl 0 rfl) ?_
    refine lv_if_lt (tgt := 30) hx hb dX11_edge_10 (of_decide_eq_true rfl) (fun c74 => ?_) (fun c74 => ?_)
    · have kc74 := jlt c74 rfl jz_0
      refine lv_ldc (v := (-2000000000)) hx hb hown (hts _ kw_9_21) dX11_edge_30 ?_
      exact by exact hret (-2000000000) σ τ _ _ _ _ rfl ⟨rfl, (fun _ _ => rfl), (fun _ _ => rfl), hI2, Or.inl ⟨rfl, (by have h9 := jz_m2000000000; omega), (by have h9 := jz_m2000000000; omega), (fun h => by unfold jEok at h; omega), ⟨rfl, rfl, rfl, rfl⟩⟩⟩ hP hS dX11_edge_32
    · have kc74 := jnlt c74 rfl jz_0
      refine lv_iload_n hx hb dX11_edge_13 rfl (lv_at hl 4 rfl) ?_
      refine lv_iload hx hb dX11_edge_14 (lv_at hl 0 rfl) ?_
      refine jcallS (As := [.int r8]) (rest := [.int a3]) ⟨hx, hb, hml, hown, hts⟩ hK hP hA hS hZ (c_X4_lowest l D cI cL ad zz hJ σ τ r8 (r8.toInt) rfl) cw_RX11_110 ⟨Nat.le_of_ble_eq_true rfl, Nat.le_of_ble_eq_true rfl⟩ rfl rfl rfl hl.1 rfl (Nat.le_of_ble_eq_true rfl) dX11_edge_16 ⟨Nat.zero_le _, Nat.zero_le _⟩ (fun r76 σ75 τ75 H locs h75 hP hS => ?_)
      obtain ⟨⟨rfl, rfl⟩, h75⟩ := h75
      rcases h75 with h77 | h78 | h79
      · obtain ⟨q81, k80⟩ := h77
        have q81 := q81.symm
        subst q81
        refine lv_iload hx hb dX11_edge_19 (lv_at hl 0 rfl) ?_
        refine jcallS (As := [.int r8]) (rest := [.int 0, .int a3]) ⟨hx, hb, hml, hown, hts⟩ hK hP hA hS hZ (c_X4_highest l D cI cL ad zz hJ σ τ r8 (r8.toInt) rfl) cw_RX11_114 ⟨Nat.le_of_ble_eq_true rfl, Nat.le_of_ble_eq_true rfl⟩ rfl rfl rfl hl.1 rfl (Nat.le_of_ble_eq_true rfl) dX11_edge_21 ⟨Nat.zero_le _, Nat.zero_le _⟩ (fun r83 σ82 τ82 H locs h82 hP hS => ?_)
        obtain ⟨⟨rfl, rfl⟩, h82⟩ := h82
        rcases h82 with h84 | h85 | h86 | h87
        · obtain ⟨q89, k88⟩ := h84
          have q89 := q89.symm
          subst q89
          refine jcallS (As := [.int a3, .int 0, .int 500]) (rest := []) ⟨hx, hb, hml, hown, hts⟩ hK hP hA hS hZ (c_X11_outside l D cI cL ad zz hJ σ τ a3 (A3) t3 0 (0) jz_0 500 (500) jz_500) cw_RX11_94 ⟨Nat.le_of_ble_eq_true rfl, Nat.le_of_ble_eq_true rfl⟩ rfl rfl rfl hl.1 rfl (Nat.le_of_ble_eq_true rfl) dX11_edge_24 ⟨Nat.zero_le _, Nat.zero_le _⟩ (fun r91 σ90 τ90 H locs h90 hP hS => ?_)
          obtain ⟨⟨rfl, rfl⟩, h90⟩ := h90
          rcases h90 with h92 | h93
          · obtain ⟨q95, k94⟩ := h92
            have q95 := q95.symm
            subst q95
            refine lv_if_eq (tgt := 33) hx hb dX11_edge_27 (of_decide_eq_true rfl) (fun c => absurd c (of_decide_eq_true rfl)) (fun _ => ?_)
            refine lv_ldc (v := (-2000000000)) hx hb hown (hts _ kw_9_21) dX11_edge_30 ?_
            exact by exact hret (-2000000000) σ τ _ _ _ _ rfl ⟨rfl, (fun _ _ => rfl), (fun _ _ => rfl), hI2, Or.inl ⟨rfl, (by have h9 := jz_m2000000000; omega), (by have h9 := jz_m2000000000; omega), (fun h => by unfold jEok at h; omega), ⟨rfl, rfl, rfl, rfl⟩⟩⟩ hP hS dX11_edge_32
          · obtain ⟨q97, k96⟩ := h93
            have q97 := q97.symm
            subst q97
            refine lv_if_eq (tgt := 33) hx hb dX11_edge_27 (of_decide_eq_true rfl) (fun _ => ?_) (fun c => absurd (of_decide_eq_true rfl) c)
            refine lv_aload_n hx hb dX11_edge_33 rfl (lv_at hl 1 rfl) ?_
            refine va_get (D := D) hx hb hts inlX11 hown hK hP 0 (jc_0 cI cL ad σ τ) rfl 0 (of_decide_eq_true rfl) (hts _ kw_1_16) (fun _ h9 => h9) rfl dX11_edge_34 ?_
            refine lv_iload hx hb dX11_edge_37 (lv_at hl 0 rfl) ?_
            refine lv_iload_n hx hb dX11_edge_39 rfl (lv_at hl 4 rfl) ?_
            exact by
             refine jcallV (As := [.int r8, .int a3]) (rest := []) ⟨hx, hb, hml, hown, hts⟩ hK hP hA hS hZ (c_X4_change_2 l D cI cL ad zz hJ σ τ r8 (r8.toInt) rfl a3 (A3) t3 hI2 (by omega)) cw_RX11_118 (jc_2 cI cL ad σ τ) rfl ⟨Nat.le_of_ble_eq_true rfl, Nat.le_of_ble_eq_true rfl⟩ rfl rfl rfl hl.1 rfl (Nat.le_of_ble_eq_true rfl) dX11_edge_40 ⟨Nat.zero_le _, Nat.zero_le _⟩ (fun r99 σ98 τ98 H locs h98 hP hS => ?_)
             obtain ⟨rfl, f100, f101, I102, w103, h98⟩ := h98
             obtain ⟨i105, i106, i107, i108, i109, w110⟩ : (0 ≤ (σ98 2 0).toInt ∧ (σ98 2 0).toInt ≤ 4) ∧ (0 ≤ (σ98 2 1).toInt ∧ (σ98 2 1).toInt ≤ 3) ∧ (0 ≤ (σ98 2 2).toInt) ∧ (0 ≤ (σ98 2 3).toInt) ∧ ((σ98 2 2).toInt + (σ98 2 3).toInt ≤ 40) ∧ (∀ k : Nat, k < 40 → 0 ≤ (σ98 6 k).toInt ∧ (σ98 6 k).toInt ≤ 67) := id I102
             have z111 : (σ98 2 0).toInt = (σ 2 0).toInt := (congrArg Int32.toInt (show σ98 2 0 = (σ 2 0) from (f101 0 (of_decide_eq_true rfl))))
             have z112 : (σ98 2 1).toInt = (σ 2 1).toInt := (congrArg Int32.toInt (show σ98 2 1 = (σ 2 1) from (f101 1 (of_decide_eq_true rfl))))
             exact by exact hret r99 σ98 τ _ _ _ _ rfl ⟨rfl, (fun i hi => (f100 i hi)), (fun i hi => (f101 i hi)), I102, Or.inr (⟨trivial, ⟨(by unfold jEok; omega), r8.toInt, (by unfold jEpl; omega), w103⟩⟩)⟩ hP hS dX11_edge_43
        · obtain ⟨q114, k113⟩ := h85
          exact absurd (by omega : False) id
        · obtain ⟨q116, k115⟩ := h86
          exact absurd (by omega : False) id
        · obtain ⟨q118, k117⟩ := h87
          exact absurd (by omega : False) id
      · obtain ⟨q120, k119⟩ := h78
        exact absurd (by omega : False) id
      · obtain ⟨q122, k121⟩ := h79
        have q122 := q122.symm
        subst q122
        refine lv_iload hx hb dX11_edge_19 (lv_at hl 0 rfl) ?_
        refine jcallS (As := [.int r8]) (rest := [.int (-9), .int a3]) ⟨hx, hb, hml, hown, hts⟩ hK hP hA hS hZ (c_X4_highest l D cI cL ad zz hJ σ τ r8 (r8.toInt) rfl) cw_RX11_114 ⟨Nat.le_of_ble_eq_true rfl, Nat.le_of_ble_eq_true rfl⟩ rfl rfl rfl hl.1 rfl (Nat.le_of_ble_eq_true rfl) dX11_edge_21 ⟨Nat.zero_le _, Nat.zero_le _⟩ (fun r124 σ123 τ123 H locs h123 hP hS => ?_)
        obtain ⟨⟨rfl, rfl⟩, h123⟩ := h123
        rcases h123 with h125 | h126 | h127 | h128
        · obtain ⟨q130, k129⟩ := h125
          exact absurd (by omega : False) id
        · obtain ⟨q132, k131⟩ := h126
          have q132 := q132.symm
          subst q132
          refine jcallS (As := [.int a3, .int (-9), .int 9]) (rest := []) ⟨hx, hb, hml, hown, hts⟩ hK hP hA hS hZ (c_X11_outside l D cI cL ad zz hJ σ τ a3 (A3) t3 (-9) ((-9)) jz_m9 9 (9) jz_9) cw_RX11_94 ⟨Nat.le_of_ble_eq_true rfl, Nat.le_of_ble_eq_true rfl⟩ rfl rfl rfl hl.1 rfl (Nat.le_of_ble_eq_true rfl) dX11_edge_24 ⟨Nat.zero_le _, Nat.zero_le _⟩ (fun r134 σ133 τ133 H locs h133 hP hS => ?_)
          obtain ⟨⟨rfl, rfl⟩, h133⟩ := h133
          rcases h133 with h135 | h136
          · obtain ⟨q138, k137⟩ := h135
            have q138 := q138.symm
            subst q138
            refine lv_if_eq (tgt := 33) hx hb dX11_edge_27 (of_decide_eq_true rfl) (fun c => absurd c (of_decide_eq_true rfl)) (fun _ => ?_)
            refine lv_ldc (v := (-2000000000)) hx hb hown (hts _ kw_9_21) dX11_edge_30 ?_
            exact by exact hret (-2000000000) σ τ _ _ _ _ rfl ⟨rfl, (fun _ _ => rfl), (fun _ _ => rfl), hI2, Or.inl ⟨rfl, (by have h9 := jz_m2000000000; omega), (by have h9 := jz_m2000000000; omega), (fun h => by unfold jEok at h; omega), ⟨rfl, rfl, rfl, rfl⟩⟩⟩ hP hS dX11_edge_32
          · obtain ⟨q140, k139⟩ := h136
            have q140 := q140.symm
            subst q140
            refine lv_if_eq (tgt := 33) hx hb dX11_edge_27 (of_decide_eq_true rfl) (fun _ => ?_) (fun c => absurd (of_decide_eq_true rfl) c)
            refine lv_aload_n hx hb dX11_edge_33 rfl (lv_at hl 1 rfl) ?_
            refine va_get (D := D) hx hb hts inlX11 hown hK hP 0 (jc_0 cI cL ad σ τ) rfl 0 (of_decide_eq_true rfl) (hts _ kw_1_16) (fun _ h9 => h9) rfl dX11_edge_34 ?_
            refine lv_iload hx hb dX11_edge_37 (lv_at hl 0 rfl) ?_
            refine lv_iload_n hx hb dX11_edge_39 rfl (lv_at hl 4 rfl) ?_
            exact by
             refine jcallV (As := [.int r8, .int a3]) (rest := []) ⟨hx, hb, hml, hown, hts⟩ hK hP hA hS hZ (c_X4_change_2 l D cI cL ad zz hJ σ τ r8 (r8.toInt) rfl a3 (A3) t3 hI2 (by omega)) cw_RX11_118 (jc_2 cI cL ad σ τ) rfl ⟨Nat.le_of_ble_eq_true rfl, Nat.le_of_ble_eq_true rfl⟩ rfl rfl rfl hl.1 rfl (Nat.le_of_ble_eq_true rfl) dX11_edge_40 ⟨Nat.zero_le _, Nat.zero_le _⟩ (fun r142 σ141 τ141 H locs h141 hP hS => ?_)
             obtain ⟨rfl, f143, f144, I145, w146, h141⟩ := h141
             obtain ⟨i148, i149, i150, i151, i152, w153⟩ : (0 ≤ (σ141 2 0).toInt ∧ (σ141 2 0).toInt ≤ 4) ∧ (0 ≤ (σ141 2 1).toInt ∧ (σ141 2 1).toInt ≤ 3) ∧ (0 ≤ (σ141 2 2).toInt) ∧ (0 ≤ (σ141 2 3).toInt) ∧ ((σ141 2 2).toInt + (σ141 2 3).toInt ≤ 40) ∧ (∀ k : Nat, k < 40 → 0 ≤ (σ141 6 k).toInt ∧ (σ141 6 k).toInt ≤ 67) := id I145
             have z154 : (σ141 2 0).toInt = (σ 2 0).toInt := (congrArg Int32.toInt (show σ141 2 0 = (σ 2 0) from (f144 0 (of_decide_eq_true rfl))))
             have z155 : (σ141 2 1).toInt = (σ 2 1).toInt := (congrArg Int32.toInt (show σ141 2 1 = (σ 2 1) from (f144 1 (of_decide_eq_true rfl))))
             exact by exact hret r142 σ141 τ _ _ _ _ rfl ⟨rfl, (fun i hi => (f143 i hi)), (fun i hi => (f144 i hi)), I145, Or.inr (⟨trivial, ⟨(by unfold jEok; omega), r8.toInt, (by unfold jEpl; omega), w146⟩⟩)⟩ hP hS dX11_edge_43
        · obtain ⟨q157, k156⟩ := h127
          exact absurd (by omega : False) id
        · obtain ⟨q159, k158⟩ := h128
          exact absurd (by omega : False) id
  · obtain ⟨q164, k160, k161, k162, k163⟩ := h11
    refine lv_istore (lv' := [(4, .int r8), (0, .ref (ad 0)), (1, .int a1), (2, .int a2), (3, .int a3)]) hx hb dX11_edge_6 hl (of_decide_eq_true rfl) rfl (fun ls hl => ?_)
    refine lv_iload hx hb dX11_edge_8 (lv_at hl 0 rfl) ?_
    refine lv_if_lt (tgt := 30) hx hb dX11_edge_10 (of_decide_eq_true rfl) (fun c165 => ?_) (fun c165 => ?_)
    · have kc165 := jlt c165 rfl jz_0
      refine lv_ldc (v := (-2000000000)) hx hb hown (hts _ kw_9_21) dX11_edge_30 ?_
      exact by exact hret (-2000000000) σ τ _ _ _ _ rfl ⟨rfl, (fun _ _ => rfl), (fun _ _ => rfl), hI2, Or.inl ⟨rfl, (by have h9 := jz_m2000000000; omega), (by have h9 := jz_m2000000000; omega), (fun h => by unfold jEok at h; omega), ⟨rfl, rfl, rfl, rfl⟩⟩⟩ hP hS dX11_edge_32
    · have kc165 := jnlt c165 rfl jz_0
      refine lv_iload_n hx hb dX11_edge_13 rfl (lv_at hl 4 rfl) ?_
      refine lv_iload hx hb dX11_edge_14 (lv_at hl 0 rfl) ?_
      refine jcallS (As := [.int r8]) (rest := [.int a3]) ⟨hx, hb, hml, hown, hts⟩ hK hP hA hS hZ (c_X4_lowest l D cI cL ad zz hJ σ τ r8 (r8.toInt) rfl) cw_RX11_110 ⟨Nat.le_of_ble_eq_true rfl, Nat.le_of_ble_eq_true rfl⟩ rfl rfl rfl hl.1 rfl (Nat.le_of_ble_eq_true rfl) dX11_edge_16 ⟨Nat.zero_le _, Nat.zero_le _⟩ (fun r167 σ166 τ166 H locs h166 hP hS => ?_)
      obtain ⟨⟨rfl, rfl⟩, h166⟩ := h166
      rcases h166 with h168 | h169 | h170
      · obtain ⟨q172, k171⟩ := h168
        have q172 := q172.symm
        subst q172
        refine lv_iload hx hb dX11_edge_19 (lv_at hl 0 rfl) ?_
        refine jcallS (As := [.int r8]) (rest := [.int 0, .int a3]) ⟨hx, hb, hml, hown, hts⟩ hK hP hA hS hZ (c_X4_highest l D cI cL ad zz hJ σ τ r8 (r8.toInt) rfl) cw_RX11_114 ⟨Nat.le_of_ble_eq_true rfl, Nat.le_of_ble_eq_true rfl⟩ rfl rfl rfl hl.1 rfl (Nat.le_of_ble_eq_true rfl) dX11_edge_21 ⟨Nat.zero_le _, Nat.zero_le _⟩ (fun r174 σ173 τ173 H locs h173 hP hS => ?_)
        obtain ⟨⟨rfl, rfl⟩, h173⟩ := h173
        rcases h173 with h175 | h176 | h177 | h178
        · obtain ⟨q180, k179⟩ := h175
          have q180 := q180.symm
          subst q180
          refine jcallS (As := [.int a3, .int 0, .int 500]) (rest := []) ⟨hx, hb, hml, hown, hts⟩ hK hP hA hS hZ (c_X11_outside l D cI cL ad zz hJ σ τ a3 (A3) t3 0 (0) jz_0 500 (500) jz_500) cw_RX11_94 ⟨Nat.le_of_ble_eq_true rfl, Nat.le_of_ble_eq_true rfl⟩ rfl rfl rfl hl.1 rfl (Nat.le_of_ble_eq_true rfl) dX11_edge_24 ⟨Nat.zero_le _, Nat.zero_le _⟩ (fun r182 σ181 τ181 H locs h181 hP hS => ?_)
          obtain ⟨⟨rfl, rfl⟩, h181⟩ := h181
          rcases h181 with h183 | h184
          · obtain ⟨q186, k185⟩ := h183
            have q186 := q186.symm
            subst q186
            refine lv_if_eq (tgt := 33) hx hb dX11_edge_27 (of_decide_eq_true rfl) (fun c => absurd c (of_decide_eq_true rfl)) (fun _ => ?_)
            refine lv_ldc (v := (-2000000000)) hx hb hown (hts _ kw_9_21) dX11_edge_30 ?_
            exact by exact hret (-2000000000) σ τ _ _ _ _ rfl ⟨rfl, (fun _ _ => rfl), (fun _ _ => rfl), hI2, Or.inl ⟨rfl, (by have h9 := jz_m2000000000; omega), (by have h9 := jz_m2000000000; omega), (fun h => by unfold jEok at h; omega), ⟨rfl, rfl, rfl, rfl⟩⟩⟩ hP hS dX11_edge_32
          · obtain ⟨q188, k187⟩ := h184
            have q188 := q188.symm
            subst q188
            refine lv_if_eq (tgt := 33) hx hb dX11_edge_27 (of_decide_eq_true rfl) (fun _ => ?_) (fun c => absurd (of_decide_eq_true rfl) c)
            refine lv_aload_n hx hb dX11_edge_33 rfl (lv_at hl 1 rfl) ?_
            refine va_get (D := D) hx hb hts inlX11 hown hK hP 0 (jc_0 cI cL ad σ τ) rfl 0 (of_decide_eq_true rfl) (hts _ kw_1_16) (fun _ h9 => h9) rfl dX11_edge_34 ?_
            refine lv_iload hx hb dX11_edge_37 (lv_at hl 0 rfl) ?_
            refine lv_iload_n hx hb dX11_edge_39 rfl (lv_at hl 4 rfl) ?_
            exact by
             refine jcallV (As := [.int r8, .int a3]) (rest := []) ⟨hx, hb, hml, hown, hts⟩ hK hP hA hS hZ (c_X4_change_2 l D cI cL ad zz hJ σ τ r8 (r8.toInt) rfl a3 (A3) t3 hI2 (by omega)) cw_RX11_118 (jc_2 cI cL ad σ τ) rfl ⟨Nat.le_of_ble_eq_true rfl, Nat.le_of_ble_eq_true rfl⟩ rfl rfl rfl hl.1 rfl (Nat.le_of_ble_eq_true rfl) dX11_edge_40 ⟨Nat.zero_le _, Nat.zero_le _⟩ (fun r190 σ189 τ189 H locs h189 hP hS => ?_)
             obtain ⟨rfl, f191, f192, I193, w194, h189⟩ := h189
             obtain ⟨i196, i197, i198, i199, i200, w201⟩ : (0 ≤ (σ189 2 0).toInt ∧ (σ189 2 0).toInt ≤ 4) ∧ (0 ≤ (σ189 2 1).toInt ∧ (σ189 2 1).toInt ≤ 3) ∧ (0 ≤ (σ189 2 2).toInt) ∧ (0 ≤ (σ189 2 3).toInt) ∧ ((σ189 2 2).toInt + (σ189 2 3).toInt ≤ 40) ∧ (∀ k : Nat, k < 40 → 0 ≤ (σ189 6 k).toInt ∧ (σ189 6 k).toInt ≤ 67) := id I193
             have z202 : (σ189 2 0).toInt = (σ 2 0).toInt := (congrArg Int32.toInt (show σ189 2 0 = (σ 2 0) from (f192 0 (of_decide_eq_true rfl))))
             have z203 : (σ189 2 1).toInt = (σ 2 1).toInt := (congrArg Int32.toInt (show σ189 2 1 = (σ 2 1) from (f192 1 (of_decide_eq_true rfl))))
             exact by exact hret r190 σ189 τ _ _ _ _ rfl ⟨rfl, (fun i hi => (f191 i hi)), (fun i hi => (f192 i hi)), I193, Or.inr (⟨trivial, ⟨(by unfold jEok; omega), r8.toInt, (by unfold jEpl; omega), w194⟩⟩)⟩ hP hS dX11_edge_43
        · obtain ⟨q205, k204⟩ := h176
          exact absurd (by omega : False) id
        · obtain ⟨q207, k206⟩ := h177
          have q207 := q207.symm
          subst q207
          refine jcallS (As := [.int a3, .int 0, .int 8]) (rest := []) ⟨hx, hb, hml, hown, hts⟩ hK hP hA hS hZ (c_X11_outside l D cI cL ad zz hJ σ τ a3 (A3) t3 0 (0) jz_0 8 (8) jz_8) cw_RX11_94 ⟨Nat.le_of_ble_eq_true rfl, Nat.le_of_ble_eq_true rfl⟩ rfl rfl rfl hl.1 rfl (Nat.le_of_ble_eq_true rfl) dX11_edge_24 ⟨Nat.zero_le _, Nat.zero_le _⟩ (fun r209 σ208 τ208 H locs h208 hP hS => ?_)
          obtain ⟨⟨rfl, rfl⟩, h208⟩ := h208
          rcases h208 with h210 | h211
          · obtain ⟨q213, k212⟩ := h210
            have q213 := q213.symm
            subst q213
            refine lv_if_eq (tgt := 33) hx hb dX11_edge_27 (of_decide_eq_true rfl) (fun c => absurd c (of_decide_eq_true rfl)) (fun _ => ?_)
            refine lv_ldc (v := (-2000000000)) hx hb hown (hts _ kw_9_21) dX11_edge_30 ?_
            exact by exact hret (-2000000000) σ τ _ _ _ _ rfl ⟨rfl, (fun _ _ => rfl), (fun _ _ => rfl), hI2, Or.inl ⟨rfl, (by have h9 := jz_m2000000000; omega), (by have h9 := jz_m2000000000; omega), (fun h => by unfold jEok at h; omega), ⟨rfl, rfl, rfl, rfl⟩⟩⟩ hP hS dX11_edge_32
          · obtain ⟨q215, k214⟩ := h211
            have q215 := q215.symm
            subst q215
            refine lv_if_eq (tgt := 33) hx hb dX11_edge_27 (of_decide_eq_true rfl) (fun _ => ?_) (fun c => absurd (of_decide_eq_true rfl) c)
            refine lv_aload_n hx hb dX11_edge_33 rfl (lv_at hl 1 rfl) ?_
            refine va_get (D := D) hx hb hts inlX11 hown hK hP 0 (jc_0 cI cL ad σ τ) rfl 0 (of_decide_eq_true rfl) (hts _ kw_1_16) (fun _ h9 => h9) rfl dX11_edge_34 ?_
            refine lv_iload hx hb dX11_edge_37 (lv_at hl 0 rfl) ?_
            refine lv_iload_n hx hb dX11_edge_39 rfl (lv_at hl 4 rfl) ?_
            exact by
             refine jcallV (As := [.int r8, .int a3]) (rest := []) ⟨hx, hb, hml, hown, hts⟩ hK hP hA hS hZ (c_X4_change_2 l D cI cL ad zz hJ σ τ r8 (r8.toInt) rfl a3 (A3) t3 hI2 (by omega)) cw_RX11_118 (jc_2 cI cL ad σ τ) rfl ⟨Nat.le_of_ble_eq_true rfl, Nat.le_of_ble_eq_true rfl⟩ rfl rfl rfl hl.1 rfl (Nat.le_of_ble_eq_true rfl) dX11_edge_40 ⟨Nat.zero_le _, Nat.zero_le _⟩ (fun r217 σ216 τ216 H locs h216 hP hS => ?_)
             obtain ⟨rfl, f218, f219, I220, w221, h216⟩ := h216
             obtain ⟨i223, i224, i225, i226, i227, w228⟩ : (0 ≤ (σ216 2 0).toInt ∧ (σ216 2 0).toInt ≤ 4) ∧ (0 ≤ (σ216 2 1).toInt ∧ (σ216 2 1).toInt ≤ 3) ∧ (0 ≤ (σ216 2 2).toInt) ∧ (0 ≤ (σ216 2 3).toInt) ∧ ((σ216 2 2).toInt + (σ216 2 3).toInt ≤ 40) ∧ (∀ k : Nat, k < 40 → 0 ≤ (σ216 6 k).toInt ∧ (σ216 6 k).toInt ≤ 67) := id I220
             have z229 : (σ216 2 0).toInt = (σ 2 0).toInt := (congrArg Int32.toInt (show σ216 2 0 = (σ 2 0) from (f219 0 (of_decide_eq_true rfl))))
             have z230 : (σ216 2 1).toInt = (σ 2 1).toInt := (congrArg Int32.toInt (show σ216 2 1 = (σ 2 1) from (f219 1 (of_decide_eq_true rfl))))
             exact by exact hret r217 σ216 τ _ _ _ _ rfl ⟨rfl, (fun i hi => (f218 i hi)), (fun i hi => (f219 i hi)), I220, Or.inr (⟨trivial, ⟨(by unfold jEok; omega), r8.toInt, (by unfold jEpl; omega), w221⟩⟩)⟩ hP hS dX11_edge_43
        · obtain ⟨q232, k231⟩ := h178
          exact absurd (by omega : False) id
      · obtain ⟨q234, k233⟩ := h169
        exact absurd (by omega : False) id
      · obtain ⟨q236, k235⟩ := h170
        have q236 := q236.symm
        subst q236
        refine lv_iload hx hb dX11_edge_19 (lv_at hl 0 rfl) ?_
        refine jcallS (As := [.int r8]) (rest := [.int (-9), .int a3]) ⟨hx, hb, hml, hown, hts⟩ hK hP hA hS hZ (c_X4_highest l D cI cL ad zz hJ σ τ r8 (r8.toInt) rfl) cw_RX11_114 ⟨Nat.le_of_ble_eq_true rfl, Nat.le_of_ble_eq_true rfl⟩ rfl rfl rfl hl.1 rfl (Nat.le_of_ble_eq_true rfl) dX11_edge_21 ⟨Nat.zero_le _, Nat.zero_le _⟩ (fun r238 σ237 τ237 H locs h237 hP hS => ?_)
        obtain ⟨⟨rfl, rfl⟩, h237⟩ := h237
        rcases h237 with h239 | h240 | h241 | h242
        · obtain ⟨q244, k243⟩ := h239
          exact absurd (by omega : False) id
        · obtain ⟨q246, k245⟩ := h240
          have q246 := q246.symm
          subst q246
          refine jcallS (As := [.int a3, .int (-9), .int 9]) (rest := []) ⟨hx, hb, hml, hown, hts⟩ hK hP hA hS hZ (c_X11_outside l D cI cL ad zz hJ σ τ a3 (A3) t3 (-9) ((-9)) jz_m9 9 (9) jz_9) cw_RX11_94 ⟨Nat.le_of_ble_eq_true rfl, Nat.le_of_ble_eq_true rfl⟩ rfl rfl rfl hl.1 rfl (Nat.le_of_ble_eq_true rfl) dX11_edge_24 ⟨Nat.zero_le _, Nat.zero_le _⟩ (fun r248 σ247 τ247 H locs h247 hP hS => ?_)
          obtain ⟨⟨rfl, rfl⟩, h247⟩ := h247
          rcases h247 with h249 | h250
          · obtain ⟨q252, k251⟩ := h249
            have q252 := q252.symm
            subst q252
            refine lv_if_eq (tgt := 33) hx hb dX11_edge_27 (of_decide_eq_true rfl) (fun c => absurd c (of_decide_eq_true rfl)) (fun _ => ?_)
            refine lv_ldc (v := (-2000000000)) hx hb hown (hts _ kw_9_21) dX11_edge_30 ?_
            exact by exact hret (-2000000000) σ τ _ _ _ _ rfl ⟨rfl, (fun _ _ => rfl), (fun _ _ => rfl), hI2, Or.inl ⟨rfl, (by have h9 := jz_m2000000000; omega), (by have h9 := jz_m2000000000; omega), (fun h => by unfold jEok at h; omega), ⟨rfl, rfl, rfl, rfl⟩⟩⟩ hP hS dX11_edge_32
          · obtain ⟨q254, k253⟩ := h250
            have q254 := q254.symm
            subst q254
            refine lv_if_eq (tgt := 33) hx hb dX11_edge_27 (of_decide_eq_true rfl) (fun _ => ?_) (fun c => absurd (of_decide_eq_true rfl) c)
            refine lv_aload_n hx hb dX11_edge_33 rfl (lv_at hl 1 rfl) ?_
            refine va_get (D := D) hx hb hts inlX11 hown hK hP 0 (jc_0 cI cL ad σ τ) rfl 0 (of_decide_eq_true rfl) (hts _ kw_1_16) (fun _ h9 => h9) rfl dX11_edge_34 ?_
            refine lv_iload hx hb dX11_edge_37 (lv_at hl 0 rfl) ?_
            refine lv_iload_n hx hb dX11_edge_39 rfl (lv_at hl 4 rfl) ?_
            exact by
             refine jcallV (As := [.int r8, .int a3]) (rest := []) ⟨hx, hb, hml, hown, hts⟩ hK hP hA hS hZ (c_X4_change_2 l D cI cL ad zz hJ σ τ r8 (r8.toInt) rfl a3 (A3) t3 hI2 (by omega)) cw_RX11_118 (jc_2 cI cL ad σ τ) rfl ⟨Nat.le_of_ble_eq_true rfl, Nat.le_of_ble_eq_true rfl⟩ rfl rfl rfl hl.1 rfl (Nat.le_of_ble_eq_true rfl) dX11_edge_40 ⟨Nat.zero_le _, Nat.zero_le _⟩ (fun r256 σ255 τ255 H locs h255 hP hS => ?_)
             obtain ⟨rfl, f257, f258, I259, w260, h255⟩ := h255
             obtain ⟨i262, i263, i264, i265, i266, w267⟩ : (0 ≤ (σ255 2 0).toInt ∧ (σ255 2 0).toInt ≤ 4) ∧ (0 ≤ (σ255 2 1).toInt ∧ (σ255 2 1).toInt ≤ 3) ∧ (0 ≤ (σ255 2 2).toInt) ∧ (0 ≤ (σ255 2 3).toInt) ∧ ((σ255 2 2).toInt + (σ255 2 3).toInt ≤ 40) ∧ (∀ k : Nat, k < 40 → 0 ≤ (σ255 6 k).toInt ∧ (σ255 6 k).toInt ≤ 67) := id I259
             have z268 : (σ255 2 0).toInt = (σ 2 0).toInt := (congrArg Int32.toInt (show σ255 2 0 = (σ 2 0) from (f258 0 (of_decide_eq_true rfl))))
             have z269 : (σ255 2 1).toInt = (σ 2 1).toInt := (congrArg Int32.toInt (show σ255 2 1 = (σ 2 1) from (f258 1 (of_decide_eq_true rfl))))
             exact by exact hret r256 σ255 τ _ _ _ _ rfl ⟨rfl, (fun i hi => (f257 i hi)), (fun i hi => (f258 i hi)), I259, Or.inr (⟨trivial, ⟨(by unfold jEok; omega), r8.toInt, (by unfold jEpl; omega), w260⟩⟩)⟩ hP hS dX11_edge_43
        · obtain ⟨q271, k270⟩ := h241
          exact absurd (by omega : False) id
        · obtain ⟨q273, k272⟩ := h242
          exact absurd (by omega : False) id
  · obtain ⟨q275, k274⟩ := h12
    have q275 := q275.symm
    subst q275
    refine lv_istore (lv' := [(4, .int (-1)), (0, .ref (ad 0)), (1, .int a1), (2, .int a2), (3, .int a3)]) hx hb dX11_edge_6 hl (of_decide_eq_true rfl) rfl (fun ls hl => ?_)
    refine lv_iload hx hb dX11_edge_8 (lv_at hl 0 rfl) ?_
    refine lv_if_lt (tgt := 30) hx hb dX11_edge_10 (of_decide_eq_true rfl) (fun _ => ?_) (fun c => absurd (of_decide_eq_true rfl) c)
    refine lv_ldc (v := (-2000000000)) hx hb hown (hts _ kw_9_21) dX11_edge_30 ?_
    exact by exact hret (-2000000000) σ τ _ _ _ _ rfl ⟨rfl, (fun _ _ => rfl), (fun _ _ => rfl), hI2, Or.inl ⟨rfl, (by have h9 := jz_m2000000000; omega), (by have h9 := jz_m2000000000; omega), (fun h => by unfold jEok at h; omega), ⟨rfl, rfl, rfl, rfl⟩⟩⟩ hP hS dX11_edge_32
set_option maxHeartbeats 4000000 in
set_option maxRecDepth 100000 in
theorem c_X11_field (l : Launch) (D : va_G) (cI cL : ClassId) (ad zz : Nat → Nat) (hJ : jD ad) (σ : Nat → Nat → Int32) (τ : Nat → Nat → Int64) (a1 : Int32) (A1 : Int) (t1 : a1.toInt = A1) (a2 : Int32) (A2 : Int) (t2 : a2.toInt = A2) (a3 : Int32) (A3 : Int) (t3 : a3.toInt = A3) (hI2 : jI2 σ) : jM l yX11_field cX11_field 5 (some .int) ({ frames := 2, cells := 0, slots := 0, locals := 44 }) D cI cL ad zz [.ref (ad 0), .int a1, .int a2, .int a3] σ τ (fun r σ' τ' => τ = τ' ∧ (∀ i : Nat, (i < 2 ∨ 3 < i) ∧ (i < 6 ∨ 8 < i) → σ' i = σ i) ∧ (∀ k : Nat, (k < 2 ∨ 2 < k) ∧ (k < 3 ∨ 3 < k) → σ' 2 k = σ 2 k) ∧ (jI2 σ') ∧ ((r = (-2000000000) ∧ ((σ' 2 2).toInt = (σ 2 2).toInt) ∧ ((σ' 2 3).toInt = (σ 2 3).toInt) ∧ (¬ jFok (A1) (A2) (A3) ((σ 2 0).toInt)) ∧ (σ' 3 = σ 3 ∧ σ' 6 = σ 6 ∧ σ' 7 = σ 7 ∧ σ' 8 = σ 8)) ∨ (True ∧ (jFok (A1) (A2) (A3) ((σ 2 0).toInt) ∧ ∃ q : Int, jFpl (A1) (A2) q ∧ jChg (q) a3 r (σ 3) (σ' 3) (σ 6) (σ' 6) (σ 7) (σ' 7) (σ 8) (σ' 8) (σ 2 2).toInt (σ' 2 2).toInt ((σ 2 2).toInt + (σ 2 3).toInt) ((σ' 2 2).toInt + (σ' 2 3).toInt))))) := by
  refine jM.of hJ (by decide +kernel) (nt := .int) rfl (Nat.le_of_ble_eq_true rfl) ?_
  intro p e s m args below meth c Q ls hC hret hl hP
  obtain ⟨hx, hb, hr, hml, hown, hts, hK, -, hlocks, hZ⟩ := hC
  have hown : s.vm.findClass RX11 = some m.cls := hown
  have hS : va_S (jA ad) s.heap s.heap [] := va_S.rf
  have hA : ∀ q, jA ad q → jA ad q := fun _ h => h
  have hl : lv_has ls 5 [(0, .ref (ad 0)), (1, .int a1), (2, .int a2), (3, .int a3)] := hl
  have g1 := jrg t1
  have g2 := jrg t2
  have g3 := jrg t3
  obtain ⟨i1, i2, i3, i4, i5, w6⟩ : (0 ≤ (σ 2 0).toInt ∧ (σ 2 0).toInt ≤ 4) ∧ (0 ≤ (σ 2 1).toInt ∧ (σ 2 1).toInt ≤ 3) ∧ (0 ≤ (σ 2 2).toInt) ∧ (0 ≤ (σ 2 3).toInt) ∧ ((σ 2 2).toInt + (σ 2 3).toInt ≤ 40) ∧ (∀ k : Nat, k < 40 → 0 ≤ (σ 6 k).toInt ∧ (σ 6 k).toInt ≤ 67) := id hI2
  refine lv_iload_n hx hb dX11_field_0 rfl (lv_at hl 1 rfl) ?_
  refine lv_if_lt (tgt := 37) hx hb dX11_field_1 (of_decide_eq_true rfl) (fun c7 => ?_) (fun c7 => ?_)
  · have kc7 := jlt c7 t1 jz_0
    refine lv_ldc (v := (-2000000000)) hx hb hown (hts _ kw_9_21) dX11_field_37 ?_
    exact by exact hret (-2000000000) σ τ _ _ _ _ rfl ⟨rfl, (fun _ _ => rfl), (fun _ _ => rfl), hI2, Or.inl ⟨rfl, (by have h9 := jz_m2000000000; omega), (by have h9 := jz_m2000000000; omega), (fun h => by unfold jFok at h; omega), ⟨rfl, rfl, rfl, rfl⟩⟩⟩ hP hS dX11_field_39
  · have kc7 := jnlt c7 t1 jz_0
    refine lv_iload_n hx hb dX11_field_4 rfl (lv_at hl 1 rfl) ?_
    refine lv_bipush (v := 10) hx hb dX11_field_5 (of_decide_eq_true rfl) ?_
    refine lv_idiv hx hb dX11_field_7 (of_decide_eq_true rfl) ?_
    refine lv_topi (fun x8 ex8 => ?_)
    exact by
     have tx8 : x8.toInt = (A1 / 10) := jdiv ex8 t1 jz_10 (by omega) (by omega)
     refine lv_iconst (v := 0) hx hb dX11_field_8 (of_decide_eq_true rfl) ?_
     refine lv_iconst (v := 3) hx hb dX11_field_9 (of_decide_eq_true rfl) ?_
     refine jcallS (As := [.int x8, .int 0, .int 3]) (rest := []) ⟨hx, hb, hml, hown, hts⟩ hK hP hA hS hZ (c_X11_outside l D cI cL ad zz hJ σ τ x8 ((A1 / 10)) tx8 0 (0) jz_0 3 (3) jz_3) cw_RX11_94 ⟨Nat.le_of_ble_eq_true rfl, Nat.le_of_ble_eq_true rfl⟩ rfl rfl rfl hl.1 rfl (Nat.le_of_ble_eq_true rfl) dX11_field_10 ⟨Nat.zero_le _, Nat.zero_le _⟩ (fun r10 σ9 τ9 H locs h9 hP hS => ?_)
     obtain ⟨⟨rfl, rfl⟩, h9⟩ := h9
     rcases h9 with h11 | h12
     · obtain ⟨q14, k13⟩ := h11
       have q14 := q14.symm
       subst q14
       refine lv_if_ne (tgt := 37) hx hb dX11_field_13 (of_decide_eq_true rfl) (fun _ => ?_) (fun c => absurd c (of_decide_eq_true rfl))
       refine lv_ldc (v := (-2000000000)) hx hb hown (hts _ kw_9_21) dX11_field_37 ?_
       exact by exact hret (-2000000000) σ τ _ _ _ _ rfl ⟨rfl, (fun _ _ => rfl), (fun _ _ => rfl), hI2, Or.inl ⟨rfl, (by have h9 := jz_m2000000000; omega), (by have h9 := jz_m2000000000; omega), (fun h => by unfold jFok at h; omega), ⟨rfl, rfl, rfl, rfl⟩⟩⟩ hP hS dX11_field_39
     · obtain ⟨q16, k15⟩ := h12
       have q16 := q16.symm
       subst q16
       refine lv_if_ne (tgt := 37) hx hb dX11_field_13 (of_decide_eq_true rfl) (fun c => absurd (of_decide_eq_true rfl) c) (fun _ => ?_)
       refine lv_iload_n hx hb dX11_field_16 rfl (lv_at hl 1 rfl) ?_
       refine lv_bipush (v := 10) hx hb dX11_field_17 (of_decide_eq_true rfl) ?_
       refine lv_irem hx hb dX11_field_19 (of_decide_eq_true rfl) ?_
       refine lv_topi (fun x17 ex17 => ?_)
       exact by
        have tx17 : x17.toInt = (A1 % 10) := jrem ex17 t1 jz_10 (by omega)
        refine lv_iconst (v := 0) hx hb dX11_field_20 (of_decide_eq_true rfl) ?_
        refine lv_iconst (v := 3) hx hb dX11_field_21 (of_decide_eq_true rfl) ?_
        refine jcallS (As := [.int x17, .int 0, .int 3]) (rest := []) ⟨hx, hb, hml, hown, hts⟩ hK hP hA hS hZ (c_X11_outside l D cI cL ad zz hJ σ τ x17 ((A1 % 10)) tx17 0 (0) jz_0 3 (3) jz_3) cw_RX11_94 ⟨Nat.le_of_ble_eq_true rfl, Nat.le_of_ble_eq_true rfl⟩ rfl rfl rfl hl.1 rfl (Nat.le_of_ble_eq_true rfl) dX11_field_22 ⟨Nat.zero_le _, Nat.zero_le _⟩ (fun r19 σ18 τ18 H locs h18 hP hS => ?_)
        obtain ⟨⟨rfl, rfl⟩, h18⟩ := h18
        rcases h18 with h20 | h21
        · obtain ⟨q23, k22⟩ := h20
          have q23 := q23.symm
          subst q23
          refine lv_if_ne (tgt := 37) hx hb dX11_field_25 (of_decide_eq_true rfl) (fun _ => ?_) (fun c => absurd c (of_decide_eq_true rfl))
          refine lv_ldc (v := (-2000000000)) hx hb hown (hts _ kw_9_21) dX11_field_37 ?_
          exact by exact hret (-2000000000) σ τ _ _ _ _ rfl ⟨rfl, (fun _ _ => rfl), (fun _ _ => rfl), hI2, Or.inl ⟨rfl, (by have h9 := jz_m2000000000; omega), (by have h9 := jz_m2000000000; omega), (fun h => by unfold jFok at h; omega), ⟨rfl, rfl, rfl, rfl⟩⟩⟩ hP hS dX11_field_39
        · obtain ⟨q25, k24⟩ := h21
          have q25 := q25.symm
          subst q25
          refine lv_if_ne (tgt := 37) hx hb dX11_field_25 (of_decide_eq_true rfl) (fun c => absurd (of_decide_eq_true rfl) c) (fun _ => ?_)
          refine lv_iload_n hx hb dX11_field_28 rfl (lv_at hl 2 rfl) ?_
          refine lv_iconst (v := 0) hx hb dX11_field_29 (of_decide_eq_true rfl) ?_
          refine lv_iconst (v := 1) hx hb dX11_field_30 (of_decide_eq_true rfl) ?_
          refine jcallS (As := [.int a2, .int 0, .int 1]) (rest := []) ⟨hx, hb, hml, hown, hts⟩ hK hP hA hS hZ (c_X11_outside l D cI cL ad zz hJ σ τ a2 (A2) t2 0 (0) jz_0 1 (1) jz_1) cw_RX11_94 ⟨Nat.le_of_ble_eq_true rfl, Nat.le_of_ble_eq_true rfl⟩ rfl rfl rfl hl.1 rfl (Nat.le_of_ble_eq_true rfl) dX11_field_31 ⟨Nat.zero_le _, Nat.zero_le _⟩ (fun r27 σ26 τ26 H locs h26 hP hS => ?_)
          obtain ⟨⟨rfl, rfl⟩, h26⟩ := h26
          rcases h26 with h28 | h29
          · obtain ⟨q31, k30⟩ := h28
            have q31 := q31.symm
            subst q31
            refine lv_if_eq (tgt := 40) hx hb dX11_field_34 (of_decide_eq_true rfl) (fun c => absurd c (of_decide_eq_true rfl)) (fun _ => ?_)
            refine lv_ldc (v := (-2000000000)) hx hb hown (hts _ kw_9_21) dX11_field_37 ?_
            exact by exact hret (-2000000000) σ τ _ _ _ _ rfl ⟨rfl, (fun _ _ => rfl), (fun _ _ => rfl), hI2, Or.inl ⟨rfl, (by have h9 := jz_m2000000000; omega), (by have h9 := jz_m2000000000; omega), (fun h => by unfold jFok at h; omega), ⟨rfl, rfl, rfl, rfl⟩⟩⟩ hP hS dX11_field_39
          · obtain ⟨q33, k32⟩ := h29
            have q33 := q33.symm
            subst q33
            refine lv_if_eq (tgt := 40) hx hb dX11_field_34 (of_decide_eq_true rfl) (fun _ => ?_) (fun c => absurd (of_decide_eq_true rfl) c)
            refine lv_iload_n hx hb dX11_field_40 rfl (lv_at hl 2 rfl) ?_
            refine lv_if_ne (tgt := 49) hx hb dX11_field_41 (of_decide_eq_true rfl) (fun c34 => ?_) (fun c34 => ?_)
            · have kc34 := jne c34 t2 jz_0
              refine lv_bipush (v := 52) hx hb dX11_field_49 (of_decide_eq_true rfl) ?_
              refine lv_iload_n hx hb dX11_field_51 rfl (lv_at hl 1 rfl) ?_
              refine lv_bipush (v := 10) hx hb dX11_field_52 (of_decide_eq_true rfl) ?_
              refine lv_idiv hx hb dX11_field_54 (of_decide_eq_true rfl) ?_
              refine lv_topi (fun x35 ex35 => ?_)
              exact by
               have tx35 : x35.toInt = (A1 / 10) := jdiv ex35 t1 jz_10 (by omega) (by omega)
               refine lv_iconst (v := 4) hx hb dX11_field_55 (of_decide_eq_true rfl) ?_
               refine lv_imul hx hb dX11_field_56 ?_
               refine lv_topi (fun x36 ex36 => ?_)
               have tx36 : x36.toInt = 4 * (A1 / 10) := (jmul ex36 tx35 jz_4 (by omega) (by omega)).trans (by omega)
               refine lv_iadd hx hb dX11_field_57 ?_
               refine lv_topi (fun x37 ex37 => ?_)
               have tx37 : x37.toInt = 4 * (A1 / 10) + 52 := (jadd ex37 jz_52 tx36 (by omega) (by omega)).trans (by omega)
               refine lv_iload_n hx hb dX11_field_58 rfl (lv_at hl 1 rfl) ?_
               exact by
                refine lv_bipush (v := 10) hx hb dX11_field_59 (of_decide_eq_true rfl) ?_
                refine lv_irem hx hb dX11_field_61 (of_decide_eq_true rfl) ?_
                refine lv_topi (fun x38 ex38 => ?_)
                have tx38 : x38.toInt = (A1 % 10) := jrem ex38 t1 jz_10 (by omega)
                refine lv_iadd hx hb dX11_field_62 ?_
                refine lv_topi (fun x39 ex39 => ?_)
                have tx39 : x39.toInt = 4 * (A1 / 10) + (A1 % 10) + 52 := (jadd ex39 tx37 tx38 (by omega) (by omega)).trans (by omega)
                refine lv_istore (lv' := [(4, .int x39), (0, .ref (ad 0)), (1, .int a1), (2, .int a2), (3, .int a3)]) hx hb dX11_field_63 hl (of_decide_eq_true rfl) rfl (fun ls hl => ?_)
                refine lv_iload_n hx hb dX11_field_65 rfl (lv_at hl 4 rfl) ?_
                exact by
                 refine lv_iload hx hb dX11_field_66 (lv_at hl 0 rfl) ?_
                 refine jcallS (As := [.int x39]) (rest := [.int a3]) ⟨hx, hb, hml, hown, hts⟩ hK hP hA hS hZ (c_X4_lowest l D cI cL ad zz hJ σ τ x39 (4 * (A1 / 10) + (A1 % 10) + 52) tx39) cw_RX11_110 ⟨Nat.le_of_ble_eq_true rfl, Nat.le_of_ble_eq_true rfl⟩ rfl rfl rfl hl.1 rfl (Nat.le_of_ble_eq_true rfl) dX11_field_68 ⟨Nat.zero_le _, Nat.zero_le _⟩ (fun r41 σ40 τ40 H locs h40 hP hS => ?_)
                 obtain ⟨⟨rfl, rfl⟩, h40⟩ := h40
                 rcases h40 with h42 | h43 | h44
                 · obtain ⟨q46, k45⟩ := h42
                   exact absurd (by omega : False) id
                 · obtain ⟨q48, k47⟩ := h43
                   exact absurd (by omega : False) id
                 · obtain ⟨q50, k49⟩ := h44
                   have q50 := q50.symm
                   subst q50
                   refine lv_iload hx hb dX11_field_71 (lv_at hl 0 rfl) ?_
                   refine jcallS (As := [.int x39]) (rest := [.int (-9), .int a3]) ⟨hx, hb, hml, hown, hts⟩ hK hP hA hS hZ (c_X4_highest l D cI cL ad zz hJ σ τ x39 (4 * (A1 / 10) + (A1 % 10) + 52) tx39) cw_RX11_114 ⟨Nat.le_of_ble_eq_true rfl, Nat.le_of_ble_eq_true rfl⟩ rfl rfl rfl hl.1 rfl (Nat.le_of_ble_eq_true rfl) dX11_field_73 ⟨Nat.zero_le _, Nat.zero_le _⟩ (fun r52 σ51 τ51 H locs h51 hP hS => ?_)
                   obtain ⟨⟨rfl, rfl⟩, h51⟩ := h51
                   rcases h51 with h53 | h54 | h55 | h56
                   · obtain ⟨q58, k57⟩ := h53
                     exact absurd (by omega : False) id
                   · obtain ⟨q60, k59⟩ := h54
                     have q60 := q60.symm
                     subst q60
                     refine jcallS (As := [.int a3, .int (-9), .int 9]) (rest := []) ⟨hx, hb, hml, hown, hts⟩ hK hP hA hS hZ (c_X11_outside l D cI cL ad zz hJ σ τ a3 (A3) t3 (-9) ((-9)) jz_m9 9 (9) jz_9) cw_RX11_94 ⟨Nat.le_of_ble_eq_true rfl, Nat.le_of_ble_eq_true rfl⟩ rfl rfl rfl hl.1 rfl (Nat.le_of_ble_eq_true rfl) dX11_field_76 ⟨Nat.zero_le _, Nat.zero_le _⟩ (fun r62 σ61 τ61 H locs h61 hP hS => ?_)
                     obtain ⟨⟨rfl, rfl⟩, h61⟩ := h61
                     rcases h61 with h63 | h64
                     · obtain ⟨q66, k65⟩ := h63
                       have q66 := q66.symm
                       subst q66
                       refine lv_if_eq (tgt := 85) hx hb dX11_field_79 (of_decide_eq_true rfl) (fun c => absurd c (of_decide_eq_true rfl)) (fun _ => ?_)
                       refine lv_ldc (v := (-2000000000)) hx hb hown (hts _ kw_9_21) dX11_field_82 ?_
                       exact by exact hret (-2000000000) σ τ _ _ _ _ rfl ⟨rfl, (fun _ _ => rfl), (fun _ _ => rfl), hI2, Or.inl ⟨rfl, (by have h9 := jz_m2000000000; omega), (by have h9 := jz_m2000000000; omega), (fun h => by unfold jFok at h; omega), ⟨rfl, rfl, rfl, rfl⟩⟩⟩ hP hS dX11_field_84
                     · obtain ⟨q68, k67⟩ := h64
                       have q68 := q68.symm
                       subst q68
                       refine lv_if_eq (tgt := 85) hx hb dX11_field_79 (of_decide_eq_true rfl) (fun _ => ?_) (fun c => absurd (of_decide_eq_true rfl) c)
                       refine lv_aload_n hx hb dX11_field_85 rfl (lv_at hl 1 rfl) ?_
                       refine va_get (D := D) hx hb hts inlX11 hown hK hP 0 (jc_0 cI cL ad σ τ) rfl 0 (of_decide_eq_true rfl) (hts _ kw_1_16) (fun _ h9 => h9) rfl dX11_field_86 ?_
                       refine lv_iload hx hb dX11_field_89 (lv_at hl 0 rfl) ?_
                       refine lv_iload_n hx hb dX11_field_91 rfl (lv_at hl 4 rfl) ?_
                       exact by
                        refine jcallV (As := [.int x39, .int a3]) (rest := []) ⟨hx, hb, hml, hown, hts⟩ hK hP hA hS hZ (c_X4_change_2 l D cI cL ad zz hJ σ τ x39 (4 * (A1 / 10) + (A1 % 10) + 52) tx39 a3 (A3) t3 hI2 (by omega)) cw_RX11_118 (jc_2 cI cL ad σ τ) rfl ⟨Nat.le_of_ble_eq_true rfl, Nat.le_of_ble_eq_true rfl⟩ rfl rfl rfl hl.1 rfl (Nat.le_of_ble_eq_true rfl) dX11_field_92 ⟨Nat.zero_le _, Nat.zero_le _⟩ (fun r70 σ69 τ69 H locs h69 hP hS => ?_)
                        obtain ⟨rfl, f71, f72, I73, w74, h69⟩ := h69
                        obtain ⟨i76, i77, i78, i79, i80, w81⟩ : (0 ≤ (σ69 2 0).toInt ∧ (σ69 2 0).toInt ≤ 4) ∧ (0 ≤ (σ69 2 1).toInt ∧ (σ69 2 1).toInt ≤ 3) ∧ (0 ≤ (σ69 2 2).toInt) ∧ (0 ≤ (σ69 2 3).toInt) ∧ ((σ69 2 2).toInt + (σ69 2 3).toInt ≤ 40) ∧ (∀ k : Nat, k < 40 → 0 ≤ (σ69 6 k).toInt ∧ (σ69 6 k).toInt ≤ 67) := id I73
                        have z82 : (σ69 2 0).toInt = (σ 2 0).toInt := (congrArg Int32.toInt (show σ69 2 0 = (σ 2 0) from (f72 0 (of_decide_eq_true rfl))))
                        have z83 : (σ69 2 1).toInt = (σ 2 1).toInt := (congrArg Int32.toInt (show σ69 2 1 = (σ 2 1) from (f72 1 (of_decide_eq_true rfl))))
                        exact by exact hret r70 σ69 τ _ _ _ _ rfl ⟨rfl, (fun i hi => (f71 i hi)), (fun i hi => (f72 i hi)), I73, Or.inr (⟨trivial, ⟨(by unfold jFok; omega), 4 * (A1 / 10) + (A1 % 10) + 52, (by unfold jFpl; omega), w74⟩⟩)⟩ hP hS dX11_field_95
                   · obtain ⟨q85, k84⟩ := h55
                     exact absurd (by omega : False) id
                   · obtain ⟨q87, k86⟩ := h56
                     exact absurd (by omega : False) id
            · have kc34 := jeq c34 t2 jz_0
              refine lv_bipush (v := 36) hx hb dX11_field_44 (of_decide_eq_true rfl) ?_
              refine lv_goto (tgt := 51) hx hb dX11_field_46 (of_decide_eq_true rfl) ?_
              refine lv_iload_n hx hb dX11_field_51 rfl (lv_at hl 1 rfl) ?_
              refine lv_bipush (v := 10) hx hb dX11_field_52 (of_decide_eq_true rfl) ?_
              refine lv_idiv hx hb dX11_field_54 (of_decide_eq_true rfl) ?_
              refine lv_topi (fun x88 ex88 => ?_)
              exact by
               have tx88 : x88.toInt = (A1 / 10) := jdiv ex88 t1 jz_10 (by omega) (by omega)
               refine lv_iconst (v := 4) hx hb dX11_field_55 (of_decide_eq_true rfl) ?_
               refine lv_imul hx hb dX11_field_56 ?_
               refine lv_topi (fun x89 ex89 => ?_)
               have tx89 : x89.toInt = 4 * (A1 / 10) := (jmul ex89 tx88 jz_4 (by omega) (by omega)).trans (by omega)
               refine lv_iadd hx hb dX11_field_57 ?_
               refine lv_topi (fun x90 ex90 => ?_)
               have tx90 : x90.toInt = 4 * (A1 / 10) + 36 := (jadd ex90 jz_36 tx89 (by omega) (by omega)).trans (by omega)
               refine lv_iload_n hx hb dX11_field_58 rfl (lv_at hl 1 rfl) ?_
               exact by
                refine lv_bipush (v := 10) hx hb dX11_field_59 (of_decide_eq_true rfl) ?_
                refine lv_irem hx hb dX11_field_61 (of_decide_eq_true rfl) ?_
                refine lv_topi (fun x91 ex91 => ?_)
                have tx91 : x91.toInt = (A1 % 10) := jrem ex91 t1 jz_10 (by omega)
                refine lv_iadd hx hb dX11_field_62 ?_
                refine lv_topi (fun x92 ex92 => ?_)
                have tx92 : x92.toInt = 4 * (A1 / 10) + (A1 % 10) + 36 := (jadd ex92 tx90 tx91 (by omega) (by omega)).trans (by omega)
                refine lv_istore (lv' := [(4, .int x92), (0, .ref (ad 0)), (1, .int a1), (2, .int a2), (3, .int a3)]) hx hb dX11_field_63 hl (of_decide_eq_true rfl) rfl (fun ls hl => ?_)
                refine lv_iload_n hx hb dX11_field_65 rfl (lv_at hl 4 rfl) ?_
                exact by
                 refine lv_iload hx hb dX11_field_66 (lv_at hl 0 rfl) ?_
                 refine jcallS (As := [.int x92]) (rest := [.int a3]) ⟨hx, hb, hml, hown, hts⟩ hK hP hA hS hZ (c_X4_lowest l D cI cL ad zz hJ σ τ x92 (4 * (A1 / 10) + (A1 % 10) + 36) tx92) cw_RX11_110 ⟨Nat.le_of_ble_eq_true rfl, Nat.le_of_ble_eq_true rfl⟩ rfl rfl rfl hl.1 rfl (Nat.le_of_ble_eq_true rfl) dX11_field_68 ⟨Nat.zero_le _, Nat.zero_le _⟩ (fun r94 σ93 τ93 H locs h93 hP hS => ?_)
                 obtain ⟨⟨rfl, rfl⟩, h93⟩ := h93
                 rcases h93 with h95 | h96 | h97
                 · obtain ⟨q99, k98⟩ := h95
                   exact absurd (by omega : False) id
                 · obtain ⟨q101, k100⟩ := h96
                   have q101 := q101.symm
                   subst q101
                   refine lv_iload hx hb dX11_field_71 (lv_at hl 0 rfl) ?_
                   refine jcallS (As := [.int x92]) (rest := [.int (-200), .int a3]) ⟨hx, hb, hml, hown, hts⟩ hK hP hA hS hZ (c_X4_highest l D cI cL ad zz hJ σ τ x92 (4 * (A1 / 10) + (A1 % 10) + 36) tx92) cw_RX11_114 ⟨Nat.le_of_ble_eq_true rfl, Nat.le_of_ble_eq_true rfl⟩ rfl rfl rfl hl.1 rfl (Nat.le_of_ble_eq_true rfl) dX11_field_73 ⟨Nat.zero_le _, Nat.zero_le _⟩ (fun r103 σ102 τ102 H locs h102 hP hS => ?_)
                   obtain ⟨⟨rfl, rfl⟩, h102⟩ := h102
                   rcases h102 with h104 | h105 | h106 | h107
                   · obtain ⟨q109, k108⟩ := h104
                     exact absurd (by omega : False) id
                   · obtain ⟨q111, k110⟩ := h105
                     exact absurd (by omega : False) id
                   · obtain ⟨q113, k112⟩ := h106
                     exact absurd (by omega : False) id
                   · obtain ⟨q115, k114⟩ := h107
                     have q115 := q115.symm
                     subst q115
                     refine jcallS (As := [.int a3, .int (-200), .int 200]) (rest := []) ⟨hx, hb, hml, hown, hts⟩ hK hP hA hS hZ (c_X11_outside l D cI cL ad zz hJ σ τ a3 (A3) t3 (-200) ((-200)) jz_m200 200 (200) jz_200) cw_RX11_94 ⟨Nat.le_of_ble_eq_true rfl, Nat.le_of_ble_eq_true rfl⟩ rfl rfl rfl hl.1 rfl (Nat.le_of_ble_eq_true rfl) dX11_field_76 ⟨Nat.zero_le _, Nat.zero_le _⟩ (fun r117 σ116 τ116 H locs h116 hP hS => ?_)
                     obtain ⟨⟨rfl, rfl⟩, h116⟩ := h116
                     rcases h116 with h118 | h119
                     · obtain ⟨q121, k120⟩ := h118
                       have q121 := q121.symm
                       subst q121
                       refine lv_if_eq (tgt := 85) hx hb dX11_field_79 (of_decide_eq_true rfl) (fun c => absurd c (of_decide_eq_true rfl)) (fun _ => ?_)
                       refine lv_ldc (v := (-2000000000)) hx hb hown (hts _ kw_9_21) dX11_field_82 ?_
                       exact by exact hret (-2000000000) σ τ _ _ _ _ rfl ⟨rfl, (fun _ _ => rfl), (fun _ _ => rfl), hI2, Or.inl ⟨rfl, (by have h9 := jz_m2000000000; omega), (by have h9 := jz_m2000000000; omega), (fun h => by unfold jFok at h; omega), ⟨rfl, rfl, rfl, rfl⟩⟩⟩ hP hS dX11_field_84
                     · obtain ⟨q123, k122⟩ := h119
                       have q123 := q123.symm
                       subst q123
                       refine lv_if_eq (tgt := 85) hx hb dX11_field_79 (of_decide_eq_true rfl) (fun _ => ?_) (fun c => absurd (of_decide_eq_true rfl) c)
                       refine lv_aload_n hx hb dX11_field_85 rfl (lv_at hl 1 rfl) ?_
                       refine va_get (D := D) hx hb hts inlX11 hown hK hP 0 (jc_0 cI cL ad σ τ) rfl 0 (of_decide_eq_true rfl) (hts _ kw_1_16) (fun _ h9 => h9) rfl dX11_field_86 ?_
                       refine lv_iload hx hb dX11_field_89 (lv_at hl 0 rfl) ?_
                       refine lv_iload_n hx hb dX11_field_91 rfl (lv_at hl 4 rfl) ?_
                       exact by
                        refine jcallV (As := [.int x92, .int a3]) (rest := []) ⟨hx, hb, hml, hown, hts⟩ hK hP hA hS hZ (c_X4_change_2 l D cI cL ad zz hJ σ τ x92 (4 * (A1 / 10) + (A1 % 10) + 36) tx92 a3 (A3) t3 hI2 (by omega)) cw_RX11_118 (jc_2 cI cL ad σ τ) rfl ⟨Nat.le_of_ble_eq_true rfl, Nat.le_of_ble_eq_true rfl⟩ rfl rfl rfl hl.1 rfl (Nat.le_of_ble_eq_true rfl) dX11_field_92 ⟨Nat.zero_le _, Nat.zero_le _⟩ (fun r125 σ124 τ124 H locs h124 hP hS => ?_)
                        obtain ⟨rfl, f126, f127, I128, w129, h124⟩ := h124
                        obtain ⟨i131, i132, i133, i134, i135, w136⟩ : (0 ≤ (σ124 2 0).toInt ∧ (σ124 2 0).toInt ≤ 4) ∧ (0 ≤ (σ124 2 1).toInt ∧ (σ124 2 1).toInt ≤ 3) ∧ (0 ≤ (σ124 2 2).toInt) ∧ (0 ≤ (σ124 2 3).toInt) ∧ ((σ124 2 2).toInt + (σ124 2 3).toInt ≤ 40) ∧ (∀ k : Nat, k < 40 → 0 ≤ (σ124 6 k).toInt ∧ (σ124 6 k).toInt ≤ 67) := id I128
                        have z137 : (σ124 2 0).toInt = (σ 2 0).toInt := (congrArg Int32.toInt (show σ124 2 0 = (σ 2 0) from (f127 0 (of_decide_eq_true rfl))))
                        have z138 : (σ124 2 1).toInt = (σ 2 1).toInt := (congrArg Int32.toInt (show σ124 2 1 = (σ 2 1) from (f127 1 (of_decide_eq_true rfl))))
                        exact by exact hret r125 σ124 τ _ _ _ _ rfl ⟨rfl, (fun i hi => (f126 i hi)), (fun i hi => (f127 i hi)), I128, Or.inr (⟨trivial, ⟨(by unfold jFok; omega), 4 * (A1 / 10) + (A1 % 10) + 36, (by unfold jFpl; omega), w129⟩⟩)⟩ hP hS dX11_field_95
                 · obtain ⟨q140, k139⟩ := h97
                   exact absurd (by omega : False) id
set_option maxHeartbeats 4000000 in
set_option maxRecDepth 100000 in
theorem c_X11_set (l : Launch) (D : va_G) (cI cL : ClassId) (ad zz : Nat → Nat) (hJ : jD ad) (σ : Nat → Nat → Int32) (τ : Nat → Nat → Int64) (a1 : Int32) (A1 : Int) (t1 : a1.toInt = A1) (hI2 : jI2 σ) : jM l yX11_set cX11_set 3 (some .int) ({ frames := 1, cells := 0, slots := 0, locals := 22 }) D cI cL ad zz [.ref (ad 0), .int a1] σ τ (fun r σ' τ' => τ = τ' ∧ (∀ i : Nat, (i < 2 ∨ 2 < i) → σ' i = σ i) ∧ (∀ k : Nat, (k < 1 ∨ 1 < k) → σ' 2 k = σ 2 k) ∧ (jI2 σ') ∧ ((True ∧ (0 ≤ A1 ∧ A1 ≤ 3) ∧ (r.toInt = (σ 2 1).toInt) ∧ ((σ' 2 1).toInt = A1)) ∨ (r = (-1) ∧ ((A1 < 0) ∨ (3 < A1)) ∧ ((σ' 2 1).toInt = (σ 2 1).toInt)))) := by
  refine jM.of hJ (by decide +kernel) (nt := .int) rfl (Nat.le_of_ble_eq_true rfl) ?_
  intro p e s m args below meth c Q ls hC hret hl hP
  obtain ⟨hx, hb, hr, hml, hown, hts, hK, -, hlocks, hZ⟩ := hC
  have hown : s.vm.findClass RX11 = some m.cls := hown
  have hS : va_S (jA ad) s.heap s.heap [] := va_S.rf
  have hA : ∀ q, jA ad q → jA ad q := fun _ h => h
  have hl : lv_has ls 3 [(0, .ref (ad 0)), (1, .int a1)] := hl
  have g1 := jrg t1
  obtain ⟨i1, i2, i3, i4, i5, w6⟩ : (0 ≤ (σ 2 0).toInt ∧ (σ 2 0).toInt ≤ 4) ∧ (0 ≤ (σ 2 1).toInt ∧ (σ 2 1).toInt ≤ 3) ∧ (0 ≤ (σ 2 2).toInt) ∧ (0 ≤ (σ 2 3).toInt) ∧ ((σ 2 2).toInt + (σ 2 3).toInt ≤ 40) ∧ (∀ k : Nat, k < 40 → 0 ≤ (σ 6 k).toInt ∧ (σ 6 k).toInt ≤ 67) := id hI2
  refine lv_iload_n hx hb dX11_set_0 rfl (lv_at hl 1 rfl) ?_
  refine lv_iconst (v := 0) hx hb dX11_set_1 (of_decide_eq_true rfl) ?_
  refine lv_iconst (v := 3) hx hb dX11_set_2 (of_decide_eq_true rfl) ?_
  refine jcallS (As := [.int a1, .int 0, .int 3]) (rest := []) ⟨hx, hb, hml, hown, hts⟩ hK hP hA hS hZ (c_X11_outside l D cI cL ad zz hJ σ τ a1 (A1) t1 0 (0) jz_0 3 (3) jz_3) cw_RX11_94 ⟨Nat.le_of_ble_eq_true rfl, Nat.le_of_ble_eq_true rfl⟩ rfl rfl rfl hl.1 rfl (Nat.le_of_ble_eq_true rfl) dX11_set_3 ⟨Nat.zero_le _, Nat.zero_le _⟩ (fun r8 σ7 τ7 H locs h7 hP hS => ?_)
  obtain ⟨⟨rfl, rfl⟩, h7⟩ := h7
  rcases h7 with h9 | h10
  · obtain ⟨q12, k11⟩ := h9
    have q12 := q12.symm
    subst q12
    refine lv_if_eq (tgt := 11) hx hb dX11_set_6 (of_decide_eq_true rfl) (fun c => absurd c (of_decide_eq_true rfl)) (fun _ => ?_)
    refine lv_iconst (v := (-1)) hx hb dX11_set_9 (of_decide_eq_true rfl) ?_
    exact by exact hret (-1) σ τ _ _ _ _ rfl ⟨rfl, (fun _ _ => rfl), (fun _ _ => rfl), hI2, Or.inr (⟨rfl, (by have h9 := jz_m1; omega), (by have h9 := jz_m1; omega)⟩)⟩ hP hS dX11_set_10
  · obtain ⟨q14, k13⟩ := h10
    have q14 := q14.symm
    subst q14
    refine lv_if_eq (tgt := 11) hx hb dX11_set_6 (of_decide_eq_true rfl) (fun _ => ?_) (fun c => absurd (of_decide_eq_true rfl) c)
    refine lv_aload_n hx hb dX11_set_11 rfl (lv_at hl 0 rfl) ?_
    refine va_get (D := D) hx hb hts inlX11 hown hK hP 0 (jc_0 cI cL ad σ τ) rfl 0 (of_decide_eq_true rfl) (hts _ kw_1_16) (fun _ h9 => h9) rfl dX11_set_12 ?_
    refine va_get (D := D) hx hb hts inlX4 hown hK hP 2 (jc_2 cI cL ad σ τ) rfl 1 (of_decide_eq_true rfl) (hts _ kw_12_8) (fun _ h9 => h9) rfl dX11_set_15 ?_
    refine lv_istore_n (lv' := [(2, .int (σ 2 1)), (0, .ref (ad 0)), (1, .int a1)]) hx hb dX11_set_18 rfl hl (of_decide_eq_true rfl) rfl (fun ls hl => ?_)
    refine lv_aload_n hx hb dX11_set_19 rfl (lv_at hl 1 rfl) ?_
    refine va_get (D := D) hx hb hts inlX11 hown hK hP 0 (jc_0 cI cL ad σ τ) rfl 0 (of_decide_eq_true rfl) (hts _ kw_1_16) (fun _ h9 => h9) rfl dX11_set_20 ?_
    refine lv_iload_n hx hb dX11_set_23 rfl (lv_at hl 2 rfl) ?_
    refine jput (ty := .int) hx hb hts inlX4 tyX4 tyX4_ok nmX4 hown hK hP hJ hA hS (jc_2 cI cL ad σ τ) rfl (k := 1) (of_decide_eq_true rfl) (Nat.le_of_ble_eq_true rfl) (jp_2_1 cI cL ad σ τ a1) (hts _ kw_12_8) (fun _ h9 => h9) rfl (by decide +kernel) rfl rfl dX11_set_24 (fun σ15 H locs eσ15 hP hS => ?_)
    refine lv_iload_n hx hb dX11_set_27 rfl (lv_at hl 0 rfl) ?_
    have z16 : (σ15 2 0).toInt = (σ 2 0).toInt := (congrArg Int32.toInt (show σ15 2 0 = (σ 2 0) from (jkp 0 eσ15 (of_decide_eq_true rfl))))
    have z17 : (σ15 2 1).toInt = A1 := ((congrArg Int32.toInt (show σ15 2 1 = a1 from (jsp eσ15))).trans t1)
    have z18 : (σ15 2 2).toInt = (σ 2 2).toInt := (congrArg Int32.toInt (show σ15 2 2 = (σ 2 2) from (jkp 2 eσ15 (of_decide_eq_true rfl))))
    have z19 : (σ15 2 3).toInt = (σ 2 3).toInt := (congrArg Int32.toInt (show σ15 2 3 = (σ 2 3) from (jkp 3 eσ15 (of_decide_eq_true rfl))))
    have w20 : ∀ k : Nat, k < 40 → 0 ≤ (σ15 6 k).toInt ∧ (σ15 6 k).toInt ≤ 67 := (jrr_fr (jnp 6 eσ15 (of_decide_eq_true rfl)) w6)
    exact by
     have I21 : jI2 σ15 := ⟨(by omega), (by omega), (by omega), (by omega), (by omega), w20⟩
     exact by exact hret (σ 2 1) σ15 τ _ _ _ _ rfl ⟨rfl, (fun i hi => (jnp i eσ15 (imp_7 i hi))), (fun i hi => (jkp i eσ15 (imp_42 i hi))), I21, Or.inl ⟨trivial, (by omega), (by omega), (by omega)⟩⟩ hP hS dX11_set_28
set_option maxHeartbeats 4000000 in
set_option maxRecDepth 100000 in
theorem c_X11_learn (l : Launch) (D : va_G) (cI cL : ClassId) (ad zz : Nat → Nat) (hJ : jD ad) (σ : Nat → Nat → Int32) (τ : Nat → Nat → Int64) (a1 : Int32) (A1 : Int) (t1 : a1.toInt = A1) (a2 : Int32) (A2 : Int) (t2 : a2.toInt = A2) (hI2 : jI2 σ) : jM l yX11_learn cX11_learn 5 (some .int) ({ frames := 3, cells := 0, slots := 0, locals := 65 }) D cI cL ad zz [.ref (ad 0), .int a1, .int a2] σ τ (fun r σ' τ' => τ = τ' ∧ (∀ i : Nat, (i < 2 ∨ 3 < i) ∧ (i < 6 ∨ 8 < i) → σ' i = σ i) ∧ (∀ k : Nat, (k < 2 ∨ 2 < k) ∧ (k < 3 ∨ 3 < k) → σ' 2 k = σ 2 k) ∧ (jI2 σ') ∧ ((r = (-1) ∧ ((A1 < 0) ∨ (0 ≤ A1 ∧ (σ 2 0).toInt ≤ (A1 / 10)) ∨ (0 ≤ A1 ∧ 3 < (A1 % 10)) ∨ (A2 < 0) ∨ (9999 < A2) ∨ (0 ≤ A2 ∧ (A2 / 100) < (A2 % 100))) ∧ ((σ' 2 2).toInt = (σ 2 2).toInt) ∧ ((σ' 2 3).toInt = (σ 2 3).toInt) ∧ (σ' 3 = σ 3 ∧ σ' 6 = σ 6 ∧ σ' 7 = σ 7 ∧ σ' 8 = σ 8)) ∨ (True ∧ (0 ≤ A1) ∧ ((A1 / 10) < (σ 2 0).toInt) ∧ ((A1 % 10) ≤ 3) ∧ (0 ≤ A2 ∧ A2 ≤ 9999) ∧ ((A2 % 100) ≤ (A2 / 100)) ∧ ((((1000 * (A2 % 100) + 1000) / ((A2 / 100) + 2)) ≤ 500 ∧ r.toInt = ((1000 * (A2 % 100) + 1000) / ((A2 / 100) + 2))) ∨ (500 < ((1000 * (A2 % 100) + 1000) / ((A2 / 100) + 2)) ∧ r.toInt = 500)) ∧ (∃ (q : Int) (w : Int32), q = 4 * ((A1) / 10) + (A1) % 10 ∧ jChg (q) r w (σ 3) (σ' 3) (σ 6) (σ' 6) (σ 7) (σ' 7) (σ 8) (σ' 8) (σ 2 2).toInt (σ' 2 2).toInt ((σ 2 2).toInt + (σ 2 3).toInt) ((σ' 2 2).toInt + (σ' 2 3).toInt))))) := by
  refine jM.of hJ (by decide +kernel) (nt := .int) rfl (Nat.le_of_ble_eq_true rfl) ?_
  intro p e s m args below meth c Q ls hC hret hl hP
  obtain ⟨hx, hb, hr, hml, hown, hts, hK, -, hlocks, hZ⟩ := hC
  have hown : s.vm.findClass RX11 = some m.cls := hown
  have hS : va_S (jA ad) s.heap s.heap [] := va_S.rf
  have hA : ∀ q, jA ad q → jA ad q := fun _ h => h
  have hl : lv_has ls 5 [(0, .ref (ad 0)), (1, .int a1), (2, .int a2)] := hl
  have g1 := jrg t1
  have g2 := jrg t2
  obtain ⟨i1, i2, i3, i4, i5, w6⟩ : (0 ≤ (σ 2 0).toInt ∧ (σ 2 0).toInt ≤ 4) ∧ (0 ≤ (σ 2 1).toInt ∧ (σ 2 1).toInt ≤ 3) ∧ (0 ≤ (σ 2 2).toInt) ∧ (0 ≤ (σ 2 3).toInt) ∧ ((σ 2 2).toInt + (σ 2 3).toInt ≤ 40) ∧ (∀ k : Nat, k < 40 → 0 ≤ (σ 6 k).toInt ∧ (σ 6 k).toInt ≤ 67) := id hI2
  refine lv_aload_n hx hb dX11_learn_0 rfl (lv_at hl 0 rfl) ?_
  refine lv_iload_n hx hb dX11_learn_1 rfl (lv_at hl 1 rfl) ?_
  refine lv_iconst (v := 0) hx hb dX11_learn_2 (of_decide_eq_true rfl) ?_
  refine jcallV (As := [.int a1, .int 0]) (rest := []) ⟨hx, hb, hml, hown, hts⟩ hK hP hA hS hZ (c_X11_edgePlace_0 l D cI cL ad zz hJ σ τ a1 (A1) t1 hI2) cw_RX11_106 (jc_0 cI cL ad σ τ) rfl ⟨Nat.le_of_ble_eq_true rfl, Nat.le_of_ble_eq_true rfl⟩ rfl rfl rfl hl.1 rfl (Nat.le_of_ble_eq_true rfl) dX11_learn_3 ⟨Nat.zero_le _, Nat.zero_le _⟩ (fun r8 σ7 τ7 H locs h7 hP hS => ?_)
  obtain ⟨⟨rfl, rfl⟩, h7⟩ := h7
  rcases h7 with h9 | h10
  · obtain ⟨q16, k11, k12, k13, k14, k15⟩ := h9
    refine lv_istore_n (lv' := [(3, .int r8), (0, .ref (ad 0)), (1, .int a1), (2, .int a2)]) hx hb dX11_learn_6 rfl hl (of_decide_eq_true rfl) rfl (fun ls hl => ?_)
    refine lv_iload_n hx hb dX11_learn_7 rfl (lv_at hl 0 rfl) ?_
    exact by
     refine lv_if_lt (tgt := 33) hx hb dX11_learn_8 (of_decide_eq_true rfl) (fun c => absurd (jlt c rfl jz_0) (by omega)) (fun c17 => ?_)
     have kc17 := jnlt c17 rfl jz_0
     refine lv_iload_n hx hb dX11_learn_11 rfl (lv_at hl 3 rfl) ?_
     refine lv_iconst (v := 0) hx hb dX11_learn_12 (of_decide_eq_true rfl) ?_
     refine lv_sipush (v := 9999) hx hb dX11_learn_13 (of_decide_eq_true rfl) ?_
     refine jcallS (As := [.int a2, .int 0, .int 9999]) (rest := []) ⟨hx, hb, hml, hown, hts⟩ hK hP hA hS hZ (c_X11_outside l D cI cL ad zz hJ σ τ a2 (A2) t2 0 (0) jz_0 9999 (9999) jz_9999) cw_RX11_94 ⟨Nat.le_of_ble_eq_true rfl, Nat.le_of_ble_eq_true rfl⟩ rfl rfl rfl hl.1 rfl (Nat.le_of_ble_eq_true rfl) dX11_learn_16 ⟨Nat.zero_le _, Nat.zero_le _⟩ (fun r19 σ18 τ18 H locs h18 hP hS => ?_)
     obtain ⟨⟨rfl, rfl⟩, h18⟩ := h18
     rcases h18 with h20 | h21
     · obtain ⟨q23, k22⟩ := h20
       have q23 := q23.symm
       subst q23
       refine lv_if_ne (tgt := 33) hx hb dX11_learn_19 (of_decide_eq_true rfl) (fun _ => ?_) (fun c => absurd c (of_decide_eq_true rfl))
       refine lv_iconst (v := (-1)) hx hb dX11_learn_33 (of_decide_eq_true rfl) ?_
       exact by exact hret (-1) σ τ _ _ _ _ rfl ⟨rfl, (fun _ _ => rfl), (fun _ _ => rfl), hI2, Or.inl ⟨rfl, (by have h9 := jz_m1; omega), (by have h9 := jz_m1; omega), (by have h9 := jz_m1; omega), ⟨rfl, rfl, rfl, rfl⟩⟩⟩ hP hS dX11_learn_34
     · obtain ⟨q25, k24⟩ := h21
       have q25 := q25.symm
       subst q25
       refine lv_if_ne (tgt := 33) hx hb dX11_learn_19 (of_decide_eq_true rfl) (fun c => absurd (of_decide_eq_true rfl) c) (fun _ => ?_)
       refine lv_iload_n hx hb dX11_learn_22 rfl (lv_at hl 3 rfl) ?_
       refine lv_bipush (v := 100) hx hb dX11_learn_23 (of_decide_eq_true rfl) ?_
       refine lv_irem hx hb dX11_learn_25 (of_decide_eq_true rfl) ?_
       refine lv_topi (fun x26 ex26 => ?_)
       exact by
        have tx26 : x26.toInt = (A2 % 100) := jrem ex26 t2 jz_100 (by omega)
        refine lv_iload_n hx hb dX11_learn_26 rfl (lv_at hl 3 rfl) ?_
        refine lv_bipush (v := 100) hx hb dX11_learn_27 (of_decide_eq_true rfl) ?_
        refine lv_idiv hx hb dX11_learn_29 (of_decide_eq_true rfl) ?_
        refine lv_topi (fun x27 ex27 => ?_)
        have tx27 : x27.toInt = (A2 / 100) := jdiv ex27 t2 jz_100 (by omega) (by omega)
        refine lv_icmp_le (tgt := 35) hx hb dX11_learn_30 (of_decide_eq_true rfl) (fun c28 => ?_) (fun c28 => ?_)
        · have kc28 := jle c28 tx26 tx27
          refine lv_sipush (v := 500) hx hb dX11_learn_35 (of_decide_eq_true rfl) ?_
          exact by
           refine lv_sipush (v := 1000) hx hb dX11_learn_38 (of_decide_eq_true rfl) ?_
           refine lv_iload_n hx hb dX11_learn_41 rfl (lv_at hl 3 rfl) ?_
           refine lv_bipush (v := 100) hx hb dX11_learn_42 (of_decide_eq_true rfl) ?_
           refine lv_irem hx hb dX11_learn_44 (of_decide_eq_true rfl) ?_
           refine lv_topi (fun x29 ex29 => ?_)
           have tx29 : x29.toInt = (A2 % 100) := jrem ex29 t2 jz_100 (by omega)
           refine lv_iconst (v := 1) hx hb dX11_learn_45 (of_decide_eq_true rfl) ?_
           refine lv_iadd hx hb dX11_learn_46 ?_
           refine lv_topi (fun x30 ex30 => ?_)
           exact by
            have tx30 : x30.toInt = (A2 % 100) + 1 := (jadd ex30 tx29 jz_1 (by omega) (by omega)).trans (by omega)
            refine lv_imul hx hb dX11_learn_47 ?_
            refine lv_topi (fun x31 ex31 => ?_)
            have tx31 : x31.toInt = 1000 * (A2 % 100) + 1000 := (jmul ex31 jz_1000 tx30 (by omega) (by omega)).trans (by omega)
            refine lv_iload_n hx hb dX11_learn_48 rfl (lv_at hl 3 rfl) ?_
            refine lv_bipush (v := 100) hx hb dX11_learn_49 (of_decide_eq_true rfl) ?_
            refine lv_idiv hx hb dX11_learn_51 (of_decide_eq_true rfl) ?_
            refine lv_topi (fun x32 ex32 => ?_)
            have tx32 : x32.toInt = (A2 / 100) := jdiv ex32 t2 jz_100 (by omega) (by omega)
            exact by
             refine lv_iconst (v := 2) hx hb dX11_learn_52 (of_decide_eq_true rfl) ?_
             refine lv_iadd hx hb dX11_learn_53 ?_
             refine lv_topi (fun x33 ex33 => ?_)
             have tx33 : x33.toInt = (A2 / 100) + 2 := (jadd ex33 tx32 jz_2 (by omega) (by omega)).trans (by omega)
             refine lv_idiv hx hb dX11_learn_54 (fun h => absurd (jeq h tx33 jz_0) (by omega)) ?_
             have g34 := jdivv (a := x31) (b := x33) tx31 tx33 (by omega) (by omega)
             refine lv_topi (fun x35 ex35 => ?_)
             have tx35 : x35.toInt = ((1000 * (A2 % 100) + 1000) / ((A2 / 100) + 2)) := jdiv ex35 tx31 tx33 (by omega) (by omega)
             refine va_mmin hx hb (hml.trans hl.1.symm) hown (hts _ kw_41_3) (hts _ kw_22_11) (hts _ kw_21_1) (hts _ kw_22_12) (Nat.le_of_ble_eq_true rfl) (Nat.le_of_ble_eq_true rfl) (Nat.le_of_ble_eq_true rfl) (Nat.le_of_ble_eq_true rfl) dX11_learn_55 ?_
             exact by
              refine lv_topi (fun x36 ex36 => ?_)
              have g37 := jmin ex36 jz_500 tx35
              refine lv_istore (lv' := [(4, .int x36), (3, .int r8), (0, .ref (ad 0)), (1, .int a1), (2, .int a2)]) hx hb dX11_learn_58 hl (of_decide_eq_true rfl) rfl (fun ls hl => ?_)
              refine lv_aload_n hx hb dX11_learn_60 rfl (lv_at hl 2 rfl) ?_
              refine va_get (D := D) hx hb hts inlX11 hown hK hP 0 (jc_0 cI cL ad σ τ) rfl 0 (of_decide_eq_true rfl) (hts _ kw_1_16) (fun _ h9 => h9) rfl dX11_learn_61 ?_
              refine lv_iload_n hx hb dX11_learn_64 rfl (lv_at hl 1 rfl) ?_
              refine lv_iload hx hb dX11_learn_65 (lv_at hl 0 rfl) ?_
              refine jcallV (As := [.int r8, .int x36]) (rest := []) ⟨hx, hb, hml, hown, hts⟩ hK hP hA hS hZ (c_X4_change_2 l D cI cL ad zz hJ σ τ r8 (r8.toInt) rfl x36 (x36.toInt) rfl hI2 (by omega)) cw_RX11_118 (jc_2 cI cL ad σ τ) rfl ⟨Nat.le_of_ble_eq_true rfl, Nat.le_of_ble_eq_true rfl⟩ rfl rfl rfl hl.1 rfl (Nat.le_of_ble_eq_true rfl) dX11_learn_67 ⟨Nat.zero_le _, Nat.zero_le _⟩ (fun r39 σ38 τ38 H locs h38 hP hS => ?_)
              obtain ⟨rfl, f40, f41, I42, w43, h38⟩ := h38
              exact by
               obtain ⟨i45, i46, i47, i48, i49, w50⟩ : (0 ≤ (σ38 2 0).toInt ∧ (σ38 2 0).toInt ≤ 4) ∧ (0 ≤ (σ38 2 1).toInt ∧ (σ38 2 1).toInt ≤ 3) ∧ (0 ≤ (σ38 2 2).toInt) ∧ (0 ≤ (σ38 2 3).toInt) ∧ ((σ38 2 2).toInt + (σ38 2 3).toInt ≤ 40) ∧ (∀ k : Nat, k < 40 → 0 ≤ (σ38 6 k).toInt ∧ (σ38 6 k).toInt ≤ 67) := id I42
               have z51 : (σ38 2 0).toInt = (σ 2 0).toInt := (congrArg Int32.toInt (show σ38 2 0 = (σ 2 0) from (f41 0 (of_decide_eq_true rfl))))
               have z52 : (σ38 2 1).toInt = (σ 2 1).toInt := (congrArg Int32.toInt (show σ38 2 1 = (σ 2 1) from (f41 1 (of_decide_eq_true rfl))))
               refine lv_pop hx hb dX11_learn_70 rfl ?_
               refine lv_iload hx hb dX11_learn_71 (lv_at hl 0 rfl) ?_
               exact by exact hret x36 σ38 τ _ _ _ _ rfl ⟨rfl, (fun i hi => (f40 i hi)), (fun i hi => (f41 i hi)), I42, Or.inr (⟨trivial, (by omega), (by omega), (by omega), (by omega), (by omega), (by omega), ⟨r8.toInt, _, (by omega), w43⟩⟩)⟩ hP hS dX11_learn_73
        · have kc28 := jnle c28 tx26 tx27
          refine lv_iconst (v := (-1)) hx hb dX11_learn_33 (of_decide_eq_true rfl) ?_
          exact by exact hret (-1) σ τ _ _ _ _ rfl ⟨rfl, (fun _ _ => rfl), (fun _ _ => rfl), hI2, Or.inl ⟨rfl, (by have h9 := jz_m1; omega), (by have h9 := jz_m1; omega), (by have h9 := jz_m1; omega), ⟨rfl, rfl, rfl, rfl⟩⟩⟩ hP hS dX11_learn_34
  · obtain ⟨q54, k53⟩ := h10
    have q54 := q54.symm
    subst q54
    refine lv_istore_n (lv' := [(3, .int (-1)), (0, .ref (ad 0)), (1, .int a1), (2, .int a2)]) hx hb dX11_learn_6 rfl hl (of_decide_eq_true rfl) rfl (fun ls hl => ?_)
    refine lv_iload_n hx hb dX11_learn_7 rfl (lv_at hl 0 rfl) ?_
    refine lv_if_lt (tgt := 33) hx hb dX11_learn_8 (of_decide_eq_true rfl) (fun _ => ?_) (fun c => absurd (of_decide_eq_true rfl) c)
    refine lv_iconst (v := (-1)) hx hb dX11_learn_33 (of_decide_eq_true rfl) ?_
    exact by exact hret (-1) σ τ _ _ _ _ rfl ⟨rfl, (fun _ _ => rfl), (fun _ _ => rfl), hI2, Or.inl ⟨rfl, (by have h9 := jz_m1; omega), (by have h9 := jz_m1; omega), (by have h9 := jz_m1; omega), ⟨rfl, rfl, rfl, rfl⟩⟩⟩ hP hS dX11_learn_34
set_option maxHeartbeats 4000000 in
set_option maxRecDepth 100000 in
theorem c_X11_feed (l : Launch) (D : va_G) (cI cL : ClassId) (ad zz : Nat → Nat) (hJ : jD ad) (σ : Nat → Nat → Int32) (τ : Nat → Nat → Int64) (a1 : Int32) (A1 : Int) (t1 : a1.toInt = A1) (a2 : Int32) (A2 : Int) (t2 : a2.toInt = A2) (hI9 : jI9 σ) : jM l yX11_feed cX11_feed 3 (some .int) ({ frames := 1, cells := 0, slots := 0, locals := 23 }) D cI cL ad zz [.ref (ad 0), .int a1, .int a2] σ τ (fun r σ' τ' => τ = τ' ∧ (∀ i : Nat, (i < 9 ∨ 10 < i) → σ' i = σ i) ∧ (∀ k : Nat, (k < 0 ∨ 0 < k) → σ' 9 k = σ 9 k) ∧ (jI9 σ') ∧ ((r = (-1) ∧ ((A1 < 1) ∨ (4 < A1)) ∧ ((σ' 9 0).toInt = (σ 9 0).toInt) ∧ (σ' 10 = σ 10)) ∨ (r = (-3) ∧ (1 ≤ A1 ∧ A1 ≤ 4) ∧ (80 < (σ 9 0).toInt + A1) ∧ ((σ' 9 0).toInt = (σ 9 0).toInt) ∧ (σ' 10 = σ 10)) ∨ (True ∧ (1 ≤ A1 ∧ A1 ≤ 4) ∧ ((σ 9 0).toInt + A1 ≤ 80) ∧ (r.toInt = (σ 9 0).toInt + A1) ∧ ((σ' 9 0).toInt = (σ 9 0).toInt + A1) ∧ (jFd jBc (σ 10) (σ' 10) ((σ 9 0).toInt) (A1) a2)))) := by
  refine jM.of hJ (by decide +kernel) (nt := .int) rfl (Nat.le_of_ble_eq_true rfl) ?_
  intro p e s m args below meth c Q ls hC hret hl hP
  obtain ⟨hx, hb, hr, hml, hown, hts, hK, -, hlocks, hZ⟩ := hC
  have hown : s.vm.findClass RX11 = some m.cls := hown
  have hS : va_S (jA ad) s.heap s.heap [] := va_S.rf
  have hA : ∀ q, jA ad q → jA ad q := fun _ h => h
  have hl : lv_has ls 3 [(0, .ref (ad 0)), (1, .int a1), (2, .int a2)] := hl
  have g1 := jrg t1
  have g2 := jrg t2
  obtain ⟨i1, w2, w3⟩ : (0 ≤ (σ 9 0).toInt ∧ (σ 9 0).toInt ≤ 80) ∧ (∀ k : Nat, k < 80 → 0 ≤ (σ 10 k).toInt ∧ (σ 10 k).toInt ≤ 255) ∧ (∀ k : Nat, k < 8 → 0 ≤ (σ 11 k).toInt ∧ (σ 11 k).toInt ≤ 3) := id hI9
  refine lv_iload_n hx hb dX11_feed_0 rfl (lv_at hl 1 rfl) ?_
  refine lv_iconst (v := 1) hx hb dX11_feed_1 (of_decide_eq_true rfl) ?_
  refine lv_iconst (v := 4) hx hb dX11_feed_2 (of_decide_eq_true rfl) ?_
  refine jcallS (As := [.int a1, .int 1, .int 4]) (rest := []) ⟨hx, hb, hml, hown, hts⟩ hK hP hA hS hZ (c_X11_outside l D cI cL ad zz hJ σ τ a1 (A1) t1 1 (1) jz_1 4 (4) jz_4) cw_RX11_94 ⟨Nat.le_of_ble_eq_true rfl, Nat.le_of_ble_eq_true rfl⟩ rfl rfl rfl hl.1 rfl (Nat.le_of_ble_eq_true rfl) dX11_feed_3 ⟨Nat.zero_le _, Nat.zero_le _⟩ (fun r5 σ4 τ4 H locs h4 hP hS => ?_)
  obtain ⟨⟨rfl, rfl⟩, h4⟩ := h4
  rcases h4 with h6 | h7
  · obtain ⟨q9, k8⟩ := h6
    have q9 := q9.symm
    subst q9
    refine lv_if_eq (tgt := 11) hx hb dX11_feed_6 (of_decide_eq_true rfl) (fun c => absurd c (of_decide_eq_true rfl)) (fun _ => ?_)
    refine lv_iconst (v := (-1)) hx hb dX11_feed_9 (of_decide_eq_true rfl) ?_
    exact by exact hret (-1) σ τ _ _ _ _ rfl ⟨rfl, (fun _ _ => rfl), (fun _ _ => rfl), hI9, Or.inl ⟨rfl, (by have h9 := jz_m1; omega), (by have h9 := jz_m1; omega), rfl⟩⟩ hP hS dX11_feed_10
  · obtain ⟨q11, k10⟩ := h7
    have q11 := q11.symm
    subst q11
    refine lv_if_eq (tgt := 11) hx hb dX11_feed_6 (of_decide_eq_true rfl) (fun _ => ?_) (fun c => absurd (of_decide_eq_true rfl) c)
    refine lv_aload_n hx hb dX11_feed_11 rfl (lv_at hl 0 rfl) ?_
    refine va_get (D := D) hx hb hts inlX11 hown hK hP 0 (jc_0 cI cL ad σ τ) rfl 1 (of_decide_eq_true rfl) (hts _ kw_1_20) (fun _ h9 => h9) rfl dX11_feed_12 ?_
    refine va_get (D := D) hx hb hts inlX7 hown hK hP 9 (jc_9 cI cL ad σ τ) rfl 0 (of_decide_eq_true rfl) (hts _ kw_12_19) (fun _ h9 => h9) rfl dX11_feed_15 ?_
    refine lv_iload_n hx hb dX11_feed_18 rfl (lv_at hl 1 rfl) ?_
    have g12 := jrg (rfl : (σ 9 0).toInt = (σ 9 0).toInt)
    refine lv_iadd hx hb dX11_feed_19 ?_
    refine lv_topi (fun x13 ex13 => ?_)
    exact by
     have tx13 : x13.toInt = (σ 9 0).toInt + A1 := (jadd ex13 rfl t1 (by omega) (by omega)).trans (by omega)
     refine lv_bipush (v := 80) hx hb dX11_feed_20 (of_decide_eq_true rfl) ?_
     refine lv_icmp_le (tgt := 28) hx hb dX11_feed_22 (of_decide_eq_true rfl) (fun c14 => ?_) (fun c14 => ?_)
     · have kc14 := jle c14 tx13 jz_80
       refine lv_aload_n hx hb dX11_feed_28 rfl (lv_at hl 0 rfl) ?_
       refine va_get (D := D) hx hb hts inlX11 hown hK hP 0 (jc_0 cI cL ad σ τ) rfl 1 (of_decide_eq_true rfl) (hts _ kw_1_20) (fun _ h9 => h9) rfl dX11_feed_29 ?_
       refine lv_iload_n hx hb dX11_feed_32 rfl (lv_at hl 1 rfl) ?_
       refine lv_iload_n hx hb dX11_feed_33 rfl (lv_at hl 2 rfl) ?_
       refine jcallV (As := [.int a1, .int a2]) (rest := []) ⟨hx, hb, hml, hown, hts⟩ hK hP hA hS hZ (c_X7_take_9 l D cI cL ad zz hJ σ τ a1 (A1) t1 a2 (A2) t2 hI9 (by omega) (by omega)) cw_RX11_127 (jc_9 cI cL ad σ τ) rfl ⟨Nat.le_of_ble_eq_true rfl, Nat.le_of_ble_eq_true rfl⟩ rfl rfl rfl hl.1 rfl (Nat.le_of_ble_eq_true rfl) dX11_feed_34 ⟨Nat.zero_le _, Nat.zero_le _⟩ (fun r16 σ15 τ15 H locs h15 hP hS => ?_)
       exact by
        obtain ⟨rfl, f17, f18, I19, h15⟩ := h15
        obtain ⟨i21, w22, w23⟩ : (0 ≤ (σ15 9 0).toInt ∧ (σ15 9 0).toInt ≤ 80) ∧ (∀ k : Nat, k < 80 → 0 ≤ (σ15 10 k).toInt ∧ (σ15 10 k).toInt ≤ 255) ∧ (∀ k : Nat, k < 8 → 0 ≤ (σ15 11 k).toInt ∧ (σ15 11 k).toInt ≤ 3) := id I19
        have h24 := h15
        obtain ⟨q28, k25, k26, k27⟩ := h24
        exact by exact hret r16 σ15 τ _ _ _ _ rfl ⟨rfl, (fun i hi => (f17 i hi)), (fun i hi => (f18 i hi)), I19, Or.inr (Or.inr (⟨trivial, (by omega), (by omega), (by omega), (by omega), k27⟩))⟩ hP hS dX11_feed_37
     · have kc14 := jnle c14 tx13 jz_80
       refine lv_bipush (v := (-3)) hx hb dX11_feed_25 (of_decide_eq_true rfl) ?_
       exact by exact hret (-3) σ τ _ _ _ _ rfl ⟨rfl, (fun _ _ => rfl), (fun _ _ => rfl), hI9, Or.inr (Or.inl ⟨rfl, (by have h9 := jz_m3; omega), (by have h9 := jz_m3; omega), (by have h9 := jz_m3; omega), rfl⟩)⟩ hP hS dX11_feed_27
set_option maxHeartbeats 4000000 in
set_option maxRecDepth 100000 in
theorem c_X11_undo (l : Launch) (D : va_G) (cI cL : ClassId) (ad zz : Nat → Nat) (hJ : jD ad) (σ : Nat → Nat → Int32) (τ : Nat → Nat → Int64) (hI2 : jI2 σ) : jM l yX11_undo cX11_undo 1 (some .int) ({ frames := 1, cells := 0, slots := 0, locals := 20 }) D cI cL ad zz [.ref (ad 0)] σ τ (fun r σ' τ' => τ = τ' ∧ (∀ i : Nat, (i < 2 ∨ 3 < i) → σ' i = σ i) ∧ (∀ k : Nat, (k < 2 ∨ 2 < k) ∧ (k < 3 ∨ 3 < k) → σ' 2 k = σ 2 k) ∧ (jI2 σ') ∧ ((r = (-5) ∧ ((σ 2 2).toInt = 0) ∧ ((σ' 2 2).toInt = (σ 2 2).toInt) ∧ ((σ' 2 3).toInt = (σ 2 3).toInt) ∧ (σ' 3 = σ 3)) ∨ (True ∧ (1 ≤ (σ 2 2).toInt) ∧ ((σ 2 2).toInt ≤ 40) ∧ (r.toInt = (σ 2 2).toInt - 1) ∧ ((σ' 2 2).toInt = (σ 2 2).toInt - 1) ∧ ((σ' 2 3).toInt = (σ 2 3).toInt + 1) ∧ (σ' 3 = jupd (σ 3) (σ 6 (r.toInt).toNat).toInt.toNat (σ 7 (r.toInt).toNat))))) := by
  refine jM.of hJ (by decide +kernel) (nt := .int) rfl (Nat.le_of_ble_eq_true rfl) ?_
  intro p e s m args below meth c Q ls hC hret hl hP
  obtain ⟨hx, hb, hr, hml, hown, hts, hK, -, hlocks, hZ⟩ := hC
  have hown : s.vm.findClass RX11 = some m.cls := hown
  have hS : va_S (jA ad) s.heap s.heap [] := va_S.rf
  have hA : ∀ q, jA ad q → jA ad q := fun _ h => h
  have hl : lv_has ls 1 [(0, .ref (ad 0))] := hl
  obtain ⟨i1, i2, i3, i4, i5, w6⟩ : (0 ≤ (σ 2 0).toInt ∧ (σ 2 0).toInt ≤ 4) ∧ (0 ≤ (σ 2 1).toInt ∧ (σ 2 1).toInt ≤ 3) ∧ (0 ≤ (σ 2 2).toInt) ∧ (0 ≤ (σ 2 3).toInt) ∧ ((σ 2 2).toInt + (σ 2 3).toInt ≤ 40) ∧ (∀ k : Nat, k < 40 → 0 ≤ (σ 6 k).toInt ∧ (σ 6 k).toInt ≤ 67) := id hI2
  refine lv_aload_n hx hb dX11_undo_0 rfl (lv_at hl 0 rfl) ?_
  refine va_get (D := D) hx hb hts inlX11 hown hK hP 0 (jc_0 cI cL ad σ τ) rfl 0 (of_decide_eq_true rfl) (hts _ kw_1_16) (fun _ h9 => h9) rfl dX11_undo_1 ?_
  refine va_get (D := D) hx hb hts inlX4 hown hK hP 2 (jc_2 cI cL ad σ τ) rfl 2 (of_decide_eq_true rfl) (hts _ kw_47_8) (fun _ h9 => h9) rfl dX11_undo_4 ?_
  refine lv_if_ne (tgt := 15) hx hb dX11_undo_7 (of_decide_eq_true rfl) (fun c7 => ?_) (fun c7 => ?_)
  · have kc7 := jne c7 rfl jz_0
    refine lv_aload_n hx hb dX11_undo_15 rfl (lv_at hl 0 rfl) ?_
    refine va_get (D := D) hx hb hts inlX11 hown hK hP 0 (jc_0 cI cL ad σ τ) rfl 0 (of_decide_eq_true rfl) (hts _ kw_1_16) (fun _ h9 => h9) rfl dX11_undo_16 ?_
    refine jcallV (As := []) (rest := []) ⟨hx, hb, hml, hown, hts⟩ hK hP hA hS hZ (c_X4_stepBack_2 l D cI cL ad zz hJ σ τ hI2) cw_RX11_280 (jc_2 cI cL ad σ τ) rfl ⟨Nat.le_of_ble_eq_true rfl, Nat.le_of_ble_eq_true rfl⟩ rfl rfl rfl hl.1 rfl (Nat.le_of_ble_eq_true rfl) dX11_undo_19 ⟨Nat.zero_le _, Nat.zero_le _⟩ (fun r9 σ8 τ8 H locs h8 hP hS => ?_)
    obtain ⟨rfl, f10, f11, I12, h8⟩ := h8
    obtain ⟨i14, i15, i16, i17, i18, w19⟩ : (0 ≤ (σ8 2 0).toInt ∧ (σ8 2 0).toInt ≤ 4) ∧ (0 ≤ (σ8 2 1).toInt ∧ (σ8 2 1).toInt ≤ 3) ∧ (0 ≤ (σ8 2 2).toInt) ∧ (0 ≤ (σ8 2 3).toInt) ∧ ((σ8 2 2).toInt + (σ8 2 3).toInt ≤ 40) ∧ (∀ k : Nat, k < 40 → 0 ≤ (σ8 6 k).toInt ∧ (σ8 6 k).toInt ≤ 67) := id I12
    have z20 : (σ8 2 0).toInt = (σ 2 0).toInt := (congrArg Int32.toInt (show σ8 2 0 = (σ 2 0) from (f11 0 (of_decide_eq_true rfl))))
    have z21 : (σ8 2 1).toInt = (σ 2 1).toInt := (congrArg Int32.toInt (show σ8 2 1 = (σ 2 1) from (f11 1 (of_decide_eq_true rfl))))
    rcases h8 with h22 | h23
    · obtain ⟨q28, k24, k25, k26, k27⟩ := h22
      exact absurd (by omega : False) id
    · obtain ⟨q35, k29, k30, k31, k32, k33, k34⟩ := h23
      exact by exact hret r9 σ8 τ _ _ _ _ rfl ⟨rfl, (fun i hi => (f10 i hi)), (fun i hi => (f11 i hi)), I12, Or.inr (⟨trivial, (by omega), (by omega), (by omega), (by omega), (by omega), k34⟩)⟩ hP hS dX11_undo_22
  · have kc7 := jeq c7 rfl jz_0
    refine lv_bipush (v := (-5)) hx hb dX11_undo_10 (of_decide_eq_true rfl) ?_
    refine lv_goto (tgt := 22) hx hb dX11_undo_12 (of_decide_eq_true rfl) ?_
    exact by exact hret (-5) σ τ _ _ _ _ rfl ⟨rfl, (fun _ _ => rfl), (fun _ _ => rfl), hI2, Or.inl ⟨rfl, (by have h9 := jz_m5; omega), (by have h9 := jz_m5; omega), (by have h9 := jz_m5; omega), rfl⟩⟩ hP hS dX11_undo_22
set_option maxHeartbeats 4000000 in
set_option maxRecDepth 100000 in
theorem c_X11_redo (l : Launch) (D : va_G) (cI cL : ClassId) (ad zz : Nat → Nat) (hJ : jD ad) (σ : Nat → Nat → Int32) (τ : Nat → Nat → Int64) (hI2 : jI2 σ) : jM l yX11_redo cX11_redo 1 (some .int) ({ frames := 1, cells := 0, slots := 0, locals := 20 }) D cI cL ad zz [.ref (ad 0)] σ τ (fun r σ' τ' => τ = τ' ∧ (∀ i : Nat, (i < 2 ∨ 3 < i) → σ' i = σ i) ∧ (∀ k : Nat, (k < 2 ∨ 2 < k) ∧ (k < 3 ∨ 3 < k) → σ' 2 k = σ 2 k) ∧ (jI2 σ') ∧ ((r = (-5) ∧ ((σ 2 3).toInt = 0) ∧ ((σ' 2 2).toInt = (σ 2 2).toInt) ∧ ((σ' 2 3).toInt = (σ 2 3).toInt) ∧ (σ' 3 = σ 3)) ∨ (True ∧ (1 ≤ (σ 2 3).toInt) ∧ ((σ 2 2).toInt < 40) ∧ (r.toInt = (σ 2 3).toInt - 1) ∧ ((σ' 2 2).toInt = (σ 2 2).toInt + 1) ∧ ((σ' 2 3).toInt = (σ 2 3).toInt - 1) ∧ (σ' 3 = jupd (σ 3) (σ 6 ((σ 2 2).toInt).toNat).toInt.toNat (σ 8 ((σ 2 2).toInt).toNat))))) := by
  refine jM.of hJ (by decide +kernel) (nt := .int) rfl (Nat.le_of_ble_eq_true rfl) ?_
  intro p e s m args below meth c Q ls hC hret hl hP
  obtain ⟨hx, hb, hr, hml, hown, hts, hK, -, hlocks, hZ⟩ := hC
  have hown : s.vm.findClass RX11 = some m.cls := hown
  have hS : va_S (jA ad) s.heap s.heap [] := va_S.rf
  have hA : ∀ q, jA ad q → jA ad q := fun _ h => h
  have hl : lv_has ls 1 [(0, .ref (ad 0))] := hl
  obtain ⟨i1, i2, i3, i4, i5, w6⟩ : (0 ≤ (σ 2 0).toInt ∧ (σ 2 0).toInt ≤ 4) ∧ (0 ≤ (σ 2 1).toInt ∧ (σ 2 1).toInt ≤ 3) ∧ (0 ≤ (σ 2 2).toInt) ∧ (0 ≤ (σ 2 3).toInt) ∧ ((σ 2 2).toInt + (σ 2 3).toInt ≤ 40) ∧ (∀ k : Nat, k < 40 → 0 ≤ (σ 6 k).toInt ∧ (σ 6 k).toInt ≤ 67) := id hI2
  refine lv_aload_n hx hb dX11_redo_0 rfl (lv_at hl 0 rfl) ?_
  refine va_get (D := D) hx hb hts inlX11 hown hK hP 0 (jc_0 cI cL ad σ τ) rfl 0 (of_decide_eq_true rfl) (hts _ kw_1_16) (fun _ h9 => h9) rfl dX11_redo_1 ?_
  refine va_get (D := D) hx hb hts inlX4 hown hK hP 2 (jc_2 cI cL ad σ τ) rfl 3 (of_decide_eq_true rfl) (hts _ kw_47_21) (fun _ h9 => h9) rfl dX11_redo_4 ?_
  refine lv_if_ne (tgt := 15) hx hb dX11_redo_7 (of_decide_eq_true rfl) (fun c7 => ?_) (fun c7 => ?_)
  · have kc7 := jne c7 rfl jz_0
    refine lv_aload_n hx hb dX11_redo_15 rfl (lv_at hl 0 rfl) ?_
    refine va_get (D := D) hx hb hts inlX11 hown hK hP 0 (jc_0 cI cL ad σ τ) rfl 0 (of_decide_eq_true rfl) (hts _ kw_1_16) (fun _ h9 => h9) rfl dX11_redo_16 ?_
    refine jcallV (As := []) (rest := []) ⟨hx, hb, hml, hown, hts⟩ hK hP hA hS hZ (c_X4_stepAgain_2 l D cI cL ad zz hJ σ τ hI2) cw_RX11_286 (jc_2 cI cL ad σ τ) rfl ⟨Nat.le_of_ble_eq_true rfl, Nat.le_of_ble_eq_true rfl⟩ rfl rfl rfl hl.1 rfl (Nat.le_of_ble_eq_true rfl) dX11_redo_19 ⟨Nat.zero_le _, Nat.zero_le _⟩ (fun r9 σ8 τ8 H locs h8 hP hS => ?_)
    obtain ⟨rfl, f10, f11, I12, h8⟩ := h8
    obtain ⟨i14, i15, i16, i17, i18, w19⟩ : (0 ≤ (σ8 2 0).toInt ∧ (σ8 2 0).toInt ≤ 4) ∧ (0 ≤ (σ8 2 1).toInt ∧ (σ8 2 1).toInt ≤ 3) ∧ (0 ≤ (σ8 2 2).toInt) ∧ (0 ≤ (σ8 2 3).toInt) ∧ ((σ8 2 2).toInt + (σ8 2 3).toInt ≤ 40) ∧ (∀ k : Nat, k < 40 → 0 ≤ (σ8 6 k).toInt ∧ (σ8 6 k).toInt ≤ 67) := id I12
    have z20 : (σ8 2 0).toInt = (σ 2 0).toInt := (congrArg Int32.toInt (show σ8 2 0 = (σ 2 0) from (f11 0 (of_decide_eq_true rfl))))
    have z21 : (σ8 2 1).toInt = (σ 2 1).toInt := (congrArg Int32.toInt (show σ8 2 1 = (σ 2 1) from (f11 1 (of_decide_eq_true rfl))))
    rcases h8 with h22 | h23
    · obtain ⟨q28, k24, k25, k26, k27⟩ := h22
      exact absurd (by omega : False) id
    · obtain ⟨q35, k29, k30, k31, k32, k33, k34⟩ := h23
      exact by exact hret r9 σ8 τ _ _ _ _ rfl ⟨rfl, (fun i hi => (f10 i hi)), (fun i hi => (f11 i hi)), I12, Or.inr (⟨trivial, (by omega), (by omega), (by omega), (by omega), (by omega), k34⟩)⟩ hP hS dX11_redo_22
  · have kc7 := jeq c7 rfl jz_0
    refine lv_bipush (v := (-5)) hx hb dX11_redo_10 (of_decide_eq_true rfl) ?_
    refine lv_goto (tgt := 22) hx hb dX11_redo_12 (of_decide_eq_true rfl) ?_
    exact by exact hret (-5) σ τ _ _ _ _ rfl ⟨rfl, (fun _ _ => rfl), (fun _ _ => rfl), hI2, Or.inl ⟨rfl, (by have h9 := jz_m5; omega), (by have h9 := jz_m5; omega), (by have h9 := jz_m5; omega), rfl⟩⟩ hP hS dX11_redo_22
set_option maxHeartbeats 4000000 in
set_option maxRecDepth 100000 in
theorem c_X11_order (l : Launch) (D : va_G) (cI cL : ClassId) (ad zz : Nat → Nat) (hJ : jD ad) (σ : Nat → Nat → Int32) (τ : Nat → Nat → Int64) (hI9 : jI9 σ) (hI16 : jI16 σ) (hI47 : jI47 σ) : jM l yX11_order cX11_order 2 (some .int) ({ frames := 3, cells := 0, slots := 0, locals := 69 }) D cI cL ad zz [.ref (ad 0)] σ τ (fun r σ' τ' => τ = τ' ∧ (∀ i : Nat, (i < 9 ∨ 9 < i) ∧ (i < 11 ∨ 11 < i) ∧ (i < 16 ∨ 17 < i) ∧ (i < 47 ∨ 47 < i) → σ' i = σ i) ∧ (∀ k : Nat, (k < 0 ∨ 0 < k) ∧ (k < 1 ∨ 1 < k) ∧ (k < 2 ∨ 2 < k) → σ' 9 k = σ 9 k) ∧ (∀ k : Nat, (k < 0 ∨ 0 < k) ∧ (k < 1 ∨ 1 < k) ∧ (k < 2 ∨ 2 < k) → σ' 16 k = σ 16 k) ∧ (∀ k : Nat, (k < 0 ∨ 0 < k) → σ' 47 k = σ 47 k) ∧ (jI9 σ') ∧ (jI16 σ') ∧ (jI47 σ') ∧ (jOrA (σ 10) (σ' 17) (σ 17) (σ 9 0).toInt (r.toInt) ((σ' 16 0).toInt) ((σ' 16 1).toInt) ((σ' 16 2).toInt) ((σ 16 0).toInt) ((σ 16 1).toInt) ((σ 16 2).toInt)) ∧ ((σ' 9 0).toInt = 0) ∧ ((True ∧ (r.toInt ≤ (-100)) ∧ ((σ' 47 0).toInt = (σ 47 0).toInt)) ∨ (True ∧ (1 ≤ r.toInt) ∧ ((σ' 47 0).toInt = 0)))) := by
  refine jM.of hJ (by decide +kernel) (nt := .int) rfl (Nat.le_of_ble_eq_true rfl) ?_
  intro p e s m args below meth c Q ls hC hret hl hP
  obtain ⟨hx, hb, hr, hml, hown, hts, hK, -, hlocks, hZ⟩ := hC
  have hown : s.vm.findClass RX11 = some m.cls := hown
  have hS : va_S (jA ad) s.heap s.heap [] := va_S.rf
  have hA : ∀ q, jA ad q → jA ad q := fun _ h => h
  have hl : lv_has ls 2 [(0, .ref (ad 0))] := hl
  obtain ⟨i1, w2, w3⟩ : (0 ≤ (σ 9 0).toInt ∧ (σ 9 0).toInt ≤ 80) ∧ (∀ k : Nat, k < 80 → 0 ≤ (σ 10 k).toInt ∧ (σ 10 k).toInt ≤ 255) ∧ (∀ k : Nat, k < 8 → 0 ≤ (σ 11 k).toInt ∧ (σ 11 k).toInt ≤ 3) := id hI9
  obtain ⟨i4, i5, i6, w7⟩ : (1 ≤ (σ 16 0).toInt ∧ (σ 16 0).toInt ≤ 8) ∧ (1 ≤ (σ 16 1).toInt ∧ (σ 16 1).toInt ≤ 12) ∧ (0 ≤ (σ 16 2).toInt ∧ (σ 16 2).toInt ≤ 999) ∧ (∀ k : Nat, k < 8 → 0 ≤ (σ 17 k).toInt ∧ (σ 17 k).toInt ≤ 3) := id hI16
  obtain ⟨i8, w9, w10⟩ : (0 ≤ (σ 47 0).toInt ∧ (σ 47 0).toInt ≤ 12) ∧ (∀ k : Nat, k < 12 → 0 ≤ (σ 48 k).toInt ∧ (σ 48 k).toInt ≤ 3) ∧ (∀ k : Nat, k < 12 → 0 ≤ (σ 49 k).toInt ∧ (σ 49 k).toInt ≤ 1) := id hI47
  refine lv_aload_n hx hb dX11_order_0 rfl (lv_at hl 0 rfl) ?_
  refine va_get (D := D) hx hb hts inlX11 hown hK hP 0 (jc_0 cI cL ad σ τ) rfl 1 (of_decide_eq_true rfl) (hts _ kw_1_20) (fun _ h9 => h9) rfl dX11_order_1 ?_
  refine lv_aload_n hx hb dX11_order_4 rfl (lv_at hl 0 rfl) ?_
  refine va_get (D := D) hx hb hts inlX11 hown hK hP 0 (jc_0 cI cL ad σ τ) rfl 2 (of_decide_eq_true rfl) (hts _ kw_2_0) (fun _ h9 => h9) rfl dX11_order_5 ?_
  refine jcallV (As := [.ref (ad 16)]) (rest := []) ⟨hx, hb, hml, hown, hts⟩ hK hP hA hS hZ (c_X7_readOrder_9 l D cI cL ad zz hJ σ τ hI9 hI16) cw_RX11_130 (jc_9 cI cL ad σ τ) rfl ⟨Nat.le_of_ble_eq_true rfl, Nat.le_of_ble_eq_true rfl⟩ rfl rfl rfl hl.1 rfl (Nat.le_of_ble_eq_true rfl) dX11_order_8 ⟨Nat.zero_le _, Nat.zero_le _⟩ (fun r12 σ11 τ11 H locs h11 hP hS => ?_)
  obtain ⟨rfl, f13, f14, f15, I16, I17, w18, h11⟩ := h11
  obtain ⟨i20, w21, w22⟩ : (0 ≤ (σ11 9 0).toInt ∧ (σ11 9 0).toInt ≤ 80) ∧ (∀ k : Nat, k < 80 → 0 ≤ (σ11 10 k).toInt ∧ (σ11 10 k).toInt ≤ 255) ∧ (∀ k : Nat, k < 8 → 0 ≤ (σ11 11 k).toInt ∧ (σ11 11 k).toInt ≤ 3) := id I16
  obtain ⟨i23, i24, i25, w26⟩ : (1 ≤ (σ11 16 0).toInt ∧ (σ11 16 0).toInt ≤ 8) ∧ (1 ≤ (σ11 16 1).toInt ∧ (σ11 16 1).toInt ≤ 12) ∧ (0 ≤ (σ11 16 2).toInt ∧ (σ11 16 2).toInt ≤ 999) ∧ (∀ k : Nat, k < 8 → 0 ≤ (σ11 17 k).toInt ∧ (σ11 17 k).toInt ≤ 3) := id I17
  obtain ⟨k27, h11⟩ := h11
  have h28 := h11
  obtain ⟨q30, k29⟩ := h28
  refine lv_istore_n (lv' := [(1, .int r12), (0, .ref (ad 0))]) hx hb dX11_order_11 rfl hl (of_decide_eq_true rfl) rfl (fun ls hl => ?_)
  refine lv_iload_n hx hb dX11_order_12 rfl (lv_at hl 0 rfl) ?_
  refine lv_if_lt (tgt := 21) hx hb dX11_order_13 (of_decide_eq_true rfl) (fun c31 => ?_) (fun c31 => ?_)
  · have kc31 := jlt c31 rfl jz_0
    refine lv_aload_n hx hb dX11_order_21 rfl (lv_at hl 1 rfl) ?_
    refine va_get (D := D) hx hb hts inlX11 hown hK hP 0 (jc_0 cI cL ad σ11 τ) rfl 9 (of_decide_eq_true rfl) (hts _ kw_3_1) (fun _ h9 => h9) rfl dX11_order_22 ?_
    refine lv_iconst (v := 0) hx hb dX11_order_25 (of_decide_eq_true rfl) ?_
    refine jput (ty := .int) hx hb hts inlX2 tyX2 tyX2_ok nmX2 hown hK hP hJ hA hS (jc_47 cI cL ad σ11 τ) rfl (k := 0) (of_decide_eq_true rfl) (Nat.le_of_ble_eq_true rfl) (jp_47_0 cI cL ad σ11 τ 0) (hts _ kw_13_11) (fun _ h9 => h9) rfl (by decide +kernel) rfl rfl dX11_order_26 (fun σ32 H locs eσ32 hP hS => ?_)
    refine lv_aload_n hx hb dX11_order_29 rfl (lv_at hl 1 rfl) ?_
    refine va_get (D := D) hx hb hts inlX11 hown hK hP 0 (jc_0 cI cL ad σ32 τ) rfl 2 (of_decide_eq_true rfl) (hts _ kw_2_0) (fun _ h9 => h9) rfl dX11_order_30 ?_
    refine va_get (D := D) hx hb hts inlX6 hown hK hP 16 (jc_16 cI cL ad σ32 τ) rfl 0 (of_decide_eq_true rfl) (hts _ kw_13_12) (fun _ h9 => h9) rfl dX11_order_33 ?_
    have m33 : σ32 16 0 = (σ11 16 0) := (congrFun (jnp 16 eσ32 (of_decide_eq_true rfl)) 0)
    refine jtopr m33 ?_
    have I34 : jI9 σ32 := jI9_fr (congrFun (jnp 9 eσ32 (of_decide_eq_true rfl)) 0) (jnp 10 eσ32 (of_decide_eq_true rfl)) (jnp 11 eσ32 (of_decide_eq_true rfl)) I16
    have I35 : jI16 σ32 := jI16_fr (congrFun (jnp 16 eσ32 (of_decide_eq_true rfl)) 0) (congrFun (jnp 16 eσ32 (of_decide_eq_true rfl)) 1) (congrFun (jnp 16 eσ32 (of_decide_eq_true rfl)) 2) (jnp 17 eσ32 (of_decide_eq_true rfl)) I17
    have z36 : (σ32 47 0).toInt = 0 := ((congrArg Int32.toInt (show σ32 47 0 = 0 from (jsp eσ32))).trans jz_0)
    have w37 : ∀ k : Nat, k < 12 → 0 ≤ (σ32 48 k).toInt ∧ (σ32 48 k).toInt ≤ 3 := (jrr_fr (jnp 48 eσ32 (of_decide_eq_true rfl)) (jrr_fr (f13 48 (of_decide_eq_true rfl)) w9))
    have w38 : ∀ k : Nat, k < 12 → 0 ≤ (σ32 49 k).toInt ∧ (σ32 49 k).toInt ≤ 1 := (jrr_fr (jnp 49 eσ32 (of_decide_eq_true rfl)) (jrr_fr (f13 49 (of_decide_eq_true rfl)) w10))
    exact by
     have I39 : jI47 σ32 := ⟨(by omega), w37, w38⟩
     have z46 : (σ32 16 0).toInt = (σ11 16 0).toInt := (congrArg Int32.toInt (show σ32 16 0 = (σ11 16 0) from m33))
     have z47 : (σ32 16 1).toInt = (σ11 16 1).toInt := (congrArg Int32.toInt (show σ32 16 1 = (σ11 16 1) from (congrFun (jnp 16 eσ32 (of_decide_eq_true rfl)) 1)))
     have z48 : (σ32 16 2).toInt = (σ11 16 2).toInt := (congrArg Int32.toInt (show σ32 16 2 = (σ11 16 2) from (congrFun (jnp 16 eσ32 (of_decide_eq_true rfl)) 2)))
     obtain ⟨m40, t41, r42, x43, a44, b45⟩ := w18
     have z49 : (σ32 9 0).toInt = (σ11 9 0).toInt := (congrArg Int32.toInt (show σ32 9 0 = (σ11 9 0) from (congrFun (jnp 9 eσ32 (of_decide_eq_true rfl)) 0)))
     exact by exact hret (σ11 16 0) σ32 τ _ _ _ _ rfl ⟨rfl, (fun i hi => ((jnp i eσ32 (imp_124 i hi)).trans (f13 i (imp_125 i hi)))), (fun i hi => ((congrFun (jnp 9 eσ32 (of_decide_eq_true rfl)) i).trans (f14 i hi))), (fun i hi => ((congrFun (jnp 16 eσ32 (of_decide_eq_true rfl)) i).trans (f15 i hi))), (fun i hi => ((jkp i eσ32 (imp_4 i hi)).trans (congrFun (f13 47 (of_decide_eq_true rfl)) i))), I34, I35, I39, ⟨m40, t41, r42, x43, a44, b45.elim (fun w => Or.inl ⟨w.1, (by omega), by omega, by omega, by omega, (by rw [show σ32 17 = σ11 17 from (jnp 17 eσ32 (of_decide_eq_true rfl))]; exact w.2.2.2.2.2)⟩) (fun w => Or.inr ⟨w.1, (by omega), by omega, by omega, by omega, (by rw [show σ32 17 = σ11 17 from (jnp 17 eσ32 (of_decide_eq_true rfl))]; exact w.2.2.2.2.2)⟩)⟩, (by omega), Or.inr (⟨trivial, (by omega), (by omega)⟩)⟩ hP hS dX11_order_36
  · have kc31 := jnlt c31 rfl jz_0
    refine lv_bipush (v := (-100)) hx hb dX11_order_16 (of_decide_eq_true rfl) ?_
    refine lv_iload_n hx hb dX11_order_18 rfl (lv_at hl 0 rfl) ?_
    have g50 := jrg (rfl : r12.toInt = r12.toInt)
    refine lv_isub hx hb dX11_order_19 ?_
    refine lv_topi (fun x51 ex51 => ?_)
    exact by
     have tx51 : x51.toInt = -r12.toInt - 100 := (jsub ex51 jz_m100 rfl (by omega) (by omega)).trans (by omega)
     have I52 : jI47 σ11 := jI47_fr (congrFun (f13 47 (of_decide_eq_true rfl)) 0) (f13 48 (of_decide_eq_true rfl)) (f13 49 (of_decide_eq_true rfl)) hI47
     obtain ⟨m53, t54, r55, x56, a57, b58⟩ := w18
     have z59 : (σ11 47 0).toInt = (σ 47 0).toInt := (congrArg Int32.toInt (show σ11 47 0 = (σ 47 0) from (congrFun (f13 47 (of_decide_eq_true rfl)) 0)))
     exact by exact hret x51 σ11 τ _ _ _ _ rfl ⟨rfl, (fun i hi => (f13 i (imp_125 i hi))), (fun i hi => (f14 i hi)), (fun i hi => (f15 i hi)), (fun i hi => (congrFun (f13 47 (of_decide_eq_true rfl)) i)), I16, I17, I52, ⟨m53, t54, r55, x56, a57, b58.elim (fun w => Or.inl ⟨w.1, (by have h9 := tx51; omega), by omega, by omega, by omega, (by exact w.2.2.2.2.2)⟩) (fun w => Or.inr ⟨w.1, (by have h9 := tx51; omega), by omega, by omega, by omega, (by exact w.2.2.2.2.2)⟩)⟩, (by omega), Or.inl ⟨trivial, (by have h9 := tx51; omega), (by have h9 := tx51; omega)⟩⟩ hP hS dX11_order_20
set_option maxHeartbeats 4000000 in
set_option maxRecDepth 100000 in
theorem c_X11_text (l : Launch) (D : va_G) (cI cL : ClassId) (ad zz : Nat → Nat) (hJ : jD ad) (σ : Nat → Nat → Int32) (τ : Nat → Nat → Int64) (a1 : Int32) (A1 : Int) (t1 : a1.toInt = A1) (hI9 : jI9 σ) (hI12 : jI12 σ) (hI18 : jI18 σ) (hI22 : jI22 σ) : jM l yX11_text cX11_text 3 (some .int) ({ frames := 67, cells := 0, slots := 0, locals := 2867 }) D cI cL ad zz [.ref (ad 0), .int a1] σ τ (fun r σ' τ' => τ = τ' ∧ (∀ i : Nat, (i < 9 ∨ 9 < i) ∧ (i < 12 ∨ 13 < i) ∧ (i < 18 ∨ 19 < i) ∧ (i < 22 ∨ 23 < i) ∧ (i < 26 ∨ 26 < i) → σ' i = σ i) ∧ (∀ k : Nat, (k < 0 ∨ 0 < k) ∧ (k < 1 ∨ 1 < k) ∧ (k < 2 ∨ 2 < k) → σ' 9 k = σ 9 k) ∧ (∀ k : Nat, (k < 0 ∨ 0 < k) ∧ (k < 1 ∨ 1 < k) → σ' 12 k = σ 12 k) ∧ (∀ k : Nat, (k < 0 ∨ 0 < k) ∧ (k < 1 ∨ 1 < k) → σ' 18 k = σ 18 k) ∧ (∀ k : Nat, (k < 0 ∨ 0 < k) ∧ (k < 1 ∨ 1 < k) → σ' 22 k = σ 22 k) ∧ (∀ k : Nat, (k < 6 ∨ 6 < k) ∧ (k < 7 ∨ 7 < k) → σ' 26 k = σ 26 k) ∧ (jI9 σ') ∧ (jI12 σ') ∧ (jI18 σ') ∧ (jI22 σ') ∧ ((0 ≤ A1 ∧ A1 ≤ 1 ∧ (σ' 9 0).toInt = 0) ∨ (A1 < 0 ∧ (σ' 9 0).toInt = (σ 9 0).toInt) ∨ (1 < A1 ∧ (σ' 9 0).toInt = (σ 9 0).toInt)) ∧ True) := by
  refine jM.of hJ (by decide +kernel) (nt := .int) rfl (Nat.le_of_ble_eq_true rfl) ?_
  intro p e s m args below meth c Q ls hC hret hl hP
  obtain ⟨hx, hb, hr, hml, hown, hts, hK, -, hlocks, hZ⟩ := hC
  have hown : s.vm.findClass RX11 = some m.cls := hown
  have hS : va_S (jA ad) s.heap s.heap [] := va_S.rf
  have hA : ∀ q, jA ad q → jA ad q := fun _ h => h
  have hl : lv_has ls 3 [(0, .ref (ad 0)), (1, .int a1)] := hl
  have g1 := jrg t1
  obtain ⟨i1, w2, w3⟩ : (0 ≤ (σ 9 0).toInt ∧ (σ 9 0).toInt ≤ 80) ∧ (∀ k : Nat, k < 80 → 0 ≤ (σ 10 k).toInt ∧ (σ 10 k).toInt ≤ 255) ∧ (∀ k : Nat, k < 8 → 0 ≤ (σ 11 k).toInt ∧ (σ 11 k).toInt ≤ 3) := id hI9
  refine lv_iload_n hx hb dX11_text_0 rfl (lv_at hl 1 rfl) ?_
  refine lv_iconst (v := 0) hx hb dX11_text_1 (of_decide_eq_true rfl) ?_
  refine lv_iconst (v := 1) hx hb dX11_text_2 (of_decide_eq_true rfl) ?_
  refine jcallS (As := [.int a1, .int 0, .int 1]) (rest := []) ⟨hx, hb, hml, hown, hts⟩ hK hP hA hS hZ (c_X11_outside l D cI cL ad zz hJ σ τ a1 (A1) t1 0 (0) jz_0 1 (1) jz_1) cw_RX11_94 ⟨Nat.le_of_ble_eq_true rfl, Nat.le_of_ble_eq_true rfl⟩ rfl rfl rfl hl.1 rfl (Nat.le_of_ble_eq_true rfl) dX11_text_3 ⟨Nat.zero_le _, Nat.zero_le _⟩ (fun r5 σ4 τ4 H locs h4 hP hS => ?_)
  obtain ⟨⟨rfl, rfl⟩, h4⟩ := h4
  rcases h4 with h6 | h7
  · obtain ⟨q9, k8⟩ := h6
    have q9 := q9.symm
    subst q9
    refine lv_if_eq (tgt := 11) hx hb dX11_text_6 (of_decide_eq_true rfl) (fun c => absurd c (of_decide_eq_true rfl)) (fun _ => ?_)
    refine lv_iconst (v := (-1)) hx hb dX11_text_9 (of_decide_eq_true rfl) ?_
    exact hret (-1) σ τ _ _ _ _ rfl ⟨rfl, (fun _ _ => rfl), (fun _ _ => rfl), (fun _ _ => rfl), (fun _ _ => rfl), (fun _ _ => rfl), (fun _ _ => rfl), hI9, hI12, hI18, hI22, (by omega), trivial⟩ hP hS dX11_text_10
  · obtain ⟨q11, k10⟩ := h7
    have q11 := q11.symm
    subst q11
    refine lv_if_eq (tgt := 11) hx hb dX11_text_6 (of_decide_eq_true rfl) (fun _ => ?_) (fun c => absurd (of_decide_eq_true rfl) c)
    refine lv_aload_n hx hb dX11_text_11 rfl (lv_at hl 0 rfl) ?_
    refine va_get (D := D) hx hb hts inlX11 hown hK hP 0 (jc_0 cI cL ad σ τ) rfl 1 (of_decide_eq_true rfl) (hts _ kw_1_20) (fun _ h9 => h9) rfl dX11_text_12 ?_
    refine lv_iload_n hx hb dX11_text_15 rfl (lv_at hl 1 rfl) ?_
    refine lv_if_ne (tgt := 26) hx hb dX11_text_16 (of_decide_eq_true rfl) (fun c12 => ?_) (fun c12 => ?_)
    · have kc12 := jne c12 t1 jz_0
      refine lv_aload_n hx hb dX11_text_26 rfl (lv_at hl 0 rfl) ?_
      refine va_get (D := D) hx hb hts inlX11 hown hK hP 0 (jc_0 cI cL ad σ τ) rfl 4 (of_decide_eq_true rfl) (hts _ kw_2_5) (fun _ h9 => h9) rfl dX11_text_27 ?_
      refine jcallV (As := [.ref (ad 22)]) (rest := []) ⟨hx, hb, hml, hown, hts⟩ hK hP hA hS hZ (c_X7_readText_9_v1 l D cI cL ad zz hJ σ τ hI9 hI12 hI22) cw_RX11_136 (jc_9 cI cL ad σ τ) rfl ⟨Nat.le_of_ble_eq_true rfl, Nat.le_of_ble_eq_true rfl⟩ rfl rfl rfl hl.1 rfl (Nat.le_of_ble_eq_true rfl) dX11_text_30 ⟨Nat.zero_le _, Nat.zero_le _⟩ (fun r14 σ13 τ13 H locs h13 hP hS => ?_)
      obtain ⟨rfl, f15, f16, f17, f18, I19, I20, I21, h13⟩ := h13
      obtain ⟨i23, w24, w25⟩ : (0 ≤ (σ13 9 0).toInt ∧ (σ13 9 0).toInt ≤ 80) ∧ (∀ k : Nat, k < 80 → 0 ≤ (σ13 10 k).toInt ∧ (σ13 10 k).toInt ≤ 255) ∧ (∀ k : Nat, k < 8 → 0 ≤ (σ13 11 k).toInt ∧ (σ13 11 k).toInt ≤ 3) := id I19
      obtain ⟨k26, h13⟩ := h13
      refine lv_istore_n (lv' := [(2, .int r14), (0, .ref (ad 0)), (1, .int a1)]) hx hb dX11_text_33 rfl hl (of_decide_eq_true rfl) rfl (fun ls hl => ?_)
      refine lv_iload_n hx hb dX11_text_34 rfl (lv_at hl 0 rfl) ?_
      refine lv_if_lt (tgt := 43) hx hb dX11_text_35 (of_decide_eq_true rfl) (fun c27 => ?_) (fun c27 => ?_)
      · have kc27 := jlt c27 rfl jz_0
        refine lv_iload_n hx hb dX11_text_43 rfl (lv_at hl 2 rfl) ?_
        refine lv_iconst (v := 1) hx hb dX11_text_44 (of_decide_eq_true rfl) ?_
        exact by
         refine lv_icmp_ne (tgt := 55) hx hb dX11_text_45 (of_decide_eq_true rfl) (fun c => absurd (jne c t1 jz_1) (by omega)) (fun c28 => ?_)
         have kc28 := jeq c28 t1 jz_1
         refine lv_aload_n hx hb dX11_text_48 rfl (lv_at hl 1 rfl) ?_
         refine va_get (D := D) hx hb hts inlX11 hown hK hP 0 (jc_0 cI cL ad σ13 τ) rfl 5 (of_decide_eq_true rfl) (hts _ kw_2_9) (fun _ h9 => h9) rfl dX11_text_49 ?_
         refine jcallVv (As := []) (rest := []) ⟨hx, hb, hml, hown, hts⟩ hK hP hA hS hZ (c_X5_forget_26 l D cI cL ad zz hJ σ13 τ) cw_RX11_140 (jc_26 cI cL ad σ13 τ) rfl ⟨Nat.le_of_ble_eq_true rfl, Nat.le_of_ble_eq_true rfl⟩ rfl rfl rfl hl.1 rfl (Nat.le_of_ble_eq_true rfl) dX11_text_52 ⟨Nat.zero_le _, Nat.zero_le _⟩ (fun σ29 τ29 H locs h29 hP hS => ?_)
         obtain ⟨rfl, f31, f32, h29⟩ := h29
         refine lv_iconst (v := 1) hx hb dX11_text_55 (of_decide_eq_true rfl) ?_
         have I34 : jI9 σ29 := jI9_fr (congrFun (f31 9 (of_decide_eq_true rfl)) 0) (f31 10 (of_decide_eq_true rfl)) (f31 11 (of_decide_eq_true rfl)) I19
         have I35 : jI12 σ29 := jI12_fr (congrFun (f31 12 (of_decide_eq_true rfl)) 0) (f31 13 (of_decide_eq_true rfl)) I20
         have I36 : jI18 σ29 := jI18_fr ((congrFun (f31 18 (of_decide_eq_true rfl)) 0).trans (congrFun (f15 18 (of_decide_eq_true rfl)) 0)) ((f31 19 (of_decide_eq_true rfl)).trans (f15 19 (of_decide_eq_true rfl))) hI18
         have I37 : jI22 σ29 := jI22_fr (congrFun (f31 22 (of_decide_eq_true rfl)) 0) (f31 23 (of_decide_eq_true rfl)) I21
         have z38 : (σ29 9 0).toInt = (σ13 9 0).toInt := (congrArg Int32.toInt (show σ29 9 0 = (σ13 9 0) from (congrFun (f31 9 (of_decide_eq_true rfl)) 0)))
         exact hret 1 σ29 τ _ _ _ _ rfl ⟨rfl, (fun i hi => ((f31 i (imp_126 i hi)).trans (f15 i (imp_127 i hi)))), (fun i hi => ((congrFun (f31 9 (of_decide_eq_true rfl)) i).trans (f16 i hi))), (fun i hi => ((congrFun (f31 12 (of_decide_eq_true rfl)) i).trans (f17 i hi))), (fun i hi => ((congrFun (f31 18 (of_decide_eq_true rfl)) i).trans (congrFun (f15 18 (of_decide_eq_true rfl)) i))), (fun i hi => ((congrFun (f31 22 (of_decide_eq_true rfl)) i).trans (f18 i hi))), (fun i hi => ((f32 i hi).trans (congrFun (f15 26 (of_decide_eq_true rfl)) i))), I34, I35, I36, I37, (by omega), trivial⟩ hP hS dX11_text_56
      · have kc27 := jnlt c27 rfl jz_0
        refine lv_bipush (v := (-100)) hx hb dX11_text_38 (of_decide_eq_true rfl) ?_
        refine lv_iload_n hx hb dX11_text_40 rfl (lv_at hl 0 rfl) ?_
        have g39 := jrg (rfl : r14.toInt = r14.toInt)
        refine lv_isub hx hb dX11_text_41 ?_
        refine lv_topi (fun x40 ex40 => ?_)
        have gx40 := jrg (rfl : x40.toInt = x40.toInt)
        have I41 : jI18 σ13 := jI18_fr (congrFun (f15 18 (of_decide_eq_true rfl)) 0) (f15 19 (of_decide_eq_true rfl)) hI18
        exact hret x40 σ13 τ _ _ _ _ rfl ⟨rfl, (fun i hi => (f15 i (imp_127 i hi))), (fun i hi => (f16 i hi)), (fun i hi => (f17 i hi)), (fun i hi => (congrFun (f15 18 (of_decide_eq_true rfl)) i)), (fun i hi => (f18 i hi)), (fun i hi => (congrFun (f15 26 (of_decide_eq_true rfl)) i)), I19, I20, I41, I21, (by omega), trivial⟩ hP hS dX11_text_42
    · have kc12 := jeq c12 t1 jz_0
      refine lv_aload_n hx hb dX11_text_19 rfl (lv_at hl 0 rfl) ?_
      refine va_get (D := D) hx hb hts inlX11 hown hK hP 0 (jc_0 cI cL ad σ τ) rfl 3 (of_decide_eq_true rfl) (hts _ kw_2_4) (fun _ h9 => h9) rfl dX11_text_20 ?_
      refine lv_goto (tgt := 30) hx hb dX11_text_23 (of_decide_eq_true rfl) ?_
      refine jcallV (As := [.ref (ad 18)]) (rest := []) ⟨hx, hb, hml, hown, hts⟩ hK hP hA hS hZ (c_X7_readText_9 l D cI cL ad zz hJ σ τ hI9 hI12 hI18) cw_RX11_136 (jc_9 cI cL ad σ τ) rfl ⟨Nat.le_of_ble_eq_true rfl, Nat.le_of_ble_eq_true rfl⟩ rfl rfl rfl hl.1 rfl (Nat.le_of_ble_eq_true rfl) dX11_text_30 ⟨Nat.zero_le _, Nat.zero_le _⟩ (fun r43 σ42 τ42 H locs h42 hP hS => ?_)
      obtain ⟨rfl, f44, f45, f46, f47, I48, I49, I50, h42⟩ := h42
      obtain ⟨i52, w53, w54⟩ : (0 ≤ (σ42 9 0).toInt ∧ (σ42 9 0).toInt ≤ 80) ∧ (∀ k : Nat, k < 80 → 0 ≤ (σ42 10 k).toInt ∧ (σ42 10 k).toInt ≤ 255) ∧ (∀ k : Nat, k < 8 → 0 ≤ (σ42 11 k).toInt ∧ (σ42 11 k).toInt ≤ 3) := id I48
      obtain ⟨k55, h42⟩ := h42
      refine lv_istore_n (lv' := [(2, .int r43), (0, .ref (ad 0)), (1, .int a1)]) hx hb dX11_text_33 rfl hl (of_decide_eq_true rfl) rfl (fun ls hl => ?_)
      refine lv_iload_n hx hb dX11_text_34 rfl (lv_at hl 0 rfl) ?_
      refine lv_if_lt (tgt := 43) hx hb dX11_text_35 (of_decide_eq_true rfl) (fun c56 => ?_) (fun c56 => ?_)
      · have kc56 := jlt c56 rfl jz_0
        refine lv_iload_n hx hb dX11_text_43 rfl (lv_at hl 2 rfl) ?_
        refine lv_iconst (v := 1) hx hb dX11_text_44 (of_decide_eq_true rfl) ?_
        exact by
         refine lv_icmp_ne (tgt := 55) hx hb dX11_text_45 (of_decide_eq_true rfl) (fun c57 => ?_) (fun c => absurd (jeq c t1 jz_1) (by omega))
         have kc57 := jne c57 t1 jz_1
         refine lv_iconst (v := 1) hx hb dX11_text_55 (of_decide_eq_true rfl) ?_
         have I58 : jI22 σ42 := jI22_fr (congrFun (f44 22 (of_decide_eq_true rfl)) 0) (f44 23 (of_decide_eq_true rfl)) hI22
         exact hret 1 σ42 τ _ _ _ _ rfl ⟨rfl, (fun i hi => (f44 i (imp_128 i hi))), (fun i hi => (f45 i hi)), (fun i hi => (f46 i hi)), (fun i hi => (f47 i hi)), (fun i hi => (congrFun (f44 22 (of_decide_eq_true rfl)) i)), (fun i hi => (congrFun (f44 26 (of_decide_eq_true rfl)) i)), I48, I49, I50, I58, (by omega), trivial⟩ hP hS dX11_text_56
      · have kc56 := jnlt c56 rfl jz_0
        refine lv_bipush (v := (-100)) hx hb dX11_text_38 (of_decide_eq_true rfl) ?_
        refine lv_iload_n hx hb dX11_text_40 rfl (lv_at hl 0 rfl) ?_
        have g59 := jrg (rfl : r43.toInt = r43.toInt)
        refine lv_isub hx hb dX11_text_41 ?_
        refine lv_topi (fun x60 ex60 => ?_)
        have gx60 := jrg (rfl : x60.toInt = x60.toInt)
        have I61 : jI22 σ42 := jI22_fr (congrFun (f44 22 (of_decide_eq_true rfl)) 0) (f44 23 (of_decide_eq_true rfl)) hI22
        exact hret x60 σ42 τ _ _ _ _ rfl ⟨rfl, (fun i hi => (f44 i (imp_128 i hi))), (fun i hi => (f45 i hi)), (fun i hi => (f46 i hi)), (fun i hi => (f47 i hi)), (fun i hi => (congrFun (f44 22 (of_decide_eq_true rfl)) i)), (fun i hi => (congrFun (f44 26 (of_decide_eq_true rfl)) i)), I48, I49, I50, I61, (by omega), trivial⟩ hP hS dX11_text_42
set_option maxHeartbeats 4000000 in
set_option maxRecDepth 100000 in
theorem c_X11_of (l : Launch) (D : va_G) (cI cL : ClassId) (ad zz : Nat → Nat) (hJ : jD ad) (σ : Nat → Nat → Int32) (τ : Nat → Nat → Int64) (a1 : Int32) (A1 : Int) (t1 : a1.toInt = A1) (hI16 : jI16 σ) : jM l yX11_of cX11_of 2 (some .int) ({ frames := 1, cells := 0, slots := 0, locals := 21 }) D cI cL ad zz [.ref (ad 0), .int a1] σ τ (fun r σ' τ' => (σ = σ' ∧ τ = τ') ∧ ((True ∧ (A1 = 0) ∧ (r.toInt = (σ 16 0).toInt)) ∨ (True ∧ (A1 = 1) ∧ (r.toInt = (σ 16 1).toInt)) ∨ (True ∧ (A1 = 2) ∧ (r.toInt = (σ 16 2).toInt)) ∨ (True ∧ (10 ≤ A1) ∧ (A1 < (σ 16 0).toInt + 10) ∧ (r = σ 17 ((A1) - 10).toNat)) ∨ (r = (-1) ∧ ((A1 < 0) ∨ (2 < A1 ∧ A1 < 10) ∨ (10 ≤ A1 ∧ (σ 16 0).toInt + 10 ≤ A1))))) := by
  refine jM.of hJ (by decide +kernel) (nt := .int) rfl (Nat.le_of_ble_eq_true rfl) ?_
  intro p e s m args below meth c Q ls hC hret hl hP
  obtain ⟨hx, hb, hr, hml, hown, hts, hK, -, hlocks, hZ⟩ := hC
  have hown : s.vm.findClass RX11 = some m.cls := hown
  have hS : va_S (jA ad) s.heap s.heap [] := va_S.rf
  have hA : ∀ q, jA ad q → jA ad q := fun _ h => h
  have hl : lv_has ls 2 [(0, .ref (ad 0)), (1, .int a1)] := hl
  have g1 := jrg t1
  obtain ⟨i1, i2, i3, w4⟩ : (1 ≤ (σ 16 0).toInt ∧ (σ 16 0).toInt ≤ 8) ∧ (1 ≤ (σ 16 1).toInt ∧ (σ 16 1).toInt ≤ 12) ∧ (0 ≤ (σ 16 2).toInt ∧ (σ 16 2).toInt ≤ 999) ∧ (∀ k : Nat, k < 8 → 0 ≤ (σ 17 k).toInt ∧ (σ 17 k).toInt ≤ 3) := id hI16
  refine lv_iload_n hx hb dX11_of_0 rfl (lv_at hl 1 rfl) ?_
  refine lv_if_ne (tgt := 12) hx hb dX11_of_1 (of_decide_eq_true rfl) (fun c5 => ?_) (fun c5 => ?_)
  · have kc5 := jne c5 t1 jz_0
    refine lv_iload_n hx hb dX11_of_12 rfl (lv_at hl 1 rfl) ?_
    refine lv_iconst (v := 1) hx hb dX11_of_13 (of_decide_eq_true rfl) ?_
    refine lv_icmp_ne (tgt := 25) hx hb dX11_of_14 (of_decide_eq_true rfl) (fun c6 => ?_) (fun c6 => ?_)
    · have kc6 := jne c6 t1 jz_1
      refine lv_iload_n hx hb dX11_of_25 rfl (lv_at hl 1 rfl) ?_
      refine lv_iconst (v := 2) hx hb dX11_of_26 (of_decide_eq_true rfl) ?_
      refine lv_icmp_ne (tgt := 38) hx hb dX11_of_27 (of_decide_eq_true rfl) (fun c7 => ?_) (fun c7 => ?_)
      · have kc7 := jne c7 t1 jz_2
        refine lv_iload_n hx hb dX11_of_38 rfl (lv_at hl 1 rfl) ?_
        refine lv_bipush (v := 10) hx hb dX11_of_39 (of_decide_eq_true rfl) ?_
        refine lv_icmp_lt (tgt := 58) hx hb dX11_of_41 (of_decide_eq_true rfl) (fun c8 => ?_) (fun c8 => ?_)
        · have kc8 := jlt c8 t1 jz_10
          refine lv_iconst (v := (-1)) hx hb dX11_of_58 (of_decide_eq_true rfl) ?_
          exact hret (-1) σ τ _ _ _ _ rfl ⟨⟨rfl, rfl⟩, Or.inr (Or.inr (Or.inr (Or.inr (⟨rfl, (by have h9 := jz_m1; omega)⟩))))⟩ hP hS dX11_of_59
        · have kc8 := jnlt c8 t1 jz_10
          refine lv_iload_n hx hb dX11_of_44 rfl (lv_at hl 1 rfl) ?_
          refine lv_bipush (v := 10) hx hb dX11_of_45 (of_decide_eq_true rfl) ?_
          refine lv_isub hx hb dX11_of_47 ?_
          refine lv_topi (fun x9 ex9 => ?_)
          exact by
           have tx9 : x9.toInt = A1 - 10 := (jsub ex9 t1 jz_10 (by omega) (by omega)).trans (by omega)
           refine lv_aload_n hx hb dX11_of_48 rfl (lv_at hl 0 rfl) ?_
           refine va_get (D := D) hx hb hts inlX11 hown hK hP 0 (jc_0 cI cL ad σ τ) rfl 2 (of_decide_eq_true rfl) (hts _ kw_2_0) (fun _ h9 => h9) rfl dX11_of_49 ?_
           refine va_get (D := D) hx hb hts inlX6 hown hK hP 16 (jc_16 cI cL ad σ τ) rfl 0 (of_decide_eq_true rfl) (hts _ kw_13_12) (fun _ h9 => h9) rfl dX11_of_52 ?_
           refine lv_icmp_lt (tgt := 60) hx hb dX11_of_55 (of_decide_eq_true rfl) (fun c10 => ?_) (fun c10 => ?_)
           · have kc10 := jlt c10 tx9 rfl
             refine lv_aload_n hx hb dX11_of_60 rfl (lv_at hl 0 rfl) ?_
             refine va_get (D := D) hx hb hts inlX11 hown hK hP 0 (jc_0 cI cL ad σ τ) rfl 2 (of_decide_eq_true rfl) (hts _ kw_2_0) (fun _ h9 => h9) rfl dX11_of_61 ?_
             refine lv_iload_n hx hb dX11_of_64 rfl (lv_at hl 1 rfl) ?_
             refine lv_bipush (v := 10) hx hb dX11_of_65 (of_decide_eq_true rfl) ?_
             refine lv_isub hx hb dX11_of_67 ?_
             refine lv_topi (fun x11 ex11 => ?_)
             exact by
              have tx11 : x11.toInt = A1 - 10 := (jsub ex11 t1 jz_10 (by omega) (by omega)).trans (by omega)
              refine jcallV (As := [.int x11]) (rest := []) ⟨hx, hb, hml, hown, hts⟩ hK hP hA hS hZ (c_X6_sortAt_16 l D cI cL ad zz hJ σ τ x11 (A1 - 10) tx11) cw_RX11_149 (jc_16 cI cL ad σ τ) rfl ⟨Nat.le_of_ble_eq_true rfl, Nat.le_of_ble_eq_true rfl⟩ rfl rfl rfl hl.1 rfl (Nat.le_of_ble_eq_true rfl) dX11_of_68 ⟨Nat.zero_le _, Nat.zero_le _⟩ (fun r13 σ12 τ12 H locs h12 hP hS => ?_)
              obtain ⟨⟨rfl, rfl⟩, h12⟩ := h12
              rcases h12 with h14 | h15
              · obtain ⟨q17, k16⟩ := h14
                have q18 : r13 = (σ 17 x11.toNatClampNeg) := q17.trans rfl
                have q18 := q18.symm
                subst q18
                exact by exact hret (σ 17 x11.toNatClampNeg) σ τ _ _ _ _ rfl ⟨⟨rfl, rfl⟩, Or.inr (Or.inr (Or.inr (Or.inl ⟨trivial, (by omega), (by omega), (by rw [jnc (show x11.toInt = A1 - 10 by omega)])⟩)))⟩ hP hS dX11_of_71
              · obtain ⟨q20, k19⟩ := h15
                exact absurd (by omega : False) id
           · have kc10 := jnlt c10 tx9 rfl
             refine lv_iconst (v := (-1)) hx hb dX11_of_58 (of_decide_eq_true rfl) ?_
             exact hret (-1) σ τ _ _ _ _ rfl ⟨⟨rfl, rfl⟩, Or.inr (Or.inr (Or.inr (Or.inr (⟨rfl, (by have h9 := jz_m1; omega)⟩))))⟩ hP hS dX11_of_59
      · have kc7 := jeq c7 t1 jz_2
        refine lv_aload_n hx hb dX11_of_30 rfl (lv_at hl 0 rfl) ?_
        refine va_get (D := D) hx hb hts inlX11 hown hK hP 0 (jc_0 cI cL ad σ τ) rfl 2 (of_decide_eq_true rfl) (hts _ kw_2_0) (fun _ h9 => h9) rfl dX11_of_31 ?_
        refine va_get (D := D) hx hb hts inlX6 hown hK hP 16 (jc_16 cI cL ad σ τ) rfl 2 (of_decide_eq_true rfl) (hts _ kw_20_6) (fun _ h9 => h9) rfl dX11_of_34 ?_
        exact by exact hret (σ 16 2) σ τ _ _ _ _ rfl ⟨⟨rfl, rfl⟩, Or.inr (Or.inr (Or.inl ⟨trivial, (by omega), (by omega)⟩))⟩ hP hS dX11_of_37
    · have kc6 := jeq c6 t1 jz_1
      refine lv_aload_n hx hb dX11_of_17 rfl (lv_at hl 0 rfl) ?_
      refine va_get (D := D) hx hb hts inlX11 hown hK hP 0 (jc_0 cI cL ad σ τ) rfl 2 (of_decide_eq_true rfl) (hts _ kw_2_0) (fun _ h9 => h9) rfl dX11_of_18 ?_
      refine va_get (D := D) hx hb hts inlX6 hown hK hP 16 (jc_16 cI cL ad σ τ) rfl 1 (of_decide_eq_true rfl) (hts _ kw_20_5) (fun _ h9 => h9) rfl dX11_of_21 ?_
      exact by exact hret (σ 16 1) σ τ _ _ _ _ rfl ⟨⟨rfl, rfl⟩, Or.inr (Or.inl ⟨trivial, (by omega), (by omega)⟩)⟩ hP hS dX11_of_24
  · have kc5 := jeq c5 t1 jz_0
    refine lv_aload_n hx hb dX11_of_4 rfl (lv_at hl 0 rfl) ?_
    refine va_get (D := D) hx hb hts inlX11 hown hK hP 0 (jc_0 cI cL ad σ τ) rfl 2 (of_decide_eq_true rfl) (hts _ kw_2_0) (fun _ h9 => h9) rfl dX11_of_5 ?_
    refine va_get (D := D) hx hb hts inlX6 hown hK hP 16 (jc_16 cI cL ad σ τ) rfl 0 (of_decide_eq_true rfl) (hts _ kw_13_12) (fun _ h9 => h9) rfl dX11_of_8 ?_
    exact by exact hret (σ 16 0) σ τ _ _ _ _ rfl ⟨⟨rfl, rfl⟩, Or.inl ⟨trivial, (by omega), (by omega)⟩⟩ hP hS dX11_of_11
set_option maxHeartbeats 4000000 in
set_option maxRecDepth 100000 in
theorem c_X11_over (l : Launch) (D : va_G) (cI cL : ClassId) (ad zz : Nat → Nat) (hJ : jD ad) (σ : Nat → Nat → Int32) (τ : Nat → Nat → Int64) (a1 : Int32) (A1 : Int) (t1 : a1.toInt = A1) (a2 : Int32) (A2 : Int) (t2 : a2.toInt = A2) (a3 : Int32) (A3 : Int) (t3 : a3.toInt = A3) (hI2 : jI2 σ) (hI22 : jI22 σ) : jM l yX11_over cX11_over 7 (some .int) ({ frames := 3, cells := 0, slots := 0, locals := 76 }) D cI cL ad zz [.ref (ad 0), .int a1, .int a2, .int a3] σ τ (fun r σ' τ' => τ = τ' ∧ (∀ i : Nat, (i < 24 ∨ 25 < i) ∧ (i < 27 ∨ 30 < i) → σ' i = σ i) ∧ True) := by
  refine jM.of hJ (by decide +kernel) (nt := .int) rfl (Nat.le_of_ble_eq_true rfl) ?_
  intro p e s m args below meth c Q ls hC hret hl hP
  obtain ⟨hx, hb, hr, hml, hown, hts, hK, -, hlocks, hZ⟩ := hC
  have hown : s.vm.findClass RX11 = some m.cls := hown
  have hS : va_S (jA ad) s.heap s.heap [] := va_S.rf
  have hA : ∀ q, jA ad q → jA ad q := fun _ h => h
  have hl : lv_has ls 7 [(0, .ref (ad 0)), (1, .int a1), (2, .int a2), (3, .int a3)] := hl
  have g1 := jrg t1
  have g2 := jrg t2
  have g3 := jrg t3
  obtain ⟨i1, i2, i3, i4, i5, w6⟩ : (0 ≤ (σ 2 0).toInt ∧ (σ 2 0).toInt ≤ 4) ∧ (0 ≤ (σ 2 1).toInt ∧ (σ 2 1).toInt ≤ 3) ∧ (0 ≤ (σ 2 2).toInt) ∧ (0 ≤ (σ 2 3).toInt) ∧ ((σ 2 2).toInt + (σ 2 3).toInt ≤ 40) ∧ (∀ k : Nat, k < 40 → 0 ≤ (σ 6 k).toInt ∧ (σ 6 k).toInt ≤ 67) := id hI2
  refine lv_iload_n hx hb dX11_over_0 rfl (lv_at hl 1 rfl) ?_
  refine lv_if_lt (tgt := 17) hx hb dX11_over_1 (of_decide_eq_true rfl) (fun c7 => ?_) (fun c7 => ?_)
  · have kc7 := jlt c7 t1 jz_0
    refine lv_iconst (v := (-1)) hx hb dX11_over_17 (of_decide_eq_true rfl) ?_
    exact hret (-1) σ τ _ _ _ _ rfl ⟨rfl, (fun _ _ => rfl), trivial⟩ hP hS dX11_over_18
  · have kc7 := jnlt c7 t1 jz_0
    refine lv_iload_n hx hb dX11_over_4 rfl (lv_at hl 2 rfl) ?_
    refine lv_if_lt (tgt := 17) hx hb dX11_over_5 (of_decide_eq_true rfl) (fun c8 => ?_) (fun c8 => ?_)
    · have kc8 := jlt c8 t2 jz_0
      refine lv_iconst (v := (-1)) hx hb dX11_over_17 (of_decide_eq_true rfl) ?_
      exact hret (-1) σ τ _ _ _ _ rfl ⟨rfl, (fun _ _ => rfl), trivial⟩ hP hS dX11_over_18
    · have kc8 := jnlt c8 t2 jz_0
      refine lv_iload_n hx hb dX11_over_8 rfl (lv_at hl 3 rfl) ?_
      refine lv_iconst (v := 0) hx hb dX11_over_9 (of_decide_eq_true rfl) ?_
      refine lv_iconst (v := 1) hx hb dX11_over_10 (of_decide_eq_true rfl) ?_
      refine jcallS (As := [.int a3, .int 0, .int 1]) (rest := []) ⟨hx, hb, hml, hown, hts⟩ hK hP hA hS hZ (c_X11_outside l D cI cL ad zz hJ σ τ a3 (A3) t3 0 (0) jz_0 1 (1) jz_1) cw_RX11_94 ⟨Nat.le_of_ble_eq_true rfl, Nat.le_of_ble_eq_true rfl⟩ rfl rfl rfl hl.1 rfl (Nat.le_of_ble_eq_true rfl) dX11_over_11 ⟨Nat.zero_le _, Nat.zero_le _⟩ (fun r10 σ9 τ9 H locs h9 hP hS => ?_)
      obtain ⟨⟨rfl, rfl⟩, h9⟩ := h9
      rcases h9 with h11 | h12
      · obtain ⟨q14, k13⟩ := h11
        have q14 := q14.symm
        subst q14
        refine lv_if_eq (tgt := 19) hx hb dX11_over_14 (of_decide_eq_true rfl) (fun c => absurd c (of_decide_eq_true rfl)) (fun _ => ?_)
        refine lv_iconst (v := (-1)) hx hb dX11_over_17 (of_decide_eq_true rfl) ?_
        exact hret (-1) σ τ _ _ _ _ rfl ⟨rfl, (fun _ _ => rfl), trivial⟩ hP hS dX11_over_18
      · obtain ⟨q16, k15⟩ := h12
        have q16 := q16.symm
        subst q16
        refine lv_if_eq (tgt := 19) hx hb dX11_over_14 (of_decide_eq_true rfl) (fun _ => ?_) (fun c => absurd (of_decide_eq_true rfl) c)
        refine lv_iload_n hx hb dX11_over_19 rfl (lv_at hl 1 rfl) ?_
        refine lv_bipush (v := 100) hx hb dX11_over_20 (of_decide_eq_true rfl) ?_
        refine lv_idiv hx hb dX11_over_22 (of_decide_eq_true rfl) ?_
        refine lv_topi (fun x17 ex17 => ?_)
        exact by
         have tx17 : x17.toInt = (A1 / 100) := jdiv ex17 t1 jz_100 (by omega) (by omega)
         refine lv_istore (lv' := [(4, .int x17), (0, .ref (ad 0)), (1, .int a1), (2, .int a2), (3, .int a3)]) hx hb dX11_over_23 hl (of_decide_eq_true rfl) rfl (fun ls hl => ?_)
         refine lv_iload_n hx hb dX11_over_25 rfl (lv_at hl 2 rfl) ?_
         refine lv_bipush (v := 10) hx hb dX11_over_26 (of_decide_eq_true rfl) ?_
         refine lv_idiv hx hb dX11_over_28 (of_decide_eq_true rfl) ?_
         refine lv_topi (fun x18 ex18 => ?_)
         have tx18 : x18.toInt = (A1 / 10) := jdiv ex18 t1 jz_10 (by omega) (by omega)
         refine lv_bipush (v := 10) hx hb dX11_over_29 (of_decide_eq_true rfl) ?_
         refine lv_irem hx hb dX11_over_31 (of_decide_eq_true rfl) ?_
         exact by
          refine lv_topi (fun x19 ex19 => ?_)
          have tx19 : x19.toInt = (((A1 / 10)) % 10) := jrem ex19 tx18 jz_10 (by omega)
          refine lv_istore (lv' := [(5, .int x19), (4, .int x17), (0, .ref (ad 0)), (1, .int a1), (2, .int a2), (3, .int a3)]) hx hb dX11_over_32 hl (of_decide_eq_true rfl) rfl (fun ls hl => ?_)
          refine lv_iload_n hx hb dX11_over_34 rfl (lv_at hl 3 rfl) ?_
          refine lv_bipush (v := 10) hx hb dX11_over_35 (of_decide_eq_true rfl) ?_
          refine lv_irem hx hb dX11_over_37 (of_decide_eq_true rfl) ?_
          refine lv_topi (fun x20 ex20 => ?_)
          have tx20 : x20.toInt = (A1 % 10) := jrem ex20 t1 jz_10 (by omega)
          refine lv_istore (lv' := [(6, .int x20), (5, .int x19), (4, .int x17), (0, .ref (ad 0)), (1, .int a1), (2, .int a2), (3, .int a3)]) hx hb dX11_over_38 hl (of_decide_eq_true rfl) rfl (fun ls hl => ?_)
          exact by
           refine lv_aload_n hx hb dX11_over_40 rfl (lv_at hl 3 rfl) ?_
           refine lv_iload hx hb dX11_over_41 (lv_at hl 2 rfl) ?_
           refine jcallV (As := [.int x17]) (rest := []) ⟨hx, hb, hml, hown, hts⟩ hK hP hA hS hZ (c_X11_noBowler l D cI cL ad zz hJ σ τ x17 ((A1 / 100)) tx17 hI2) cw_RX11_152 (jc_0 cI cL ad σ τ) rfl ⟨Nat.le_of_ble_eq_true rfl, Nat.le_of_ble_eq_true rfl⟩ rfl rfl rfl hl.1 rfl (Nat.le_of_ble_eq_true rfl) dX11_over_43 ⟨Nat.zero_le _, Nat.zero_le _⟩ (fun r22 σ21 τ21 H locs h21 hP hS => ?_)
           obtain ⟨⟨rfl, rfl⟩, h21⟩ := h21
           rcases h21 with h23 | h24
           · obtain ⟨q26, k25⟩ := h23
             have q26 := q26.symm
             subst q26
             refine lv_if_ne (tgt := 61) hx hb dX11_over_46 (of_decide_eq_true rfl) (fun _ => ?_) (fun c => absurd c (of_decide_eq_true rfl))
             refine lv_iconst (v := (-1)) hx hb dX11_over_61 (of_decide_eq_true rfl) ?_
             exact hret (-1) σ τ _ _ _ _ rfl ⟨rfl, (fun _ _ => rfl), trivial⟩ hP hS dX11_over_62
           · obtain ⟨q28, k27⟩ := h24
             have q28 := q28.symm
             subst q28
             refine lv_if_ne (tgt := 61) hx hb dX11_over_46 (of_decide_eq_true rfl) (fun c => absurd (of_decide_eq_true rfl) c) (fun _ => ?_)
             refine lv_iload hx hb dX11_over_49 (lv_at hl 1 rfl) ?_
             refine lv_iconst (v := 4) hx hb dX11_over_51 (of_decide_eq_true rfl) ?_
             refine lv_icmp_ge (tgt := 61) hx hb dX11_over_52 (of_decide_eq_true rfl) (fun c29 => ?_) (fun c29 => ?_)
             · have kc29 := jle c29 jz_4 tx19
               refine lv_iconst (v := (-1)) hx hb dX11_over_61 (of_decide_eq_true rfl) ?_
               exact hret (-1) σ τ _ _ _ _ rfl ⟨rfl, (fun _ _ => rfl), trivial⟩ hP hS dX11_over_62
             · have kc29 := jnle c29 jz_4 tx19
               refine lv_iload hx hb dX11_over_55 (lv_at hl 0 rfl) ?_
               refine lv_iconst (v := 3) hx hb dX11_over_57 (of_decide_eq_true rfl) ?_
               refine lv_icmp_le (tgt := 63) hx hb dX11_over_58 (of_decide_eq_true rfl) (fun c30 => ?_) (fun c30 => ?_)
               · have kc30 := jle c30 tx20 jz_3
                 refine lv_iload_n hx hb dX11_over_63 rfl (lv_at hl 5 rfl) ?_
                 refine lv_bipush (v := 10) hx hb dX11_over_64 (of_decide_eq_true rfl) ?_
                 refine lv_idiv hx hb dX11_over_66 (of_decide_eq_true rfl) ?_
                 refine lv_topi (fun x31 ex31 => ?_)
                 exact by
                  have tx31 : x31.toInt = (A2 / 10) := jdiv ex31 t2 jz_10 (by omega) (by omega)
                  refine lv_bipush (v := 12) hx hb dX11_over_67 (of_decide_eq_true rfl) ?_
                  refine lv_icmp_gt (tgt := 81) hx hb dX11_over_69 (of_decide_eq_true rfl) (fun c32 => ?_) (fun c32 => ?_)
                  · have kc32 := jlt c32 jz_12 tx31
                    refine lv_iconst (v := (-1)) hx hb dX11_over_81 (of_decide_eq_true rfl) ?_
                    exact hret (-1) σ τ _ _ _ _ rfl ⟨rfl, (fun _ _ => rfl), trivial⟩ hP hS dX11_over_82
                  · have kc32 := jnlt c32 jz_12 tx31
                    refine lv_iload_n hx hb dX11_over_72 rfl (lv_at hl 5 rfl) ?_
                    refine lv_bipush (v := 10) hx hb dX11_over_73 (of_decide_eq_true rfl) ?_
                    refine lv_irem hx hb dX11_over_75 (of_decide_eq_true rfl) ?_
                    refine lv_topi (fun x33 ex33 => ?_)
                    exact by
                     have tx33 : x33.toInt = (A2 % 10) := jrem ex33 t2 jz_10 (by omega)
                     refine lv_bipush (v := 8) hx hb dX11_over_76 (of_decide_eq_true rfl) ?_
                     refine lv_icmp_le (tgt := 83) hx hb dX11_over_78 (of_decide_eq_true rfl) (fun c34 => ?_) (fun c34 => ?_)
                     · have kc34 := jle c34 tx33 jz_8
                       refine lv_aload_n hx hb dX11_over_83 rfl (lv_at hl 3 rfl) ?_
                       refine va_get (D := D) hx hb hts inlX11 hown hK hP 0 (jc_0 cI cL ad σ τ) rfl 5 (of_decide_eq_true rfl) (hts _ kw_2_9) (fun _ h9 => h9) rfl dX11_over_84 ?_
                       refine lv_aload_n hx hb dX11_over_87 rfl (lv_at hl 3 rfl) ?_
                       refine va_get (D := D) hx hb hts inlX11 hown hK hP 0 (jc_0 cI cL ad σ τ) rfl 0 (of_decide_eq_true rfl) (hts _ kw_1_16) (fun _ h9 => h9) rfl dX11_over_88 ?_
                       refine va_get (D := D) hx hb hts inlX4 hown hK hP 2 (jc_2 cI cL ad σ τ) rfl 1 (of_decide_eq_true rfl) (hts _ kw_12_8) (fun _ h9 => h9) rfl dX11_over_91 ?_
                       refine jcallVv (As := [.int (σ 2 1)]) (rest := []) ⟨hx, hb, hml, hown, hts⟩ hK hP hA hS hZ (c_X5_lay_26 l D cI cL ad zz hJ σ τ (σ 2 1) ((σ 2 1).toInt) rfl) cw_RX11_156 (jc_26 cI cL ad σ τ) rfl ⟨Nat.le_of_ble_eq_true rfl, Nat.le_of_ble_eq_true rfl⟩ rfl rfl rfl hl.1 rfl (Nat.le_of_ble_eq_true rfl) dX11_over_94 ⟨Nat.zero_le _, Nat.zero_le _⟩ (fun σ35 τ35 H locs h35 hP hS => ?_)
                       obtain ⟨rfl, f37, h35⟩ := h35
                       refine lv_iload_n hx hb dX11_over_97 rfl (lv_at hl 6 rfl) ?_
                       refine lv_iconst (v := 1) hx hb dX11_over_98 (of_decide_eq_true rfl) ?_
                       refine lv_icmp_ne (tgt := 116) hx hb dX11_over_99 (of_decide_eq_true rfl) (fun c39 => ?_) (fun c39 => ?_)
                       · have kc39 := jne c39 t3 jz_1
                         refine lv_aload_n hx hb dX11_over_116 rfl (lv_at hl 3 rfl) ?_
                         refine va_get (D := D) hx hb hts inlX11 hown hK hP 0 (jc_0 cI cL ad σ35 τ) rfl 5 (of_decide_eq_true rfl) (hts _ kw_2_9) (fun _ h9 => h9) rfl dX11_over_117 ?_
                         refine lv_iload hx hb dX11_over_120 (lv_at hl 2 rfl) ?_
                         refine lv_iload hx hb dX11_over_122 (lv_at hl 1 rfl) ?_
                         refine lv_iload hx hb dX11_over_124 (lv_at hl 0 rfl) ?_
                         refine lv_aload_n hx hb dX11_over_126 rfl (lv_at hl 3 rfl) ?_
                         refine va_get (D := D) hx hb hts inlX11 hown hK hP 0 (jc_0 cI cL ad σ35 τ) rfl 0 (of_decide_eq_true rfl) (hts _ kw_1_16) (fun _ h9 => h9) rfl dX11_over_127 ?_
                         refine lv_iload hx hb dX11_over_130 (lv_at hl 2 rfl) ?_
                         exact by
                          refine jcallV (As := [.int x17]) (rest := [.int x20, .int x19, .int x17, .ref (ad 26)]) ⟨hx, hb, hml, hown, hts⟩ hK hP hA hS hZ (c_X4_oversOf_p l D cI cL ad zz hJ σ35 τ x17 ((A1 / 100)) tx17 (by omega)) cw_RX11_163 (jc_2 cI cL ad σ35 τ) rfl ⟨Nat.le_of_ble_eq_true rfl, Nat.le_of_ble_eq_true rfl⟩ rfl rfl rfl hl.1 rfl (Nat.le_of_ble_eq_true rfl) dX11_over_132 ⟨Nat.zero_le _, Nat.zero_le _⟩ (fun r41 σ40 τ40 H locs h40 hP hS => ?_)
                          obtain ⟨⟨rfl, rfl⟩, w42, h40⟩ := h40
                          refine lv_iload_n hx hb dX11_over_135 rfl (lv_at hl 5 rfl) ?_
                          refine lv_bipush (v := 10) hx hb dX11_over_136 (of_decide_eq_true rfl) ?_
                          refine lv_idiv hx hb dX11_over_138 (of_decide_eq_true rfl) ?_
                          refine lv_topi (fun x43 ex43 => ?_)
                          have tx43 : x43.toInt = (A2 / 10) := jdiv ex43 t2 jz_10 (by omega) (by omega)
                          refine lv_iload_n hx hb dX11_over_139 rfl (lv_at hl 5 rfl) ?_
                          refine lv_bipush (v := 10) hx hb dX11_over_140 (of_decide_eq_true rfl) ?_
                          exact by
                           refine lv_irem hx hb dX11_over_142 (of_decide_eq_true rfl) ?_
                           refine lv_topi (fun x44 ex44 => ?_)
                           have tx44 : x44.toInt = (A2 % 10) := jrem ex44 t2 jz_10 (by omega)
                           have I45 : jI22 σ35 := jI22_fr (congrFun (f37 22 (of_decide_eq_true rfl)) 0) (f37 23 (of_decide_eq_true rfl)) hI22
                           refine jcallV (As := [.int x17, .int x19, .int x20, .int r41, .int x43, .int x44]) (rest := []) ⟨hx, hb, hml, hown, hts⟩ hK hP hA hS hZ (c_X5_outOf_26 l D cI cL ad zz hJ σ35 τ x17 ((A1 / 100)) tx17 x19 ((((A1 / 10)) % 10)) tx19 x20 ((A1 % 10)) tx20 r41 (r41.toInt) rfl x43 ((A2 / 10)) tx43 x44 ((A2 % 10)) tx44 I45) cw_RX11_166 (jc_26 cI cL ad σ35 τ) rfl ⟨Nat.le_of_ble_eq_true rfl, Nat.le_of_ble_eq_true rfl⟩ rfl rfl rfl hl.1 rfl (Nat.le_of_ble_eq_true rfl) dX11_over_143 ⟨Nat.zero_le _, Nat.zero_le _⟩ (fun r47 σ46 τ46 H locs h46 hP hS => ?_)
                           obtain ⟨rfl, f48, h46⟩ := h46
                           exact hret r47 σ46 τ _ _ _ _ rfl ⟨rfl, (fun i hi => ((f48 i (imp_129 i hi)).trans (f37 i (imp_130 i hi)))), trivial⟩ hP hS dX11_over_146
                       · have kc39 := jeq c39 t3 jz_1
                         refine lv_aload_n hx hb dX11_over_102 rfl (lv_at hl 3 rfl) ?_
                         exact by
                          refine va_get (D := D) hx hb hts inlX11 hown hK hP 0 (jc_0 cI cL ad σ35 τ) rfl 5 (of_decide_eq_true rfl) (hts _ kw_2_9) (fun _ h9 => h9) rfl dX11_over_103 ?_
                          refine lv_iload hx hb dX11_over_106 (lv_at hl 2 rfl) ?_
                          refine lv_iload hx hb dX11_over_108 (lv_at hl 1 rfl) ?_
                          refine lv_iload hx hb dX11_over_110 (lv_at hl 0 rfl) ?_
                          refine jcallV (As := [.int x17, .int x19, .int x20]) (rest := []) ⟨hx, hb, hml, hown, hts⟩ hK hP hA hS hZ (c_X5_runsOf_26 l D cI cL ad zz hJ σ35 τ x17 ((A1 / 100)) tx17 x19 ((((A1 / 10)) % 10)) tx19 x20 ((A1 % 10)) tx20) cw_RX11_160 (jc_26 cI cL ad σ35 τ) rfl ⟨Nat.le_of_ble_eq_true rfl, Nat.le_of_ble_eq_true rfl⟩ rfl rfl rfl hl.1 rfl (Nat.le_of_ble_eq_true rfl) dX11_over_112 ⟨Nat.zero_le _, Nat.zero_le _⟩ (fun r51 σ50 τ50 H locs h50 hP hS => ?_)
                          obtain ⟨⟨rfl, rfl⟩, h50⟩ := h50
                          exact hret r51 σ35 τ _ _ _ _ rfl ⟨rfl, (fun i hi => (f37 i (imp_130 i hi))), trivial⟩ hP hS dX11_over_115
                     · have kc34 := jnle c34 tx33 jz_8
                       refine lv_iconst (v := (-1)) hx hb dX11_over_81 (of_decide_eq_true rfl) ?_
                       exact hret (-1) σ τ _ _ _ _ rfl ⟨rfl, (fun _ _ => rfl), trivial⟩ hP hS dX11_over_82
               · have kc30 := jnle c30 tx20 jz_3
                 refine lv_iconst (v := (-1)) hx hb dX11_over_61 (of_decide_eq_true rfl) ?_
                 exact hret (-1) σ τ _ _ _ _ rfl ⟨rfl, (fun _ _ => rfl), trivial⟩ hP hS dX11_over_62
set_option maxHeartbeats 4000000 in
set_option maxRecDepth 100000 in
theorem c_X11_rule (l : Launch) (D : va_G) (cI cL : ClassId) (ad zz : Nat → Nat) (hJ : jD ad) (σ : Nat → Nat → Int32) (τ : Nat → Nat → Int64) (a1 : Int32) (A1 : Int) (t1 : a1.toInt = A1) (a2 : Int32) (A2 : Int) (t2 : a2.toInt = A2) (a3 : Int32) (A3 : Int) (t3 : a3.toInt = A3) (hI38 : jI38 σ) : jM l yX11_rule cX11_rule 4 (some .int) ({ frames := 1, cells := 0, slots := 0, locals := 23 }) D cI cL ad zz [.ref (ad 0), .int a1, .int a2, .int a3] σ τ (fun r σ' τ' => τ = τ' ∧ (∀ i : Nat, (i < 38 ∨ 41 < i) → σ' i = σ i) ∧ (∀ k : Nat, (k < 0 ∨ 0 < k) → σ' 38 k = σ 38 k) ∧ (jI38 σ') ∧ ((r = (-1) ∧ ((σ' 38 0).toInt = (σ 38 0).toInt) ∧ (¬ (0 ≤ A1 ∧ A1 ≤ 6 ∧ jRow (A2) ∧ 0 ≤ A3 ∧ A3 ≤ 12)) ∧ (σ' 39 = σ 39)) ∨ (r = (-3) ∧ ((σ 38 0).toInt = 20) ∧ ((σ' 38 0).toInt = 20) ∧ ((0 ≤ A1 ∧ A1 ≤ 6 ∧ jRow (A2) ∧ 0 ≤ A3 ∧ A3 ≤ 12)) ∧ (σ' 39 = σ 39)) ∨ (True ∧ ((σ 38 0).toInt < 20) ∧ (r.toInt = (σ 38 0).toInt) ∧ ((σ' 38 0).toInt = (σ 38 0).toInt + 1) ∧ ((0 ≤ A1 ∧ A1 ≤ 6 ∧ jRow (A2) ∧ 0 ≤ A3 ∧ A3 ≤ 12)) ∧ (σ' 39 = jupd (σ 39) ((σ 38 0).toInt).toNat a1)))) := by
  refine jM.of hJ (by decide +kernel) (nt := .int) rfl (Nat.le_of_ble_eq_true rfl) ?_
  intro p e s m args below meth c Q ls hC hret hl hP
  obtain ⟨hx, hb, hr, hml, hown, hts, hK, -, hlocks, hZ⟩ := hC
  have hown : s.vm.findClass RX11 = some m.cls := hown
  have hS : va_S (jA ad) s.heap s.heap [] := va_S.rf
  have hA : ∀ q, jA ad q → jA ad q := fun _ h => h
  have hl : lv_has ls 4 [(0, .ref (ad 0)), (1, .int a1), (2, .int a2), (3, .int a3)] := hl
  have g1 := jrg t1
  have g2 := jrg t2
  have g3 := jrg t3
  obtain ⟨i1, i2, w3⟩ : (0 ≤ (σ 38 0).toInt ∧ (σ 38 0).toInt ≤ 20) ∧ (0 ≤ (σ 38 1).toInt ∧ (σ 38 1).toInt ≤ 1000) ∧ (∀ k : Nat, k < 20 → 0 ≤ (σ 39 k).toInt ∧ (σ 39 k).toInt ≤ 6) := id hI38
  refine lv_iload_n hx hb dX11_rule_0 rfl (lv_at hl 1 rfl) ?_
  refine lv_iconst (v := 0) hx hb dX11_rule_1 (of_decide_eq_true rfl) ?_
  refine lv_bipush (v := 6) hx hb dX11_rule_2 (of_decide_eq_true rfl) ?_
  refine jcallS (As := [.int a1, .int 0, .int 6]) (rest := []) ⟨hx, hb, hml, hown, hts⟩ hK hP hA hS hZ (c_X11_outside l D cI cL ad zz hJ σ τ a1 (A1) t1 0 (0) jz_0 6 (6) jz_6) cw_RX11_94 ⟨Nat.le_of_ble_eq_true rfl, Nat.le_of_ble_eq_true rfl⟩ rfl rfl rfl hl.1 rfl (Nat.le_of_ble_eq_true rfl) dX11_rule_4 ⟨Nat.zero_le _, Nat.zero_le _⟩ (fun r5 σ4 τ4 H locs h4 hP hS => ?_)
  obtain ⟨⟨rfl, rfl⟩, h4⟩ := h4
  rcases h4 with h6 | h7
  · obtain ⟨q9, k8⟩ := h6
    have q9 := q9.symm
    subst q9
    refine lv_if_ne (tgt := 27) hx hb dX11_rule_7 (of_decide_eq_true rfl) (fun _ => ?_) (fun c => absurd c (of_decide_eq_true rfl))
    refine lv_iconst (v := (-1)) hx hb dX11_rule_27 (of_decide_eq_true rfl) ?_
    exact hret (-1) σ τ _ _ _ _ rfl ⟨rfl, (fun _ _ => rfl), (fun _ _ => rfl), hI38, Or.inl ⟨rfl, (by have h9 := jz_m1; omega), (fun h => by omega), rfl⟩⟩ hP hS dX11_rule_28
  · obtain ⟨q11, k10⟩ := h7
    have q11 := q11.symm
    subst q11
    refine lv_if_ne (tgt := 27) hx hb dX11_rule_7 (of_decide_eq_true rfl) (fun c => absurd (of_decide_eq_true rfl) c) (fun _ => ?_)
    refine lv_iload_n hx hb dX11_rule_10 rfl (lv_at hl 2 rfl) ?_
    refine jcallS (As := [.int a2]) (rest := []) ⟨hx, hb, hml, hown, hts⟩ hK hP hA hS hZ (c_X8_rowIsRight l D cI cL ad zz hJ σ τ a2 (A2) t2) cw_RX11_170 ⟨Nat.le_of_ble_eq_true rfl, Nat.le_of_ble_eq_true rfl⟩ rfl rfl rfl hl.1 rfl (Nat.le_of_ble_eq_true rfl) dX11_rule_11 ⟨Nat.zero_le _, Nat.zero_le _⟩ (fun r13 σ12 τ12 H locs h12 hP hS => ?_)
    obtain ⟨⟨rfl, rfl⟩, h12⟩ := h12
    rcases h12 with h14 | h15
    · obtain ⟨q17, k16⟩ := h14
      have q17 := q17.symm
      subst q17
      refine lv_if_eq (tgt := 27) hx hb dX11_rule_14 (of_decide_eq_true rfl) (fun c => absurd c (of_decide_eq_true rfl)) (fun _ => ?_)
      refine lv_iload_n hx hb dX11_rule_17 rfl (lv_at hl 3 rfl) ?_
      refine lv_iconst (v := 0) hx hb dX11_rule_18 (of_decide_eq_true rfl) ?_
      refine lv_bipush (v := 12) hx hb dX11_rule_19 (of_decide_eq_true rfl) ?_
      refine jcallS (As := [.int a3, .int 0, .int 12]) (rest := []) ⟨hx, hb, hml, hown, hts⟩ hK hP hA hS hZ (c_X11_outside l D cI cL ad zz hJ σ τ a3 (A3) t3 0 (0) jz_0 12 (12) jz_12) cw_RX11_94 ⟨Nat.le_of_ble_eq_true rfl, Nat.le_of_ble_eq_true rfl⟩ rfl rfl rfl hl.1 rfl (Nat.le_of_ble_eq_true rfl) dX11_rule_21 ⟨Nat.zero_le _, Nat.zero_le _⟩ (fun r19 σ18 τ18 H locs h18 hP hS => ?_)
      obtain ⟨⟨rfl, rfl⟩, h18⟩ := h18
      rcases h18 with h20 | h21
      · obtain ⟨q23, k22⟩ := h20
        have q23 := q23.symm
        subst q23
        refine lv_if_eq (tgt := 29) hx hb dX11_rule_24 (of_decide_eq_true rfl) (fun c => absurd c (of_decide_eq_true rfl)) (fun _ => ?_)
        refine lv_iconst (v := (-1)) hx hb dX11_rule_27 (of_decide_eq_true rfl) ?_
        exact hret (-1) σ τ _ _ _ _ rfl ⟨rfl, (fun _ _ => rfl), (fun _ _ => rfl), hI38, Or.inl ⟨rfl, (by have h9 := jz_m1; omega), (fun h => by omega), rfl⟩⟩ hP hS dX11_rule_28
      · obtain ⟨q25, k24⟩ := h21
        have q25 := q25.symm
        subst q25
        refine lv_if_eq (tgt := 29) hx hb dX11_rule_24 (of_decide_eq_true rfl) (fun _ => ?_) (fun c => absurd (of_decide_eq_true rfl) c)
        refine lv_aload_n hx hb dX11_rule_29 rfl (lv_at hl 0 rfl) ?_
        refine va_get (D := D) hx hb hts inlX11 hown hK hP 0 (jc_0 cI cL ad σ τ) rfl 7 (of_decide_eq_true rfl) (hts _ kw_2_17) (fun _ h9 => h9) rfl dX11_rule_30 ?_
        refine va_get (D := D) hx hb hts inlX8 hown hK hP 38 (jc_38 cI cL ad σ τ) rfl 0 (of_decide_eq_true rfl) (hts _ kw_24_8) (fun _ h9 => h9) rfl dX11_rule_33 ?_
        refine lv_bipush (v := 20) hx hb dX11_rule_36 (of_decide_eq_true rfl) ?_
        refine lv_icmp_lt (tgt := 44) hx hb dX11_rule_38 (of_decide_eq_true rfl) (fun c26 => ?_) (fun c26 => ?_)
        · have kc26 := jlt c26 rfl jz_20
          refine lv_aload_n hx hb dX11_rule_44 rfl (lv_at hl 0 rfl) ?_
          refine va_get (D := D) hx hb hts inlX11 hown hK hP 0 (jc_0 cI cL ad σ τ) rfl 7 (of_decide_eq_true rfl) (hts _ kw_2_17) (fun _ h9 => h9) rfl dX11_rule_45 ?_
          refine lv_iload_n hx hb dX11_rule_48 rfl (lv_at hl 1 rfl) ?_
          refine lv_iload_n hx hb dX11_rule_49 rfl (lv_at hl 2 rfl) ?_
          refine lv_iload_n hx hb dX11_rule_50 rfl (lv_at hl 3 rfl) ?_
          exact by
           refine jcallV (As := [.int a1, .int a2, .int a3]) (rest := []) ⟨hx, hb, hml, hown, hts⟩ hK hP hA hS hZ (c_X8_make_38 l D cI cL ad zz hJ σ τ a1 (A1) t1 a2 (A2) t2 a3 (A3) t3 hI38 (by omega)) cw_RX11_174 (jc_38 cI cL ad σ τ) rfl ⟨Nat.le_of_ble_eq_true rfl, Nat.le_of_ble_eq_true rfl⟩ rfl rfl rfl hl.1 rfl (Nat.le_of_ble_eq_true rfl) dX11_rule_51 ⟨Nat.zero_le _, Nat.zero_le _⟩ (fun r28 σ27 τ27 H locs h27 hP hS => ?_)
           obtain ⟨rfl, f29, f30, I31, h27⟩ := h27
           obtain ⟨i33, i34, w35⟩ : (0 ≤ (σ27 38 0).toInt ∧ (σ27 38 0).toInt ≤ 20) ∧ (0 ≤ (σ27 38 1).toInt ∧ (σ27 38 1).toInt ≤ 1000) ∧ (∀ k : Nat, k < 20 → 0 ≤ (σ27 39 k).toInt ∧ (σ27 39 k).toInt ≤ 6) := id I31
           have z36 : (σ27 38 1).toInt = (σ 38 1).toInt := (congrArg Int32.toInt (show σ27 38 1 = (σ 38 1) from (f30 1 (of_decide_eq_true rfl))))
           rcases h27 with h37 | h38
           · obtain ⟨q42, k39, k40, k41⟩ := h37
             exact absurd (by omega : False) id
           · obtain ⟨q47, k43, k44, k45, k46⟩ := h38
             exact by exact hret r28 σ27 τ _ _ _ _ rfl ⟨rfl, (fun i hi => (f29 i hi)), (fun i hi => (f30 i hi)), I31, Or.inr (Or.inr (⟨trivial, (by omega), (by omega), (by omega), ⟨by omega, by omega, k16, by omega, by omega⟩, k46⟩))⟩ hP hS dX11_rule_54
        · have kc26 := jnlt c26 rfl jz_20
          refine lv_bipush (v := (-3)) hx hb dX11_rule_41 (of_decide_eq_true rfl) ?_
          exact by exact hret (-3) σ τ _ _ _ _ rfl ⟨rfl, (fun _ _ => rfl), (fun _ _ => rfl), hI38, Or.inr (Or.inl ⟨rfl, (by have h9 := jz_m3; omega), (by have h9 := jz_m3; omega), ⟨by omega, by omega, k16, by omega, by omega⟩, rfl⟩)⟩ hP hS dX11_rule_43
    · obtain ⟨q49, k48⟩ := h15
      have q49 := q49.symm
      subst q49
      refine lv_if_eq (tgt := 27) hx hb dX11_rule_14 (of_decide_eq_true rfl) (fun _ => ?_) (fun c => absurd (of_decide_eq_true rfl) c)
      refine lv_iconst (v := (-1)) hx hb dX11_rule_27 (of_decide_eq_true rfl) ?_
      exact hret (-1) σ τ _ _ _ _ rfl ⟨rfl, (fun _ _ => rfl), (fun _ _ => rfl), hI38, Or.inl ⟨rfl, (by have h9 := jz_m1; omega), (fun h => k48 h.2.2.1), rfl⟩⟩ hP hS dX11_rule_28
set_option maxHeartbeats 4000000 in
set_option maxRecDepth 100000 in
theorem c_X11_makeReady (l : Launch) (D : va_G) (cI cL : ClassId) (ad zz : Nat → Nat) (hJ : jD ad) (σ : Nat → Nat → Int32) (τ : Nat → Nat → Int64) (a1 : Int32) (A1 : Int) (t1 : a1.toInt = A1) (hI2 : jI2 σ) (hI16 : jI16 σ) (hI22 : jI22 σ) (hI31 : jI31 σ) (hI38 : jI38 σ) : jMv l yX11_makeReady cX11_makeReady 2 none ({ frames := 6, cells := 0, slots := 0, locals := 162 }) D cI cL ad zz [.ref (ad 0), .int a1] σ τ (fun σ' τ' => τ = τ' ∧ (∀ i : Nat, (i < 24 ∨ 25 < i) ∧ (i < 27 ∨ 37 < i) → σ' i = σ i) ∧ (∀ k : Nat, (k < 8 ∨ 8 < k) ∧ (k < 9 ∨ 9 < k) ∧ (k < 10 ∨ 10 < k) ∧ (k < 11 ∨ 11 < k) ∧ (k < 12 ∨ 12 < k) → σ' 31 k = σ 31 k) ∧ (jI31 σ') ∧ True) := by
  refine jMv.of hJ (by decide +kernel) rfl (Nat.le_of_ble_eq_true rfl) ?_
  intro p e s m args below meth c Q ls hC hret hl hP
  obtain ⟨hx, hb, hr, hml, hown, hts, hK, -, hlocks, hZ⟩ := hC
  have hown : s.vm.findClass RX11 = some m.cls := hown
  have hS : va_S (jA ad) s.heap s.heap [] := va_S.rf
  have hA : ∀ q, jA ad q → jA ad q := fun _ h => h
  have hl : lv_has ls 2 [(0, .ref (ad 0)), (1, .int a1)] := hl
  have g1 := jrg t1
  obtain ⟨i1, i2, i3, i4, i5, w6⟩ : (0 ≤ (σ 2 0).toInt ∧ (σ 2 0).toInt ≤ 4) ∧ (0 ≤ (σ 2 1).toInt ∧ (σ 2 1).toInt ≤ 3) ∧ (0 ≤ (σ 2 2).toInt) ∧ (0 ≤ (σ 2 3).toInt) ∧ ((σ 2 2).toInt + (σ 2 3).toInt ≤ 40) ∧ (∀ k : Nat, k < 40 → 0 ≤ (σ 6 k).toInt ∧ (σ 6 k).toInt ≤ 67) := id hI2
  obtain ⟨i7, i8, w9⟩ : (0 ≤ (σ 38 0).toInt ∧ (σ 38 0).toInt ≤ 20) ∧ (0 ≤ (σ 38 1).toInt ∧ (σ 38 1).toInt ≤ 1000) ∧ (∀ k : Nat, k < 20 → 0 ≤ (σ 39 k).toInt ∧ (σ 39 k).toInt ≤ 6) := id hI38
  refine lv_aload_n hx hb dX11_makeReady_0 rfl (lv_at hl 0 rfl) ?_
  refine va_get (D := D) hx hb hts inlX11 hown hK hP 0 (jc_0 cI cL ad σ τ) rfl 5 (of_decide_eq_true rfl) (hts _ kw_2_9) (fun _ h9 => h9) rfl dX11_makeReady_1 ?_
  refine lv_aload_n hx hb dX11_makeReady_4 rfl (lv_at hl 0 rfl) ?_
  refine va_get (D := D) hx hb hts inlX11 hown hK hP 0 (jc_0 cI cL ad σ τ) rfl 0 (of_decide_eq_true rfl) (hts _ kw_1_16) (fun _ h9 => h9) rfl dX11_makeReady_5 ?_
  refine va_get (D := D) hx hb hts inlX4 hown hK hP 2 (jc_2 cI cL ad σ τ) rfl 1 (of_decide_eq_true rfl) (hts _ kw_12_8) (fun _ h9 => h9) rfl dX11_makeReady_8 ?_
  refine jcallVv (As := [.int (σ 2 1)]) (rest := []) ⟨hx, hb, hml, hown, hts⟩ hK hP hA hS hZ (c_X5_lay_26 l D cI cL ad zz hJ σ τ (σ 2 1) ((σ 2 1).toInt) rfl) cw_RX11_156 (jc_26 cI cL ad σ τ) rfl ⟨Nat.le_of_ble_eq_true rfl, Nat.le_of_ble_eq_true rfl⟩ rfl rfl rfl hl.1 rfl (Nat.le_of_ble_eq_true rfl) dX11_makeReady_11 ⟨Nat.zero_le _, Nat.zero_le _⟩ (fun σ10 τ10 H locs h10 hP hS => ?_)
  obtain ⟨rfl, f12, h10⟩ := h10
  refine lv_aload_n hx hb dX11_makeReady_14 rfl (lv_at hl 0 rfl) ?_
  refine va_get (D := D) hx hb hts inlX11 hown hK hP 0 (jc_0 cI cL ad σ10 τ) rfl 7 (of_decide_eq_true rfl) (hts _ kw_2_17) (fun _ h9 => h9) rfl dX11_makeReady_15 ?_
  refine lv_iload_n hx hb dX11_makeReady_18 rfl (lv_at hl 1 rfl) ?_
  have I14 : jI38 σ10 := jI38_fr (congrFun (f12 38 (of_decide_eq_true rfl)) 0) (congrFun (f12 38 (of_decide_eq_true rfl)) 1) (f12 39 (of_decide_eq_true rfl)) hI38
  have z15 : (σ10 38 0).toInt = (σ 38 0).toInt := (congrArg Int32.toInt (show σ10 38 0 = (σ 38 0) from (congrFun (f12 38 (of_decide_eq_true rfl)) 0)))
  refine jcallV (As := [.int a1]) (rest := []) ⟨hx, hb, hml, hown, hts⟩ hK hP hA hS hZ (c_X8_kindOf_e l D cI cL ad zz hJ σ10 τ a1 (A1) t1 I14) cw_RX11_183 (jc_38 cI cL ad σ10 τ) rfl ⟨Nat.le_of_ble_eq_true rfl, Nat.le_of_ble_eq_true rfl⟩ rfl rfl rfl hl.1 rfl (Nat.le_of_ble_eq_true rfl) dX11_makeReady_19 ⟨Nat.zero_le _, Nat.zero_le _⟩ (fun r17 σ16 τ16 H locs h16 hP hS => ?_)
  obtain ⟨⟨rfl, rfl⟩, h16⟩ := h16
  rcases h16 with h18 | h19
  · obtain ⟨q23, k20, k21, k22⟩ := h18
    have z24 : (σ10 39 a1.toNatClampNeg).toInt = (σ 39 a1.toNatClampNeg).toInt := by rw [f12 39 (of_decide_eq_true rfl)]
    exact by
     have q25 : r17 = (σ 39 a1.toNatClampNeg) := q23.trans (by rw [f12 39 (of_decide_eq_true rfl)])
     have q25e : (σ10 39 a1.toNatClampNeg).toInt = (σ 39 a1.toNatClampNeg).toInt := by rw [← q23, ← q25]
     have q25 := q25.symm
     subst q25
     refine lv_iconst (v := 2) hx hb dX11_makeReady_22 (of_decide_eq_true rfl) ?_
     refine lv_icmp_ne (tgt := 42) hx hb dX11_makeReady_23 (of_decide_eq_true rfl) (fun c26 => ?_) (fun c26 => ?_)
     · have kc26 := jne c26 rfl jz_2
       have I27 : jI31 σ10 := jI31_fr (congrFun (f12 31 (of_decide_eq_true rfl)) 8) (f12 33 (of_decide_eq_true rfl)) (f12 36 (of_decide_eq_true rfl)) hI31
       exact hret σ10 τ _ _ _ _ ⟨rfl, (fun i hi => (f12 i (imp_131 i hi))), (fun i hi => (congrFun (f12 31 (of_decide_eq_true rfl)) i)), I27, trivial⟩ hP hS dX11_makeReady_42
     · have kc26 := jeq c26 rfl jz_2
       refine lv_aload_n hx hb dX11_makeReady_26 rfl (lv_at hl 0 rfl) ?_
       refine va_get (D := D) hx hb hts inlX11 hown hK hP 0 (jc_0 cI cL ad σ10 τ) rfl 6 (of_decide_eq_true rfl) (hts _ kw_2_13) (fun _ h9 => h9) rfl dX11_makeReady_27 ?_
       refine lv_aload_n hx hb dX11_makeReady_30 rfl (lv_at hl 0 rfl) ?_
       refine va_get (D := D) hx hb hts inlX11 hown hK hP 0 (jc_0 cI cL ad σ10 τ) rfl 0 (of_decide_eq_true rfl) (hts _ kw_1_16) (fun _ h9 => h9) rfl dX11_makeReady_31 ?_
       have I28 : jI2 σ10 := jI2_fr (congrFun (f12 2 (of_decide_eq_true rfl)) 0) (congrFun (f12 2 (of_decide_eq_true rfl)) 1) (congrFun (f12 2 (of_decide_eq_true rfl)) 2) (congrFun (f12 2 (of_decide_eq_true rfl)) 3) (f12 6 (of_decide_eq_true rfl)) hI2
       refine jcallV (As := []) (rest := [.ref (ad 31)]) ⟨hx, hb, hml, hown, hts⟩ hK hP hA hS hZ (c_X4_freshAttack_2 l D cI cL ad zz hJ σ10 τ I28) cw_RX11_204 (jc_2 cI cL ad σ10 τ) rfl ⟨Nat.le_of_ble_eq_true rfl, Nat.le_of_ble_eq_true rfl⟩ rfl rfl rfl hl.1 rfl (Nat.le_of_ble_eq_true rfl) dX11_makeReady_34 ⟨Nat.zero_le _, Nat.zero_le _⟩ (fun r30 σ29 τ29 H locs h29 hP hS => ?_)
       obtain ⟨⟨rfl, rfl⟩, w31, h29⟩ := h29
       refine lv_iconst (v := 0) hx hb dX11_makeReady_37 (of_decide_eq_true rfl) ?_
       refine lv_iconst (v := 0) hx hb dX11_makeReady_38 (of_decide_eq_true rfl) ?_
       have I32 : jI16 σ10 := jI16_fr (congrFun (f12 16 (of_decide_eq_true rfl)) 0) (congrFun (f12 16 (of_decide_eq_true rfl)) 1) (congrFun (f12 16 (of_decide_eq_true rfl)) 2) (f12 17 (of_decide_eq_true rfl)) hI16
       have I33 : jI22 σ10 := jI22_fr (congrFun (f12 22 (of_decide_eq_true rfl)) 0) (f12 23 (of_decide_eq_true rfl)) hI22
       have I34 : jI31 σ10 := jI31_fr (congrFun (f12 31 (of_decide_eq_true rfl)) 8) (f12 33 (of_decide_eq_true rfl)) (f12 36 (of_decide_eq_true rfl)) hI31
       refine jcallVv (As := [.int r30, .int 0, .int 0]) (rest := []) ⟨hx, hb, hml, hown, hts⟩ hK hP hA hS hZ (c_X1_seek_31 l D cI cL ad zz hJ σ10 τ r30 (r30.toInt) rfl 0 (0) jz_0 0 (0) jz_0 I32 I33 I34) cw_RX11_193 (jc_31 cI cL ad σ10 τ) rfl ⟨Nat.le_of_ble_eq_true rfl, Nat.le_of_ble_eq_true rfl⟩ rfl rfl rfl hl.1 rfl (Nat.le_of_ble_eq_true rfl) dX11_makeReady_39 ⟨Nat.zero_le _, Nat.zero_le _⟩ (fun σ35 τ35 H locs h35 hP hS => ?_)
       obtain ⟨rfl, f37, f38, I39, h35⟩ := h35
       exact hret σ35 τ _ _ _ _ ⟨rfl, (fun i hi => ((f37 i (imp_132 i hi)).trans (f12 i (imp_131 i hi)))), (fun i hi => ((f38 i hi).trans (congrFun (f12 31 (of_decide_eq_true rfl)) i))), I39, trivial⟩ hP hS dX11_makeReady_42
  · obtain ⟨q42, k41⟩ := h19
    have z43 : (σ10 39 a1.toNatClampNeg).toInt = (σ 39 a1.toNatClampNeg).toInt := by rw [f12 39 (of_decide_eq_true rfl)]
    have q42 := q42.symm
    subst q42
    refine lv_iconst (v := 2) hx hb dX11_makeReady_22 (of_decide_eq_true rfl) ?_
    refine lv_icmp_ne (tgt := 42) hx hb dX11_makeReady_23 (of_decide_eq_true rfl) (fun _ => ?_) (fun c => absurd c (of_decide_eq_true rfl))
    have I44 : jI31 σ10 := jI31_fr (congrFun (f12 31 (of_decide_eq_true rfl)) 8) (f12 33 (of_decide_eq_true rfl)) (f12 36 (of_decide_eq_true rfl)) hI31
    exact hret σ10 τ _ _ _ _ ⟨rfl, (fun i hi => (f12 i (imp_131 i hi))), (fun i hi => (congrFun (f12 31 (of_decide_eq_true rfl)) i)), I44, trivial⟩ hP hS dX11_makeReady_42
set_option maxHeartbeats 4000000 in
set_option maxRecDepth 100000 in
theorem c_X11_bestOf (l : Launch) (D : va_G) (cI cL : ClassId) (ad zz : Nat → Nat) (hJ : jD ad) (σ : Nat → Nat → Int32) (τ : Nat → Nat → Int64) (a1 : Int32) (A1 : Int) (t1 : a1.toInt = A1) (a2 : Int32) (A2 : Int) (t2 : a2.toInt = A2) (hI16 : jI16 σ) (hI22 : jI22 σ) (hI31 : jI31 σ) : jM l yX11_bestOf cX11_bestOf 3 (some .int) ({ frames := 6, cells := 0, slots := 0, locals := 162 }) D cI cL ad zz [.ref (ad 0), .int a1, .int a2] σ τ (fun r σ' τ' => τ = τ' ∧ (∀ i : Nat, (i < 24 ∨ 25 < i) ∧ (i < 27 ∨ 37 < i) → σ' i = σ i) ∧ (∀ k : Nat, (k < 8 ∨ 8 < k) ∧ (k < 9 ∨ 9 < k) ∧ (k < 10 ∨ 10 < k) ∧ (k < 11 ∨ 11 < k) ∧ (k < 12 ∨ 12 < k) → σ' 31 k = σ 31 k) ∧ (jI31 σ') ∧ True) := by
  refine jM.of hJ (by decide +kernel) (nt := .int) rfl (Nat.le_of_ble_eq_true rfl) ?_
  intro p e s m args below meth c Q ls hC hret hl hP
  obtain ⟨hx, hb, hr, hml, hown, hts, hK, -, hlocks, hZ⟩ := hC
  have hown : s.vm.findClass RX11 = some m.cls := hown
  have hS : va_S (jA ad) s.heap s.heap [] := va_S.rf
  have hA : ∀ q, jA ad q → jA ad q := fun _ h => h
  have hl : lv_has ls 3 [(0, .ref (ad 0)), (1, .int a1), (2, .int a2)] := hl
  have g1 := jrg t1
  have g2 := jrg t2
  refine lv_aload_n hx hb dX11_bestOf_0 rfl (lv_at hl 0 rfl) ?_
  refine va_get (D := D) hx hb hts inlX11 hown hK hP 0 (jc_0 cI cL ad σ τ) rfl 5 (of_decide_eq_true rfl) (hts _ kw_2_9) (fun _ h9 => h9) rfl dX11_bestOf_1 ?_
  refine lv_iload_n hx hb dX11_bestOf_4 rfl (lv_at hl 2 rfl) ?_
  refine jcallVv (As := [.int a2]) (rest := []) ⟨hx, hb, hml, hown, hts⟩ hK hP hA hS hZ (c_X5_lay_26 l D cI cL ad zz hJ σ τ a2 (A2) t2) cw_RX11_156 (jc_26 cI cL ad σ τ) rfl ⟨Nat.le_of_ble_eq_true rfl, Nat.le_of_ble_eq_true rfl⟩ rfl rfl rfl hl.1 rfl (Nat.le_of_ble_eq_true rfl) dX11_bestOf_5 ⟨Nat.zero_le _, Nat.zero_le _⟩ (fun σ1 τ1 H locs h1 hP hS => ?_)
  obtain ⟨rfl, f3, h1⟩ := h1
  refine lv_aload_n hx hb dX11_bestOf_8 rfl (lv_at hl 0 rfl) ?_
  refine va_get (D := D) hx hb hts inlX11 hown hK hP 0 (jc_0 cI cL ad σ1 τ) rfl 6 (of_decide_eq_true rfl) (hts _ kw_2_13) (fun _ h9 => h9) rfl dX11_bestOf_9 ?_
  refine lv_iload_n hx hb dX11_bestOf_12 rfl (lv_at hl 1 rfl) ?_
  refine lv_iconst (v := 0) hx hb dX11_bestOf_13 (of_decide_eq_true rfl) ?_
  refine lv_iconst (v := 0) hx hb dX11_bestOf_14 (of_decide_eq_true rfl) ?_
  have I5 : jI16 σ1 := jI16_fr (congrFun (f3 16 (of_decide_eq_true rfl)) 0) (congrFun (f3 16 (of_decide_eq_true rfl)) 1) (congrFun (f3 16 (of_decide_eq_true rfl)) 2) (f3 17 (of_decide_eq_true rfl)) hI16
  have I6 : jI22 σ1 := jI22_fr (congrFun (f3 22 (of_decide_eq_true rfl)) 0) (f3 23 (of_decide_eq_true rfl)) hI22
  have I7 : jI31 σ1 := jI31_fr (congrFun (f3 31 (of_decide_eq_true rfl)) 8) (f3 33 (of_decide_eq_true rfl)) (f3 36 (of_decide_eq_true rfl)) hI31
  refine jcallVv (As := [.int a1, .int 0, .int 0]) (rest := []) ⟨hx, hb, hml, hown, hts⟩ hK hP hA hS hZ (c_X1_seek_31 l D cI cL ad zz hJ σ1 τ a1 (A1) t1 0 (0) jz_0 0 (0) jz_0 I5 I6 I7) cw_RX11_193 (jc_31 cI cL ad σ1 τ) rfl ⟨Nat.le_of_ble_eq_true rfl, Nat.le_of_ble_eq_true rfl⟩ rfl rfl rfl hl.1 rfl (Nat.le_of_ble_eq_true rfl) dX11_bestOf_15 ⟨Nat.zero_le _, Nat.zero_le _⟩ (fun σ8 τ8 H locs h8 hP hS => ?_)
  obtain ⟨rfl, f10, f11, I12, h8⟩ := h8
  refine lv_aload_n hx hb dX11_bestOf_18 rfl (lv_at hl 0 rfl) ?_
  refine va_get (D := D) hx hb hts inlX11 hown hK hP 0 (jc_0 cI cL ad σ8 τ) rfl 6 (of_decide_eq_true rfl) (hts _ kw_2_13) (fun _ h9 => h9) rfl dX11_bestOf_19 ?_
  refine lv_iconst (v := 0) hx hb dX11_bestOf_22 (of_decide_eq_true rfl) ?_
  refine lv_iconst (v := 0) hx hb dX11_bestOf_23 (of_decide_eq_true rfl) ?_
  have I14 : jI16 σ8 := jI16_fr (congrFun (f10 16 (of_decide_eq_true rfl)) 0) (congrFun (f10 16 (of_decide_eq_true rfl)) 1) (congrFun (f10 16 (of_decide_eq_true rfl)) 2) (f10 17 (of_decide_eq_true rfl)) I5
  refine jcallV (As := [.int 0, .int 0]) (rest := []) ⟨hx, hb, hml, hown, hts⟩ hK hP hA hS hZ (c_X1_valueAt_31 l D cI cL ad zz hJ σ8 τ 0 (0) jz_0 0 (0) jz_0 I14 I12) cw_RX11_215 (jc_31 cI cL ad σ8 τ) rfl ⟨Nat.le_of_ble_eq_true rfl, Nat.le_of_ble_eq_true rfl⟩ rfl rfl rfl hl.1 rfl (Nat.le_of_ble_eq_true rfl) dX11_bestOf_24 ⟨Nat.zero_le _, Nat.zero_le _⟩ (fun r16 σ15 τ15 H locs h15 hP hS => ?_)
  obtain ⟨⟨rfl, rfl⟩, h15⟩ := h15
  exact hret r16 σ8 τ _ _ _ _ rfl ⟨rfl, (fun i hi => ((f10 i (imp_132 i hi)).trans (f3 i (imp_131 i hi)))), (fun i hi => ((f11 i hi).trans (congrFun (f3 31 (of_decide_eq_true rfl)) i))), I12, trivial⟩ hP hS dX11_bestOf_27
set_option maxHeartbeats 4000000 in
set_option maxRecDepth 100000 in
theorem c_X11_puts (l : Launch) (D : va_G) (cI cL : ClassId) (ad zz : Nat → Nat) (hJ : jD ad) (σ : Nat → Nat → Int32) (τ : Nat → Nat → Int64) (a1 : Int32) (A1 : Int) (t1 : a1.toInt = A1) (hI2 : jI2 σ) (hI16 : jI16 σ) (hI18 : jI18 σ) (hI22 : jI22 σ) (hI31 : jI31 σ) (hI38 : jI38 σ) (hI47 : jI47 σ) : jM l yX11_puts cX11_puts 6 (some .int) ({ frames := 6, cells := 0, slots := 0, locals := 162 }) D cI cL ad zz [.ref (ad 0), .int a1] σ τ (fun r σ' τ' => τ = τ' ∧ (∀ i : Nat, (i < 20 ∨ 21 < i) ∧ (i < 24 ∨ 25 < i) ∧ (i < 27 ∨ 37 < i) → σ' i = σ i) ∧ (∀ k : Nat, (k < 8 ∨ 8 < k) ∧ (k < 9 ∨ 9 < k) ∧ (k < 10 ∨ 10 < k) ∧ (k < 11 ∨ 11 < k) ∧ (k < 12 ∨ 12 < k) → σ' 31 k = σ 31 k) ∧ (jI31 σ') ∧ True) := by
  refine jM.of hJ (by decide +kernel) (nt := .int) rfl (Nat.le_of_ble_eq_true rfl) ?_
  intro p e s m args below meth c Q ls hC hret hl hP
  obtain ⟨hx, hb, hr, hml, hown, hts, hK, -, hlocks, hZ⟩ := hC
  have hown : s.vm.findClass RX11 = some m.cls := hown
  have hS : va_S (jA ad) s.heap s.heap [] := va_S.rf
  have hA : ∀ q, jA ad q → jA ad q := fun _ h => h
  have hl : lv_has ls 6 [(0, .ref (ad 0)), (1, .int a1)] := hl
  have g1 := jrg t1
  obtain ⟨i1, i2, i3, i4, i5, w6⟩ : (0 ≤ (σ 2 0).toInt ∧ (σ 2 0).toInt ≤ 4) ∧ (0 ≤ (σ 2 1).toInt ∧ (σ 2 1).toInt ≤ 3) ∧ (0 ≤ (σ 2 2).toInt) ∧ (0 ≤ (σ 2 3).toInt) ∧ ((σ 2 2).toInt + (σ 2 3).toInt ≤ 40) ∧ (∀ k : Nat, k < 40 → 0 ≤ (σ 6 k).toInt ∧ (σ 6 k).toInt ≤ 67) := id hI2
  obtain ⟨i7, i8, i9, w10⟩ : (1 ≤ (σ 16 0).toInt ∧ (σ 16 0).toInt ≤ 8) ∧ (1 ≤ (σ 16 1).toInt ∧ (σ 16 1).toInt ≤ 12) ∧ (0 ≤ (σ 16 2).toInt ∧ (σ 16 2).toInt ≤ 999) ∧ (∀ k : Nat, k < 8 → 0 ≤ (σ 17 k).toInt ∧ (σ 17 k).toInt ≤ 3) := id hI16
  obtain ⟨i11, i12, w13⟩ : (0 ≤ (σ 38 0).toInt ∧ (σ 38 0).toInt ≤ 20) ∧ (0 ≤ (σ 38 1).toInt ∧ (σ 38 1).toInt ≤ 1000) ∧ (∀ k : Nat, k < 20 → 0 ≤ (σ 39 k).toInt ∧ (σ 39 k).toInt ≤ 6) := id hI38
  obtain ⟨i14, w15, w16⟩ : (0 ≤ (σ 47 0).toInt ∧ (σ 47 0).toInt ≤ 12) ∧ (∀ k : Nat, k < 12 → 0 ≤ (σ 48 k).toInt ∧ (σ 48 k).toInt ≤ 3) ∧ (∀ k : Nat, k < 12 → 0 ≤ (σ 49 k).toInt ∧ (σ 49 k).toInt ≤ 1) := id hI47
  refine lv_aload_n hx hb dX11_puts_0 rfl (lv_at hl 0 rfl) ?_
  refine lv_iload_n hx hb dX11_puts_1 rfl (lv_at hl 1 rfl) ?_
  refine jcallV (As := [.int a1]) (rest := []) ⟨hx, hb, hml, hown, hts⟩ hK hP hA hS hZ (c_X11_noRule l D cI cL ad zz hJ σ τ a1 (A1) t1 hI38) cw_RX11_177 (jc_0 cI cL ad σ τ) rfl ⟨Nat.le_of_ble_eq_true rfl, Nat.le_of_ble_eq_true rfl⟩ rfl rfl rfl hl.1 rfl (Nat.le_of_ble_eq_true rfl) dX11_puts_2 ⟨Nat.zero_le _, Nat.zero_le _⟩ (fun r18 σ17 τ17 H locs h17 hP hS => ?_)
  obtain ⟨⟨rfl, rfl⟩, h17⟩ := h17
  rcases h17 with h19 | h20
  · obtain ⟨q22, k21⟩ := h19
    have q22 := q22.symm
    subst q22
    refine lv_if_eq (tgt := 10) hx hb dX11_puts_5 (of_decide_eq_true rfl) (fun c => absurd c (of_decide_eq_true rfl)) (fun _ => ?_)
    refine lv_iconst (v := (-1)) hx hb dX11_puts_8 (of_decide_eq_true rfl) ?_
    exact hret (-1) σ τ _ _ _ _ rfl ⟨rfl, (fun _ _ => rfl), (fun _ _ => rfl), hI31, trivial⟩ hP hS dX11_puts_9
  · obtain ⟨q24, k23⟩ := h20
    have q24 := q24.symm
    subst q24
    refine lv_if_eq (tgt := 10) hx hb dX11_puts_5 (of_decide_eq_true rfl) (fun _ => ?_) (fun c => absurd (of_decide_eq_true rfl) c)
    refine lv_aload_n hx hb dX11_puts_10 rfl (lv_at hl 0 rfl) ?_
    refine va_get (D := D) hx hb hts inlX11 hown hK hP 0 (jc_0 cI cL ad σ τ) rfl 9 (of_decide_eq_true rfl) (hts _ kw_3_1) (fun _ h9 => h9) rfl dX11_puts_11 ?_
    refine va_get (D := D) hx hb hts inlX2 hown hK hP 47 (jc_47 cI cL ad σ τ) rfl 0 (of_decide_eq_true rfl) (hts _ kw_13_11) (fun _ h9 => h9) rfl dX11_puts_14 ?_
    refine lv_istore_n (lv' := [(2, .int (σ 47 0)), (0, .ref (ad 0)), (1, .int a1)]) hx hb dX11_puts_17 rfl hl (of_decide_eq_true rfl) rfl (fun ls hl => ?_)
    refine lv_aload_n hx hb dX11_puts_18 rfl (lv_at hl 1 rfl) ?_
    refine va_get (D := D) hx hb hts inlX11 hown hK hP 0 (jc_0 cI cL ad σ τ) rfl 9 (of_decide_eq_true rfl) (hts _ kw_3_1) (fun _ h9 => h9) rfl dX11_puts_19 ?_
    refine lv_aload_n hx hb dX11_puts_22 rfl (lv_at hl 1 rfl) ?_
    refine va_get (D := D) hx hb hts inlX11 hown hK hP 0 (jc_0 cI cL ad σ τ) rfl 9 (of_decide_eq_true rfl) (hts _ kw_3_1) (fun _ h9 => h9) rfl dX11_puts_23 ?_
    refine va_get (D := D) hx hb hts inlX2 hown hK hP 47 (jc_47 cI cL ad σ τ) rfl 0 (of_decide_eq_true rfl) (hts _ kw_13_11) (fun _ h9 => h9) rfl dX11_puts_26 ?_
    refine jcallV (As := [.int (σ 47 0)]) (rest := []) ⟨hx, hb, hml, hown, hts⟩ hK hP hA hS hZ (c_X2_outs_47 l D cI cL ad zz hJ σ τ (σ 47 0) ((σ 47 0).toInt) rfl hI47) cw_RX11_180 (jc_47 cI cL ad σ τ) rfl ⟨Nat.le_of_ble_eq_true rfl, Nat.le_of_ble_eq_true rfl⟩ rfl rfl rfl hl.1 rfl (Nat.le_of_ble_eq_true rfl) dX11_puts_29 ⟨Nat.zero_le _, Nat.zero_le _⟩ (fun r26 σ25 τ25 H locs h25 hP hS => ?_)
    obtain ⟨⟨rfl, rfl⟩, w27, h25⟩ := h25
    have h28 := h25
    obtain ⟨q30, k29⟩ := h28
    refine lv_istore_n (lv' := [(3, .int r26), (2, .int (σ 47 0)), (0, .ref (ad 0)), (1, .int a1)]) hx hb dX11_puts_32 rfl hl (of_decide_eq_true rfl) rfl (fun ls hl => ?_)
    refine lv_aload_n hx hb dX11_puts_33 rfl (lv_at hl 2 rfl) ?_
    refine va_get (D := D) hx hb hts inlX11 hown hK hP 0 (jc_0 cI cL ad σ τ) rfl 7 (of_decide_eq_true rfl) (hts _ kw_2_17) (fun _ h9 => h9) rfl dX11_puts_34 ?_
    refine lv_iload_n hx hb dX11_puts_37 rfl (lv_at hl 3 rfl) ?_
    refine jcallV (As := [.int a1]) (rest := []) ⟨hx, hb, hml, hown, hts⟩ hK hP hA hS hZ (c_X8_kindOf_e l D cI cL ad zz hJ σ τ a1 (A1) t1 hI38) cw_RX11_183 (jc_38 cI cL ad σ τ) rfl ⟨Nat.le_of_ble_eq_true rfl, Nat.le_of_ble_eq_true rfl⟩ rfl rfl rfl hl.1 rfl (Nat.le_of_ble_eq_true rfl) dX11_puts_38 ⟨Nat.zero_le _, Nat.zero_le _⟩ (fun r32 σ31 τ31 H locs h31 hP hS => ?_)
    obtain ⟨⟨rfl, rfl⟩, h31⟩ := h31
    rcases h31 with h33 | h34
    · obtain ⟨q38, k35, k36, k37⟩ := h33
      have q39 : r32 = (σ 39 a1.toNatClampNeg) := q38.trans rfl
      have q39 := q39.symm
      subst q39
      refine lv_iconst (v := 2) hx hb dX11_puts_41 (of_decide_eq_true rfl) ?_
      refine lv_icmp_ne (tgt := 49) hx hb dX11_puts_42 (of_decide_eq_true rfl) (fun c40 => ?_) (fun c40 => ?_)
      · have kc40 := jne c40 rfl jz_2
        refine lv_iconst (v := 0) hx hb dX11_puts_49 (of_decide_eq_true rfl) ?_
        refine lv_istore (lv' := [(4, .int 0), (3, .int r26), (2, .int (σ 47 0)), (0, .ref (ad 0)), (1, .int a1)]) hx hb dX11_puts_50 hl (of_decide_eq_true rfl) rfl (fun ls hl => ?_)
        refine lv_iload hx hb dX11_puts_52 (lv_at hl 0 rfl) ?_
        refine lv_if_eq (tgt := 74) hx hb dX11_puts_54 (of_decide_eq_true rfl) (fun _ => ?_) (fun c => absurd (of_decide_eq_true rfl) c)
        refine lv_aload_n hx hb dX11_puts_74 rfl (lv_at hl 3 rfl) ?_
        refine va_get (D := D) hx hb hts inlX11 hown hK hP 0 (jc_0 cI cL ad σ τ) rfl 9 (of_decide_eq_true rfl) (hts _ kw_3_1) (fun _ h9 => h9) rfl dX11_puts_75 ?_
        refine lv_iload_n hx hb dX11_puts_78 rfl (lv_at hl 2 rfl) ?_
        refine lv_aload_n hx hb dX11_puts_79 rfl (lv_at hl 3 rfl) ?_
        refine va_get (D := D) hx hb hts inlX11 hown hK hP 0 (jc_0 cI cL ad σ τ) rfl 0 (of_decide_eq_true rfl) (hts _ kw_1_16) (fun _ h9 => h9) rfl dX11_puts_80 ?_
        refine jcallV (As := [.int (σ 47 0), .ref (ad 2)]) (rest := []) ⟨hx, hb, hml, hown, hts⟩ hK hP hA hS hZ (c_X2_attackAhead_47 l D cI cL ad zz hJ σ τ (σ 47 0) ((σ 47 0).toInt) rfl hI2 hI47) cw_RX11_186 (jc_47 cI cL ad σ τ) rfl ⟨Nat.le_of_ble_eq_true rfl, Nat.le_of_ble_eq_true rfl⟩ rfl rfl rfl hl.1 rfl (Nat.le_of_ble_eq_true rfl) dX11_puts_83 ⟨Nat.zero_le _, Nat.zero_le _⟩ (fun r42 σ41 τ41 H locs h41 hP hS => ?_)
        obtain ⟨⟨rfl, rfl⟩, w43, h41⟩ := h41
        refine lv_istore (lv' := [(5, .int r42), (4, .int 0), (3, .int r26), (2, .int (σ 47 0)), (0, .ref (ad 0)), (1, .int a1)]) hx hb dX11_puts_86 hl (of_decide_eq_true rfl) rfl (fun ls hl => ?_)
        refine lv_aload_n hx hb dX11_puts_88 rfl (lv_at hl 4 rfl) ?_
        refine va_get (D := D) hx hb hts inlX11 hown hK hP 0 (jc_0 cI cL ad σ τ) rfl 2 (of_decide_eq_true rfl) (hts _ kw_2_0) (fun _ h9 => h9) rfl dX11_puts_89 ?_
        refine lv_iload_n hx hb dX11_puts_92 rfl (lv_at hl 3 rfl) ?_
        refine lv_iload_n hx hb dX11_puts_93 rfl (lv_at hl 2 rfl) ?_
        refine lv_iload hx hb dX11_puts_94 (lv_at hl 0 rfl) ?_
        refine jcallV (As := [.int (σ 47 0), .int r26, .int r42]) (rest := []) ⟨hx, hb, hml, hown, hts⟩ hK hP hA hS hZ (c_X6_ended_16 l D cI cL ad zz hJ σ τ (σ 47 0) ((σ 47 0).toInt) rfl r26 (r26.toInt) rfl r42 (r42.toInt) rfl) cw_RX11_190 (jc_16 cI cL ad σ τ) rfl ⟨Nat.le_of_ble_eq_true rfl, Nat.le_of_ble_eq_true rfl⟩ rfl rfl rfl hl.1 rfl (Nat.le_of_ble_eq_true rfl) dX11_puts_96 ⟨Nat.zero_le _, Nat.zero_le _⟩ (fun r45 σ44 τ44 H locs h44 hP hS => ?_)
        obtain ⟨⟨rfl, rfl⟩, w46, h44⟩ := h44
        refine lv_if_eq (tgt := 105) hx hb dX11_puts_99 (of_decide_eq_true rfl) (fun c47 => ?_) (fun c47 => ?_)
        · have kc47 := jeq c47 rfl jz_0
          refine lv_aload_n hx hb dX11_puts_105 rfl (lv_at hl 4 rfl) ?_
          refine va_get (D := D) hx hb hts inlX11 hown hK hP 0 (jc_0 cI cL ad σ τ) rfl 5 (of_decide_eq_true rfl) (hts _ kw_2_9) (fun _ h9 => h9) rfl dX11_puts_106 ?_
          refine lv_aload_n hx hb dX11_puts_109 rfl (lv_at hl 4 rfl) ?_
          refine va_get (D := D) hx hb hts inlX11 hown hK hP 0 (jc_0 cI cL ad σ τ) rfl 0 (of_decide_eq_true rfl) (hts _ kw_1_16) (fun _ h9 => h9) rfl dX11_puts_110 ?_
          refine va_get (D := D) hx hb hts inlX4 hown hK hP 2 (jc_2 cI cL ad σ τ) rfl 1 (of_decide_eq_true rfl) (hts _ kw_12_8) (fun _ h9 => h9) rfl dX11_puts_113 ?_
          refine jcallVv (As := [.int (σ 2 1)]) (rest := []) ⟨hx, hb, hml, hown, hts⟩ hK hP hA hS hZ (c_X5_lay_26 l D cI cL ad zz hJ σ τ (σ 2 1) ((σ 2 1).toInt) rfl) cw_RX11_156 (jc_26 cI cL ad σ τ) rfl ⟨Nat.le_of_ble_eq_true rfl, Nat.le_of_ble_eq_true rfl⟩ rfl rfl rfl hl.1 rfl (Nat.le_of_ble_eq_true rfl) dX11_puts_116 ⟨Nat.zero_le _, Nat.zero_le _⟩ (fun σ48 τ48 H locs h48 hP hS => ?_)
          obtain ⟨rfl, f50, h48⟩ := h48
          refine lv_iload hx hb dX11_puts_119 (lv_at hl 1 rfl) ?_
          refine lv_if_eq (tgt := 135) hx hb dX11_puts_121 (of_decide_eq_true rfl) (fun _ => ?_) (fun c => absurd (of_decide_eq_true rfl) c)
          refine lv_aload_n hx hb dX11_puts_135 rfl (lv_at hl 4 rfl) ?_
          refine va_get (D := D) hx hb hts inlX11 hown hK hP 0 (jc_0 cI cL ad σ48 τ) rfl 8 (of_decide_eq_true rfl) (hts _ kw_2_21) (fun _ h9 => h9) rfl dX11_puts_136 ?_
          refine lv_iload_n hx hb dX11_puts_139 rfl (lv_at hl 5 rfl) ?_
          refine lv_iload_n hx hb dX11_puts_140 rfl (lv_at hl 3 rfl) ?_
          refine lv_iload_n hx hb dX11_puts_141 rfl (lv_at hl 2 rfl) ?_
          refine lv_iload hx hb dX11_puts_142 (lv_at hl 0 rfl) ?_
          have I52 : jI16 σ48 := jI16_fr (congrFun (f50 16 (of_decide_eq_true rfl)) 0) (congrFun (f50 16 (of_decide_eq_true rfl)) 1) (congrFun (f50 16 (of_decide_eq_true rfl)) 2) (f50 17 (of_decide_eq_true rfl)) hI16
          have I53 : jI18 σ48 := jI18_fr (congrFun (f50 18 (of_decide_eq_true rfl)) 0) (f50 19 (of_decide_eq_true rfl)) hI18
          have I54 : jI22 σ48 := jI22_fr (congrFun (f50 22 (of_decide_eq_true rfl)) 0) (f50 23 (of_decide_eq_true rfl)) hI22
          have I55 : jI31 σ48 := jI31_fr (congrFun (f50 31 (of_decide_eq_true rfl)) 8) (f50 33 (of_decide_eq_true rfl)) (f50 36 (of_decide_eq_true rfl)) hI31
          have I56 : jI38 σ48 := jI38_fr (congrFun (f50 38 (of_decide_eq_true rfl)) 0) (congrFun (f50 38 (of_decide_eq_true rfl)) 1) (f50 39 (of_decide_eq_true rfl)) hI38
          refine jcallV (As := [.int a1, .int (σ 47 0), .int r26, .int r42]) (rest := []) ⟨hx, hb, hml, hown, hts⟩ hK hP hA hS hZ (c_X3_putOn_43 l D cI cL ad zz hJ σ48 τ a1 (A1) t1 (σ 47 0) ((σ 47 0).toInt) rfl r26 (r26.toInt) rfl r42 (r42.toInt) rfl I52 I53 I54 I55 I56) cw_RX11_197 (jc_43 cI cL ad σ48 τ) rfl ⟨Nat.le_of_ble_eq_true rfl, Nat.le_of_ble_eq_true rfl⟩ rfl rfl rfl hl.1 rfl (Nat.le_of_ble_eq_true rfl) dX11_puts_144 ⟨Nat.zero_le _, Nat.zero_le _⟩ (fun r58 σ57 τ57 H locs h57 hP hS => ?_)
          obtain ⟨rfl, f59, h57⟩ := h57
          have I61 : jI31 σ57 := jI31_fr (congrFun (f59 31 (of_decide_eq_true rfl)) 8) (f59 33 (of_decide_eq_true rfl)) (f59 36 (of_decide_eq_true rfl)) I55
          exact hret r58 σ57 τ _ _ _ _ rfl ⟨rfl, (fun i hi => ((f59 i (imp_133 i hi)).trans (f50 i (imp_134 i hi)))), (fun i hi => ((congrFun (f59 31 (of_decide_eq_true rfl)) i).trans (congrFun (f50 31 (of_decide_eq_true rfl)) i))), I61, trivial⟩ hP hS dX11_puts_147
        · have kc47 := jne c47 rfl jz_0
          refine lv_bipush (v := (-2)) hx hb dX11_puts_102 (of_decide_eq_true rfl) ?_
          exact hret (-2) σ τ _ _ _ _ rfl ⟨rfl, (fun _ _ => rfl), (fun _ _ => rfl), hI31, trivial⟩ hP hS dX11_puts_104
      · have kc40 := jeq c40 rfl jz_2
        refine lv_iconst (v := 1) hx hb dX11_puts_45 (of_decide_eq_true rfl) ?_
        refine lv_goto (tgt := 50) hx hb dX11_puts_46 (of_decide_eq_true rfl) ?_
        refine lv_istore (lv' := [(4, .int 1), (3, .int r26), (2, .int (σ 47 0)), (0, .ref (ad 0)), (1, .int a1)]) hx hb dX11_puts_50 hl (of_decide_eq_true rfl) rfl (fun ls hl => ?_)
        refine lv_iload hx hb dX11_puts_52 (lv_at hl 0 rfl) ?_
        refine lv_if_eq (tgt := 74) hx hb dX11_puts_54 (of_decide_eq_true rfl) (fun c => absurd c (of_decide_eq_true rfl)) (fun _ => ?_)
        refine lv_aload_n hx hb dX11_puts_57 rfl (lv_at hl 3 rfl) ?_
        refine va_get (D := D) hx hb hts inlX11 hown hK hP 0 (jc_0 cI cL ad σ τ) rfl 2 (of_decide_eq_true rfl) (hts _ kw_2_0) (fun _ h9 => h9) rfl dX11_puts_58 ?_
        refine va_get (D := D) hx hb hts inlX6 hown hK hP 16 (jc_16 cI cL ad σ τ) rfl 1 (of_decide_eq_true rfl) (hts _ kw_20_5) (fun _ h9 => h9) rfl dX11_puts_61 ?_
        refine lv_iload_n hx hb dX11_puts_64 rfl (lv_at hl 2 rfl) ?_
        have g62 := jrg (rfl : (σ 16 1).toInt = (σ 16 1).toInt)
        have g63 := jrg (rfl : (σ 47 0).toInt = (σ 47 0).toInt)
        refine lv_isub hx hb dX11_puts_65 ?_
        refine lv_topi (fun x64 ex64 => ?_)
        exact by
         have tx64 : x64.toInt = (σ 16 1).toInt - (σ 47 0).toInt := (jsub ex64 rfl rfl (by omega) (by omega)).trans (by omega)
         refine lv_bipush (v := 8) hx hb dX11_puts_66 (of_decide_eq_true rfl) ?_
         refine lv_icmp_le (tgt := 74) hx hb dX11_puts_68 (of_decide_eq_true rfl) (fun c65 => ?_) (fun c65 => ?_)
         · have kc65 := jle c65 tx64 jz_8
           refine lv_aload_n hx hb dX11_puts_74 rfl (lv_at hl 3 rfl) ?_
           refine va_get (D := D) hx hb hts inlX11 hown hK hP 0 (jc_0 cI cL ad σ τ) rfl 9 (of_decide_eq_true rfl) (hts _ kw_3_1) (fun _ h9 => h9) rfl dX11_puts_75 ?_
           refine lv_iload_n hx hb dX11_puts_78 rfl (lv_at hl 2 rfl) ?_
           refine lv_aload_n hx hb dX11_puts_79 rfl (lv_at hl 3 rfl) ?_
           refine va_get (D := D) hx hb hts inlX11 hown hK hP 0 (jc_0 cI cL ad σ τ) rfl 0 (of_decide_eq_true rfl) (hts _ kw_1_16) (fun _ h9 => h9) rfl dX11_puts_80 ?_
           refine jcallV (As := [.int (σ 47 0), .ref (ad 2)]) (rest := []) ⟨hx, hb, hml, hown, hts⟩ hK hP hA hS hZ (c_X2_attackAhead_47 l D cI cL ad zz hJ σ τ (σ 47 0) ((σ 47 0).toInt) rfl hI2 hI47) cw_RX11_186 (jc_47 cI cL ad σ τ) rfl ⟨Nat.le_of_ble_eq_true rfl, Nat.le_of_ble_eq_true rfl⟩ rfl rfl rfl hl.1 rfl (Nat.le_of_ble_eq_true rfl) dX11_puts_83 ⟨Nat.zero_le _, Nat.zero_le _⟩ (fun r67 σ66 τ66 H locs h66 hP hS => ?_)
           obtain ⟨⟨rfl, rfl⟩, w68, h66⟩ := h66
           refine lv_istore (lv' := [(5, .int r67), (4, .int 1), (3, .int r26), (2, .int (σ 47 0)), (0, .ref (ad 0)), (1, .int a1)]) hx hb dX11_puts_86 hl (of_decide_eq_true rfl) rfl (fun ls hl => ?_)
           refine lv_aload_n hx hb dX11_puts_88 rfl (lv_at hl 4 rfl) ?_
           refine va_get (D := D) hx hb hts inlX11 hown hK hP 0 (jc_0 cI cL ad σ τ) rfl 2 (of_decide_eq_true rfl) (hts _ kw_2_0) (fun _ h9 => h9) rfl dX11_puts_89 ?_
           refine lv_iload_n hx hb dX11_puts_92 rfl (lv_at hl 3 rfl) ?_
           refine lv_iload_n hx hb dX11_puts_93 rfl (lv_at hl 2 rfl) ?_
           refine lv_iload hx hb dX11_puts_94 (lv_at hl 0 rfl) ?_
           refine jcallV (As := [.int (σ 47 0), .int r26, .int r67]) (rest := []) ⟨hx, hb, hml, hown, hts⟩ hK hP hA hS hZ (c_X6_ended_16 l D cI cL ad zz hJ σ τ (σ 47 0) ((σ 47 0).toInt) rfl r26 (r26.toInt) rfl r67 (r67.toInt) rfl) cw_RX11_190 (jc_16 cI cL ad σ τ) rfl ⟨Nat.le_of_ble_eq_true rfl, Nat.le_of_ble_eq_true rfl⟩ rfl rfl rfl hl.1 rfl (Nat.le_of_ble_eq_true rfl) dX11_puts_96 ⟨Nat.zero_le _, Nat.zero_le _⟩ (fun r70 σ69 τ69 H locs h69 hP hS => ?_)
           obtain ⟨⟨rfl, rfl⟩, w71, h69⟩ := h69
           refine lv_if_eq (tgt := 105) hx hb dX11_puts_99 (of_decide_eq_true rfl) (fun c72 => ?_) (fun c72 => ?_)
           · have kc72 := jeq c72 rfl jz_0
             refine lv_aload_n hx hb dX11_puts_105 rfl (lv_at hl 4 rfl) ?_
             refine va_get (D := D) hx hb hts inlX11 hown hK hP 0 (jc_0 cI cL ad σ τ) rfl 5 (of_decide_eq_true rfl) (hts _ kw_2_9) (fun _ h9 => h9) rfl dX11_puts_106 ?_
             refine lv_aload_n hx hb dX11_puts_109 rfl (lv_at hl 4 rfl) ?_
             refine va_get (D := D) hx hb hts inlX11 hown hK hP 0 (jc_0 cI cL ad σ τ) rfl 0 (of_decide_eq_true rfl) (hts _ kw_1_16) (fun _ h9 => h9) rfl dX11_puts_110 ?_
             refine va_get (D := D) hx hb hts inlX4 hown hK hP 2 (jc_2 cI cL ad σ τ) rfl 1 (of_decide_eq_true rfl) (hts _ kw_12_8) (fun _ h9 => h9) rfl dX11_puts_113 ?_
             refine jcallVv (As := [.int (σ 2 1)]) (rest := []) ⟨hx, hb, hml, hown, hts⟩ hK hP hA hS hZ (c_X5_lay_26 l D cI cL ad zz hJ σ τ (σ 2 1) ((σ 2 1).toInt) rfl) cw_RX11_156 (jc_26 cI cL ad σ τ) rfl ⟨Nat.le_of_ble_eq_true rfl, Nat.le_of_ble_eq_true rfl⟩ rfl rfl rfl hl.1 rfl (Nat.le_of_ble_eq_true rfl) dX11_puts_116 ⟨Nat.zero_le _, Nat.zero_le _⟩ (fun σ73 τ73 H locs h73 hP hS => ?_)
             obtain ⟨rfl, f75, h73⟩ := h73
             refine lv_iload hx hb dX11_puts_119 (lv_at hl 1 rfl) ?_
             refine lv_if_eq (tgt := 135) hx hb dX11_puts_121 (of_decide_eq_true rfl) (fun c => absurd c (of_decide_eq_true rfl)) (fun _ => ?_)
             refine lv_aload_n hx hb dX11_puts_124 rfl (lv_at hl 4 rfl) ?_
             refine va_get (D := D) hx hb hts inlX11 hown hK hP 0 (jc_0 cI cL ad σ73 τ) rfl 6 (of_decide_eq_true rfl) (hts _ kw_2_13) (fun _ h9 => h9) rfl dX11_puts_125 ?_
             refine lv_iload hx hb dX11_puts_128 (lv_at hl 0 rfl) ?_
             refine lv_iload_n hx hb dX11_puts_130 rfl (lv_at hl 3 rfl) ?_
             refine lv_iload_n hx hb dX11_puts_131 rfl (lv_at hl 2 rfl) ?_
             have I77 : jI16 σ73 := jI16_fr (congrFun (f75 16 (of_decide_eq_true rfl)) 0) (congrFun (f75 16 (of_decide_eq_true rfl)) 1) (congrFun (f75 16 (of_decide_eq_true rfl)) 2) (f75 17 (of_decide_eq_true rfl)) hI16
             have I78 : jI22 σ73 := jI22_fr (congrFun (f75 22 (of_decide_eq_true rfl)) 0) (f75 23 (of_decide_eq_true rfl)) hI22
             have I79 : jI31 σ73 := jI31_fr (congrFun (f75 31 (of_decide_eq_true rfl)) 8) (f75 33 (of_decide_eq_true rfl)) (f75 36 (of_decide_eq_true rfl)) hI31
             refine jcallVv (As := [.int r67, .int (σ 47 0), .int r26]) (rest := []) ⟨hx, hb, hml, hown, hts⟩ hK hP hA hS hZ (c_X1_seek_31 l D cI cL ad zz hJ σ73 τ r67 (r67.toInt) rfl (σ 47 0) ((σ 47 0).toInt) rfl r26 (r26.toInt) rfl I77 I78 I79) cw_RX11_193 (jc_31 cI cL ad σ73 τ) rfl ⟨Nat.le_of_ble_eq_true rfl, Nat.le_of_ble_eq_true rfl⟩ rfl rfl rfl hl.1 rfl (Nat.le_of_ble_eq_true rfl) dX11_puts_132 ⟨Nat.zero_le _, Nat.zero_le _⟩ (fun σ80 τ80 H locs h80 hP hS => ?_)
             obtain ⟨rfl, f82, f83, I84, h80⟩ := h80
             refine lv_aload_n hx hb dX11_puts_135 rfl (lv_at hl 4 rfl) ?_
             refine va_get (D := D) hx hb hts inlX11 hown hK hP 0 (jc_0 cI cL ad σ80 τ) rfl 8 (of_decide_eq_true rfl) (hts _ kw_2_21) (fun _ h9 => h9) rfl dX11_puts_136 ?_
             refine lv_iload_n hx hb dX11_puts_139 rfl (lv_at hl 5 rfl) ?_
             refine lv_iload_n hx hb dX11_puts_140 rfl (lv_at hl 3 rfl) ?_
             refine lv_iload_n hx hb dX11_puts_141 rfl (lv_at hl 2 rfl) ?_
             refine lv_iload hx hb dX11_puts_142 (lv_at hl 0 rfl) ?_
             have I86 : jI16 σ80 := jI16_fr (congrFun (f82 16 (of_decide_eq_true rfl)) 0) (congrFun (f82 16 (of_decide_eq_true rfl)) 1) (congrFun (f82 16 (of_decide_eq_true rfl)) 2) (f82 17 (of_decide_eq_true rfl)) I77
             have I87 : jI18 σ80 := jI18_fr ((congrFun (f82 18 (of_decide_eq_true rfl)) 0).trans (congrFun (f75 18 (of_decide_eq_true rfl)) 0)) ((f82 19 (of_decide_eq_true rfl)).trans (f75 19 (of_decide_eq_true rfl))) hI18
             have I88 : jI22 σ80 := jI22_fr (congrFun (f82 22 (of_decide_eq_true rfl)) 0) (f82 23 (of_decide_eq_true rfl)) I78
             have I89 : jI38 σ80 := jI38_fr ((congrFun (f82 38 (of_decide_eq_true rfl)) 0).trans (congrFun (f75 38 (of_decide_eq_true rfl)) 0)) ((congrFun (f82 38 (of_decide_eq_true rfl)) 1).trans (congrFun (f75 38 (of_decide_eq_true rfl)) 1)) ((f82 39 (of_decide_eq_true rfl)).trans (f75 39 (of_decide_eq_true rfl))) hI38
             refine jcallV (As := [.int a1, .int (σ 47 0), .int r26, .int r67]) (rest := []) ⟨hx, hb, hml, hown, hts⟩ hK hP hA hS hZ (c_X3_putOn_43 l D cI cL ad zz hJ σ80 τ a1 (A1) t1 (σ 47 0) ((σ 47 0).toInt) rfl r26 (r26.toInt) rfl r67 (r67.toInt) rfl I86 I87 I88 I84 I89) cw_RX11_197 (jc_43 cI cL ad σ80 τ) rfl ⟨Nat.le_of_ble_eq_true rfl, Nat.le_of_ble_eq_true rfl⟩ rfl rfl rfl hl.1 rfl (Nat.le_of_ble_eq_true rfl) dX11_puts_144 ⟨Nat.zero_le _, Nat.zero_le _⟩ (fun r91 σ90 τ90 H locs h90 hP hS => ?_)
             obtain ⟨rfl, f92, h90⟩ := h90
             have I94 : jI31 σ90 := jI31_fr (congrFun (f92 31 (of_decide_eq_true rfl)) 8) (f92 33 (of_decide_eq_true rfl)) (f92 36 (of_decide_eq_true rfl)) I84
             exact hret r91 σ90 τ _ _ _ _ rfl ⟨rfl, (fun i hi => ((f92 i (imp_133 i hi)).trans ((f82 i (imp_135 i hi)).trans (f75 i (imp_134 i hi))))), (fun i hi => ((congrFun (f92 31 (of_decide_eq_true rfl)) i).trans ((f83 i hi).trans (congrFun (f75 31 (of_decide_eq_true rfl)) i)))), I94, trivial⟩ hP hS dX11_puts_147
           · have kc72 := jne c72 rfl jz_0
             refine lv_bipush (v := (-2)) hx hb dX11_puts_102 (of_decide_eq_true rfl) ?_
             exact hret (-2) σ τ _ _ _ _ rfl ⟨rfl, (fun _ _ => rfl), (fun _ _ => rfl), hI31, trivial⟩ hP hS dX11_puts_104
         · have kc65 := jnle c65 tx64 jz_8
           refine lv_bipush (v := (-4)) hx hb dX11_puts_71 (of_decide_eq_true rfl) ?_
           exact hret (-4) σ τ _ _ _ _ rfl ⟨rfl, (fun _ _ => rfl), (fun _ _ => rfl), hI31, trivial⟩ hP hS dX11_puts_73
    · obtain ⟨q96, k95⟩ := h34
      exact absurd (by omega : False) id
set_option maxHeartbeats 4000000 in
set_option maxRecDepth 100000 in
theorem c_X11_mean (l : Launch) (D : va_G) (cI cL : ClassId) (ad zz : Nat → Nat) (hJ : jD ad) (σ : Nat → Nat → Int32) (τ : Nat → Nat → Int64) (a1 : Int32) (A1 : Int) (t1 : a1.toInt = A1) (hI2 : jI2 σ) (hI16 : jI16 σ) (hI18 : jI18 σ) (hI22 : jI22 σ) (hI31 : jI31 σ) (hI38 : jI38 σ) : jM l yX11_mean cX11_mean 2 (some .int) ({ frames := 41, cells := 0, slots := 0, locals := 2281 }) D cI cL ad zz [.ref (ad 0), .int a1] σ τ (fun r σ' τ' => τ = τ' ∧ (∀ i : Nat, (i < 20 ∨ 21 < i) ∧ (i < 24 ∨ 25 < i) ∧ (i < 27 ∨ 37 < i) → σ' i = σ i) ∧ (∀ k : Nat, (k < 8 ∨ 8 < k) ∧ (k < 9 ∨ 9 < k) ∧ (k < 10 ∨ 10 < k) ∧ (k < 11 ∨ 11 < k) ∧ (k < 12 ∨ 12 < k) → σ' 31 k = σ 31 k) ∧ (jI31 σ') ∧ True) := by
  refine jM.of hJ (by decide +kernel) (nt := .int) rfl (Nat.le_of_ble_eq_true rfl) ?_
  intro p e s m args below meth c Q ls hC hret hl hP
  obtain ⟨hx, hb, hr, hml, hown, hts, hK, -, hlocks, hZ⟩ := hC
  have hown : s.vm.findClass RX11 = some m.cls := hown
  have hS : va_S (jA ad) s.heap s.heap [] := va_S.rf
  have hA : ∀ q, jA ad q → jA ad q := fun _ h => h
  have hl : lv_has ls 2 [(0, .ref (ad 0)), (1, .int a1)] := hl
  have g1 := jrg t1
  obtain ⟨i1, i2, i3, w4⟩ : (1 ≤ (σ 16 0).toInt ∧ (σ 16 0).toInt ≤ 8) ∧ (1 ≤ (σ 16 1).toInt ∧ (σ 16 1).toInt ≤ 12) ∧ (0 ≤ (σ 16 2).toInt ∧ (σ 16 2).toInt ≤ 999) ∧ (∀ k : Nat, k < 8 → 0 ≤ (σ 17 k).toInt ∧ (σ 17 k).toInt ≤ 3) := id hI16
  obtain ⟨i5, i6, w7⟩ : (0 ≤ (σ 38 0).toInt ∧ (σ 38 0).toInt ≤ 20) ∧ (0 ≤ (σ 38 1).toInt ∧ (σ 38 1).toInt ≤ 1000) ∧ (∀ k : Nat, k < 20 → 0 ≤ (σ 39 k).toInt ∧ (σ 39 k).toInt ≤ 6) := id hI38
  refine lv_aload_n hx hb dX11_mean_0 rfl (lv_at hl 0 rfl) ?_
  refine lv_iload_n hx hb dX11_mean_1 rfl (lv_at hl 1 rfl) ?_
  refine jcallV (As := [.int a1]) (rest := []) ⟨hx, hb, hml, hown, hts⟩ hK hP hA hS hZ (c_X11_noRule l D cI cL ad zz hJ σ τ a1 (A1) t1 hI38) cw_RX11_177 (jc_0 cI cL ad σ τ) rfl ⟨Nat.le_of_ble_eq_true rfl, Nat.le_of_ble_eq_true rfl⟩ rfl rfl rfl hl.1 rfl (Nat.le_of_ble_eq_true rfl) dX11_mean_2 ⟨Nat.zero_le _, Nat.zero_le _⟩ (fun r9 σ8 τ8 H locs h8 hP hS => ?_)
  obtain ⟨⟨rfl, rfl⟩, h8⟩ := h8
  rcases h8 with h10 | h11
  · obtain ⟨q13, k12⟩ := h10
    have q13 := q13.symm
    subst q13
    refine lv_if_eq (tgt := 10) hx hb dX11_mean_5 (of_decide_eq_true rfl) (fun c => absurd c (of_decide_eq_true rfl)) (fun _ => ?_)
    refine lv_iconst (v := (-1)) hx hb dX11_mean_8 (of_decide_eq_true rfl) ?_
    exact hret (-1) σ τ _ _ _ _ rfl ⟨rfl, (fun _ _ => rfl), (fun _ _ => rfl), hI31, trivial⟩ hP hS dX11_mean_9
  · obtain ⟨q15, k14⟩ := h11
    have q15 := q15.symm
    subst q15
    refine lv_if_eq (tgt := 10) hx hb dX11_mean_5 (of_decide_eq_true rfl) (fun _ => ?_) (fun c => absurd (of_decide_eq_true rfl) c)
    refine lv_aload_n hx hb dX11_mean_10 rfl (lv_at hl 0 rfl) ?_
    refine va_get (D := D) hx hb hts inlX11 hown hK hP 0 (jc_0 cI cL ad σ τ) rfl 2 (of_decide_eq_true rfl) (hts _ kw_2_0) (fun _ h9 => h9) rfl dX11_mean_11 ?_
    refine va_get (D := D) hx hb hts inlX6 hown hK hP 16 (jc_16 cI cL ad σ τ) rfl 1 (of_decide_eq_true rfl) (hts _ kw_20_5) (fun _ h9 => h9) rfl dX11_mean_14 ?_
    refine lv_bipush (v := 8) hx hb dX11_mean_17 (of_decide_eq_true rfl) ?_
    refine lv_icmp_le (tgt := 25) hx hb dX11_mean_19 (of_decide_eq_true rfl) (fun c16 => ?_) (fun c16 => ?_)
    · have kc16 := jle c16 rfl jz_8
      refine lv_aload_n hx hb dX11_mean_25 rfl (lv_at hl 0 rfl) ?_
      refine lv_iload_n hx hb dX11_mean_26 rfl (lv_at hl 1 rfl) ?_
      refine jcallVv (As := [.int a1]) (rest := []) ⟨hx, hb, hml, hown, hts⟩ hK hP hA hS hZ (c_X11_makeReady l D cI cL ad zz hJ σ τ a1 (A1) t1 hI2 hI16 hI22 hI31 hI38) cw_RX11_201 (jc_0 cI cL ad σ τ) rfl ⟨Nat.le_of_ble_eq_true rfl, Nat.le_of_ble_eq_true rfl⟩ rfl rfl rfl hl.1 rfl (Nat.le_of_ble_eq_true rfl) dX11_mean_27 ⟨Nat.zero_le _, Nat.zero_le _⟩ (fun σ17 τ17 H locs h17 hP hS => ?_)
      obtain ⟨rfl, f19, f20, I21, h17⟩ := h17
      refine lv_aload_n hx hb dX11_mean_30 rfl (lv_at hl 0 rfl) ?_
      refine va_get (D := D) hx hb hts inlX11 hown hK hP 0 (jc_0 cI cL ad σ17 τ) rfl 8 (of_decide_eq_true rfl) (hts _ kw_2_21) (fun _ h9 => h9) rfl dX11_mean_31 ?_
      refine lv_iload_n hx hb dX11_mean_34 rfl (lv_at hl 1 rfl) ?_
      refine lv_iconst (v := 0) hx hb dX11_mean_35 (of_decide_eq_true rfl) ?_
      refine lv_iconst (v := 0) hx hb dX11_mean_36 (of_decide_eq_true rfl) ?_
      refine lv_aload_n hx hb dX11_mean_37 rfl (lv_at hl 0 rfl) ?_
      refine va_get (D := D) hx hb hts inlX11 hown hK hP 0 (jc_0 cI cL ad σ17 τ) rfl 0 (of_decide_eq_true rfl) (hts _ kw_1_16) (fun _ h9 => h9) rfl dX11_mean_38 ?_
      have I23 : jI2 σ17 := jI2_fr (congrFun (f19 2 (of_decide_eq_true rfl)) 0) (congrFun (f19 2 (of_decide_eq_true rfl)) 1) (congrFun (f19 2 (of_decide_eq_true rfl)) 2) (congrFun (f19 2 (of_decide_eq_true rfl)) 3) (f19 6 (of_decide_eq_true rfl)) hI2
      refine jcallV (As := []) (rest := [.int 0, .int 0, .int a1, .ref (ad 43)]) ⟨hx, hb, hml, hown, hts⟩ hK hP hA hS hZ (c_X4_freshAttack_2 l D cI cL ad zz hJ σ17 τ I23) cw_RX11_204 (jc_2 cI cL ad σ17 τ) rfl ⟨Nat.le_of_ble_eq_true rfl, Nat.le_of_ble_eq_true rfl⟩ rfl rfl rfl hl.1 rfl (Nat.le_of_ble_eq_true rfl) dX11_mean_41 ⟨Nat.zero_le _, Nat.zero_le _⟩ (fun r25 σ24 τ24 H locs h24 hP hS => ?_)
      obtain ⟨⟨rfl, rfl⟩, w26, h24⟩ := h24
      have I27 : jI16 σ17 := jI16_fr (congrFun (f19 16 (of_decide_eq_true rfl)) 0) (congrFun (f19 16 (of_decide_eq_true rfl)) 1) (congrFun (f19 16 (of_decide_eq_true rfl)) 2) (f19 17 (of_decide_eq_true rfl)) hI16
      have I28 : jI18 σ17 := jI18_fr (congrFun (f19 18 (of_decide_eq_true rfl)) 0) (f19 19 (of_decide_eq_true rfl)) hI18
      have I29 : jI22 σ17 := jI22_fr (congrFun (f19 22 (of_decide_eq_true rfl)) 0) (f19 23 (of_decide_eq_true rfl)) hI22
      have I30 : jI38 σ17 := jI38_fr (congrFun (f19 38 (of_decide_eq_true rfl)) 0) (congrFun (f19 38 (of_decide_eq_true rfl)) 1) (f19 39 (of_decide_eq_true rfl)) hI38
      exact by
       refine jcallV (As := [.int a1, .int 0, .int 0, .int r25]) (rest := []) ⟨hx, hb, hml, hown, hts⟩ hK hP hA hS hZ ((c_X3_means l D cI cL ad zz hJ 8) σ17 τ a1 (A1) t1 0 (0) jz_0 0 (0) jz_0 r25 (r25.toInt) rfl I27 I28 I29 I21 I30 (by omega) (by omega)) cw_RX11_208 (jc_43 cI cL ad σ17 τ) rfl ⟨Nat.le_of_ble_eq_true rfl, Nat.le_of_ble_eq_true rfl⟩ rfl rfl rfl hl.1 rfl (Nat.le_of_ble_eq_true rfl) dX11_mean_44 ⟨Nat.zero_le _, Nat.zero_le _⟩ (fun r32 σ31 τ31 H locs h31 hP hS => ?_)
       obtain ⟨rfl, f33, h31⟩ := h31
       have I35 : jI31 σ31 := jI31_fr (congrFun (f33 31 (of_decide_eq_true rfl)) 8) (f33 33 (of_decide_eq_true rfl)) (f33 36 (of_decide_eq_true rfl)) I21
       exact hret r32 σ31 τ _ _ _ _ rfl ⟨rfl, (fun i hi => ((f33 i (imp_133 i hi)).trans (f19 i (imp_136 i hi)))), (fun i hi => ((congrFun (f33 31 (of_decide_eq_true rfl)) i).trans (f20 i hi))), I35, trivial⟩ hP hS dX11_mean_47
    · have kc16 := jnle c16 rfl jz_8
      refine lv_bipush (v := (-4)) hx hb dX11_mean_22 (of_decide_eq_true rfl) ?_
      exact hret (-4) σ τ _ _ _ _ rfl ⟨rfl, (fun _ _ => rfl), (fun _ _ => rfl), hI31, trivial⟩ hP hS dX11_mean_24
set_option maxHeartbeats 4000000 in
set_option maxRecDepth 100000 in
theorem c_X11_likely (l : Launch) (D : va_G) (cI cL : ClassId) (ad zz : Nat → Nat) (hJ : jD ad) (σ : Nat → Nat → Int32) (τ : Nat → Nat → Int64) (a1 : Int32) (A1 : Int) (t1 : a1.toInt = A1) (a2 : Int32) (A2 : Int) (t2 : a2.toInt = A2) (hI2 : jI2 σ) (hI16 : jI16 σ) (hI18 : jI18 σ) (hI22 : jI22 σ) (hI31 : jI31 σ) (hI38 : jI38 σ) : jM l yX11_likely cX11_likely 3 (some .int) ({ frames := 41, cells := 0, slots := 0, locals := 2286 }) D cI cL ad zz [.ref (ad 0), .int a1, .int a2] σ τ (fun r σ' τ' => τ = τ' ∧ (∀ i : Nat, (i < 20 ∨ 21 < i) ∧ (i < 24 ∨ 25 < i) ∧ (i < 27 ∨ 37 < i) → σ' i = σ i) ∧ (∀ k : Nat, (k < 8 ∨ 8 < k) ∧ (k < 9 ∨ 9 < k) ∧ (k < 10 ∨ 10 < k) ∧ (k < 11 ∨ 11 < k) ∧ (k < 12 ∨ 12 < k) → σ' 31 k = σ 31 k) ∧ (jI31 σ') ∧ True) := by
  refine jM.of hJ (by decide +kernel) (nt := .int) rfl (Nat.le_of_ble_eq_true rfl) ?_
  intro p e s m args below meth c Q ls hC hret hl hP
  obtain ⟨hx, hb, hr, hml, hown, hts, hK, -, hlocks, hZ⟩ := hC
  have hown : s.vm.findClass RX11 = some m.cls := hown
  have hS : va_S (jA ad) s.heap s.heap [] := va_S.rf
  have hA : ∀ q, jA ad q → jA ad q := fun _ h => h
  have hl : lv_has ls 3 [(0, .ref (ad 0)), (1, .int a1), (2, .int a2)] := hl
  have g1 := jrg t1
  have g2 := jrg t2
  obtain ⟨i1, i2, i3, w4⟩ : (1 ≤ (σ 16 0).toInt ∧ (σ 16 0).toInt ≤ 8) ∧ (1 ≤ (σ 16 1).toInt ∧ (σ 16 1).toInt ≤ 12) ∧ (0 ≤ (σ 16 2).toInt ∧ (σ 16 2).toInt ≤ 999) ∧ (∀ k : Nat, k < 8 → 0 ≤ (σ 17 k).toInt ∧ (σ 17 k).toInt ≤ 3) := id hI16
  obtain ⟨i5, i6, w7⟩ : (0 ≤ (σ 38 0).toInt ∧ (σ 38 0).toInt ≤ 20) ∧ (0 ≤ (σ 38 1).toInt ∧ (σ 38 1).toInt ≤ 1000) ∧ (∀ k : Nat, k < 20 → 0 ≤ (σ 39 k).toInt ∧ (σ 39 k).toInt ≤ 6) := id hI38
  refine lv_aload_n hx hb dX11_likely_0 rfl (lv_at hl 0 rfl) ?_
  refine lv_iload_n hx hb dX11_likely_1 rfl (lv_at hl 1 rfl) ?_
  refine jcallV (As := [.int a1]) (rest := []) ⟨hx, hb, hml, hown, hts⟩ hK hP hA hS hZ (c_X11_noRule l D cI cL ad zz hJ σ τ a1 (A1) t1 hI38) cw_RX11_177 (jc_0 cI cL ad σ τ) rfl ⟨Nat.le_of_ble_eq_true rfl, Nat.le_of_ble_eq_true rfl⟩ rfl rfl rfl hl.1 rfl (Nat.le_of_ble_eq_true rfl) dX11_likely_2 ⟨Nat.zero_le _, Nat.zero_le _⟩ (fun r9 σ8 τ8 H locs h8 hP hS => ?_)
  obtain ⟨⟨rfl, rfl⟩, h8⟩ := h8
  rcases h8 with h10 | h11
  · obtain ⟨q13, k12⟩ := h10
    have q13 := q13.symm
    subst q13
    refine lv_if_ne (tgt := 19) hx hb dX11_likely_5 (of_decide_eq_true rfl) (fun _ => ?_) (fun c => absurd c (of_decide_eq_true rfl))
    refine lv_iconst (v := (-1)) hx hb dX11_likely_19 (of_decide_eq_true rfl) ?_
    exact hret (-1) σ τ _ _ _ _ rfl ⟨rfl, (fun _ _ => rfl), (fun _ _ => rfl), hI31, trivial⟩ hP hS dX11_likely_20
  · obtain ⟨q15, k14⟩ := h11
    have q15 := q15.symm
    subst q15
    refine lv_if_ne (tgt := 19) hx hb dX11_likely_5 (of_decide_eq_true rfl) (fun c => absurd (of_decide_eq_true rfl) c) (fun _ => ?_)
    refine lv_iload_n hx hb dX11_likely_8 rfl (lv_at hl 2 rfl) ?_
    refine lv_iconst (v := 0) hx hb dX11_likely_9 (of_decide_eq_true rfl) ?_
    refine lv_sipush (v := 999) hx hb dX11_likely_10 (of_decide_eq_true rfl) ?_
    refine jcallS (As := [.int a2, .int 0, .int 999]) (rest := []) ⟨hx, hb, hml, hown, hts⟩ hK hP hA hS hZ (c_X11_outside l D cI cL ad zz hJ σ τ a2 (A2) t2 0 (0) jz_0 999 (999) jz_999) cw_RX11_94 ⟨Nat.le_of_ble_eq_true rfl, Nat.le_of_ble_eq_true rfl⟩ rfl rfl rfl hl.1 rfl (Nat.le_of_ble_eq_true rfl) dX11_likely_13 ⟨Nat.zero_le _, Nat.zero_le _⟩ (fun r17 σ16 τ16 H locs h16 hP hS => ?_)
    obtain ⟨⟨rfl, rfl⟩, h16⟩ := h16
    rcases h16 with h18 | h19
    · obtain ⟨q21, k20⟩ := h18
      have q21 := q21.symm
      subst q21
      refine lv_if_eq (tgt := 21) hx hb dX11_likely_16 (of_decide_eq_true rfl) (fun c => absurd c (of_decide_eq_true rfl)) (fun _ => ?_)
      refine lv_iconst (v := (-1)) hx hb dX11_likely_19 (of_decide_eq_true rfl) ?_
      exact hret (-1) σ τ _ _ _ _ rfl ⟨rfl, (fun _ _ => rfl), (fun _ _ => rfl), hI31, trivial⟩ hP hS dX11_likely_20
    · obtain ⟨q23, k22⟩ := h19
      have q23 := q23.symm
      subst q23
      refine lv_if_eq (tgt := 21) hx hb dX11_likely_16 (of_decide_eq_true rfl) (fun _ => ?_) (fun c => absurd (of_decide_eq_true rfl) c)
      refine lv_aload_n hx hb dX11_likely_21 rfl (lv_at hl 0 rfl) ?_
      refine va_get (D := D) hx hb hts inlX11 hown hK hP 0 (jc_0 cI cL ad σ τ) rfl 2 (of_decide_eq_true rfl) (hts _ kw_2_0) (fun _ h9 => h9) rfl dX11_likely_22 ?_
      refine va_get (D := D) hx hb hts inlX6 hown hK hP 16 (jc_16 cI cL ad σ τ) rfl 1 (of_decide_eq_true rfl) (hts _ kw_20_5) (fun _ h9 => h9) rfl dX11_likely_25 ?_
      refine lv_bipush (v := 8) hx hb dX11_likely_28 (of_decide_eq_true rfl) ?_
      refine lv_icmp_le (tgt := 36) hx hb dX11_likely_30 (of_decide_eq_true rfl) (fun c24 => ?_) (fun c24 => ?_)
      · have kc24 := jle c24 rfl jz_8
        refine lv_aload_n hx hb dX11_likely_36 rfl (lv_at hl 0 rfl) ?_
        refine lv_iload_n hx hb dX11_likely_37 rfl (lv_at hl 1 rfl) ?_
        refine jcallVv (As := [.int a1]) (rest := []) ⟨hx, hb, hml, hown, hts⟩ hK hP hA hS hZ (c_X11_makeReady l D cI cL ad zz hJ σ τ a1 (A1) t1 hI2 hI16 hI22 hI31 hI38) cw_RX11_201 (jc_0 cI cL ad σ τ) rfl ⟨Nat.le_of_ble_eq_true rfl, Nat.le_of_ble_eq_true rfl⟩ rfl rfl rfl hl.1 rfl (Nat.le_of_ble_eq_true rfl) dX11_likely_38 ⟨Nat.zero_le _, Nat.zero_le _⟩ (fun σ25 τ25 H locs h25 hP hS => ?_)
        obtain ⟨rfl, f27, f28, I29, h25⟩ := h25
        refine lv_aload_n hx hb dX11_likely_41 rfl (lv_at hl 0 rfl) ?_
        refine va_get (D := D) hx hb hts inlX11 hown hK hP 0 (jc_0 cI cL ad σ25 τ) rfl 8 (of_decide_eq_true rfl) (hts _ kw_2_21) (fun _ h9 => h9) rfl dX11_likely_42 ?_
        refine lv_iload_n hx hb dX11_likely_45 rfl (lv_at hl 1 rfl) ?_
        refine lv_iconst (v := 0) hx hb dX11_likely_46 (of_decide_eq_true rfl) ?_
        refine lv_iconst (v := 0) hx hb dX11_likely_47 (of_decide_eq_true rfl) ?_
        refine lv_aload_n hx hb dX11_likely_48 rfl (lv_at hl 0 rfl) ?_
        refine va_get (D := D) hx hb hts inlX11 hown hK hP 0 (jc_0 cI cL ad σ25 τ) rfl 0 (of_decide_eq_true rfl) (hts _ kw_1_16) (fun _ h9 => h9) rfl dX11_likely_49 ?_
        have I31 : jI2 σ25 := jI2_fr (congrFun (f27 2 (of_decide_eq_true rfl)) 0) (congrFun (f27 2 (of_decide_eq_true rfl)) 1) (congrFun (f27 2 (of_decide_eq_true rfl)) 2) (congrFun (f27 2 (of_decide_eq_true rfl)) 3) (f27 6 (of_decide_eq_true rfl)) hI2
        refine jcallV (As := []) (rest := [.int 0, .int 0, .int a1, .ref (ad 43)]) ⟨hx, hb, hml, hown, hts⟩ hK hP hA hS hZ (c_X4_freshAttack_2 l D cI cL ad zz hJ σ25 τ I31) cw_RX11_204 (jc_2 cI cL ad σ25 τ) rfl ⟨Nat.le_of_ble_eq_true rfl, Nat.le_of_ble_eq_true rfl⟩ rfl rfl rfl hl.1 rfl (Nat.le_of_ble_eq_true rfl) dX11_likely_52 ⟨Nat.zero_le _, Nat.zero_le _⟩ (fun r33 σ32 τ32 H locs h32 hP hS => ?_)
        obtain ⟨⟨rfl, rfl⟩, w34, h32⟩ := h32
        refine lv_iload_n hx hb dX11_likely_55 rfl (lv_at hl 2 rfl) ?_
        have I35 : jI16 σ25 := jI16_fr (congrFun (f27 16 (of_decide_eq_true rfl)) 0) (congrFun (f27 16 (of_decide_eq_true rfl)) 1) (congrFun (f27 16 (of_decide_eq_true rfl)) 2) (f27 17 (of_decide_eq_true rfl)) hI16
        have I36 : jI18 σ25 := jI18_fr (congrFun (f27 18 (of_decide_eq_true rfl)) 0) (f27 19 (of_decide_eq_true rfl)) hI18
        have I37 : jI22 σ25 := jI22_fr (congrFun (f27 22 (of_decide_eq_true rfl)) 0) (f27 23 (of_decide_eq_true rfl)) hI22
        have I38 : jI38 σ25 := jI38_fr (congrFun (f27 38 (of_decide_eq_true rfl)) 0) (congrFun (f27 38 (of_decide_eq_true rfl)) 1) (f27 39 (of_decide_eq_true rfl)) hI38
        exact by
         refine jcallV (As := [.int a1, .int 0, .int 0, .int r33, .int a2]) (rest := []) ⟨hx, hb, hml, hown, hts⟩ hK hP hA hS hZ ((c_X3_likelies l D cI cL ad zz hJ 8) σ25 τ a1 (A1) t1 0 (0) jz_0 0 (0) jz_0 r33 (r33.toInt) rfl a2 (A2) t2 I35 I36 I37 I29 I38 (by omega) (by omega)) cw_RX11_211 (jc_43 cI cL ad σ25 τ) rfl ⟨Nat.le_of_ble_eq_true rfl, Nat.le_of_ble_eq_true rfl⟩ rfl rfl rfl hl.1 rfl (Nat.le_of_ble_eq_true rfl) dX11_likely_56 ⟨Nat.zero_le _, Nat.zero_le _⟩ (fun r40 σ39 τ39 H locs h39 hP hS => ?_)
         obtain ⟨rfl, f41, h39⟩ := h39
         have I43 : jI31 σ39 := jI31_fr (congrFun (f41 31 (of_decide_eq_true rfl)) 8) (f41 33 (of_decide_eq_true rfl)) (f41 36 (of_decide_eq_true rfl)) I29
         exact hret r40 σ39 τ _ _ _ _ rfl ⟨rfl, (fun i hi => ((f41 i (imp_133 i hi)).trans (f27 i (imp_136 i hi)))), (fun i hi => ((congrFun (f41 31 (of_decide_eq_true rfl)) i).trans (f28 i hi))), I43, trivial⟩ hP hS dX11_likely_59
      · have kc24 := jnle c24 rfl jz_8
        refine lv_bipush (v := (-4)) hx hb dX11_likely_33 (of_decide_eq_true rfl) ?_
        exact hret (-4) σ τ _ _ _ _ rfl ⟨rfl, (fun _ _ => rfl), (fun _ _ => rfl), hI31, trivial⟩ hP hS dX11_likely_35
set_option maxHeartbeats 4000000 in
set_option maxRecDepth 100000 in
theorem c_X11_best (l : Launch) (D : va_G) (cI cL : ClassId) (ad zz : Nat → Nat) (hJ : jD ad) (σ : Nat → Nat → Int32) (τ : Nat → Nat → Int64) (a1 : Int32) (A1 : Int) (t1 : a1.toInt = A1) (hI2 : jI2 σ) (hI16 : jI16 σ) (hI22 : jI22 σ) (hI31 : jI31 σ) (hI47 : jI47 σ) : jM l yX11_best cX11_best 5 (some .int) ({ frames := 6, cells := 0, slots := 0, locals := 162 }) D cI cL ad zz [.ref (ad 0), .int a1] σ τ (fun r σ' τ' => τ = τ' ∧ (∀ i : Nat, (i < 24 ∨ 25 < i) ∧ (i < 27 ∨ 37 < i) → σ' i = σ i) ∧ (∀ k : Nat, (k < 8 ∨ 8 < k) ∧ (k < 9 ∨ 9 < k) ∧ (k < 10 ∨ 10 < k) ∧ (k < 11 ∨ 11 < k) ∧ (k < 12 ∨ 12 < k) → σ' 31 k = σ 31 k) ∧ (jI31 σ') ∧ True) := by
  refine jM.of hJ (by decide +kernel) (nt := .int) rfl (Nat.le_of_ble_eq_true rfl) ?_
  intro p e s m args below meth c Q ls hC hret hl hP
  obtain ⟨hx, hb, hr, hml, hown, hts, hK, -, hlocks, hZ⟩ := hC
  have hown : s.vm.findClass RX11 = some m.cls := hown
  have hS : va_S (jA ad) s.heap s.heap [] := va_S.rf
  have hA : ∀ q, jA ad q → jA ad q := fun _ h => h
  have hl : lv_has ls 5 [(0, .ref (ad 0)), (1, .int a1)] := hl
  have g1 := jrg t1
  obtain ⟨i1, i2, i3, i4, i5, w6⟩ : (0 ≤ (σ 2 0).toInt ∧ (σ 2 0).toInt ≤ 4) ∧ (0 ≤ (σ 2 1).toInt ∧ (σ 2 1).toInt ≤ 3) ∧ (0 ≤ (σ 2 2).toInt) ∧ (0 ≤ (σ 2 3).toInt) ∧ ((σ 2 2).toInt + (σ 2 3).toInt ≤ 40) ∧ (∀ k : Nat, k < 40 → 0 ≤ (σ 6 k).toInt ∧ (σ 6 k).toInt ≤ 67) := id hI2
  obtain ⟨i7, i8, i9, w10⟩ : (1 ≤ (σ 16 0).toInt ∧ (σ 16 0).toInt ≤ 8) ∧ (1 ≤ (σ 16 1).toInt ∧ (σ 16 1).toInt ≤ 12) ∧ (0 ≤ (σ 16 2).toInt ∧ (σ 16 2).toInt ≤ 999) ∧ (∀ k : Nat, k < 8 → 0 ≤ (σ 17 k).toInt ∧ (σ 17 k).toInt ≤ 3) := id hI16
  obtain ⟨i11, w12, w13⟩ : (0 ≤ (σ 47 0).toInt ∧ (σ 47 0).toInt ≤ 12) ∧ (∀ k : Nat, k < 12 → 0 ≤ (σ 48 k).toInt ∧ (σ 48 k).toInt ≤ 3) ∧ (∀ k : Nat, k < 12 → 0 ≤ (σ 49 k).toInt ∧ (σ 49 k).toInt ≤ 1) := id hI47
  refine lv_iload_n hx hb dX11_best_0 rfl (lv_at hl 1 rfl) ?_
  refine lv_iconst (v := 0) hx hb dX11_best_1 (of_decide_eq_true rfl) ?_
  refine lv_iconst (v := 1) hx hb dX11_best_2 (of_decide_eq_true rfl) ?_
  refine jcallS (As := [.int a1, .int 0, .int 1]) (rest := []) ⟨hx, hb, hml, hown, hts⟩ hK hP hA hS hZ (c_X11_outside l D cI cL ad zz hJ σ τ a1 (A1) t1 0 (0) jz_0 1 (1) jz_1) cw_RX11_94 ⟨Nat.le_of_ble_eq_true rfl, Nat.le_of_ble_eq_true rfl⟩ rfl rfl rfl hl.1 rfl (Nat.le_of_ble_eq_true rfl) dX11_best_3 ⟨Nat.zero_le _, Nat.zero_le _⟩ (fun r15 σ14 τ14 H locs h14 hP hS => ?_)
  obtain ⟨⟨rfl, rfl⟩, h14⟩ := h14
  rcases h14 with h16 | h17
  · obtain ⟨q19, k18⟩ := h16
    have q19 := q19.symm
    subst q19
    refine lv_if_eq (tgt := 11) hx hb dX11_best_6 (of_decide_eq_true rfl) (fun c => absurd c (of_decide_eq_true rfl)) (fun _ => ?_)
    refine lv_iconst (v := (-1)) hx hb dX11_best_9 (of_decide_eq_true rfl) ?_
    exact hret (-1) σ τ _ _ _ _ rfl ⟨rfl, (fun _ _ => rfl), (fun _ _ => rfl), hI31, trivial⟩ hP hS dX11_best_10
  · obtain ⟨q21, k20⟩ := h17
    have q21 := q21.symm
    subst q21
    refine lv_if_eq (tgt := 11) hx hb dX11_best_6 (of_decide_eq_true rfl) (fun _ => ?_) (fun c => absurd (of_decide_eq_true rfl) c)
    refine lv_aload_n hx hb dX11_best_11 rfl (lv_at hl 0 rfl) ?_
    refine va_get (D := D) hx hb hts inlX11 hown hK hP 0 (jc_0 cI cL ad σ τ) rfl 9 (of_decide_eq_true rfl) (hts _ kw_3_1) (fun _ h9 => h9) rfl dX11_best_12 ?_
    refine va_get (D := D) hx hb hts inlX2 hown hK hP 47 (jc_47 cI cL ad σ τ) rfl 0 (of_decide_eq_true rfl) (hts _ kw_13_11) (fun _ h9 => h9) rfl dX11_best_15 ?_
    refine lv_istore_n (lv' := [(2, .int (σ 47 0)), (0, .ref (ad 0)), (1, .int a1)]) hx hb dX11_best_18 rfl hl (of_decide_eq_true rfl) rfl (fun ls hl => ?_)
    refine lv_aload_n hx hb dX11_best_19 rfl (lv_at hl 1 rfl) ?_
    refine va_get (D := D) hx hb hts inlX11 hown hK hP 0 (jc_0 cI cL ad σ τ) rfl 9 (of_decide_eq_true rfl) (hts _ kw_3_1) (fun _ h9 => h9) rfl dX11_best_20 ?_
    refine lv_aload_n hx hb dX11_best_23 rfl (lv_at hl 1 rfl) ?_
    refine va_get (D := D) hx hb hts inlX11 hown hK hP 0 (jc_0 cI cL ad σ τ) rfl 9 (of_decide_eq_true rfl) (hts _ kw_3_1) (fun _ h9 => h9) rfl dX11_best_24 ?_
    refine va_get (D := D) hx hb hts inlX2 hown hK hP 47 (jc_47 cI cL ad σ τ) rfl 0 (of_decide_eq_true rfl) (hts _ kw_13_11) (fun _ h9 => h9) rfl dX11_best_27 ?_
    refine jcallV (As := [.int (σ 47 0)]) (rest := []) ⟨hx, hb, hml, hown, hts⟩ hK hP hA hS hZ (c_X2_outs_47 l D cI cL ad zz hJ σ τ (σ 47 0) ((σ 47 0).toInt) rfl hI47) cw_RX11_180 (jc_47 cI cL ad σ τ) rfl ⟨Nat.le_of_ble_eq_true rfl, Nat.le_of_ble_eq_true rfl⟩ rfl rfl rfl hl.1 rfl (Nat.le_of_ble_eq_true rfl) dX11_best_30 ⟨Nat.zero_le _, Nat.zero_le _⟩ (fun r23 σ22 τ22 H locs h22 hP hS => ?_)
    obtain ⟨⟨rfl, rfl⟩, w24, h22⟩ := h22
    have h25 := h22
    obtain ⟨q27, k26⟩ := h25
    refine lv_istore_n (lv' := [(3, .int r23), (2, .int (σ 47 0)), (0, .ref (ad 0)), (1, .int a1)]) hx hb dX11_best_33 rfl hl (of_decide_eq_true rfl) rfl (fun ls hl => ?_)
    refine lv_aload_n hx hb dX11_best_34 rfl (lv_at hl 2 rfl) ?_
    refine va_get (D := D) hx hb hts inlX11 hown hK hP 0 (jc_0 cI cL ad σ τ) rfl 2 (of_decide_eq_true rfl) (hts _ kw_2_0) (fun _ h9 => h9) rfl dX11_best_35 ?_
    refine va_get (D := D) hx hb hts inlX6 hown hK hP 16 (jc_16 cI cL ad σ τ) rfl 1 (of_decide_eq_true rfl) (hts _ kw_20_5) (fun _ h9 => h9) rfl dX11_best_38 ?_
    refine lv_iload_n hx hb dX11_best_41 rfl (lv_at hl 1 rfl) ?_
    have g28 := jrg (rfl : (σ 16 1).toInt = (σ 16 1).toInt)
    have g29 := jrg (rfl : (σ 47 0).toInt = (σ 47 0).toInt)
    refine lv_isub hx hb dX11_best_42 ?_
    refine lv_topi (fun x30 ex30 => ?_)
    exact by
     have tx30 : x30.toInt = (σ 16 1).toInt - (σ 47 0).toInt := (jsub ex30 rfl rfl (by omega) (by omega)).trans (by omega)
     refine lv_bipush (v := 8) hx hb dX11_best_43 (of_decide_eq_true rfl) ?_
     refine lv_icmp_le (tgt := 51) hx hb dX11_best_45 (of_decide_eq_true rfl) (fun c31 => ?_) (fun c31 => ?_)
     · have kc31 := jle c31 tx30 jz_8
       refine lv_aload_n hx hb dX11_best_51 rfl (lv_at hl 2 rfl) ?_
       refine va_get (D := D) hx hb hts inlX11 hown hK hP 0 (jc_0 cI cL ad σ τ) rfl 9 (of_decide_eq_true rfl) (hts _ kw_3_1) (fun _ h9 => h9) rfl dX11_best_52 ?_
       refine lv_iload_n hx hb dX11_best_55 rfl (lv_at hl 1 rfl) ?_
       refine lv_aload_n hx hb dX11_best_56 rfl (lv_at hl 2 rfl) ?_
       refine va_get (D := D) hx hb hts inlX11 hown hK hP 0 (jc_0 cI cL ad σ τ) rfl 0 (of_decide_eq_true rfl) (hts _ kw_1_16) (fun _ h9 => h9) rfl dX11_best_57 ?_
       refine jcallV (As := [.int (σ 47 0), .ref (ad 2)]) (rest := []) ⟨hx, hb, hml, hown, hts⟩ hK hP hA hS hZ (c_X2_attackAhead_47 l D cI cL ad zz hJ σ τ (σ 47 0) ((σ 47 0).toInt) rfl hI2 hI47) cw_RX11_186 (jc_47 cI cL ad σ τ) rfl ⟨Nat.le_of_ble_eq_true rfl, Nat.le_of_ble_eq_true rfl⟩ rfl rfl rfl hl.1 rfl (Nat.le_of_ble_eq_true rfl) dX11_best_60 ⟨Nat.zero_le _, Nat.zero_le _⟩ (fun r33 σ32 τ32 H locs h32 hP hS => ?_)
       obtain ⟨⟨rfl, rfl⟩, w34, h32⟩ := h32
       refine lv_istore (lv' := [(4, .int r33), (3, .int r23), (2, .int (σ 47 0)), (0, .ref (ad 0)), (1, .int a1)]) hx hb dX11_best_63 hl (of_decide_eq_true rfl) rfl (fun ls hl => ?_)
       refine lv_aload_n hx hb dX11_best_65 rfl (lv_at hl 3 rfl) ?_
       refine va_get (D := D) hx hb hts inlX11 hown hK hP 0 (jc_0 cI cL ad σ τ) rfl 2 (of_decide_eq_true rfl) (hts _ kw_2_0) (fun _ h9 => h9) rfl dX11_best_66 ?_
       refine lv_iload_n hx hb dX11_best_69 rfl (lv_at hl 2 rfl) ?_
       refine lv_iload_n hx hb dX11_best_70 rfl (lv_at hl 1 rfl) ?_
       refine lv_iload hx hb dX11_best_71 (lv_at hl 0 rfl) ?_
       refine jcallV (As := [.int (σ 47 0), .int r23, .int r33]) (rest := []) ⟨hx, hb, hml, hown, hts⟩ hK hP hA hS hZ (c_X6_ended_16 l D cI cL ad zz hJ σ τ (σ 47 0) ((σ 47 0).toInt) rfl r23 (r23.toInt) rfl r33 (r33.toInt) rfl) cw_RX11_190 (jc_16 cI cL ad σ τ) rfl ⟨Nat.le_of_ble_eq_true rfl, Nat.le_of_ble_eq_true rfl⟩ rfl rfl rfl hl.1 rfl (Nat.le_of_ble_eq_true rfl) dX11_best_73 ⟨Nat.zero_le _, Nat.zero_le _⟩ (fun r36 σ35 τ35 H locs h35 hP hS => ?_)
       obtain ⟨⟨rfl, rfl⟩, w37, h35⟩ := h35
       refine lv_if_eq (tgt := 90) hx hb dX11_best_76 (of_decide_eq_true rfl) (fun c38 => ?_) (fun c38 => ?_)
       · have kc38 := jeq c38 rfl jz_0
         refine lv_aload_n hx hb dX11_best_90 rfl (lv_at hl 3 rfl) ?_
         refine va_get (D := D) hx hb hts inlX11 hown hK hP 0 (jc_0 cI cL ad σ τ) rfl 5 (of_decide_eq_true rfl) (hts _ kw_2_9) (fun _ h9 => h9) rfl dX11_best_91 ?_
         refine lv_aload_n hx hb dX11_best_94 rfl (lv_at hl 3 rfl) ?_
         refine va_get (D := D) hx hb hts inlX11 hown hK hP 0 (jc_0 cI cL ad σ τ) rfl 0 (of_decide_eq_true rfl) (hts _ kw_1_16) (fun _ h9 => h9) rfl dX11_best_95 ?_
         refine va_get (D := D) hx hb hts inlX4 hown hK hP 2 (jc_2 cI cL ad σ τ) rfl 1 (of_decide_eq_true rfl) (hts _ kw_12_8) (fun _ h9 => h9) rfl dX11_best_98 ?_
         refine jcallVv (As := [.int (σ 2 1)]) (rest := []) ⟨hx, hb, hml, hown, hts⟩ hK hP hA hS hZ (c_X5_lay_26 l D cI cL ad zz hJ σ τ (σ 2 1) ((σ 2 1).toInt) rfl) cw_RX11_156 (jc_26 cI cL ad σ τ) rfl ⟨Nat.le_of_ble_eq_true rfl, Nat.le_of_ble_eq_true rfl⟩ rfl rfl rfl hl.1 rfl (Nat.le_of_ble_eq_true rfl) dX11_best_101 ⟨Nat.zero_le _, Nat.zero_le _⟩ (fun σ39 τ39 H locs h39 hP hS => ?_)
         obtain ⟨rfl, f41, h39⟩ := h39
         refine lv_aload_n hx hb dX11_best_104 rfl (lv_at hl 3 rfl) ?_
         refine va_get (D := D) hx hb hts inlX11 hown hK hP 0 (jc_0 cI cL ad σ39 τ) rfl 6 (of_decide_eq_true rfl) (hts _ kw_2_13) (fun _ h9 => h9) rfl dX11_best_105 ?_
         refine lv_iload hx hb dX11_best_108 (lv_at hl 0 rfl) ?_
         refine lv_iload_n hx hb dX11_best_110 rfl (lv_at hl 2 rfl) ?_
         refine lv_iload_n hx hb dX11_best_111 rfl (lv_at hl 1 rfl) ?_
         have I43 : jI16 σ39 := jI16_fr (congrFun (f41 16 (of_decide_eq_true rfl)) 0) (congrFun (f41 16 (of_decide_eq_true rfl)) 1) (congrFun (f41 16 (of_decide_eq_true rfl)) 2) (f41 17 (of_decide_eq_true rfl)) hI16
         have I44 : jI22 σ39 := jI22_fr (congrFun (f41 22 (of_decide_eq_true rfl)) 0) (f41 23 (of_decide_eq_true rfl)) hI22
         have I45 : jI31 σ39 := jI31_fr (congrFun (f41 31 (of_decide_eq_true rfl)) 8) (f41 33 (of_decide_eq_true rfl)) (f41 36 (of_decide_eq_true rfl)) hI31
         refine jcallVv (As := [.int r33, .int (σ 47 0), .int r23]) (rest := []) ⟨hx, hb, hml, hown, hts⟩ hK hP hA hS hZ (c_X1_seek_31 l D cI cL ad zz hJ σ39 τ r33 (r33.toInt) rfl (σ 47 0) ((σ 47 0).toInt) rfl r23 (r23.toInt) rfl I43 I44 I45) cw_RX11_193 (jc_31 cI cL ad σ39 τ) rfl ⟨Nat.le_of_ble_eq_true rfl, Nat.le_of_ble_eq_true rfl⟩ rfl rfl rfl hl.1 rfl (Nat.le_of_ble_eq_true rfl) dX11_best_112 ⟨Nat.zero_le _, Nat.zero_le _⟩ (fun σ46 τ46 H locs h46 hP hS => ?_)
         obtain ⟨rfl, f48, f49, I50, h46⟩ := h46
         refine lv_iload_n hx hb dX11_best_115 rfl (lv_at hl 4 rfl) ?_
         refine lv_if_ne (tgt := 131) hx hb dX11_best_116 (of_decide_eq_true rfl) (fun c52 => ?_) (fun c52 => ?_)
         · have kc52 := jne c52 t1 jz_0
           refine lv_aload_n hx hb dX11_best_131 rfl (lv_at hl 3 rfl) ?_
           refine va_get (D := D) hx hb hts inlX11 hown hK hP 0 (jc_0 cI cL ad σ46 τ) rfl 6 (of_decide_eq_true rfl) (hts _ kw_2_13) (fun _ h9 => h9) rfl dX11_best_132 ?_
           refine lv_iconst (v := 0) hx hb dX11_best_135 (of_decide_eq_true rfl) ?_
           refine lv_iload_n hx hb dX11_best_136 rfl (lv_at hl 1 rfl) ?_
           have I53 : jI16 σ46 := jI16_fr (congrFun (f48 16 (of_decide_eq_true rfl)) 0) (congrFun (f48 16 (of_decide_eq_true rfl)) 1) (congrFun (f48 16 (of_decide_eq_true rfl)) 2) (f48 17 (of_decide_eq_true rfl)) I43
           refine jcallV (As := [.int 0, .int r23]) (rest := []) ⟨hx, hb, hml, hown, hts⟩ hK hP hA hS hZ (c_X1_whomAt_31 l D cI cL ad zz hJ σ46 τ 0 (0) jz_0 r23 (r23.toInt) rfl I53 I50) cw_RX11_218 (jc_31 cI cL ad σ46 τ) rfl ⟨Nat.le_of_ble_eq_true rfl, Nat.le_of_ble_eq_true rfl⟩ rfl rfl rfl hl.1 rfl (Nat.le_of_ble_eq_true rfl) dX11_best_137 ⟨Nat.zero_le _, Nat.zero_le _⟩ (fun r55 σ54 τ54 H locs h54 hP hS => ?_)
           obtain ⟨⟨rfl, rfl⟩, h54⟩ := h54
           exact hret r55 σ46 τ _ _ _ _ rfl ⟨rfl, (fun i hi => ((f48 i (imp_132 i hi)).trans (f41 i (imp_131 i hi)))), (fun i hi => ((f49 i hi).trans (congrFun (f41 31 (of_decide_eq_true rfl)) i))), I50, trivial⟩ hP hS dX11_best_140
         · have kc52 := jeq c52 t1 jz_0
           refine lv_aload_n hx hb dX11_best_119 rfl (lv_at hl 3 rfl) ?_
           refine va_get (D := D) hx hb hts inlX11 hown hK hP 0 (jc_0 cI cL ad σ46 τ) rfl 6 (of_decide_eq_true rfl) (hts _ kw_2_13) (fun _ h9 => h9) rfl dX11_best_120 ?_
           refine lv_iconst (v := 0) hx hb dX11_best_123 (of_decide_eq_true rfl) ?_
           refine lv_iload_n hx hb dX11_best_124 rfl (lv_at hl 1 rfl) ?_
           have I56 : jI16 σ46 := jI16_fr (congrFun (f48 16 (of_decide_eq_true rfl)) 0) (congrFun (f48 16 (of_decide_eq_true rfl)) 1) (congrFun (f48 16 (of_decide_eq_true rfl)) 2) (f48 17 (of_decide_eq_true rfl)) I43
           refine jcallV (As := [.int 0, .int r23]) (rest := []) ⟨hx, hb, hml, hown, hts⟩ hK hP hA hS hZ (c_X1_valueAt_31 l D cI cL ad zz hJ σ46 τ 0 (0) jz_0 r23 (r23.toInt) rfl I56 I50) cw_RX11_215 (jc_31 cI cL ad σ46 τ) rfl ⟨Nat.le_of_ble_eq_true rfl, Nat.le_of_ble_eq_true rfl⟩ rfl rfl rfl hl.1 rfl (Nat.le_of_ble_eq_true rfl) dX11_best_125 ⟨Nat.zero_le _, Nat.zero_le _⟩ (fun r58 σ57 τ57 H locs h57 hP hS => ?_)
           obtain ⟨⟨rfl, rfl⟩, h57⟩ := h57
           refine lv_goto (tgt := 140) hx hb dX11_best_128 (of_decide_eq_true rfl) ?_
           exact hret r58 σ46 τ _ _ _ _ rfl ⟨rfl, (fun i hi => ((f48 i (imp_132 i hi)).trans (f41 i (imp_131 i hi)))), (fun i hi => ((f49 i hi).trans (congrFun (f41 31 (of_decide_eq_true rfl)) i))), I50, trivial⟩ hP hS dX11_best_140
       · have kc38 := jne c38 rfl jz_0
         refine lv_iload_n hx hb dX11_best_79 rfl (lv_at hl 4 rfl) ?_
         refine lv_if_ne (tgt := 87) hx hb dX11_best_80 (of_decide_eq_true rfl) (fun c59 => ?_) (fun c59 => ?_)
         · have kc59 := jne c59 t1 jz_0
           refine lv_bipush (v := (-2)) hx hb dX11_best_87 (of_decide_eq_true rfl) ?_
           exact hret (-2) σ τ _ _ _ _ rfl ⟨rfl, (fun _ _ => rfl), (fun _ _ => rfl), hI31, trivial⟩ hP hS dX11_best_89
         · have kc59 := jeq c59 t1 jz_0
           refine lv_iconst (v := 0) hx hb dX11_best_83 (of_decide_eq_true rfl) ?_
           refine lv_goto (tgt := 89) hx hb dX11_best_84 (of_decide_eq_true rfl) ?_
           exact hret 0 σ τ _ _ _ _ rfl ⟨rfl, (fun _ _ => rfl), (fun _ _ => rfl), hI31, trivial⟩ hP hS dX11_best_89
     · have kc31 := jnle c31 tx30 jz_8
       refine lv_bipush (v := (-4)) hx hb dX11_best_48 (of_decide_eq_true rfl) ?_
       exact hret (-4) σ τ _ _ _ _ rfl ⟨rfl, (fun _ _ => rfl), (fun _ _ => rfl), hI31, trivial⟩ hP hS dX11_best_50
set_option maxHeartbeats 4000000 in
set_option maxRecDepth 100000 in
theorem c_X11_worth (l : Launch) (D : va_G) (cI cL : ClassId) (ad zz : Nat → Nat) (hJ : jD ad) (σ : Nat → Nat → Int32) (τ : Nat → Nat → Int64) (a1 : Int32) (A1 : Int) (t1 : a1.toInt = A1) (a2 : Int32) (A2 : Int) (t2 : a2.toInt = A2) (hI2 : jI2 σ) (hI16 : jI16 σ) (hI22 : jI22 σ) (hI31 : jI31 σ) : jM l yX11_worth cX11_worth 7 (some .int) ({ frames := 7, cells := 0, slots := 0, locals := 184 }) D cI cL ad zz [.ref (ad 0), .int a1, .int a2] σ τ (fun r σ' τ' => τ = τ' ∧ (∀ i : Nat, (i < 24 ∨ 25 < i) ∧ (i < 27 ∨ 37 < i) → σ' i = σ i) ∧ (∀ k : Nat, (k < 8 ∨ 8 < k) ∧ (k < 9 ∨ 9 < k) ∧ (k < 10 ∨ 10 < k) ∧ (k < 11 ∨ 11 < k) ∧ (k < 12 ∨ 12 < k) → σ' 31 k = σ 31 k) ∧ (jI31 σ') ∧ True) := by
  refine jM.of hJ (by decide +kernel) (nt := .int) rfl (Nat.le_of_ble_eq_true rfl) ?_
  intro p e s m args below meth c Q ls hC hret hl hP
  obtain ⟨hx, hb, hr, hml, hown, hts, hK, -, hlocks, hZ⟩ := hC
  have hown : s.vm.findClass RX11 = some m.cls := hown
  have hS : va_S (jA ad) s.heap s.heap [] := va_S.rf
  have hA : ∀ q, jA ad q → jA ad q := fun _ h => h
  have hl : lv_has ls 7 [(0, .ref (ad 0)), (1, .int a1), (2, .int a2)] := hl
  have g1 := jrg t1
  have g2 := jrg t2
  obtain ⟨i1, i2, i3, i4, i5, w6⟩ : (0 ≤ (σ 2 0).toInt ∧ (σ 2 0).toInt ≤ 4) ∧ (0 ≤ (σ 2 1).toInt ∧ (σ 2 1).toInt ≤ 3) ∧ (0 ≤ (σ 2 2).toInt) ∧ (0 ≤ (σ 2 3).toInt) ∧ ((σ 2 2).toInt + (σ 2 3).toInt ≤ 40) ∧ (∀ k : Nat, k < 40 → 0 ≤ (σ 6 k).toInt ∧ (σ 6 k).toInt ≤ 67) := id hI2
  obtain ⟨i7, i8, i9, w10⟩ : (1 ≤ (σ 16 0).toInt ∧ (σ 16 0).toInt ≤ 8) ∧ (1 ≤ (σ 16 1).toInt ∧ (σ 16 1).toInt ≤ 12) ∧ (0 ≤ (σ 16 2).toInt ∧ (σ 16 2).toInt ≤ 999) ∧ (∀ k : Nat, k < 8 → 0 ≤ (σ 17 k).toInt ∧ (σ 17 k).toInt ≤ 3) := id hI16
  refine lv_aload_n hx hb dX11_worth_0 rfl (lv_at hl 0 rfl) ?_
  refine lv_iload_n hx hb dX11_worth_1 rfl (lv_at hl 1 rfl) ?_
  refine jcallV (As := [.int a1]) (rest := []) ⟨hx, hb, hml, hown, hts⟩ hK hP hA hS hZ (c_X11_noBowler l D cI cL ad zz hJ σ τ a1 (A1) t1 hI2) cw_RX11_152 (jc_0 cI cL ad σ τ) rfl ⟨Nat.le_of_ble_eq_true rfl, Nat.le_of_ble_eq_true rfl⟩ rfl rfl rfl hl.1 rfl (Nat.le_of_ble_eq_true rfl) dX11_worth_2 ⟨Nat.zero_le _, Nat.zero_le _⟩ (fun r12 σ11 τ11 H locs h11 hP hS => ?_)
  obtain ⟨⟨rfl, rfl⟩, h11⟩ := h11
  rcases h11 with h13 | h14
  · obtain ⟨q16, k15⟩ := h13
    have q16 := q16.symm
    subst q16
    refine lv_if_ne (tgt := 29) hx hb dX11_worth_5 (of_decide_eq_true rfl) (fun _ => ?_) (fun c => absurd c (of_decide_eq_true rfl))
    refine lv_ldc (v := (-2000000000)) hx hb hown (hts _ kw_9_21) dX11_worth_29 ?_
    exact hret (-2000000000) σ τ _ _ _ _ rfl ⟨rfl, (fun _ _ => rfl), (fun _ _ => rfl), hI31, trivial⟩ hP hS dX11_worth_31
  · obtain ⟨q18, k17⟩ := h14
    have q18 := q18.symm
    subst q18
    refine lv_if_ne (tgt := 29) hx hb dX11_worth_5 (of_decide_eq_true rfl) (fun c => absurd (of_decide_eq_true rfl) c) (fun _ => ?_)
    refine lv_iload_n hx hb dX11_worth_8 rfl (lv_at hl 2 rfl) ?_
    refine lv_iconst (v := 0) hx hb dX11_worth_9 (of_decide_eq_true rfl) ?_
    refine lv_iconst (v := 1) hx hb dX11_worth_10 (of_decide_eq_true rfl) ?_
    refine jcallS (As := [.int a2, .int 0, .int 1]) (rest := []) ⟨hx, hb, hml, hown, hts⟩ hK hP hA hS hZ (c_X11_outside l D cI cL ad zz hJ σ τ a2 (A2) t2 0 (0) jz_0 1 (1) jz_1) cw_RX11_94 ⟨Nat.le_of_ble_eq_true rfl, Nat.le_of_ble_eq_true rfl⟩ rfl rfl rfl hl.1 rfl (Nat.le_of_ble_eq_true rfl) dX11_worth_11 ⟨Nat.zero_le _, Nat.zero_le _⟩ (fun r20 σ19 τ19 H locs h19 hP hS => ?_)
    obtain ⟨⟨rfl, rfl⟩, h19⟩ := h19
    rcases h19 with h21 | h22
    · obtain ⟨q24, k23⟩ := h21
      have q24 := q24.symm
      subst q24
      refine lv_if_ne (tgt := 29) hx hb dX11_worth_14 (of_decide_eq_true rfl) (fun _ => ?_) (fun c => absurd c (of_decide_eq_true rfl))
      refine lv_ldc (v := (-2000000000)) hx hb hown (hts _ kw_9_21) dX11_worth_29 ?_
      exact hret (-2000000000) σ τ _ _ _ _ rfl ⟨rfl, (fun _ _ => rfl), (fun _ _ => rfl), hI31, trivial⟩ hP hS dX11_worth_31
    · obtain ⟨q26, k25⟩ := h22
      have q26 := q26.symm
      subst q26
      refine lv_if_ne (tgt := 29) hx hb dX11_worth_14 (of_decide_eq_true rfl) (fun c => absurd (of_decide_eq_true rfl) c) (fun _ => ?_)
      refine lv_aload_n hx hb dX11_worth_17 rfl (lv_at hl 0 rfl) ?_
      refine va_get (D := D) hx hb hts inlX11 hown hK hP 0 (jc_0 cI cL ad σ τ) rfl 2 (of_decide_eq_true rfl) (hts _ kw_2_0) (fun _ h9 => h9) rfl dX11_worth_18 ?_
      refine va_get (D := D) hx hb hts inlX6 hown hK hP 16 (jc_16 cI cL ad σ τ) rfl 1 (of_decide_eq_true rfl) (hts _ kw_20_5) (fun _ h9 => h9) rfl dX11_worth_21 ?_
      refine lv_bipush (v := 8) hx hb dX11_worth_24 (of_decide_eq_true rfl) ?_
      refine lv_icmp_le (tgt := 32) hx hb dX11_worth_26 (of_decide_eq_true rfl) (fun c27 => ?_) (fun c27 => ?_)
      · have kc27 := jle c27 rfl jz_8
        refine lv_aload_n hx hb dX11_worth_32 rfl (lv_at hl 0 rfl) ?_
        refine va_get (D := D) hx hb hts inlX11 hown hK hP 0 (jc_0 cI cL ad σ τ) rfl 0 (of_decide_eq_true rfl) (hts _ kw_1_16) (fun _ h9 => h9) rfl dX11_worth_33 ?_
        refine jcallV (As := []) (rest := []) ⟨hx, hb, hml, hown, hts⟩ hK hP hA hS hZ (c_X4_freshAttack_2 l D cI cL ad zz hJ σ τ hI2) cw_RX11_204 (jc_2 cI cL ad σ τ) rfl ⟨Nat.le_of_ble_eq_true rfl, Nat.le_of_ble_eq_true rfl⟩ rfl rfl rfl hl.1 rfl (Nat.le_of_ble_eq_true rfl) dX11_worth_36 ⟨Nat.zero_le _, Nat.zero_le _⟩ (fun r29 σ28 τ28 H locs h28 hP hS => ?_)
        obtain ⟨⟨rfl, rfl⟩, w30, h28⟩ := h28
        refine lv_istore_n (lv' := [(3, .int r29), (0, .ref (ad 0)), (1, .int a1), (2, .int a2)]) hx hb dX11_worth_39 rfl hl (of_decide_eq_true rfl) rfl (fun ls hl => ?_)
        refine lv_iload_n hx hb dX11_worth_40 rfl (lv_at hl 3 rfl) ?_
        refine lv_if_ne (tgt := 48) hx hb dX11_worth_41 (of_decide_eq_true rfl) (fun c31 => ?_) (fun c31 => ?_)
        · have kc31 := jne c31 t2 jz_0
          refine lv_aload_n hx hb dX11_worth_48 rfl (lv_at hl 1 rfl) ?_
          refine va_get (D := D) hx hb hts inlX11 hown hK hP 0 (jc_0 cI cL ad σ τ) rfl 0 (of_decide_eq_true rfl) (hts _ kw_1_16) (fun _ h9 => h9) rfl dX11_worth_49 ?_
          refine lv_iload_n hx hb dX11_worth_52 rfl (lv_at hl 2 rfl) ?_
          exact by
           refine jcallV (As := [.int a1]) (rest := []) ⟨hx, hb, hml, hown, hts⟩ hK hP hA hS hZ (c_X4_oversOf_p l D cI cL ad zz hJ σ τ a1 (A1) t1 (by omega)) cw_RX11_163 (jc_2 cI cL ad σ τ) rfl ⟨Nat.le_of_ble_eq_true rfl, Nat.le_of_ble_eq_true rfl⟩ rfl rfl rfl hl.1 rfl (Nat.le_of_ble_eq_true rfl) dX11_worth_53 ⟨Nat.zero_le _, Nat.zero_le _⟩ (fun r33 σ32 τ32 H locs h32 hP hS => ?_)
           obtain ⟨⟨rfl, rfl⟩, w34, h32⟩ := h32
           refine lv_iconst (v := 1) hx hb dX11_worth_56 (of_decide_eq_true rfl) ?_
           have g35 := jrg (rfl : r33.toInt = r33.toInt)
           refine lv_iadd hx hb dX11_worth_57 ?_
           refine lv_topi (fun x36 ex36 => ?_)
           have gx36 := jrg (rfl : x36.toInt = x36.toInt)
           refine lv_istore (lv' := [(4, .int x36), (3, .int r29), (0, .ref (ad 0)), (1, .int a1), (2, .int a2)]) hx hb dX11_worth_58 hl (of_decide_eq_true rfl) rfl (fun ls hl => ?_)
           refine lv_aload_n hx hb dX11_worth_60 rfl (lv_at hl 2 rfl) ?_
           refine lv_iload_n hx hb dX11_worth_61 rfl (lv_at hl 1 rfl) ?_
           refine lv_iload_n hx hb dX11_worth_62 rfl (lv_at hl 3 rfl) ?_
           refine lv_iload hx hb dX11_worth_63 (lv_at hl 0 rfl) ?_
           refine jcallS (As := [.int r29, .int a1, .int x36]) (rest := [.ref (ad 0)]) ⟨hx, hb, hml, hown, hts⟩ hK hP hA hS hZ (c_X0_withLeft l D cI cL ad zz hJ σ τ r29 (r29.toInt) rfl a1 (A1) t1 x36 (x36.toInt) rfl) cw_RX11_221 ⟨Nat.le_of_ble_eq_true rfl, Nat.le_of_ble_eq_true rfl⟩ rfl rfl rfl hl.1 rfl (Nat.le_of_ble_eq_true rfl) dX11_worth_65 ⟨Nat.zero_le _, Nat.zero_le _⟩ (fun r38 σ37 τ37 H locs h37 hP hS => ?_)
           obtain ⟨⟨rfl, rfl⟩, w39, h37⟩ := h37
           have k40 := congrArg Int32.toInt w39
           refine lv_aload_n hx hb dX11_worth_68 rfl (lv_at hl 2 rfl) ?_
           refine va_get (D := D) hx hb hts inlX11 hown hK hP 0 (jc_0 cI cL ad σ τ) rfl 0 (of_decide_eq_true rfl) (hts _ kw_1_16) (fun _ h9 => h9) rfl dX11_worth_69 ?_
           refine va_get (D := D) hx hb hts inlX4 hown hK hP 2 (jc_2 cI cL ad σ τ) rfl 1 (of_decide_eq_true rfl) (hts _ kw_12_8) (fun _ h9 => h9) rfl dX11_worth_72 ?_
           refine jcallV (As := [.int r38, .int (σ 2 1)]) (rest := []) ⟨hx, hb, hml, hown, hts⟩ hK hP hA hS hZ (c_X11_bestOf l D cI cL ad zz hJ σ τ r38 (r38.toInt) rfl (σ 2 1) ((σ 2 1).toInt) rfl hI16 hI22 hI31) cw_RX11_226 (jc_0 cI cL ad σ τ) rfl ⟨Nat.le_of_ble_eq_true rfl, Nat.le_of_ble_eq_true rfl⟩ rfl rfl rfl hl.1 rfl (Nat.le_of_ble_eq_true rfl) dX11_worth_75 ⟨Nat.zero_le _, Nat.zero_le _⟩ (fun r42 σ41 τ41 H locs h41 hP hS => ?_)
           obtain ⟨rfl, f43, f44, I45, h41⟩ := h41
           refine lv_istore (lv' := [(5, .int r42), (4, .int x36), (3, .int r29), (0, .ref (ad 0)), (1, .int a1), (2, .int a2)]) hx hb dX11_worth_78 hl (of_decide_eq_true rfl) rfl (fun ls hl => ?_)
           refine lv_aload_n hx hb dX11_worth_80 rfl (lv_at hl 3 rfl) ?_
           refine lv_iload_n hx hb dX11_worth_81 rfl (lv_at hl 2 rfl) ?_
           refine lv_aload_n hx hb dX11_worth_82 rfl (lv_at hl 3 rfl) ?_
           refine va_get (D := D) hx hb hts inlX11 hown hK hP 0 (jc_0 cI cL ad σ41 τ) rfl 0 (of_decide_eq_true rfl) (hts _ kw_1_16) (fun _ h9 => h9) rfl dX11_worth_83 ?_
           refine va_get (D := D) hx hb hts inlX4 hown hK hP 2 (jc_2 cI cL ad σ41 τ) rfl 1 (of_decide_eq_true rfl) (hts _ kw_12_8) (fun _ h9 => h9) rfl dX11_worth_86 ?_
           have m47 : σ41 2 1 = (σ 2 1) := (congrFun (f43 2 (of_decide_eq_true rfl)) 1)
           refine jtopr m47 ?_
           have I48 : jI16 σ41 := jI16_fr (congrFun (f43 16 (of_decide_eq_true rfl)) 0) (congrFun (f43 16 (of_decide_eq_true rfl)) 1) (congrFun (f43 16 (of_decide_eq_true rfl)) 2) (f43 17 (of_decide_eq_true rfl)) hI16
           have I49 : jI22 σ41 := jI22_fr (congrFun (f43 22 (of_decide_eq_true rfl)) 0) (f43 23 (of_decide_eq_true rfl)) hI22
           refine jcallV (As := [.int r29, .int (σ 2 1)]) (rest := []) ⟨hx, hb, hml, hown, hts⟩ hK hP hA hS hZ (c_X11_bestOf l D cI cL ad zz hJ σ41 τ r29 (r29.toInt) rfl (σ 2 1) ((σ 2 1).toInt) rfl I48 I49 I45) cw_RX11_226 (jc_0 cI cL ad σ41 τ) rfl ⟨Nat.le_of_ble_eq_true rfl, Nat.le_of_ble_eq_true rfl⟩ rfl rfl rfl hl.1 rfl (Nat.le_of_ble_eq_true rfl) dX11_worth_89 ⟨Nat.zero_le _, Nat.zero_le _⟩ (fun r51 σ50 τ50 H locs h50 hP hS => ?_)
           obtain ⟨rfl, f52, f53, I54, h50⟩ := h50
           refine lv_istore (lv' := [(6, .int r51), (5, .int r42), (4, .int x36), (3, .int r29), (0, .ref (ad 0)), (1, .int a1), (2, .int a2)]) hx hb dX11_worth_92 hl (of_decide_eq_true rfl) rfl (fun ls hl => ?_)
           refine lv_iload_n hx hb dX11_worth_94 rfl (lv_at hl 6 rfl) ?_
           exact by
            refine lv_if_ne (tgt := 106) hx hb dX11_worth_95 (of_decide_eq_true rfl) (fun c56 => ?_) (fun c => absurd (jeq c t2 jz_0) (by omega))
            have kc56 := jne c56 t2 jz_0
            refine lv_iload hx hb dX11_worth_106 (lv_at hl 0 rfl) ?_
            refine lv_iload hx hb dX11_worth_108 (lv_at hl 1 rfl) ?_
            have g57 := jrg (rfl : r51.toInt = r51.toInt)
            have g58 := jrg (rfl : r42.toInt = r42.toInt)
            refine lv_isub hx hb dX11_worth_110 ?_
            refine lv_topi (fun x59 ex59 => ?_)
            have gx59 := jrg (rfl : x59.toInt = x59.toInt)
            exact hret x59 σ50 τ _ _ _ _ rfl ⟨rfl, (fun i hi => ((f52 i hi).trans (f43 i hi))), (fun i hi => ((f53 i hi).trans (f44 i hi))), I54, trivial⟩ hP hS dX11_worth_111
        · have kc31 := jeq c31 t2 jz_0
          refine lv_iconst (v := 0) hx hb dX11_worth_44 (of_decide_eq_true rfl) ?_
          refine lv_goto (tgt := 58) hx hb dX11_worth_45 (of_decide_eq_true rfl) ?_
          refine lv_istore (lv' := [(4, .int 0), (3, .int r29), (0, .ref (ad 0)), (1, .int a1), (2, .int a2)]) hx hb dX11_worth_58 hl (of_decide_eq_true rfl) rfl (fun ls hl => ?_)
          refine lv_aload_n hx hb dX11_worth_60 rfl (lv_at hl 2 rfl) ?_
          refine lv_iload_n hx hb dX11_worth_61 rfl (lv_at hl 1 rfl) ?_
          refine lv_iload_n hx hb dX11_worth_62 rfl (lv_at hl 3 rfl) ?_
          refine lv_iload hx hb dX11_worth_63 (lv_at hl 0 rfl) ?_
          refine jcallS (As := [.int r29, .int a1, .int 0]) (rest := [.ref (ad 0)]) ⟨hx, hb, hml, hown, hts⟩ hK hP hA hS hZ (c_X0_withLeft l D cI cL ad zz hJ σ τ r29 (r29.toInt) rfl a1 (A1) t1 0 (0) jz_0) cw_RX11_221 ⟨Nat.le_of_ble_eq_true rfl, Nat.le_of_ble_eq_true rfl⟩ rfl rfl rfl hl.1 rfl (Nat.le_of_ble_eq_true rfl) dX11_worth_65 ⟨Nat.zero_le _, Nat.zero_le _⟩ (fun r61 σ60 τ60 H locs h60 hP hS => ?_)
          obtain ⟨⟨rfl, rfl⟩, w62, h60⟩ := h60
          have k63 := congrArg Int32.toInt w62
          refine lv_aload_n hx hb dX11_worth_68 rfl (lv_at hl 2 rfl) ?_
          refine va_get (D := D) hx hb hts inlX11 hown hK hP 0 (jc_0 cI cL ad σ τ) rfl 0 (of_decide_eq_true rfl) (hts _ kw_1_16) (fun _ h9 => h9) rfl dX11_worth_69 ?_
          refine va_get (D := D) hx hb hts inlX4 hown hK hP 2 (jc_2 cI cL ad σ τ) rfl 1 (of_decide_eq_true rfl) (hts _ kw_12_8) (fun _ h9 => h9) rfl dX11_worth_72 ?_
          refine jcallV (As := [.int r61, .int (σ 2 1)]) (rest := []) ⟨hx, hb, hml, hown, hts⟩ hK hP hA hS hZ (c_X11_bestOf l D cI cL ad zz hJ σ τ r61 (r61.toInt) rfl (σ 2 1) ((σ 2 1).toInt) rfl hI16 hI22 hI31) cw_RX11_226 (jc_0 cI cL ad σ τ) rfl ⟨Nat.le_of_ble_eq_true rfl, Nat.le_of_ble_eq_true rfl⟩ rfl rfl rfl hl.1 rfl (Nat.le_of_ble_eq_true rfl) dX11_worth_75 ⟨Nat.zero_le _, Nat.zero_le _⟩ (fun r65 σ64 τ64 H locs h64 hP hS => ?_)
          obtain ⟨rfl, f66, f67, I68, h64⟩ := h64
          refine lv_istore (lv' := [(5, .int r65), (4, .int 0), (3, .int r29), (0, .ref (ad 0)), (1, .int a1), (2, .int a2)]) hx hb dX11_worth_78 hl (of_decide_eq_true rfl) rfl (fun ls hl => ?_)
          refine lv_aload_n hx hb dX11_worth_80 rfl (lv_at hl 3 rfl) ?_
          refine lv_iload_n hx hb dX11_worth_81 rfl (lv_at hl 2 rfl) ?_
          refine lv_aload_n hx hb dX11_worth_82 rfl (lv_at hl 3 rfl) ?_
          refine va_get (D := D) hx hb hts inlX11 hown hK hP 0 (jc_0 cI cL ad σ64 τ) rfl 0 (of_decide_eq_true rfl) (hts _ kw_1_16) (fun _ h9 => h9) rfl dX11_worth_83 ?_
          refine va_get (D := D) hx hb hts inlX4 hown hK hP 2 (jc_2 cI cL ad σ64 τ) rfl 1 (of_decide_eq_true rfl) (hts _ kw_12_8) (fun _ h9 => h9) rfl dX11_worth_86 ?_
          have m70 : σ64 2 1 = (σ 2 1) := (congrFun (f66 2 (of_decide_eq_true rfl)) 1)
          refine jtopr m70 ?_
          have I71 : jI16 σ64 := jI16_fr (congrFun (f66 16 (of_decide_eq_true rfl)) 0) (congrFun (f66 16 (of_decide_eq_true rfl)) 1) (congrFun (f66 16 (of_decide_eq_true rfl)) 2) (f66 17 (of_decide_eq_true rfl)) hI16
          have I72 : jI22 σ64 := jI22_fr (congrFun (f66 22 (of_decide_eq_true rfl)) 0) (f66 23 (of_decide_eq_true rfl)) hI22
          refine jcallV (As := [.int r29, .int (σ 2 1)]) (rest := []) ⟨hx, hb, hml, hown, hts⟩ hK hP hA hS hZ (c_X11_bestOf l D cI cL ad zz hJ σ64 τ r29 (r29.toInt) rfl (σ 2 1) ((σ 2 1).toInt) rfl I71 I72 I68) cw_RX11_226 (jc_0 cI cL ad σ64 τ) rfl ⟨Nat.le_of_ble_eq_true rfl, Nat.le_of_ble_eq_true rfl⟩ rfl rfl rfl hl.1 rfl (Nat.le_of_ble_eq_true rfl) dX11_worth_89 ⟨Nat.zero_le _, Nat.zero_le _⟩ (fun r74 σ73 τ73 H locs h73 hP hS => ?_)
          obtain ⟨rfl, f75, f76, I77, h73⟩ := h73
          refine lv_istore (lv' := [(6, .int r74), (5, .int r65), (4, .int 0), (3, .int r29), (0, .ref (ad 0)), (1, .int a1), (2, .int a2)]) hx hb dX11_worth_92 hl (of_decide_eq_true rfl) rfl (fun ls hl => ?_)
          refine lv_iload_n hx hb dX11_worth_94 rfl (lv_at hl 6 rfl) ?_
          exact by
           refine lv_if_ne (tgt := 106) hx hb dX11_worth_95 (of_decide_eq_true rfl) (fun c => absurd (jne c t2 jz_0) (by omega)) (fun c79 => ?_)
           have kc79 := jeq c79 t2 jz_0
           refine lv_iload hx hb dX11_worth_98 (lv_at hl 1 rfl) ?_
           refine lv_iload hx hb dX11_worth_100 (lv_at hl 0 rfl) ?_
           have g80 := jrg (rfl : r65.toInt = r65.toInt)
           have g81 := jrg (rfl : r74.toInt = r74.toInt)
           refine lv_isub hx hb dX11_worth_102 ?_
           refine lv_topi (fun x82 ex82 => ?_)
           have gx82 := jrg (rfl : x82.toInt = x82.toInt)
           refine lv_goto (tgt := 111) hx hb dX11_worth_103 (of_decide_eq_true rfl) ?_
           exact hret x82 σ73 τ _ _ _ _ rfl ⟨rfl, (fun i hi => ((f75 i hi).trans (f66 i hi))), (fun i hi => ((f76 i hi).trans (f67 i hi))), I77, trivial⟩ hP hS dX11_worth_111
      · have kc27 := jnle c27 rfl jz_8
        refine lv_ldc (v := (-2000000000)) hx hb hown (hts _ kw_9_21) dX11_worth_29 ?_
        exact hret (-2000000000) σ τ _ _ _ _ rfl ⟨rfl, (fun _ _ => rfl), (fun _ _ => rfl), hI31, trivial⟩ hP hS dX11_worth_31
set_option maxHeartbeats 4000000 in
set_option maxRecDepth 100000 in
theorem c_X11_fielded (l : Launch) (D : va_G) (cI cL : ClassId) (ad zz : Nat → Nat) (hJ : jD ad) (σ : Nat → Nat → Int32) (τ : Nat → Nat → Int64) (a1 : Int32) (A1 : Int) (t1 : a1.toInt = A1) (a2 : Int32) (A2 : Int) (t2 : a2.toInt = A2) (hI2 : jI2 σ) (hI16 : jI16 σ) (hI22 : jI22 σ) (hI31 : jI31 σ) : jM l yX11_fielded cX11_fielded 8 (some .int) ({ frames := 7, cells := 0, slots := 0, locals := 184 }) D cI cL ad zz [.ref (ad 0), .int a1, .int a2] σ τ (fun r σ' τ' => τ = τ' ∧ (∀ i : Nat, (i < 24 ∨ 25 < i) ∧ (i < 27 ∨ 37 < i) → σ' i = σ i) ∧ (∀ k : Nat, (k < 8 ∨ 8 < k) ∧ (k < 9 ∨ 9 < k) ∧ (k < 10 ∨ 10 < k) ∧ (k < 11 ∨ 11 < k) ∧ (k < 12 ∨ 12 < k) → σ' 31 k = σ 31 k) ∧ (jI31 σ') ∧ True) := by
  refine jM.of hJ (by decide +kernel) (nt := .int) rfl (Nat.le_of_ble_eq_true rfl) ?_
  intro p e s m args below meth c Q ls hC hret hl hP
  obtain ⟨hx, hb, hr, hml, hown, hts, hK, -, hlocks, hZ⟩ := hC
  have hown : s.vm.findClass RX11 = some m.cls := hown
  have hS : va_S (jA ad) s.heap s.heap [] := va_S.rf
  have hA : ∀ q, jA ad q → jA ad q := fun _ h => h
  have hl : lv_has ls 8 [(0, .ref (ad 0)), (1, .int a1), (2, .int a2)] := hl
  have g1 := jrg t1
  have g2 := jrg t2
  obtain ⟨i1, i2, i3, w4⟩ : (1 ≤ (σ 16 0).toInt ∧ (σ 16 0).toInt ≤ 8) ∧ (1 ≤ (σ 16 1).toInt ∧ (σ 16 1).toInt ≤ 12) ∧ (0 ≤ (σ 16 2).toInt ∧ (σ 16 2).toInt ≤ 999) ∧ (∀ k : Nat, k < 8 → 0 ≤ (σ 17 k).toInt ∧ (σ 17 k).toInt ≤ 3) := id hI16
  refine lv_iload_n hx hb dX11_fielded_0 rfl (lv_at hl 2 rfl) ?_
  refine lv_iconst (v := 0) hx hb dX11_fielded_1 (of_decide_eq_true rfl) ?_
  refine lv_iconst (v := 1) hx hb dX11_fielded_2 (of_decide_eq_true rfl) ?_
  refine jcallS (As := [.int a2, .int 0, .int 1]) (rest := []) ⟨hx, hb, hml, hown, hts⟩ hK hP hA hS hZ (c_X11_outside l D cI cL ad zz hJ σ τ a2 (A2) t2 0 (0) jz_0 1 (1) jz_1) cw_RX11_94 ⟨Nat.le_of_ble_eq_true rfl, Nat.le_of_ble_eq_true rfl⟩ rfl rfl rfl hl.1 rfl (Nat.le_of_ble_eq_true rfl) dX11_fielded_3 ⟨Nat.zero_le _, Nat.zero_le _⟩ (fun r6 σ5 τ5 H locs h5 hP hS => ?_)
  obtain ⟨⟨rfl, rfl⟩, h5⟩ := h5
  rcases h5 with h7 | h8
  · obtain ⟨q10, k9⟩ := h7
    have q10 := q10.symm
    subst q10
    refine lv_if_ne (tgt := 22) hx hb dX11_fielded_6 (of_decide_eq_true rfl) (fun _ => ?_) (fun c => absurd c (of_decide_eq_true rfl))
    refine lv_iconst (v := (-1)) hx hb dX11_fielded_22 (of_decide_eq_true rfl) ?_
    exact hret (-1) σ τ _ _ _ _ rfl ⟨rfl, (fun _ _ => rfl), (fun _ _ => rfl), hI31, trivial⟩ hP hS dX11_fielded_23
  · obtain ⟨q12, k11⟩ := h8
    have q12 := q12.symm
    subst q12
    refine lv_if_ne (tgt := 22) hx hb dX11_fielded_6 (of_decide_eq_true rfl) (fun c => absurd (of_decide_eq_true rfl) c) (fun _ => ?_)
    refine lv_iload_n hx hb dX11_fielded_9 rfl (lv_at hl 2 rfl) ?_
    refine lv_if_ne (tgt := 24) hx hb dX11_fielded_10 (of_decide_eq_true rfl) (fun c13 => ?_) (fun c13 => ?_)
    · have kc13 := jne c13 t2 jz_0
      refine lv_aload_n hx hb dX11_fielded_24 rfl (lv_at hl 0 rfl) ?_
      refine va_get (D := D) hx hb hts inlX11 hown hK hP 0 (jc_0 cI cL ad σ τ) rfl 2 (of_decide_eq_true rfl) (hts _ kw_2_0) (fun _ h9 => h9) rfl dX11_fielded_25 ?_
      refine va_get (D := D) hx hb hts inlX6 hown hK hP 16 (jc_16 cI cL ad σ τ) rfl 1 (of_decide_eq_true rfl) (hts _ kw_20_5) (fun _ h9 => h9) rfl dX11_fielded_28 ?_
      refine lv_bipush (v := 8) hx hb dX11_fielded_31 (of_decide_eq_true rfl) ?_
      refine lv_icmp_le (tgt := 39) hx hb dX11_fielded_33 (of_decide_eq_true rfl) (fun c14 => ?_) (fun c14 => ?_)
      · have kc14 := jle c14 rfl jz_8
        refine lv_aload_n hx hb dX11_fielded_39 rfl (lv_at hl 0 rfl) ?_
        refine va_get (D := D) hx hb hts inlX11 hown hK hP 0 (jc_0 cI cL ad σ τ) rfl 0 (of_decide_eq_true rfl) (hts _ kw_1_16) (fun _ h9 => h9) rfl dX11_fielded_40 ?_
        refine jcallV (As := []) (rest := []) ⟨hx, hb, hml, hown, hts⟩ hK hP hA hS hZ (c_X4_freshAttack_2 l D cI cL ad zz hJ σ τ hI2) cw_RX11_204 (jc_2 cI cL ad σ τ) rfl ⟨Nat.le_of_ble_eq_true rfl, Nat.le_of_ble_eq_true rfl⟩ rfl rfl rfl hl.1 rfl (Nat.le_of_ble_eq_true rfl) dX11_fielded_43 ⟨Nat.zero_le _, Nat.zero_le _⟩ (fun r16 σ15 τ15 H locs h15 hP hS => ?_)
        obtain ⟨⟨rfl, rfl⟩, w17, h15⟩ := h15
        refine lv_istore_n (lv' := [(3, .int r16), (0, .ref (ad 0)), (1, .int a1), (2, .int a2)]) hx hb dX11_fielded_46 rfl hl (of_decide_eq_true rfl) rfl (fun ls hl => ?_)
        refine lv_iconst (v := 0) hx hb dX11_fielded_47 (of_decide_eq_true rfl) ?_
        refine lv_istore (lv' := [(4, .int 0), (3, .int r16), (0, .ref (ad 0)), (1, .int a1), (2, .int a2)]) hx hb dX11_fielded_48 hl (of_decide_eq_true rfl) rfl (fun ls hl => ?_)
        refine lv_aload_n hx hb dX11_fielded_50 rfl (lv_at hl 2 rfl) ?_
        refine lv_iload_n hx hb dX11_fielded_51 rfl (lv_at hl 1 rfl) ?_
        refine lv_iload_n hx hb dX11_fielded_52 rfl (lv_at hl 4 rfl) ?_
        exact by
         refine lv_if_ne (tgt := 60) hx hb dX11_fielded_53 (of_decide_eq_true rfl) (fun c18 => ?_) (fun c => absurd (jeq c t2 jz_0) (by omega))
         have kc18 := jne c18 t2 jz_0
         refine lv_iconst (v := 0) hx hb dX11_fielded_60 (of_decide_eq_true rfl) ?_
         refine jcallV (As := [.int r16, .int 0]) (rest := []) ⟨hx, hb, hml, hown, hts⟩ hK hP hA hS hZ (c_X11_bestOf l D cI cL ad zz hJ σ τ r16 (r16.toInt) rfl 0 (0) jz_0 hI16 hI22 hI31) cw_RX11_226 (jc_0 cI cL ad σ τ) rfl ⟨Nat.le_of_ble_eq_true rfl, Nat.le_of_ble_eq_true rfl⟩ rfl rfl rfl hl.1 rfl (Nat.le_of_ble_eq_true rfl) dX11_fielded_61 ⟨Nat.zero_le _, Nat.zero_le _⟩ (fun r20 σ19 τ19 H locs h19 hP hS => ?_)
         obtain ⟨rfl, f21, f22, I23, h19⟩ := h19
         refine lv_istore (lv' := [(5, .int r20), (4, .int 0), (3, .int r16), (0, .ref (ad 0)), (1, .int a1), (2, .int a2)]) hx hb dX11_fielded_64 hl (of_decide_eq_true rfl) rfl (fun ls hl => ?_)
         refine lv_iload_n hx hb dX11_fielded_66 rfl (lv_at hl 5 rfl) ?_
         refine lv_if_ne (tgt := 73) hx hb dX11_fielded_67 (of_decide_eq_true rfl) (fun c25 => ?_) (fun c => absurd (jeq c t2 jz_0) (by omega))
         have kc25 := jne c25 t2 jz_0
         exact by
          refine lv_iconst (v := 1) hx hb dX11_fielded_73 (of_decide_eq_true rfl) ?_
          refine lv_istore (lv' := [(6, .int 1), (5, .int r20), (4, .int 0), (3, .int r16), (0, .ref (ad 0)), (1, .int a1), (2, .int a2)]) hx hb dX11_fielded_74 hl (of_decide_eq_true rfl) rfl (fun ls hl => ?_)
          have lp26 : ∀ (n27 : Nat) (x28 : Int32) (x29 : Int32) (x30 : Int32) (σ32 : Nat → Nat → Int32) (H : Heap) (locs : List Loc) (ls : Array Slot), (-x30.toInt + 4 : Int) < n27 → 1 ≤ x30.toInt → x30.toInt ≤ 4 → (∀ i : Nat, (i < 24 ∨ 25 < i) ∧ (i < 27 ∨ 37 < i) → σ32 i = σ19 i) → (∀ k : Nat, (k < 8 ∨ 8 < k) ∧ (k < 9 ∨ 9 < k) ∧ (k < 10 ∨ 10 < k) ∧ (k < 11 ∨ 11 < k) ∧ (k < 12 ∨ 12 < k) → σ32 31 k = σ19 31 k) → jI31 σ32 → jH D cI cL ad σ32 τ H → va_S (jA ad) s.heap H locs → lv_has ls 8 [(6, .int x30), (5, .int x29), (4, .int x28), (3, .int r16), (0, .ref (ad 0)), (1, .int a1), (2, .int a2)] → W p l e ({ frames := 7, cells := 0, slots := 0, locals := 184 }) s m args below meth c H locs 0 0 Q (F0 m 76 ls []) := by
            intro n27
            induction n27 with
            | zero => intro x28 x29 x30 σ32 H locs ls h34 h35 h36; have gx28 := jrg (rfl : x28.toInt = x28.toInt); have gx29 := jrg (rfl : x29.toInt = x29.toInt); exact absurd h34 (by omega)
            | succ n27 ihlp26 =>
              intro x28 x29 x30 σ32 H locs ls h34 h35 h36 f37 f38 p39 hP hS hl
              have gx28 := jrg (rfl : x28.toInt = x28.toInt); have gx29 := jrg (rfl : x29.toInt = x29.toInt)
              exact by
               refine lv_iload hx hb dX11_fielded_76 (lv_at hl 0 rfl) ?_
               refine lv_iconst (v := 4) hx hb dX11_fielded_78 (of_decide_eq_true rfl) ?_
               refine lv_icmp_ge (tgt := 112) hx hb dX11_fielded_79 (of_decide_eq_true rfl) (fun c40 => ?_) (fun c40 => ?_)
               · have kc40 := jle c40 jz_4 rfl
                 refine lv_iload hx hb dX11_fielded_112 (lv_at hl 2 rfl) ?_
                 exact hret x28 σ32 τ _ _ _ _ rfl ⟨rfl, (fun i hi => ((f37 i hi).trans (f21 i hi))), (fun i hi => ((f38 i hi).trans (f22 i hi))), p39, trivial⟩ hP hS dX11_fielded_114
               · have kc40 := jnle c40 jz_4 rfl
                 refine lv_aload_n hx hb dX11_fielded_82 rfl (lv_at hl 4 rfl) ?_
                 refine lv_iload_n hx hb dX11_fielded_83 rfl (lv_at hl 3 rfl) ?_
                 refine lv_iload hx hb dX11_fielded_84 (lv_at hl 0 rfl) ?_
                 have I41 : jI16 σ32 := jI16_fr ((congrFun (f37 16 (of_decide_eq_true rfl)) 0).trans (congrFun (f21 16 (of_decide_eq_true rfl)) 0)) ((congrFun (f37 16 (of_decide_eq_true rfl)) 1).trans (congrFun (f21 16 (of_decide_eq_true rfl)) 1)) ((congrFun (f37 16 (of_decide_eq_true rfl)) 2).trans (congrFun (f21 16 (of_decide_eq_true rfl)) 2)) ((f37 17 (of_decide_eq_true rfl)).trans (f21 17 (of_decide_eq_true rfl))) hI16
                 have I42 : jI22 σ32 := jI22_fr ((congrFun (f37 22 (of_decide_eq_true rfl)) 0).trans (congrFun (f21 22 (of_decide_eq_true rfl)) 0)) ((f37 23 (of_decide_eq_true rfl)).trans (f21 23 (of_decide_eq_true rfl))) hI22
                 refine jcallV (As := [.int r16, .int x30]) (rest := []) ⟨hx, hb, hml, hown, hts⟩ hK hP hA hS hZ (c_X11_bestOf l D cI cL ad zz hJ σ32 τ r16 (r16.toInt) rfl x30 (x30.toInt) rfl I41 I42 p39) cw_RX11_226 (jc_0 cI cL ad σ32 τ) rfl ⟨Nat.le_of_ble_eq_true rfl, Nat.le_of_ble_eq_true rfl⟩ rfl rfl rfl hl.1 rfl (Nat.le_of_ble_eq_true rfl) dX11_fielded_86 ⟨Nat.zero_le _, Nat.zero_le _⟩ (fun r44 σ43 τ43 H locs h43 hP hS => ?_)
                 obtain ⟨rfl, f45, f46, I47, h43⟩ := h43
                 refine lv_istore (lv' := [(7, .int r44), (6, .int x30), (5, .int x29), (4, .int x28), (3, .int r16), (0, .ref (ad 0)), (1, .int a1), (2, .int a2)]) hx hb dX11_fielded_89 hl (of_decide_eq_true rfl) rfl (fun ls hl => ?_)
                 refine lv_iload hx hb dX11_fielded_91 (lv_at hl 0 rfl) ?_
                 refine lv_iload hx hb dX11_fielded_93 (lv_at hl 2 rfl) ?_
                 refine lv_icmp_ge (tgt := 106) hx hb dX11_fielded_95 (of_decide_eq_true rfl) (fun c49 => ?_) (fun c49 => ?_)
                 · have kc49 := jle c49 rfl rfl
                   obtain ⟨x50, ex50⟩ : ∃ y : Int32, y = x30 + 1 := ⟨_, rfl⟩
                   exact by
                    have tx50 : x50.toInt = x30.toInt + 1 := (jadd ex50 rfl jz_1 (by omega) (by omega)).trans (by omega)
                    refine lv_iinc (v := x50) (lv' := [(6, .int x50), (7, .int r44), (5, .int x29), (4, .int x28), (3, .int r16), (0, .ref (ad 0)), (1, .int a1), (2, .int a2)]) hx hb dX11_fielded_106 hl (k := 1) rfl (by rw [ex50]; rfl) (of_decide_eq_true rfl) rfl (fun ls hl => ?_)
                    refine lv_goto (tgt := 76) hx hb dX11_fielded_109 (of_decide_eq_true rfl) ?_
                    exact by exact ihlp26 x28 x29 x50 σ43 _ _ ls (by have h92 := tx50; omega) (by have h92 := tx50; omega) (by have h92 := tx50; omega) (fun i hi => ((f45 i hi).trans (f37 i hi))) (fun i hi => ((f46 i hi).trans (f38 i hi)))  I47 hP hS (lv_sub hl [0, 2, 3, 4, 5, 6, 7] rfl)
                 · have kc49 := jnle c49 rfl rfl
                   refine lv_iload hx hb dX11_fielded_98 (lv_at hl 1 rfl) ?_
                   refine lv_istore (lv' := [(4, .int x30), (7, .int r44), (6, .int x30), (5, .int x29), (3, .int r16), (0, .ref (ad 0)), (1, .int a1), (2, .int a2)]) hx hb dX11_fielded_100 hl (of_decide_eq_true rfl) rfl (fun ls hl => ?_)
                   refine lv_iload hx hb dX11_fielded_102 (lv_at hl 1 rfl) ?_
                   refine lv_istore (lv' := [(5, .int r44), (4, .int x30), (7, .int r44), (6, .int x30), (3, .int r16), (0, .ref (ad 0)), (1, .int a1), (2, .int a2)]) hx hb dX11_fielded_104 hl (of_decide_eq_true rfl) rfl (fun ls hl => ?_)
                   exact by
                    obtain ⟨x51, ex51⟩ : ∃ y : Int32, y = x30 + 1 := ⟨_, rfl⟩
                    have tx51 : x51.toInt = x30.toInt + 1 := (jadd ex51 rfl jz_1 (by omega) (by omega)).trans (by omega)
                    refine lv_iinc (v := x51) (lv' := [(6, .int x51), (5, .int r44), (4, .int x30), (7, .int r44), (3, .int r16), (0, .ref (ad 0)), (1, .int a1), (2, .int a2)]) hx hb dX11_fielded_106 hl (k := 3) rfl (by rw [ex51]; rfl) (of_decide_eq_true rfl) rfl (fun ls hl => ?_)
                    refine lv_goto (tgt := 76) hx hb dX11_fielded_109 (of_decide_eq_true rfl) ?_
                    exact by exact ihlp26 x30 r44 x51 σ43 _ _ ls (by have h92 := tx51; omega) (by have h92 := tx51; omega) (by have h92 := tx51; omega) (fun i hi => ((f45 i hi).trans (f37 i hi))) (fun i hi => ((f46 i hi).trans (f38 i hi)))  I47 hP hS (lv_sub hl [0, 1, 2, 4, 5, 6, 7] rfl)
          exact by exact lp26 1000000 0 r20 1 σ19 _ _ ls (by have h90 := jz_0; have h92 := jz_1; omega) (by have h90 := jz_0; have h92 := jz_1; omega) (by have h90 := jz_0; have h92 := jz_1; omega) (fun _ _ => rfl) (fun _ _ => rfl)  I23 hP hS hl
      · have kc14 := jnle c14 rfl jz_8
        refine lv_bipush (v := (-4)) hx hb dX11_fielded_36 (of_decide_eq_true rfl) ?_
        exact hret (-4) σ τ _ _ _ _ rfl ⟨rfl, (fun _ _ => rfl), (fun _ _ => rfl), hI31, trivial⟩ hP hS dX11_fielded_38
    · exact by
       have kc13 := jeq c13 t2 jz_0
       refine lv_iload_n hx hb dX11_fielded_13 rfl (lv_at hl 1 rfl) ?_
       refine lv_iconst (v := 0) hx hb dX11_fielded_14 (of_decide_eq_true rfl) ?_
       refine lv_iconst (v := 3) hx hb dX11_fielded_15 (of_decide_eq_true rfl) ?_
       refine jcallS (As := [.int a1, .int 0, .int 3]) (rest := []) ⟨hx, hb, hml, hown, hts⟩ hK hP hA hS hZ (c_X11_outside l D cI cL ad zz hJ σ τ a1 (A1) t1 0 (0) jz_0 3 (3) jz_3) cw_RX11_94 ⟨Nat.le_of_ble_eq_true rfl, Nat.le_of_ble_eq_true rfl⟩ rfl rfl rfl hl.1 rfl (Nat.le_of_ble_eq_true rfl) dX11_fielded_16 ⟨Nat.zero_le _, Nat.zero_le _⟩ (fun r53 σ52 τ52 H locs h52 hP hS => ?_)
       obtain ⟨⟨rfl, rfl⟩, h52⟩ := h52
       rcases h52 with h54 | h55
       · obtain ⟨q57, k56⟩ := h54
         have q57 := q57.symm
         subst q57
         refine lv_if_eq (tgt := 24) hx hb dX11_fielded_19 (of_decide_eq_true rfl) (fun c => absurd c (of_decide_eq_true rfl)) (fun _ => ?_)
         refine lv_iconst (v := (-1)) hx hb dX11_fielded_22 (of_decide_eq_true rfl) ?_
         exact hret (-1) σ τ _ _ _ _ rfl ⟨rfl, (fun _ _ => rfl), (fun _ _ => rfl), hI31, trivial⟩ hP hS dX11_fielded_23
       · obtain ⟨q59, k58⟩ := h55
         have q59 := q59.symm
         subst q59
         refine lv_if_eq (tgt := 24) hx hb dX11_fielded_19 (of_decide_eq_true rfl) (fun _ => ?_) (fun c => absurd (of_decide_eq_true rfl) c)
         refine lv_aload_n hx hb dX11_fielded_24 rfl (lv_at hl 0 rfl) ?_
         refine va_get (D := D) hx hb hts inlX11 hown hK hP 0 (jc_0 cI cL ad σ τ) rfl 2 (of_decide_eq_true rfl) (hts _ kw_2_0) (fun _ h9 => h9) rfl dX11_fielded_25 ?_
         refine va_get (D := D) hx hb hts inlX6 hown hK hP 16 (jc_16 cI cL ad σ τ) rfl 1 (of_decide_eq_true rfl) (hts _ kw_20_5) (fun _ h9 => h9) rfl dX11_fielded_28 ?_
         refine lv_bipush (v := 8) hx hb dX11_fielded_31 (of_decide_eq_true rfl) ?_
         refine lv_icmp_le (tgt := 39) hx hb dX11_fielded_33 (of_decide_eq_true rfl) (fun c60 => ?_) (fun c60 => ?_)
         · have kc60 := jle c60 rfl jz_8
           refine lv_aload_n hx hb dX11_fielded_39 rfl (lv_at hl 0 rfl) ?_
           refine va_get (D := D) hx hb hts inlX11 hown hK hP 0 (jc_0 cI cL ad σ τ) rfl 0 (of_decide_eq_true rfl) (hts _ kw_1_16) (fun _ h9 => h9) rfl dX11_fielded_40 ?_
           refine jcallV (As := []) (rest := []) ⟨hx, hb, hml, hown, hts⟩ hK hP hA hS hZ (c_X4_freshAttack_2 l D cI cL ad zz hJ σ τ hI2) cw_RX11_204 (jc_2 cI cL ad σ τ) rfl ⟨Nat.le_of_ble_eq_true rfl, Nat.le_of_ble_eq_true rfl⟩ rfl rfl rfl hl.1 rfl (Nat.le_of_ble_eq_true rfl) dX11_fielded_43 ⟨Nat.zero_le _, Nat.zero_le _⟩ (fun r62 σ61 τ61 H locs h61 hP hS => ?_)
           obtain ⟨⟨rfl, rfl⟩, w63, h61⟩ := h61
           refine lv_istore_n (lv' := [(3, .int r62), (0, .ref (ad 0)), (1, .int a1), (2, .int a2)]) hx hb dX11_fielded_46 rfl hl (of_decide_eq_true rfl) rfl (fun ls hl => ?_)
           refine lv_iconst (v := 0) hx hb dX11_fielded_47 (of_decide_eq_true rfl) ?_
           refine lv_istore (lv' := [(4, .int 0), (3, .int r62), (0, .ref (ad 0)), (1, .int a1), (2, .int a2)]) hx hb dX11_fielded_48 hl (of_decide_eq_true rfl) rfl (fun ls hl => ?_)
           refine lv_aload_n hx hb dX11_fielded_50 rfl (lv_at hl 2 rfl) ?_
           refine lv_iload_n hx hb dX11_fielded_51 rfl (lv_at hl 1 rfl) ?_
           refine lv_iload_n hx hb dX11_fielded_52 rfl (lv_at hl 4 rfl) ?_
           exact by
            refine lv_if_ne (tgt := 60) hx hb dX11_fielded_53 (of_decide_eq_true rfl) (fun c => absurd (jne c t2 jz_0) (by omega)) (fun c64 => ?_)
            have kc64 := jeq c64 t2 jz_0
            refine lv_iload_n hx hb dX11_fielded_56 rfl (lv_at hl 3 rfl) ?_
            refine lv_goto (tgt := 61) hx hb dX11_fielded_57 (of_decide_eq_true rfl) ?_
            refine jcallV (As := [.int r62, .int a1]) (rest := []) ⟨hx, hb, hml, hown, hts⟩ hK hP hA hS hZ (c_X11_bestOf l D cI cL ad zz hJ σ τ r62 (r62.toInt) rfl a1 (A1) t1 hI16 hI22 hI31) cw_RX11_226 (jc_0 cI cL ad σ τ) rfl ⟨Nat.le_of_ble_eq_true rfl, Nat.le_of_ble_eq_true rfl⟩ rfl rfl rfl hl.1 rfl (Nat.le_of_ble_eq_true rfl) dX11_fielded_61 ⟨Nat.zero_le _, Nat.zero_le _⟩ (fun r66 σ65 τ65 H locs h65 hP hS => ?_)
            obtain ⟨rfl, f67, f68, I69, h65⟩ := h65
            refine lv_istore (lv' := [(5, .int r66), (4, .int 0), (3, .int r62), (0, .ref (ad 0)), (1, .int a1), (2, .int a2)]) hx hb dX11_fielded_64 hl (of_decide_eq_true rfl) rfl (fun ls hl => ?_)
            refine lv_iload_n hx hb dX11_fielded_66 rfl (lv_at hl 5 rfl) ?_
            refine lv_if_ne (tgt := 73) hx hb dX11_fielded_67 (of_decide_eq_true rfl) (fun c => absurd (jne c t2 jz_0) (by omega)) (fun c71 => ?_)
            exact by
             have kc71 := jeq c71 t2 jz_0
             refine lv_iload hx hb dX11_fielded_70 (lv_at hl 0 rfl) ?_
             exact hret r66 σ65 τ _ _ _ _ rfl ⟨rfl, (fun i hi => (f67 i hi)), (fun i hi => (f68 i hi)), I69, trivial⟩ hP hS dX11_fielded_72
         · have kc60 := jnle c60 rfl jz_8
           refine lv_bipush (v := (-4)) hx hb dX11_fielded_36 (of_decide_eq_true rfl) ?_
           exact hret (-4) σ τ _ _ _ _ rfl ⟨rfl, (fun _ _ => rfl), (fun _ _ => rfl), hI31, trivial⟩ hP hS dX11_fielded_38
set_option maxHeartbeats 4000000 in
set_option maxRecDepth 100000 in
theorem c_X11_kept (l : Launch) (D : va_G) (cI cL : ClassId) (ad zz : Nat → Nat) (hJ : jD ad) (σ : Nat → Nat → Int32) (τ : Nat → Nat → Int64) (a1 : Int32) (A1 : Int) (t1 : a1.toInt = A1) (hI2 : jI2 σ) (hI16 : jI16 σ) (hI22 : jI22 σ) (hI31 : jI31 σ) : jM l yX11_kept cX11_kept 5 (some .int) ({ frames := 7, cells := 0, slots := 0, locals := 184 }) D cI cL ad zz [.ref (ad 0), .int a1] σ τ (fun r σ' τ' => τ = τ' ∧ (∀ i : Nat, (i < 24 ∨ 25 < i) ∧ (i < 27 ∨ 37 < i) → σ' i = σ i) ∧ (∀ k : Nat, (k < 8 ∨ 8 < k) ∧ (k < 9 ∨ 9 < k) ∧ (k < 10 ∨ 10 < k) ∧ (k < 11 ∨ 11 < k) ∧ (k < 12 ∨ 12 < k) → σ' 31 k = σ 31 k) ∧ (jI31 σ') ∧ True) := by
  refine jM.of hJ (by decide +kernel) (nt := .int) rfl (Nat.le_of_ble_eq_true rfl) ?_
  intro p e s m args below meth c Q ls hC hret hl hP
  obtain ⟨hx, hb, hr, hml, hown, hts, hK, -, hlocks, hZ⟩ := hC
  have hown : s.vm.findClass RX11 = some m.cls := hown
  have hS : va_S (jA ad) s.heap s.heap [] := va_S.rf
  have hA : ∀ q, jA ad q → jA ad q := fun _ h => h
  have hl : lv_has ls 5 [(0, .ref (ad 0)), (1, .int a1)] := hl
  have g1 := jrg t1
  obtain ⟨i1, i2, i3, i4, i5, w6⟩ : (0 ≤ (σ 2 0).toInt ∧ (σ 2 0).toInt ≤ 4) ∧ (0 ≤ (σ 2 1).toInt ∧ (σ 2 1).toInt ≤ 3) ∧ (0 ≤ (σ 2 2).toInt) ∧ (0 ≤ (σ 2 3).toInt) ∧ ((σ 2 2).toInt + (σ 2 3).toInt ≤ 40) ∧ (∀ k : Nat, k < 40 → 0 ≤ (σ 6 k).toInt ∧ (σ 6 k).toInt ≤ 67) := id hI2
  obtain ⟨i7, i8, i9, w10⟩ : (1 ≤ (σ 16 0).toInt ∧ (σ 16 0).toInt ≤ 8) ∧ (1 ≤ (σ 16 1).toInt ∧ (σ 16 1).toInt ≤ 12) ∧ (0 ≤ (σ 16 2).toInt ∧ (σ 16 2).toInt ≤ 999) ∧ (∀ k : Nat, k < 8 → 0 ≤ (σ 17 k).toInt ∧ (σ 17 k).toInt ≤ 3) := id hI16
  refine lv_aload_n hx hb dX11_kept_0 rfl (lv_at hl 0 rfl) ?_
  refine lv_iload_n hx hb dX11_kept_1 rfl (lv_at hl 1 rfl) ?_
  refine jcallV (As := [.int a1]) (rest := []) ⟨hx, hb, hml, hown, hts⟩ hK hP hA hS hZ (c_X11_noBowler l D cI cL ad zz hJ σ τ a1 (A1) t1 hI2) cw_RX11_152 (jc_0 cI cL ad σ τ) rfl ⟨Nat.le_of_ble_eq_true rfl, Nat.le_of_ble_eq_true rfl⟩ rfl rfl rfl hl.1 rfl (Nat.le_of_ble_eq_true rfl) dX11_kept_2 ⟨Nat.zero_le _, Nat.zero_le _⟩ (fun r12 σ11 τ11 H locs h11 hP hS => ?_)
  obtain ⟨⟨rfl, rfl⟩, h11⟩ := h11
  rcases h11 with h13 | h14
  · obtain ⟨q16, k15⟩ := h13
    have q16 := q16.symm
    subst q16
    refine lv_if_eq (tgt := 10) hx hb dX11_kept_5 (of_decide_eq_true rfl) (fun c => absurd c (of_decide_eq_true rfl)) (fun _ => ?_)
    refine lv_iconst (v := (-1)) hx hb dX11_kept_8 (of_decide_eq_true rfl) ?_
    exact hret (-1) σ τ _ _ _ _ rfl ⟨rfl, (fun _ _ => rfl), (fun _ _ => rfl), hI31, trivial⟩ hP hS dX11_kept_9
  · obtain ⟨q18, k17⟩ := h14
    have q18 := q18.symm
    subst q18
    refine lv_if_eq (tgt := 10) hx hb dX11_kept_5 (of_decide_eq_true rfl) (fun _ => ?_) (fun c => absurd (of_decide_eq_true rfl) c)
    refine lv_aload_n hx hb dX11_kept_10 rfl (lv_at hl 0 rfl) ?_
    refine va_get (D := D) hx hb hts inlX11 hown hK hP 0 (jc_0 cI cL ad σ τ) rfl 2 (of_decide_eq_true rfl) (hts _ kw_2_0) (fun _ h9 => h9) rfl dX11_kept_11 ?_
    refine va_get (D := D) hx hb hts inlX6 hown hK hP 16 (jc_16 cI cL ad σ τ) rfl 1 (of_decide_eq_true rfl) (hts _ kw_20_5) (fun _ h9 => h9) rfl dX11_kept_14 ?_
    refine lv_bipush (v := 8) hx hb dX11_kept_17 (of_decide_eq_true rfl) ?_
    refine lv_icmp_le (tgt := 25) hx hb dX11_kept_19 (of_decide_eq_true rfl) (fun c19 => ?_) (fun c19 => ?_)
    · have kc19 := jle c19 rfl jz_8
      refine lv_aload_n hx hb dX11_kept_25 rfl (lv_at hl 0 rfl) ?_
      refine va_get (D := D) hx hb hts inlX11 hown hK hP 0 (jc_0 cI cL ad σ τ) rfl 0 (of_decide_eq_true rfl) (hts _ kw_1_16) (fun _ h9 => h9) rfl dX11_kept_26 ?_
      refine jcallV (As := []) (rest := []) ⟨hx, hb, hml, hown, hts⟩ hK hP hA hS hZ (c_X4_freshAttack_2 l D cI cL ad zz hJ σ τ hI2) cw_RX11_204 (jc_2 cI cL ad σ τ) rfl ⟨Nat.le_of_ble_eq_true rfl, Nat.le_of_ble_eq_true rfl⟩ rfl rfl rfl hl.1 rfl (Nat.le_of_ble_eq_true rfl) dX11_kept_29 ⟨Nat.zero_le _, Nat.zero_le _⟩ (fun r21 σ20 τ20 H locs h20 hP hS => ?_)
      obtain ⟨⟨rfl, rfl⟩, w22, h20⟩ := h20
      refine lv_istore_n (lv' := [(2, .int r21), (0, .ref (ad 0)), (1, .int a1)]) hx hb dX11_kept_32 rfl hl (of_decide_eq_true rfl) rfl (fun ls hl => ?_)
      refine lv_aload_n hx hb dX11_kept_33 rfl (lv_at hl 1 rfl) ?_
      refine lv_iload_n hx hb dX11_kept_34 rfl (lv_at hl 0 rfl) ?_
      refine lv_aload_n hx hb dX11_kept_35 rfl (lv_at hl 1 rfl) ?_
      refine va_get (D := D) hx hb hts inlX11 hown hK hP 0 (jc_0 cI cL ad σ τ) rfl 0 (of_decide_eq_true rfl) (hts _ kw_1_16) (fun _ h9 => h9) rfl dX11_kept_36 ?_
      refine va_get (D := D) hx hb hts inlX4 hown hK hP 2 (jc_2 cI cL ad σ τ) rfl 1 (of_decide_eq_true rfl) (hts _ kw_12_8) (fun _ h9 => h9) rfl dX11_kept_39 ?_
      refine jcallV (As := [.int r21, .int (σ 2 1)]) (rest := []) ⟨hx, hb, hml, hown, hts⟩ hK hP hA hS hZ (c_X11_bestOf l D cI cL ad zz hJ σ τ r21 (r21.toInt) rfl (σ 2 1) ((σ 2 1).toInt) rfl hI16 hI22 hI31) cw_RX11_226 (jc_0 cI cL ad σ τ) rfl ⟨Nat.le_of_ble_eq_true rfl, Nat.le_of_ble_eq_true rfl⟩ rfl rfl rfl hl.1 rfl (Nat.le_of_ble_eq_true rfl) dX11_kept_42 ⟨Nat.zero_le _, Nat.zero_le _⟩ (fun r24 σ23 τ23 H locs h23 hP hS => ?_)
      obtain ⟨rfl, f25, f26, I27, h23⟩ := h23
      refine lv_pop hx hb dX11_kept_45 rfl ?_
      refine lv_iconst (v := 0) hx hb dX11_kept_46 (of_decide_eq_true rfl) ?_
      refine lv_istore_n (lv' := [(3, .int 0), (2, .int r21), (0, .ref (ad 0)), (1, .int a1)]) hx hb dX11_kept_47 rfl hl (of_decide_eq_true rfl) rfl (fun ls hl => ?_)
      have z34 : (σ23 16 1).toInt = (σ 16 1).toInt := (congrArg Int32.toInt (show σ23 16 1 = (σ 16 1) from (congrFun (f25 16 (of_decide_eq_true rfl)) 1)))
      have lp29 : ∀ (n30 : Nat) (x31 : Int32) (x32 : Int32) (H : Heap) (locs : List Loc) (ls : Array Slot), ((σ23 16 1).toInt - x32.toInt : Int) < n30 → 0 ≤ x32.toInt → x32.toInt ≤ 12 → x32.toInt ≤ (σ23 16 1).toInt → jH D cI cL ad σ23 τ H → va_S (jA ad) s.heap H locs → lv_has ls 5 [(3, .int x32), (2, .int x31), (0, .ref (ad 0)), (1, .int a1)] → W p l e ({ frames := 7, cells := 0, slots := 0, locals := 184 }) s m args below meth c H locs 0 0 Q (F0 m 48 ls []) := by
        intro n30
        induction n30 with
        | zero => intro x31 x32 H locs ls h36 h37 h38 h39; have gx31 := jrg (rfl : x31.toInt = x31.toInt); exact absurd h36 (by omega)
        | succ n30 ihlp29 =>
          intro x31 x32 H locs ls h36 h37 h38 h39 hP hS hl
          exact by
           have gx31 := jrg (rfl : x31.toInt = x31.toInt)
           refine lv_iload_n hx hb dX11_kept_48 rfl (lv_at hl 0 rfl) ?_
           refine lv_aload_n hx hb dX11_kept_49 rfl (lv_at hl 2 rfl) ?_
           refine va_get (D := D) hx hb hts inlX11 hown hK hP 0 (jc_0 cI cL ad σ23 τ) rfl 2 (of_decide_eq_true rfl) (hts _ kw_2_0) (fun _ h9 => h9) rfl dX11_kept_50 ?_
           refine va_get (D := D) hx hb hts inlX6 hown hK hP 16 (jc_16 cI cL ad σ23 τ) rfl 1 (of_decide_eq_true rfl) (hts _ kw_20_5) (fun _ h9 => h9) rfl dX11_kept_53 ?_
           have m41 : σ23 16 1 = (σ 16 1) := (congrFun (f25 16 (of_decide_eq_true rfl)) 1)
           refine jtopr m41 ?_
           refine lv_icmp_ge (tgt := 112) hx hb dX11_kept_56 (of_decide_eq_true rfl) (fun c42 => ?_) (fun c42 => ?_)
           · have kc42 := jle c42 rfl rfl
             refine lv_bipush (v := (-2)) hx hb dX11_kept_112 (of_decide_eq_true rfl) ?_
             exact hret (-2) σ23 τ _ _ _ _ rfl ⟨rfl, (fun i hi => (f25 i hi)), (fun i hi => (f26 i hi)), I27, trivial⟩ hP hS dX11_kept_114
           · have kc42 := jnle c42 rfl rfl
             refine lv_aload_n hx hb dX11_kept_59 rfl (lv_at hl 2 rfl) ?_
             refine va_get (D := D) hx hb hts inlX11 hown hK hP 0 (jc_0 cI cL ad σ23 τ) rfl 2 (of_decide_eq_true rfl) (hts _ kw_2_0) (fun _ h9 => h9) rfl dX11_kept_60 ?_
             refine lv_iload_n hx hb dX11_kept_63 rfl (lv_at hl 0 rfl) ?_
             refine lv_iconst (v := 0) hx hb dX11_kept_64 (of_decide_eq_true rfl) ?_
             refine lv_iload_n hx hb dX11_kept_65 rfl (lv_at hl 1 rfl) ?_
             refine jcallV (As := [.int x32, .int 0, .int x31]) (rest := []) ⟨hx, hb, hml, hown, hts⟩ hK hP hA hS hZ (c_X6_ended_16 l D cI cL ad zz hJ σ23 τ x32 (x32.toInt) rfl 0 (0) jz_0 x31 (x31.toInt) rfl) cw_RX11_190 (jc_16 cI cL ad σ23 τ) rfl ⟨Nat.le_of_ble_eq_true rfl, Nat.le_of_ble_eq_true rfl⟩ rfl rfl rfl hl.1 rfl (Nat.le_of_ble_eq_true rfl) dX11_kept_66 ⟨Nat.zero_le _, Nat.zero_le _⟩ (fun r44 σ43 τ43 H locs h43 hP hS => ?_)
             obtain ⟨⟨rfl, rfl⟩, w45, h43⟩ := h43
             refine lv_if_ne (tgt := 112) hx hb dX11_kept_69 (of_decide_eq_true rfl) (fun c46 => ?_) (fun c46 => ?_)
             · have kc46 := jne c46 rfl jz_0
               refine lv_bipush (v := (-2)) hx hb dX11_kept_112 (of_decide_eq_true rfl) ?_
               exact hret (-2) σ23 τ _ _ _ _ rfl ⟨rfl, (fun i hi => (f25 i hi)), (fun i hi => (f26 i hi)), I27, trivial⟩ hP hS dX11_kept_114
             · have kc46 := jeq c46 rfl jz_0
               refine lv_aload_n hx hb dX11_kept_72 rfl (lv_at hl 2 rfl) ?_
               refine va_get (D := D) hx hb hts inlX11 hown hK hP 0 (jc_0 cI cL ad σ23 τ) rfl 6 (of_decide_eq_true rfl) (hts _ kw_2_13) (fun _ h9 => h9) rfl dX11_kept_73 ?_
               refine lv_aload_n hx hb dX11_kept_76 rfl (lv_at hl 2 rfl) ?_
               refine va_get (D := D) hx hb hts inlX11 hown hK hP 0 (jc_0 cI cL ad σ23 τ) rfl 6 (of_decide_eq_true rfl) (hts _ kw_2_13) (fun _ h9 => h9) rfl dX11_kept_77 ?_
               refine lv_iload_n hx hb dX11_kept_80 rfl (lv_at hl 1 rfl) ?_
               refine lv_iload_n hx hb dX11_kept_81 rfl (lv_at hl 0 rfl) ?_
               refine jcallV (As := [.int x31, .int x32]) (rest := [.ref (ad 31)]) ⟨hx, hb, hml, hown, hts⟩ hK hP hA hS hZ (c_X1_nodeOf_31 l D cI cL ad zz hJ σ23 τ x31 (x31.toInt) rfl x32 (x32.toInt) rfl I27) cw_RX11_229 (jc_31 cI cL ad σ23 τ) rfl ⟨Nat.le_of_ble_eq_true rfl, Nat.le_of_ble_eq_true rfl⟩ rfl rfl rfl hl.1 rfl (Nat.le_of_ble_eq_true rfl) dX11_kept_82 ⟨Nat.zero_le _, Nat.zero_le _⟩ (fun r48 σ47 τ47 H locs h47 hP hS => ?_)
               obtain ⟨⟨rfl, rfl⟩, h47⟩ := h47
               have h49 := h47
               obtain ⟨q51, k50⟩ := h49
               refine lv_iconst (v := 0) hx hb dX11_kept_85 (of_decide_eq_true rfl) ?_
               have I52 : jI16 σ23 := jI16_fr (congrFun (f25 16 (of_decide_eq_true rfl)) 0) (congrFun (f25 16 (of_decide_eq_true rfl)) 1) (congrFun (f25 16 (of_decide_eq_true rfl)) 2) (f25 17 (of_decide_eq_true rfl)) hI16
               refine jcallV (As := [.int r48, .int 0]) (rest := []) ⟨hx, hb, hml, hown, hts⟩ hK hP hA hS hZ (c_X1_whomAt_31 l D cI cL ad zz hJ σ23 τ r48 (r48.toInt) rfl 0 (0) jz_0 I52 I27) cw_RX11_218 (jc_31 cI cL ad σ23 τ) rfl ⟨Nat.le_of_ble_eq_true rfl, Nat.le_of_ble_eq_true rfl⟩ rfl rfl rfl hl.1 rfl (Nat.le_of_ble_eq_true rfl) dX11_kept_86 ⟨Nat.zero_le _, Nat.zero_le _⟩ (fun r54 σ53 τ53 H locs h53 hP hS => ?_)
               obtain ⟨⟨rfl, rfl⟩, h53⟩ := h53
               refine lv_istore (lv' := [(4, .int r54), (3, .int x32), (2, .int x31), (0, .ref (ad 0)), (1, .int a1)]) hx hb dX11_kept_89 hl (of_decide_eq_true rfl) rfl (fun ls hl => ?_)
               refine lv_iload hx hb dX11_kept_91 (lv_at hl 0 rfl) ?_
               refine lv_iload_n hx hb dX11_kept_93 rfl (lv_at hl 4 rfl) ?_
               refine lv_icmp_ne (tgt := 99) hx hb dX11_kept_94 (of_decide_eq_true rfl) (fun c55 => ?_) (fun c55 => ?_)
               · have kc55 := jne c55 rfl t1
                 refine lv_iload_n hx hb dX11_kept_99 rfl (lv_at hl 2 rfl) ?_
                 refine lv_iload hx hb dX11_kept_100 (lv_at hl 0 rfl) ?_
                 refine jcallS (As := [.int x31, .int r54]) (rest := []) ⟨hx, hb, hml, hown, hts⟩ hK hP hA hS hZ (c_X0_after l D cI cL ad zz hJ σ23 τ x31 (x31.toInt) rfl r54 (r54.toInt) rfl) cw_RX11_232 ⟨Nat.le_of_ble_eq_true rfl, Nat.le_of_ble_eq_true rfl⟩ rfl rfl rfl hl.1 rfl (Nat.le_of_ble_eq_true rfl) dX11_kept_102 ⟨Nat.zero_le _, Nat.zero_le _⟩ (fun r57 σ56 τ56 H locs h56 hP hS => ?_)
                 obtain ⟨⟨rfl, rfl⟩, w58, h56⟩ := h56
                 refine lv_istore_n (lv' := [(2, .int r57), (4, .int r54), (3, .int x32), (0, .ref (ad 0)), (1, .int a1)]) hx hb dX11_kept_105 rfl hl (of_decide_eq_true rfl) rfl (fun ls hl => ?_)
                 obtain ⟨x59, ex59⟩ : ∃ y : Int32, y = x32 + 1 := ⟨_, rfl⟩
                 exact by
                  have tx59 : x59.toInt = x32.toInt + 1 := (jadd ex59 rfl jz_1 (by omega) (by omega)).trans (by omega)
                  refine lv_iinc (v := x59) (lv' := [(3, .int x59), (2, .int r57), (4, .int r54), (0, .ref (ad 0)), (1, .int a1)]) hx hb dX11_kept_106 hl (k := 2) rfl (by rw [ex59]; rfl) (of_decide_eq_true rfl) rfl (fun ls hl => ?_)
                  refine lv_goto (tgt := 48) hx hb dX11_kept_109 (of_decide_eq_true rfl) ?_
                  exact by exact ihlp29 r57 x59 _ _ ls (by have h91 := tx59; omega) (by have h91 := tx59; omega) (by have h91 := tx59; omega) (by have h91 := tx59; omega)    hP hS (lv_sub hl [0, 1, 3, 4] rfl)
               · have kc55 := jeq c55 rfl t1
                 refine lv_iload_n hx hb dX11_kept_97 rfl (lv_at hl 1 rfl) ?_
                 exact hret x32 σ23 τ _ _ _ _ rfl ⟨rfl, (fun i hi => (f25 i hi)), (fun i hi => (f26 i hi)), I27, trivial⟩ hP hS dX11_kept_98
      exact by exact lp29 1000000 r21 0 _ _ ls (by have h91 := jz_0; omega) (by have h91 := jz_0; omega) (by have h91 := jz_0; omega) (by have h91 := jz_0; omega)   hP hS hl
    · have kc19 := jnle c19 rfl jz_8
      exact by
       refine lv_bipush (v := (-4)) hx hb dX11_kept_22 (of_decide_eq_true rfl) ?_
       exact hret (-4) σ τ _ _ _ _ rfl ⟨rfl, (fun _ _ => rfl), (fun _ _ => rfl), hI31, trivial⟩ hP hS dX11_kept_24
set_option maxHeartbeats 4000000 in
set_option maxRecDepth 100000 in
theorem c_X11_turnOrder (l : Launch) (D : va_G) (cI cL : ClassId) (ad zz : Nat → Nat) (hJ : jD ad) (σ : Nat → Nat → Int32) (τ : Nat → Nat → Int64) (a1 : Int32) (A1 : Int) (t1 : a1.toInt = A1) (hI2 : jI2 σ) (hI16 : jI16 σ) (hI22 : jI22 σ) (hI31 : jI31 σ) : jM l yX11_turnOrder cX11_turnOrder 9 (some .int) ({ frames := 5, cells := 0, slots := 0, locals := 139 }) D cI cL ad zz [.ref (ad 0), .int a1] σ τ (fun r σ' τ' => τ = τ' ∧ (∀ i : Nat, (i < 1 ∨ 1 < i) ∧ (i < 24 ∨ 25 < i) ∧ (i < 27 ∨ 37 < i) → σ' i = σ i) ∧ (∀ k : Nat, (k < 8 ∨ 8 < k) ∧ (k < 9 ∨ 9 < k) ∧ (k < 10 ∨ 10 < k) ∧ (k < 11 ∨ 11 < k) ∧ (k < 12 ∨ 12 < k) → σ' 31 k = σ 31 k) ∧ (jI31 σ') ∧ True) := by
  refine jM.of hJ (by decide +kernel) (nt := .int) rfl (Nat.le_of_ble_eq_true rfl) ?_
  intro p e s m args below meth c Q ls hC hret hl hP
  obtain ⟨hx, hb, hr, hml, hown, hts, hK, -, hlocks, hZ⟩ := hC
  have hown : s.vm.findClass RX11 = some m.cls := hown
  have hS : va_S (jA ad) s.heap s.heap [] := va_S.rf
  have hA : ∀ q, jA ad q → jA ad q := fun _ h => h
  have hl : lv_has ls 9 [(0, .ref (ad 0)), (1, .int a1)] := hl
  have g1 := jrg t1
  obtain ⟨i1, i2, i3, i4, i5, w6⟩ : (0 ≤ (σ 2 0).toInt ∧ (σ 2 0).toInt ≤ 4) ∧ (0 ≤ (σ 2 1).toInt ∧ (σ 2 1).toInt ≤ 3) ∧ (0 ≤ (σ 2 2).toInt) ∧ (0 ≤ (σ 2 3).toInt) ∧ ((σ 2 2).toInt + (σ 2 3).toInt ≤ 40) ∧ (∀ k : Nat, k < 40 → 0 ≤ (σ 6 k).toInt ∧ (σ 6 k).toInt ≤ 67) := id hI2
  obtain ⟨i7, i8, i9, w10⟩ : (1 ≤ (σ 16 0).toInt ∧ (σ 16 0).toInt ≤ 8) ∧ (1 ≤ (σ 16 1).toInt ∧ (σ 16 1).toInt ≤ 12) ∧ (0 ≤ (σ 16 2).toInt ∧ (σ 16 2).toInt ≤ 999) ∧ (∀ k : Nat, k < 8 → 0 ≤ (σ 17 k).toInt ∧ (σ 17 k).toInt ≤ 3) := id hI16
  refine lv_aload_n hx hb dX11_turnOrder_0 rfl (lv_at hl 0 rfl) ?_
  refine va_get (D := D) hx hb hts inlX11 hown hK hP 0 (jc_0 cI cL ad σ τ) rfl 0 (of_decide_eq_true rfl) (hts _ kw_1_16) (fun _ h9 => h9) rfl dX11_turnOrder_1 ?_
  refine jcallV (As := []) (rest := []) ⟨hx, hb, hml, hown, hts⟩ hK hP hA hS hZ (c_X4_freshAttack_2 l D cI cL ad zz hJ σ τ hI2) cw_RX11_204 (jc_2 cI cL ad σ τ) rfl ⟨Nat.le_of_ble_eq_true rfl, Nat.le_of_ble_eq_true rfl⟩ rfl rfl rfl hl.1 rfl (Nat.le_of_ble_eq_true rfl) dX11_turnOrder_4 ⟨Nat.zero_le _, Nat.zero_le _⟩ (fun r12 σ11 τ11 H locs h11 hP hS => ?_)
  obtain ⟨⟨rfl, rfl⟩, w13, h11⟩ := h11
  refine lv_istore_n (lv' := [(2, .int r12), (0, .ref (ad 0)), (1, .int a1)]) hx hb dX11_turnOrder_7 rfl hl (of_decide_eq_true rfl) rfl (fun ls hl => ?_)
  refine lv_iconst (v := 0) hx hb dX11_turnOrder_8 (of_decide_eq_true rfl) ?_
  refine lv_istore_n (lv' := [(3, .int 0), (2, .int r12), (0, .ref (ad 0)), (1, .int a1)]) hx hb dX11_turnOrder_9 rfl hl (of_decide_eq_true rfl) rfl (fun ls hl => ?_)
  refine lv_iconst (v := (-1)) hx hb dX11_turnOrder_10 (of_decide_eq_true rfl) ?_
  refine lv_istore (lv' := [(4, .int (-1)), (3, .int 0), (2, .int r12), (0, .ref (ad 0)), (1, .int a1)]) hx hb dX11_turnOrder_11 hl (of_decide_eq_true rfl) rfl (fun ls hl => ?_)
  refine lv_aload_n hx hb dX11_turnOrder_13 rfl (lv_at hl 3 rfl) ?_
  refine va_get (D := D) hx hb hts inlX11 hown hK hP 0 (jc_0 cI cL ad σ τ) rfl 2 (of_decide_eq_true rfl) (hts _ kw_2_0) (fun _ h9 => h9) rfl dX11_turnOrder_14 ?_
  refine va_get (D := D) hx hb hts inlX6 hown hK hP 16 (jc_16 cI cL ad σ τ) rfl 0 (of_decide_eq_true rfl) (hts _ kw_13_12) (fun _ h9 => h9) rfl dX11_turnOrder_17 ?_
  refine lv_iconst (v := 1) hx hb dX11_turnOrder_20 (of_decide_eq_true rfl) ?_
  have g14 := jrg (rfl : (σ 16 0).toInt = (σ 16 0).toInt)
  refine lv_isub hx hb dX11_turnOrder_21 ?_
  refine lv_topi (fun x15 ex15 => ?_)
  exact by
   have tx15 : x15.toInt = (σ 16 0).toInt - 1 := (jsub ex15 rfl jz_1 (by omega) (by omega)).trans (by omega)
   refine lv_istore (lv' := [(5, .int x15), (4, .int (-1)), (3, .int 0), (2, .int r12), (0, .ref (ad 0)), (1, .int a1)]) hx hb dX11_turnOrder_22 hl (of_decide_eq_true rfl) rfl (fun ls hl => ?_)
   refine lv_aload_n hx hb dX11_turnOrder_24 rfl (lv_at hl 4 rfl) ?_
   refine va_get (D := D) hx hb hts inlX11 hown hK hP 0 (jc_0 cI cL ad σ τ) rfl 5 (of_decide_eq_true rfl) (hts _ kw_2_9) (fun _ h9 => h9) rfl dX11_turnOrder_25 ?_
   refine lv_aload_n hx hb dX11_turnOrder_28 rfl (lv_at hl 4 rfl) ?_
   refine va_get (D := D) hx hb hts inlX11 hown hK hP 0 (jc_0 cI cL ad σ τ) rfl 0 (of_decide_eq_true rfl) (hts _ kw_1_16) (fun _ h9 => h9) rfl dX11_turnOrder_29 ?_
   refine va_get (D := D) hx hb hts inlX4 hown hK hP 2 (jc_2 cI cL ad σ τ) rfl 1 (of_decide_eq_true rfl) (hts _ kw_12_8) (fun _ h9 => h9) rfl dX11_turnOrder_32 ?_
   refine jcallVv (As := [.int (σ 2 1)]) (rest := []) ⟨hx, hb, hml, hown, hts⟩ hK hP hA hS hZ (c_X5_lay_26 l D cI cL ad zz hJ σ τ (σ 2 1) ((σ 2 1).toInt) rfl) cw_RX11_156 (jc_26 cI cL ad σ τ) rfl ⟨Nat.le_of_ble_eq_true rfl, Nat.le_of_ble_eq_true rfl⟩ rfl rfl rfl hl.1 rfl (Nat.le_of_ble_eq_true rfl) dX11_turnOrder_35 ⟨Nat.zero_le _, Nat.zero_le _⟩ (fun σ16 τ16 H locs h16 hP hS => ?_)
   obtain ⟨rfl, f18, h16⟩ := h16
   refine lv_aload_n hx hb dX11_turnOrder_38 rfl (lv_at hl 4 rfl) ?_
   refine va_get (D := D) hx hb hts inlX11 hown hK hP 0 (jc_0 cI cL ad σ16 τ) rfl 2 (of_decide_eq_true rfl) (hts _ kw_2_0) (fun _ h9 => h9) rfl dX11_turnOrder_39 ?_
   refine lv_aload_n hx hb dX11_turnOrder_42 rfl (lv_at hl 4 rfl) ?_
   refine va_get (D := D) hx hb hts inlX11 hown hK hP 0 (jc_0 cI cL ad σ16 τ) rfl 11 (of_decide_eq_true rfl) (hts _ kw_3_7) (fun _ h9 => h9) rfl dX11_turnOrder_43 ?_
   have I20 : jI16 σ16 := jI16_fr (congrFun (f18 16 (of_decide_eq_true rfl)) 0) (congrFun (f18 16 (of_decide_eq_true rfl)) 1) (congrFun (f18 16 (of_decide_eq_true rfl)) 2) (f18 17 (of_decide_eq_true rfl)) hI16
   refine jcallVv (As := [.ref (ad 1)]) (rest := []) ⟨hx, hb, hml, hown, hts⟩ hK hP hA hS hZ (c_X6_sortDown_16 l D cI cL ad zz hJ σ16 τ I20) cw_RX11_328 (jc_16 cI cL ad σ16 τ) rfl ⟨Nat.le_of_ble_eq_true rfl, Nat.le_of_ble_eq_true rfl⟩ rfl rfl rfl hl.1 rfl (Nat.le_of_ble_eq_true rfl) dX11_turnOrder_46 ⟨Nat.zero_le _, Nat.zero_le _⟩ (fun σ21 τ21 H locs h21 hP hS => ?_)
   obtain ⟨rfl, f23, h21⟩ := h21
   refine lv_iconst (v := 0) hx hb dX11_turnOrder_49 (of_decide_eq_true rfl) ?_
   refine lv_istore (lv' := [(6, .int 0), (5, .int x15), (4, .int (-1)), (3, .int 0), (2, .int r12), (0, .ref (ad 0)), (1, .int a1)]) hx hb dX11_turnOrder_50 hl (of_decide_eq_true rfl) rfl (fun ls hl => ?_)
   have I34 : jI31 σ21 := jI31_fr ((congrFun (f23 31 (of_decide_eq_true rfl)) 8).trans (congrFun (f18 31 (of_decide_eq_true rfl)) 8)) ((f23 33 (of_decide_eq_true rfl)).trans (f18 33 (of_decide_eq_true rfl))) ((f23 36 (of_decide_eq_true rfl)).trans (f18 36 (of_decide_eq_true rfl))) hI31
   have lp25 : ∀ (n26 : Nat) (x27 : Int32) (x28 : Int32) (x29 : Int32) (x30 : Int32) (σ33 : Nat → Nat → Int32) (H : Heap) (locs : List Loc) (ls : Array Slot), (-x30.toInt + 120 : Int) < n26 → 0 ≤ x30.toInt → x30.toInt ≤ 120 → (∀ i : Nat, (i < 1 ∨ 1 < i) ∧ (i < 24 ∨ 25 < i) ∧ (i < 29 ∨ 37 < i) → σ33 i = σ21 i) → (∀ k : Nat, (k < 8 ∨ 8 < k) ∧ (k < 9 ∨ 9 < k) ∧ (k < 10 ∨ 10 < k) ∧ (k < 11 ∨ 11 < k) ∧ (k < 12 ∨ 12 < k) → σ33 31 k = σ21 31 k) → jI31 σ33 → jH D cI cL ad σ33 τ H → va_S (jA ad) s.heap H locs → lv_has ls 9 [(6, .int x30), (5, .int x29), (4, .int x28), (3, .int x27), (2, .int r12), (0, .ref (ad 0)), (1, .int a1)] → W p l e ({ frames := 5, cells := 0, slots := 0, locals := 139 }) s m args below meth c H locs 0 0 Q (F0 m 52 ls []) := by
     intro n26
     induction n26 with
     | zero => intro x27 x28 x29 x30 σ33 H locs ls h36 h37 h38; have gx27 := jrg (rfl : x27.toInt = x27.toInt); have gx28 := jrg (rfl : x28.toInt = x28.toInt); have gx29 := jrg (rfl : x29.toInt = x29.toInt); exact absurd h36 (by omega)
     | succ n26 ihlp25 =>
       intro x27 x28 x29 x30 σ33 H locs ls h36 h37 h38 f39 f40 p41 hP hS hl
       exact by
        have gx27 := jrg (rfl : x27.toInt = x27.toInt); have gx28 := jrg (rfl : x28.toInt = x28.toInt); have gx29 := jrg (rfl : x29.toInt = x29.toInt)
        refine lv_iload hx hb dX11_turnOrder_52 (lv_at hl 0 rfl) ?_
        refine lv_bipush (v := 120) hx hb dX11_turnOrder_54 (of_decide_eq_true rfl) ?_
        refine lv_icmp_ge (tgt := 156) hx hb dX11_turnOrder_56 (of_decide_eq_true rfl) (fun c42 => ?_) (fun c42 => ?_)
        · have kc42 := jle c42 jz_120 rfl
          refine lv_iload_n hx hb dX11_turnOrder_156 rfl (lv_at hl 6 rfl) ?_
          refine lv_if_ne (tgt := 164) hx hb dX11_turnOrder_157 (of_decide_eq_true rfl) (fun c43 => ?_) (fun c43 => ?_)
          · have kc43 := jne c43 t1 jz_0
            refine lv_iload hx hb dX11_turnOrder_164 (lv_at hl 2 rfl) ?_
            exact hret x28 σ33 τ _ _ _ _ rfl ⟨rfl, (fun i hi => ((f39 i (imp_137 i hi)).trans ((f23 i (imp_138 i hi)).trans (f18 i (imp_139 i hi))))), (fun i hi => ((f40 i hi).trans ((congrFun (f23 31 (of_decide_eq_true rfl)) i).trans (congrFun (f18 31 (of_decide_eq_true rfl)) i)))), p41, trivial⟩ hP hS dX11_turnOrder_166
          · have kc43 := jeq c43 t1 jz_0
            refine lv_iload_n hx hb dX11_turnOrder_160 rfl (lv_at hl 3 rfl) ?_
            refine lv_goto (tgt := 166) hx hb dX11_turnOrder_161 (of_decide_eq_true rfl) ?_
            exact hret x27 σ33 τ _ _ _ _ rfl ⟨rfl, (fun i hi => ((f39 i (imp_137 i hi)).trans ((f23 i (imp_138 i hi)).trans (f18 i (imp_139 i hi))))), (fun i hi => ((f40 i hi).trans ((congrFun (f23 31 (of_decide_eq_true rfl)) i).trans (congrFun (f18 31 (of_decide_eq_true rfl)) i)))), p41, trivial⟩ hP hS dX11_turnOrder_166
        · have kc42 := jnle c42 jz_120 rfl
          refine lv_iload hx hb dX11_turnOrder_59 (lv_at hl 1 rfl) ?_
          refine lv_if_lt (tgt := 156) hx hb dX11_turnOrder_61 (of_decide_eq_true rfl) (fun c44 => ?_) (fun c44 => ?_)
          · have kc44 := jlt c44 rfl jz_0
            refine lv_iload_n hx hb dX11_turnOrder_156 rfl (lv_at hl 6 rfl) ?_
            refine lv_if_ne (tgt := 164) hx hb dX11_turnOrder_157 (of_decide_eq_true rfl) (fun c45 => ?_) (fun c45 => ?_)
            · have kc45 := jne c45 t1 jz_0
              refine lv_iload hx hb dX11_turnOrder_164 (lv_at hl 2 rfl) ?_
              exact hret x28 σ33 τ _ _ _ _ rfl ⟨rfl, (fun i hi => ((f39 i (imp_137 i hi)).trans ((f23 i (imp_138 i hi)).trans (f18 i (imp_139 i hi))))), (fun i hi => ((f40 i hi).trans ((congrFun (f23 31 (of_decide_eq_true rfl)) i).trans (congrFun (f18 31 (of_decide_eq_true rfl)) i)))), p41, trivial⟩ hP hS dX11_turnOrder_166
            · have kc45 := jeq c45 t1 jz_0
              refine lv_iload_n hx hb dX11_turnOrder_160 rfl (lv_at hl 3 rfl) ?_
              refine lv_goto (tgt := 166) hx hb dX11_turnOrder_161 (of_decide_eq_true rfl) ?_
              exact hret x27 σ33 τ _ _ _ _ rfl ⟨rfl, (fun i hi => ((f39 i (imp_137 i hi)).trans ((f23 i (imp_138 i hi)).trans (f18 i (imp_139 i hi))))), (fun i hi => ((f40 i hi).trans ((congrFun (f23 31 (of_decide_eq_true rfl)) i).trans (congrFun (f18 31 (of_decide_eq_true rfl)) i)))), p41, trivial⟩ hP hS dX11_turnOrder_166
          · have kc44 := jnlt c44 rfl jz_0
            refine lv_aload_n hx hb dX11_turnOrder_64 rfl (lv_at hl 5 rfl) ?_
            refine va_get (D := D) hx hb hts inlX11 hown hK hP 0 (jc_0 cI cL ad σ33 τ) rfl 6 (of_decide_eq_true rfl) (hts _ kw_2_13) (fun _ h9 => h9) rfl dX11_turnOrder_65 ?_
            refine lv_aload_n hx hb dX11_turnOrder_68 rfl (lv_at hl 5 rfl) ?_
            refine va_get (D := D) hx hb hts inlX11 hown hK hP 0 (jc_0 cI cL ad σ33 τ) rfl 11 (of_decide_eq_true rfl) (hts _ kw_3_7) (fun _ h9 => h9) rfl dX11_turnOrder_69 ?_
            refine lv_iload_n hx hb dX11_turnOrder_72 rfl (lv_at hl 4 rfl) ?_
            refine lv_iconst (v := 0) hx hb dX11_turnOrder_73 (of_decide_eq_true rfl) ?_
            refine lv_iconst (v := 0) hx hb dX11_turnOrder_74 (of_decide_eq_true rfl) ?_
            refine lv_iload hx hb dX11_turnOrder_75 (lv_at hl 1 rfl) ?_
            have I46 : jI16 σ33 := jI16_fr ((congrFun (f39 16 (of_decide_eq_true rfl)) 0).trans (congrFun (f23 16 (of_decide_eq_true rfl)) 0)) ((congrFun (f39 16 (of_decide_eq_true rfl)) 1).trans (congrFun (f23 16 (of_decide_eq_true rfl)) 1)) ((congrFun (f39 16 (of_decide_eq_true rfl)) 2).trans (congrFun (f23 16 (of_decide_eq_true rfl)) 2)) ((f39 17 (of_decide_eq_true rfl)).trans (f23 17 (of_decide_eq_true rfl))) I20
            have I47 : jI22 σ33 := jI22_fr ((congrFun (f39 22 (of_decide_eq_true rfl)) 0).trans ((congrFun (f23 22 (of_decide_eq_true rfl)) 0).trans (congrFun (f18 22 (of_decide_eq_true rfl)) 0))) ((f39 23 (of_decide_eq_true rfl)).trans ((f23 23 (of_decide_eq_true rfl)).trans (f18 23 (of_decide_eq_true rfl)))) hI22
            refine jcallVv (As := [.ref (ad 1), .int r12, .int 0, .int 0, .int x29]) (rest := []) ⟨hx, hb, hml, hown, hts⟩ hK hP hA hS hZ (c_X1_seekFor_31_v1 l D cI cL ad zz hJ σ33 τ r12 (r12.toInt) rfl 0 (0) jz_0 0 (0) jz_0 x29 (x29.toInt) rfl I46 I47 p41) cw_RX11_332 (jc_31 cI cL ad σ33 τ) rfl ⟨Nat.le_of_ble_eq_true rfl, Nat.le_of_ble_eq_true rfl⟩ rfl rfl rfl hl.1 rfl (Nat.le_of_ble_eq_true rfl) dX11_turnOrder_77 ⟨Nat.zero_le _, Nat.zero_le _⟩ (fun σ48 τ48 H locs h48 hP hS => ?_)
            obtain ⟨rfl, f50, f51, I52, h48⟩ := h48
            refine lv_aload_n hx hb dX11_turnOrder_80 rfl (lv_at hl 5 rfl) ?_
            refine va_get (D := D) hx hb hts inlX11 hown hK hP 0 (jc_0 cI cL ad σ48 τ) rfl 6 (of_decide_eq_true rfl) (hts _ kw_2_13) (fun _ h9 => h9) rfl dX11_turnOrder_81 ?_
            refine lv_iconst (v := 0) hx hb dX11_turnOrder_84 (of_decide_eq_true rfl) ?_
            refine lv_iconst (v := 0) hx hb dX11_turnOrder_85 (of_decide_eq_true rfl) ?_
            have I54 : jI16 σ48 := jI16_fr (congrFun (f50 16 (of_decide_eq_true rfl)) 0) (congrFun (f50 16 (of_decide_eq_true rfl)) 1) (congrFun (f50 16 (of_decide_eq_true rfl)) 2) (f50 17 (of_decide_eq_true rfl)) I46
            refine jcallV (As := [.int 0, .int 0]) (rest := []) ⟨hx, hb, hml, hown, hts⟩ hK hP hA hS hZ (c_X1_valueAt_31 l D cI cL ad zz hJ σ48 τ 0 (0) jz_0 0 (0) jz_0 I54 I52) cw_RX11_215 (jc_31 cI cL ad σ48 τ) rfl ⟨Nat.le_of_ble_eq_true rfl, Nat.le_of_ble_eq_true rfl⟩ rfl rfl rfl hl.1 rfl (Nat.le_of_ble_eq_true rfl) dX11_turnOrder_86 ⟨Nat.zero_le _, Nat.zero_le _⟩ (fun r56 σ55 τ55 H locs h55 hP hS => ?_)
            obtain ⟨⟨rfl, rfl⟩, h55⟩ := h55
            refine lv_istore (lv' := [(7, .int r56), (6, .int x30), (5, .int x29), (4, .int x28), (3, .int x27), (2, .int r12), (0, .ref (ad 0)), (1, .int a1)]) hx hb dX11_turnOrder_89 hl (of_decide_eq_true rfl) rfl (fun ls hl => ?_)
            refine lv_aload_n hx hb dX11_turnOrder_91 rfl (lv_at hl 6 rfl) ?_
            refine va_get (D := D) hx hb hts inlX11 hown hK hP 0 (jc_0 cI cL ad σ48 τ) rfl 11 (of_decide_eq_true rfl) (hts _ kw_3_7) (fun _ h9 => h9) rfl dX11_turnOrder_92 ?_
            refine lv_aload_n hx hb dX11_turnOrder_95 rfl (lv_at hl 6 rfl) ?_
            refine va_get (D := D) hx hb hts inlX11 hown hK hP 0 (jc_0 cI cL ad σ48 τ) rfl 2 (of_decide_eq_true rfl) (hts _ kw_2_0) (fun _ h9 => h9) rfl dX11_turnOrder_96 ?_
            refine va_get (D := D) hx hb hts inlX6 hown hK hP 16 (jc_16 cI cL ad σ48 τ) rfl 0 (of_decide_eq_true rfl) (hts _ kw_13_12) (fun _ h9 => h9) rfl dX11_turnOrder_99 ?_
            have m57 : σ48 16 0 = (σ 16 0) := ((congrFun (f50 16 (of_decide_eq_true rfl)) 0).trans ((congrFun (f39 16 (of_decide_eq_true rfl)) 0).trans ((congrFun (f23 16 (of_decide_eq_true rfl)) 0).trans (congrFun (f18 16 (of_decide_eq_true rfl)) 0))))
            refine jtopr m57 ?_
            refine jcallS (As := [.ref (ad 1), .int (σ 16 0)]) (rest := []) ⟨hx, hb, hml, hown, hts⟩ hK hP hA hS hZ (c_X6_digits l D cI cL ad zz hJ σ48 τ (σ 16 0) ((σ 16 0).toInt) rfl) cw_RX11_336 ⟨Nat.le_of_ble_eq_true rfl, Nat.le_of_ble_eq_true rfl⟩ rfl rfl rfl hl.1 rfl (Nat.le_of_ble_eq_true rfl) dX11_turnOrder_102 ⟨Nat.zero_le _, Nat.zero_le _⟩ (fun r59 σ58 τ58 H locs h58 hP hS => ?_)
            obtain ⟨⟨rfl, rfl⟩, h58⟩ := h58
            refine lv_istore (lv' := [(8, .int r59), (7, .int r56), (6, .int x30), (5, .int x29), (4, .int x28), (3, .int x27), (2, .int r12), (0, .ref (ad 0)), (1, .int a1)]) hx hb dX11_turnOrder_105 hl (of_decide_eq_true rfl) rfl (fun ls hl => ?_)
            refine lv_iload hx hb dX11_turnOrder_107 (lv_at hl 1 rfl) ?_
            refine lv_iload hx hb dX11_turnOrder_109 (lv_at hl 4 rfl) ?_
            refine lv_icmp_gt (tgt := 127) hx hb dX11_turnOrder_111 (of_decide_eq_true rfl) (fun c60 => ?_) (fun c60 => ?_)
            · have kc60 := jlt c60 rfl rfl
              refine lv_iload hx hb dX11_turnOrder_127 (lv_at hl 1 rfl) ?_
              refine lv_istore (lv' := [(4, .int r56), (8, .int r59), (7, .int r56), (6, .int x30), (5, .int x29), (3, .int x27), (2, .int r12), (0, .ref (ad 0)), (1, .int a1)]) hx hb dX11_turnOrder_129 hl (of_decide_eq_true rfl) rfl (fun ls hl => ?_)
              refine lv_iload hx hb dX11_turnOrder_131 (lv_at hl 1 rfl) ?_
              refine lv_istore_n (lv' := [(3, .int r59), (4, .int r56), (8, .int r59), (7, .int r56), (6, .int x30), (5, .int x29), (2, .int r12), (0, .ref (ad 0)), (1, .int a1)]) hx hb dX11_turnOrder_133 rfl hl (of_decide_eq_true rfl) rfl (fun ls hl => ?_)
              refine lv_aload_n hx hb dX11_turnOrder_134 rfl (lv_at hl 7 rfl) ?_
              refine va_get (D := D) hx hb hts inlX11 hown hK hP 0 (jc_0 cI cL ad σ48 τ) rfl 11 (of_decide_eq_true rfl) (hts _ kw_3_7) (fun _ h9 => h9) rfl dX11_turnOrder_135 ?_
              refine lv_aload_n hx hb dX11_turnOrder_138 rfl (lv_at hl 7 rfl) ?_
              refine va_get (D := D) hx hb hts inlX11 hown hK hP 0 (jc_0 cI cL ad σ48 τ) rfl 2 (of_decide_eq_true rfl) (hts _ kw_2_0) (fun _ h9 => h9) rfl dX11_turnOrder_139 ?_
              refine va_get (D := D) hx hb hts inlX6 hown hK hP 16 (jc_16 cI cL ad σ48 τ) rfl 0 (of_decide_eq_true rfl) (hts _ kw_13_12) (fun _ h9 => h9) rfl dX11_turnOrder_142 ?_
              refine jtopr m57 ?_
              exact by
               refine jcallS (As := [.ref (ad 1), .int (σ 16 0)]) (rest := []) ⟨hx, hb, hml, hown, hts⟩ hK hP hA hS hZ (c_X6_turnOn l D cI cL ad zz hJ σ48 τ (σ 16 0) ((σ 16 0).toInt) rfl (by omega)) cw_RX11_340 ⟨Nat.le_of_ble_eq_true rfl, Nat.le_of_ble_eq_true rfl⟩ rfl rfl rfl hl.1 rfl (Nat.le_of_ble_eq_true rfl) dX11_turnOrder_145 ⟨Nat.zero_le _, Nat.zero_le _⟩ (fun r62 σ61 τ61 H locs h61 hP hS => ?_)
               obtain ⟨rfl, f63, h61⟩ := h61
               refine lv_istore (lv' := [(5, .int r62), (3, .int r59), (4, .int r56), (8, .int r59), (7, .int r56), (6, .int x30), (2, .int r12), (0, .ref (ad 0)), (1, .int a1)]) hx hb dX11_turnOrder_148 hl (of_decide_eq_true rfl) rfl (fun ls hl => ?_)
               obtain ⟨x65, ex65⟩ : ∃ y : Int32, y = x30 + 1 := ⟨_, rfl⟩
               have tx65 : x65.toInt = x30.toInt + 1 := (jadd ex65 rfl jz_1 (by omega) (by omega)).trans (by omega)
               refine lv_iinc (v := x65) (lv' := [(6, .int x65), (5, .int r62), (3, .int r59), (4, .int r56), (8, .int r59), (7, .int r56), (2, .int r12), (0, .ref (ad 0)), (1, .int a1)]) hx hb dX11_turnOrder_150 hl (k := 5) rfl (by rw [ex65]; rfl) (of_decide_eq_true rfl) rfl (fun ls hl => ?_)
               refine lv_goto (tgt := 52) hx hb dX11_turnOrder_153 (of_decide_eq_true rfl) ?_
               have I66 : jI31 σ61 := jI31_fr (congrFun (f63 31 (of_decide_eq_true rfl)) 8) (f63 33 (of_decide_eq_true rfl)) (f63 36 (of_decide_eq_true rfl)) I52
               exact by exact ihlp25 r59 r56 r62 x65 σ61 _ _ ls (by have h93 := tx65; omega) (by have h93 := tx65; omega) (by have h93 := tx65; omega) (fun i hi => ((f63 i (imp_140 i hi)).trans ((f50 i (imp_141 i hi)).trans (f39 i hi)))) (fun i hi => ((congrFun (f63 31 (of_decide_eq_true rfl)) i).trans ((f51 i hi).trans (f40 i hi))))  I66 hP hS (lv_sub hl [0, 1, 3, 2, 6, 7, 8] rfl)
            · exact by
               have kc60 := jnlt c60 rfl rfl
               refine lv_iload hx hb dX11_turnOrder_114 (lv_at hl 1 rfl) ?_
               refine lv_iload hx hb dX11_turnOrder_116 (lv_at hl 4 rfl) ?_
               refine lv_icmp_ne (tgt := 134) hx hb dX11_turnOrder_118 (of_decide_eq_true rfl) (fun c67 => ?_) (fun c67 => ?_)
               · have kc67 := jne c67 rfl rfl
                 refine lv_aload_n hx hb dX11_turnOrder_134 rfl (lv_at hl 7 rfl) ?_
                 refine va_get (D := D) hx hb hts inlX11 hown hK hP 0 (jc_0 cI cL ad σ48 τ) rfl 11 (of_decide_eq_true rfl) (hts _ kw_3_7) (fun _ h9 => h9) rfl dX11_turnOrder_135 ?_
                 refine lv_aload_n hx hb dX11_turnOrder_138 rfl (lv_at hl 7 rfl) ?_
                 refine va_get (D := D) hx hb hts inlX11 hown hK hP 0 (jc_0 cI cL ad σ48 τ) rfl 2 (of_decide_eq_true rfl) (hts _ kw_2_0) (fun _ h9 => h9) rfl dX11_turnOrder_139 ?_
                 refine va_get (D := D) hx hb hts inlX6 hown hK hP 16 (jc_16 cI cL ad σ48 τ) rfl 0 (of_decide_eq_true rfl) (hts _ kw_13_12) (fun _ h9 => h9) rfl dX11_turnOrder_142 ?_
                 refine jtopr m57 ?_
                 exact by
                  refine jcallS (As := [.ref (ad 1), .int (σ 16 0)]) (rest := []) ⟨hx, hb, hml, hown, hts⟩ hK hP hA hS hZ (c_X6_turnOn l D cI cL ad zz hJ σ48 τ (σ 16 0) ((σ 16 0).toInt) rfl (by omega)) cw_RX11_340 ⟨Nat.le_of_ble_eq_true rfl, Nat.le_of_ble_eq_true rfl⟩ rfl rfl rfl hl.1 rfl (Nat.le_of_ble_eq_true rfl) dX11_turnOrder_145 ⟨Nat.zero_le _, Nat.zero_le _⟩ (fun r69 σ68 τ68 H locs h68 hP hS => ?_)
                  obtain ⟨rfl, f70, h68⟩ := h68
                  refine lv_istore (lv' := [(5, .int r69), (8, .int r59), (7, .int r56), (6, .int x30), (4, .int x28), (3, .int x27), (2, .int r12), (0, .ref (ad 0)), (1, .int a1)]) hx hb dX11_turnOrder_148 hl (of_decide_eq_true rfl) rfl (fun ls hl => ?_)
                  obtain ⟨x72, ex72⟩ : ∃ y : Int32, y = x30 + 1 := ⟨_, rfl⟩
                  have tx72 : x72.toInt = x30.toInt + 1 := (jadd ex72 rfl jz_1 (by omega) (by omega)).trans (by omega)
                  refine lv_iinc (v := x72) (lv' := [(6, .int x72), (5, .int r69), (8, .int r59), (7, .int r56), (4, .int x28), (3, .int x27), (2, .int r12), (0, .ref (ad 0)), (1, .int a1)]) hx hb dX11_turnOrder_150 hl (k := 3) rfl (by rw [ex72]; rfl) (of_decide_eq_true rfl) rfl (fun ls hl => ?_)
                  refine lv_goto (tgt := 52) hx hb dX11_turnOrder_153 (of_decide_eq_true rfl) ?_
                  have I73 : jI31 σ68 := jI31_fr (congrFun (f70 31 (of_decide_eq_true rfl)) 8) (f70 33 (of_decide_eq_true rfl)) (f70 36 (of_decide_eq_true rfl)) I52
                  exact by exact ihlp25 x27 x28 r69 x72 σ68 _ _ ls (by have h93 := tx72; omega) (by have h93 := tx72; omega) (by have h93 := tx72; omega) (fun i hi => ((f70 i (imp_140 i hi)).trans ((f50 i (imp_141 i hi)).trans (f39 i hi)))) (fun i hi => ((congrFun (f70 31 (of_decide_eq_true rfl)) i).trans ((f51 i hi).trans (f40 i hi))))  I73 hP hS (lv_sub hl [0, 1, 4, 5, 6, 7, 8] rfl)
               · exact by
                  have kc67 := jeq c67 rfl rfl
                  refine lv_iload hx hb dX11_turnOrder_121 (lv_at hl 0 rfl) ?_
                  refine lv_iload_n hx hb dX11_turnOrder_123 rfl (lv_at hl 5 rfl) ?_
                  refine lv_icmp_ge (tgt := 134) hx hb dX11_turnOrder_124 (of_decide_eq_true rfl) (fun c74 => ?_) (fun c74 => ?_)
                  · have kc74 := jle c74 rfl rfl
                    refine lv_aload_n hx hb dX11_turnOrder_134 rfl (lv_at hl 7 rfl) ?_
                    refine va_get (D := D) hx hb hts inlX11 hown hK hP 0 (jc_0 cI cL ad σ48 τ) rfl 11 (of_decide_eq_true rfl) (hts _ kw_3_7) (fun _ h9 => h9) rfl dX11_turnOrder_135 ?_
                    refine lv_aload_n hx hb dX11_turnOrder_138 rfl (lv_at hl 7 rfl) ?_
                    refine va_get (D := D) hx hb hts inlX11 hown hK hP 0 (jc_0 cI cL ad σ48 τ) rfl 2 (of_decide_eq_true rfl) (hts _ kw_2_0) (fun _ h9 => h9) rfl dX11_turnOrder_139 ?_
                    refine va_get (D := D) hx hb hts inlX6 hown hK hP 16 (jc_16 cI cL ad σ48 τ) rfl 0 (of_decide_eq_true rfl) (hts _ kw_13_12) (fun _ h9 => h9) rfl dX11_turnOrder_142 ?_
                    refine jtopr m57 ?_
                    exact by
                     refine jcallS (As := [.ref (ad 1), .int (σ 16 0)]) (rest := []) ⟨hx, hb, hml, hown, hts⟩ hK hP hA hS hZ (c_X6_turnOn l D cI cL ad zz hJ σ48 τ (σ 16 0) ((σ 16 0).toInt) rfl (by omega)) cw_RX11_340 ⟨Nat.le_of_ble_eq_true rfl, Nat.le_of_ble_eq_true rfl⟩ rfl rfl rfl hl.1 rfl (Nat.le_of_ble_eq_true rfl) dX11_turnOrder_145 ⟨Nat.zero_le _, Nat.zero_le _⟩ (fun r76 σ75 τ75 H locs h75 hP hS => ?_)
                     obtain ⟨rfl, f77, h75⟩ := h75
                     refine lv_istore (lv' := [(5, .int r76), (8, .int r59), (7, .int r56), (6, .int x30), (4, .int x28), (3, .int x27), (2, .int r12), (0, .ref (ad 0)), (1, .int a1)]) hx hb dX11_turnOrder_148 hl (of_decide_eq_true rfl) rfl (fun ls hl => ?_)
                     obtain ⟨x79, ex79⟩ : ∃ y : Int32, y = x30 + 1 := ⟨_, rfl⟩
                     have tx79 : x79.toInt = x30.toInt + 1 := (jadd ex79 rfl jz_1 (by omega) (by omega)).trans (by omega)
                     refine lv_iinc (v := x79) (lv' := [(6, .int x79), (5, .int r76), (8, .int r59), (7, .int r56), (4, .int x28), (3, .int x27), (2, .int r12), (0, .ref (ad 0)), (1, .int a1)]) hx hb dX11_turnOrder_150 hl (k := 3) rfl (by rw [ex79]; rfl) (of_decide_eq_true rfl) rfl (fun ls hl => ?_)
                     refine lv_goto (tgt := 52) hx hb dX11_turnOrder_153 (of_decide_eq_true rfl) ?_
                     have I80 : jI31 σ75 := jI31_fr (congrFun (f77 31 (of_decide_eq_true rfl)) 8) (f77 33 (of_decide_eq_true rfl)) (f77 36 (of_decide_eq_true rfl)) I52
                     exact by exact ihlp25 x27 x28 r76 x79 σ75 _ _ ls (by have h93 := tx79; omega) (by have h93 := tx79; omega) (by have h93 := tx79; omega) (fun i hi => ((f77 i (imp_140 i hi)).trans ((f50 i (imp_141 i hi)).trans (f39 i hi)))) (fun i hi => ((congrFun (f77 31 (of_decide_eq_true rfl)) i).trans ((f51 i hi).trans (f40 i hi))))  I80 hP hS (lv_sub hl [0, 1, 4, 5, 6, 7, 8] rfl)
                  · exact by
                     have kc74 := jnle c74 rfl rfl
                     refine lv_iload hx hb dX11_turnOrder_127 (lv_at hl 1 rfl) ?_
                     refine lv_istore (lv' := [(4, .int r56), (8, .int r59), (7, .int r56), (6, .int x30), (5, .int x29), (3, .int x27), (2, .int r12), (0, .ref (ad 0)), (1, .int a1)]) hx hb dX11_turnOrder_129 hl (of_decide_eq_true rfl) rfl (fun ls hl => ?_)
                     refine lv_iload hx hb dX11_turnOrder_131 (lv_at hl 1 rfl) ?_
                     refine lv_istore_n (lv' := [(3, .int r59), (4, .int r56), (8, .int r59), (7, .int r56), (6, .int x30), (5, .int x29), (2, .int r12), (0, .ref (ad 0)), (1, .int a1)]) hx hb dX11_turnOrder_133 rfl hl (of_decide_eq_true rfl) rfl (fun ls hl => ?_)
                     refine lv_aload_n hx hb dX11_turnOrder_134 rfl (lv_at hl 7 rfl) ?_
                     refine va_get (D := D) hx hb hts inlX11 hown hK hP 0 (jc_0 cI cL ad σ48 τ) rfl 11 (of_decide_eq_true rfl) (hts _ kw_3_7) (fun _ h9 => h9) rfl dX11_turnOrder_135 ?_
                     refine lv_aload_n hx hb dX11_turnOrder_138 rfl (lv_at hl 7 rfl) ?_
                     refine va_get (D := D) hx hb hts inlX11 hown hK hP 0 (jc_0 cI cL ad σ48 τ) rfl 2 (of_decide_eq_true rfl) (hts _ kw_2_0) (fun _ h9 => h9) rfl dX11_turnOrder_139 ?_
                     refine va_get (D := D) hx hb hts inlX6 hown hK hP 16 (jc_16 cI cL ad σ48 τ) rfl 0 (of_decide_eq_true rfl) (hts _ kw_13_12) (fun _ h9 => h9) rfl dX11_turnOrder_142 ?_
                     refine jtopr m57 ?_
                     exact by
                      refine jcallS (As := [.ref (ad 1), .int (σ 16 0)]) (rest := []) ⟨hx, hb, hml, hown, hts⟩ hK hP hA hS hZ (c_X6_turnOn l D cI cL ad zz hJ σ48 τ (σ 16 0) ((σ 16 0).toInt) rfl (by omega)) cw_RX11_340 ⟨Nat.le_of_ble_eq_true rfl, Nat.le_of_ble_eq_true rfl⟩ rfl rfl rfl hl.1 rfl (Nat.le_of_ble_eq_true rfl) dX11_turnOrder_145 ⟨Nat.zero_le _, Nat.zero_le _⟩ (fun r82 σ81 τ81 H locs h81 hP hS => ?_)
                      obtain ⟨rfl, f83, h81⟩ := h81
                      refine lv_istore (lv' := [(5, .int r82), (3, .int r59), (4, .int r56), (8, .int r59), (7, .int r56), (6, .int x30), (2, .int r12), (0, .ref (ad 0)), (1, .int a1)]) hx hb dX11_turnOrder_148 hl (of_decide_eq_true rfl) rfl (fun ls hl => ?_)
                      obtain ⟨x85, ex85⟩ : ∃ y : Int32, y = x30 + 1 := ⟨_, rfl⟩
                      have tx85 : x85.toInt = x30.toInt + 1 := (jadd ex85 rfl jz_1 (by omega) (by omega)).trans (by omega)
                      refine lv_iinc (v := x85) (lv' := [(6, .int x85), (5, .int r82), (3, .int r59), (4, .int r56), (8, .int r59), (7, .int r56), (2, .int r12), (0, .ref (ad 0)), (1, .int a1)]) hx hb dX11_turnOrder_150 hl (k := 5) rfl (by rw [ex85]; rfl) (of_decide_eq_true rfl) rfl (fun ls hl => ?_)
                      refine lv_goto (tgt := 52) hx hb dX11_turnOrder_153 (of_decide_eq_true rfl) ?_
                      have I86 : jI31 σ81 := jI31_fr (congrFun (f83 31 (of_decide_eq_true rfl)) 8) (f83 33 (of_decide_eq_true rfl)) (f83 36 (of_decide_eq_true rfl)) I52
                      exact by exact ihlp25 r59 r56 r82 x85 σ81 _ _ ls (by have h93 := tx85; omega) (by have h93 := tx85; omega) (by have h93 := tx85; omega) (fun i hi => ((f83 i (imp_140 i hi)).trans ((f50 i (imp_141 i hi)).trans (f39 i hi)))) (fun i hi => ((congrFun (f83 31 (of_decide_eq_true rfl)) i).trans ((f51 i hi).trans (f40 i hi))))  I86 hP hS (lv_sub hl [0, 1, 3, 2, 6, 7, 8] rfl)
   exact by exact lp25 1000000 0 (-1) x15 0 σ21 _ _ ls (by have h90 := jz_0; have h91 := jz_m1; have h92 := tx15; have h93 := jz_0; omega) (by have h90 := jz_0; have h91 := jz_m1; have h92 := tx15; have h93 := jz_0; omega) (by have h90 := jz_0; have h91 := jz_m1; have h92 := tx15; have h93 := jz_0; omega) (fun _ _ => rfl) (fun _ _ => rfl)  I34 hP hS hl
set_option maxHeartbeats 4000000 in
set_option maxRecDepth 100000 in
theorem c_X11_theirs (l : Launch) (D : va_G) (cI cL : ClassId) (ad zz : Nat → Nat) (hJ : jD ad) (σ : Nat → Nat → Int32) (τ : Nat → Nat → Int64) (a1 : Int32) (A1 : Int) (t1 : a1.toInt = A1) (hI2 : jI2 σ) (hI16 : jI16 σ) (hI22 : jI22 σ) (hI31 : jI31 σ) : jM l yX11_theirs cX11_theirs 2 (some .int) ({ frames := 6, cells := 0, slots := 0, locals := 167 }) D cI cL ad zz [.ref (ad 0), .int a1] σ τ (fun r σ' τ' => τ = τ' ∧ (∀ i : Nat, (i < 1 ∨ 1 < i) ∧ (i < 24 ∨ 25 < i) ∧ (i < 27 ∨ 37 < i) → σ' i = σ i) ∧ (∀ k : Nat, (k < 8 ∨ 8 < k) ∧ (k < 9 ∨ 9 < k) ∧ (k < 10 ∨ 10 < k) ∧ (k < 11 ∨ 11 < k) ∧ (k < 12 ∨ 12 < k) → σ' 31 k = σ 31 k) ∧ (jI31 σ') ∧ True) := by
  refine jM.of hJ (by decide +kernel) (nt := .int) rfl (Nat.le_of_ble_eq_true rfl) ?_
  intro p e s m args below meth c Q ls hC hret hl hP
  obtain ⟨hx, hb, hr, hml, hown, hts, hK, -, hlocks, hZ⟩ := hC
  have hown : s.vm.findClass RX11 = some m.cls := hown
  have hS : va_S (jA ad) s.heap s.heap [] := va_S.rf
  have hA : ∀ q, jA ad q → jA ad q := fun _ h => h
  have hl : lv_has ls 2 [(0, .ref (ad 0)), (1, .int a1)] := hl
  have g1 := jrg t1
  obtain ⟨i1, i2, i3, w4⟩ : (1 ≤ (σ 16 0).toInt ∧ (σ 16 0).toInt ≤ 8) ∧ (1 ≤ (σ 16 1).toInt ∧ (σ 16 1).toInt ≤ 12) ∧ (0 ≤ (σ 16 2).toInt ∧ (σ 16 2).toInt ≤ 999) ∧ (∀ k : Nat, k < 8 → 0 ≤ (σ 17 k).toInt ∧ (σ 17 k).toInt ≤ 3) := id hI16
  refine lv_iload_n hx hb dX11_theirs_0 rfl (lv_at hl 1 rfl) ?_
  refine lv_iconst (v := 0) hx hb dX11_theirs_1 (of_decide_eq_true rfl) ?_
  refine lv_iconst (v := 1) hx hb dX11_theirs_2 (of_decide_eq_true rfl) ?_
  refine jcallS (As := [.int a1, .int 0, .int 1]) (rest := []) ⟨hx, hb, hml, hown, hts⟩ hK hP hA hS hZ (c_X11_outside l D cI cL ad zz hJ σ τ a1 (A1) t1 0 (0) jz_0 1 (1) jz_1) cw_RX11_94 ⟨Nat.le_of_ble_eq_true rfl, Nat.le_of_ble_eq_true rfl⟩ rfl rfl rfl hl.1 rfl (Nat.le_of_ble_eq_true rfl) dX11_theirs_3 ⟨Nat.zero_le _, Nat.zero_le _⟩ (fun r6 σ5 τ5 H locs h5 hP hS => ?_)
  obtain ⟨⟨rfl, rfl⟩, h5⟩ := h5
  rcases h5 with h7 | h8
  · obtain ⟨q10, k9⟩ := h7
    have q10 := q10.symm
    subst q10
    refine lv_if_eq (tgt := 11) hx hb dX11_theirs_6 (of_decide_eq_true rfl) (fun c => absurd c (of_decide_eq_true rfl)) (fun _ => ?_)
    refine lv_iconst (v := (-1)) hx hb dX11_theirs_9 (of_decide_eq_true rfl) ?_
    exact hret (-1) σ τ _ _ _ _ rfl ⟨rfl, (fun _ _ => rfl), (fun _ _ => rfl), hI31, trivial⟩ hP hS dX11_theirs_10
  · obtain ⟨q12, k11⟩ := h8
    have q12 := q12.symm
    subst q12
    refine lv_if_eq (tgt := 11) hx hb dX11_theirs_6 (of_decide_eq_true rfl) (fun _ => ?_) (fun c => absurd (of_decide_eq_true rfl) c)
    refine lv_aload_n hx hb dX11_theirs_11 rfl (lv_at hl 0 rfl) ?_
    refine va_get (D := D) hx hb hts inlX11 hown hK hP 0 (jc_0 cI cL ad σ τ) rfl 2 (of_decide_eq_true rfl) (hts _ kw_2_0) (fun _ h9 => h9) rfl dX11_theirs_12 ?_
    refine va_get (D := D) hx hb hts inlX6 hown hK hP 16 (jc_16 cI cL ad σ τ) rfl 0 (of_decide_eq_true rfl) (hts _ kw_13_12) (fun _ h9 => h9) rfl dX11_theirs_15 ?_
    refine lv_iconst (v := 5) hx hb dX11_theirs_18 (of_decide_eq_true rfl) ?_
    refine lv_icmp_gt (tgt := 34) hx hb dX11_theirs_19 (of_decide_eq_true rfl) (fun c13 => ?_) (fun c13 => ?_)
    · have kc13 := jlt c13 jz_5 rfl
      refine lv_bipush (v := (-4)) hx hb dX11_theirs_34 (of_decide_eq_true rfl) ?_
      exact hret (-4) σ τ _ _ _ _ rfl ⟨rfl, (fun _ _ => rfl), (fun _ _ => rfl), hI31, trivial⟩ hP hS dX11_theirs_36
    · have kc13 := jnlt c13 jz_5 rfl
      refine lv_aload_n hx hb dX11_theirs_22 rfl (lv_at hl 0 rfl) ?_
      refine va_get (D := D) hx hb hts inlX11 hown hK hP 0 (jc_0 cI cL ad σ τ) rfl 2 (of_decide_eq_true rfl) (hts _ kw_2_0) (fun _ h9 => h9) rfl dX11_theirs_23 ?_
      refine va_get (D := D) hx hb hts inlX6 hown hK hP 16 (jc_16 cI cL ad σ τ) rfl 1 (of_decide_eq_true rfl) (hts _ kw_20_5) (fun _ h9 => h9) rfl dX11_theirs_26 ?_
      refine lv_bipush (v := 8) hx hb dX11_theirs_29 (of_decide_eq_true rfl) ?_
      refine lv_icmp_le (tgt := 37) hx hb dX11_theirs_31 (of_decide_eq_true rfl) (fun c14 => ?_) (fun c14 => ?_)
      · have kc14 := jle c14 rfl jz_8
        refine lv_aload_n hx hb dX11_theirs_37 rfl (lv_at hl 0 rfl) ?_
        refine lv_iload_n hx hb dX11_theirs_38 rfl (lv_at hl 1 rfl) ?_
        refine jcallV (As := [.int a1]) (rest := []) ⟨hx, hb, hml, hown, hts⟩ hK hP hA hS hZ (c_X11_turnOrder l D cI cL ad zz hJ σ τ a1 (A1) t1 hI2 hI16 hI22 hI31) cw_RX11_235 (jc_0 cI cL ad σ τ) rfl ⟨Nat.le_of_ble_eq_true rfl, Nat.le_of_ble_eq_true rfl⟩ rfl rfl rfl hl.1 rfl (Nat.le_of_ble_eq_true rfl) dX11_theirs_39 ⟨Nat.zero_le _, Nat.zero_le _⟩ (fun r16 σ15 τ15 H locs h15 hP hS => ?_)
        obtain ⟨rfl, f17, f18, I19, h15⟩ := h15
        exact hret r16 σ15 τ _ _ _ _ rfl ⟨rfl, (fun i hi => (f17 i hi)), (fun i hi => (f18 i hi)), I19, trivial⟩ hP hS dX11_theirs_42
      · have kc14 := jnle c14 rfl jz_8
        refine lv_bipush (v := (-4)) hx hb dX11_theirs_34 (of_decide_eq_true rfl) ?_
        exact hret (-4) σ τ _ _ _ _ rfl ⟨rfl, (fun _ _ => rfl), (fun _ _ => rfl), hI31, trivial⟩ hP hS dX11_theirs_36
set_option maxHeartbeats 4000000 in
set_option maxRecDepth 100000 in
theorem c_X11_mayBeBooked (l : Launch) (D : va_G) (cI cL : ClassId) (ad zz : Nat → Nat) (hJ : jD ad) (σ : Nat → Nat → Int32) (τ : Nat → Nat → Int64) (a1 : Int32) (A1 : Int) (t1 : a1.toInt = A1) (hI2 : jI2 σ) (hI16 : jI16 σ) (hI47 : jI47 σ) : jM l yX11_mayBeBooked cX11_mayBeBooked 4 (some .boolean) ({ frames := 4, cells := 0, slots := 0, locals := 88 }) D cI cL ad zz [.ref (ad 0), .int a1] σ τ (fun r σ' τ' => (σ = σ' ∧ τ = τ') ∧ ((jOk (σ 3)) → ((r = 1 ∧ jMy (σ 48) (σ 49) (σ 3) ((σ 2 0).toInt) ((σ 47 0).toInt) ((σ 16 0).toInt) ((σ 16 1).toInt) a1) ∨ (r = 0 ∧ ¬ jMy (σ 48) (σ 49) (σ 3) ((σ 2 0).toInt) ((σ 47 0).toInt) ((σ 16 0).toInt) ((σ 16 1).toInt) a1))) ∧ True) := by
  refine jM.of hJ (by decide +kernel) (nt := .boolean) rfl (Nat.le_of_ble_eq_true rfl) ?_
  intro p e s m args below meth c Q ls hC hret hl hP
  obtain ⟨hx, hb, hr, hml, hown, hts, hK, -, hlocks, hZ⟩ := hC
  have hown : s.vm.findClass RX11 = some m.cls := hown
  have hS : va_S (jA ad) s.heap s.heap [] := va_S.rf
  have hA : ∀ q, jA ad q → jA ad q := fun _ h => h
  have hl : lv_has ls 4 [(0, .ref (ad 0)), (1, .int a1)] := hl
  have g1 := jrg t1
  obtain ⟨i1, w2, w3⟩ : (0 ≤ (σ 47 0).toInt ∧ (σ 47 0).toInt ≤ 12) ∧ (∀ k : Nat, k < 12 → 0 ≤ (σ 48 k).toInt ∧ (σ 48 k).toInt ≤ 3) ∧ (∀ k : Nat, k < 12 → 0 ≤ (σ 49 k).toInt ∧ (σ 49 k).toInt ≤ 1) := id hI47
  refine lv_aload_n hx hb dX11_mayBeBooked_0 rfl (lv_at hl 0 rfl) ?_
  refine va_get (D := D) hx hb hts inlX11 hown hK hP 0 (jc_0 cI cL ad σ τ) rfl 9 (of_decide_eq_true rfl) (hts _ kw_3_1) (fun _ h9 => h9) rfl dX11_mayBeBooked_1 ?_
  refine va_get (D := D) hx hb hts inlX2 hown hK hP 47 (jc_47 cI cL ad σ τ) rfl 0 (of_decide_eq_true rfl) (hts _ kw_13_11) (fun _ h9 => h9) rfl dX11_mayBeBooked_4 ?_
  refine lv_istore_n (lv' := [(2, .int (σ 47 0)), (0, .ref (ad 0)), (1, .int a1)]) hx hb dX11_mayBeBooked_7 rfl hl (of_decide_eq_true rfl) rfl (fun ls hl => ?_)
  refine lv_aload_n hx hb dX11_mayBeBooked_8 rfl (lv_at hl 1 rfl) ?_
  refine va_get (D := D) hx hb hts inlX11 hown hK hP 0 (jc_0 cI cL ad σ τ) rfl 9 (of_decide_eq_true rfl) (hts _ kw_3_1) (fun _ h9 => h9) rfl dX11_mayBeBooked_9 ?_
  refine lv_iload_n hx hb dX11_mayBeBooked_12 rfl (lv_at hl 0 rfl) ?_
  refine lv_aload_n hx hb dX11_mayBeBooked_13 rfl (lv_at hl 1 rfl) ?_
  refine va_get (D := D) hx hb hts inlX11 hown hK hP 0 (jc_0 cI cL ad σ τ) rfl 0 (of_decide_eq_true rfl) (hts _ kw_1_16) (fun _ h9 => h9) rfl dX11_mayBeBooked_14 ?_
  refine jcallV (As := [.int (σ 47 0), .ref (ad 2)]) (rest := []) ⟨hx, hb, hml, hown, hts⟩ hK hP hA hS hZ (c_X2_attackAhead_47 l D cI cL ad zz hJ σ τ (σ 47 0) ((σ 47 0).toInt) rfl hI2 hI47) cw_RX11_186 (jc_47 cI cL ad σ τ) rfl ⟨Nat.le_of_ble_eq_true rfl, Nat.le_of_ble_eq_true rfl⟩ rfl rfl rfl hl.1 rfl (Nat.le_of_ble_eq_true rfl) dX11_mayBeBooked_17 ⟨Nat.zero_le _, Nat.zero_le _⟩ (fun r5 σ4 τ4 H locs h4 hP hS => ?_)
  obtain ⟨⟨rfl, rfl⟩, w6, h4⟩ := h4
  refine lv_istore_n (lv' := [(3, .int r5), (2, .int (σ 47 0)), (0, .ref (ad 0)), (1, .int a1)]) hx hb dX11_mayBeBooked_20 rfl hl (of_decide_eq_true rfl) rfl (fun ls hl => ?_)
  refine lv_aload_n hx hb dX11_mayBeBooked_21 rfl (lv_at hl 2 rfl) ?_
  refine va_get (D := D) hx hb hts inlX11 hown hK hP 0 (jc_0 cI cL ad σ τ) rfl 2 (of_decide_eq_true rfl) (hts _ kw_2_0) (fun _ h9 => h9) rfl dX11_mayBeBooked_22 ?_
  refine lv_iload_n hx hb dX11_mayBeBooked_25 rfl (lv_at hl 1 rfl) ?_
  refine lv_aload_n hx hb dX11_mayBeBooked_26 rfl (lv_at hl 2 rfl) ?_
  refine va_get (D := D) hx hb hts inlX11 hown hK hP 0 (jc_0 cI cL ad σ τ) rfl 9 (of_decide_eq_true rfl) (hts _ kw_3_1) (fun _ h9 => h9) rfl dX11_mayBeBooked_27 ?_
  refine lv_iload_n hx hb dX11_mayBeBooked_30 rfl (lv_at hl 1 rfl) ?_
  refine jcallV (As := [.int (σ 47 0)]) (rest := [.int (σ 47 0), .ref (ad 16)]) ⟨hx, hb, hml, hown, hts⟩ hK hP hA hS hZ (c_X2_outs_47 l D cI cL ad zz hJ σ τ (σ 47 0) ((σ 47 0).toInt) rfl hI47) cw_RX11_180 (jc_47 cI cL ad σ τ) rfl ⟨Nat.le_of_ble_eq_true rfl, Nat.le_of_ble_eq_true rfl⟩ rfl rfl rfl hl.1 rfl (Nat.le_of_ble_eq_true rfl) dX11_mayBeBooked_31 ⟨Nat.zero_le _, Nat.zero_le _⟩ (fun r8 σ7 τ7 H locs h7 hP hS => ?_)
  obtain ⟨⟨rfl, rfl⟩, w9, h7⟩ := h7
  have h10 := h7
  obtain ⟨q12, k11⟩ := h10
  refine lv_iload_n hx hb dX11_mayBeBooked_34 rfl (lv_at hl 0 rfl) ?_
  refine jcallV (As := [.int (σ 47 0), .int r8, .int r5]) (rest := []) ⟨hx, hb, hml, hown, hts⟩ hK hP hA hS hZ (c_X6_ended_16 l D cI cL ad zz hJ σ τ (σ 47 0) ((σ 47 0).toInt) rfl r8 (r8.toInt) rfl r5 (r5.toInt) rfl) cw_RX11_190 (jc_16 cI cL ad σ τ) rfl ⟨Nat.le_of_ble_eq_true rfl, Nat.le_of_ble_eq_true rfl⟩ rfl rfl rfl hl.1 rfl (Nat.le_of_ble_eq_true rfl) dX11_mayBeBooked_35 ⟨Nat.zero_le _, Nat.zero_le _⟩ (fun r14 σ13 τ13 H locs h13 hP hS => ?_)
  obtain ⟨⟨rfl, rfl⟩, w15, h13⟩ := h13
  refine lv_if_ne (tgt := 53) hx hb dX11_mayBeBooked_38 (of_decide_eq_true rfl) (fun c16 => ?_) (fun c16 => ?_)
  · have kc16 := jne c16 rfl jz_0
    refine lv_iconst (v := 0) hx hb dX11_mayBeBooked_53 (of_decide_eq_true rfl) ?_
    exact by exact hret 0 σ τ _ _ _ _ rfl ⟨⟨rfl, rfl⟩, (fun ok => by have k17 := w6 (by omega) (by omega) ok; have c18 := w9 (by omega) (by omega); exact Or.inr ⟨rfl, fun w => absurd (w15.2 (by have e := w.1; omega) w.2.1 _ (k17.mb.mp w.2.2)) (by first | decide | omega)⟩), trivial⟩ hP hS dX11_mayBeBooked_54
  · have kc16 := jeq c16 rfl jz_0
    refine lv_iload_n hx hb dX11_mayBeBooked_41 rfl (lv_at hl 0 rfl) ?_
    refine lv_iload_n hx hb dX11_mayBeBooked_42 rfl (lv_at hl 3 rfl) ?_
    refine jcallS (As := [.int r5, .int a1]) (rest := []) ⟨hx, hb, hml, hown, hts⟩ hK hP hA hS hZ (c_X0_mayBowl l D cI cL ad zz hJ σ τ r5 (r5.toInt) rfl a1 (A1) t1) cw_RX11_325 ⟨Nat.le_of_ble_eq_true rfl, Nat.le_of_ble_eq_true rfl⟩ rfl rfl rfl hl.1 rfl (Nat.le_of_ble_eq_true rfl) dX11_mayBeBooked_43 ⟨Nat.zero_le _, Nat.zero_le _⟩ (fun r20 σ19 τ19 H locs h19 hP hS => ?_)
    obtain ⟨⟨rfl, rfl⟩, w21, h19⟩ := h19
    refine lv_if_eq (tgt := 53) hx hb dX11_mayBeBooked_46 (of_decide_eq_true rfl) (fun c22 => ?_) (fun c22 => ?_)
    · have kc22 := jeq c22 rfl jz_0
      refine lv_iconst (v := 0) hx hb dX11_mayBeBooked_53 (of_decide_eq_true rfl) ?_
      exact by exact hret 0 σ τ _ _ _ _ rfl ⟨⟨rfl, rfl⟩, (fun ok => by have k23 := w6 (by omega) (by omega) ok; have c24 := w9 (by omega) (by omega); exact w21.elim (fun z => absurd (congrArg Int32.toInt z.1) (by rw [jz_1]; omega)) (fun z => Or.inr ⟨rfl, fun w => z.2 (k23.mb.mp w.2.2)⟩)), trivial⟩ hP hS dX11_mayBeBooked_54
    · have kc22 := jne c22 rfl jz_0
      refine lv_iconst (v := 1) hx hb dX11_mayBeBooked_49 (of_decide_eq_true rfl) ?_
      refine lv_goto (tgt := 54) hx hb dX11_mayBeBooked_50 (of_decide_eq_true rfl) ?_
      exact by exact hret 1 σ τ _ _ _ _ rfl ⟨⟨rfl, rfl⟩, (fun ok => by have k25 := w6 (by omega) (by omega) ok; have c26 := w9 (by omega) (by omega); exact w21.elim (fun z => Or.inl ⟨rfl, by have e := w15.1 (by first | rfl | omega); omega, by have e := w15.1 (by first | rfl | omega); omega, k25.mb.mpr z.2⟩) (fun z => absurd (congrArg Int32.toInt z.1) (by rw [jz_0]; omega))), trivial⟩ hP hS dX11_mayBeBooked_54
set_option maxHeartbeats 4000000 in
set_option maxRecDepth 100000 in
theorem c_X11_book (l : Launch) (D : va_G) (cI cL : ClassId) (ad zz : Nat → Nat) (hJ : jD ad) (σ : Nat → Nat → Int32) (τ : Nat → Nat → Int64) (a1 : Int32) (A1 : Int) (t1 : a1.toInt = A1) (a2 : Int32) (A2 : Int) (t2 : a2.toInt = A2) (hI2 : jI2 σ) (hI16 : jI16 σ) (hI47 : jI47 σ) : jM l yX11_book cX11_book 3 (some .int) ({ frames := 5, cells := 0, slots := 0, locals := 111 }) D cI cL ad zz [.ref (ad 0), .int a1, .int a2] σ τ (fun r σ' τ' => τ = τ' ∧ (∀ i : Nat, (i < 47 ∨ 49 < i) → σ' i = σ i) ∧ (∀ k : Nat, (k < 0 ∨ 0 < k) → σ' 47 k = σ 47 k) ∧ (jI47 σ') ∧ ((jOk (σ 3) → jBo (0 ≤ A1 ∧ A1 < (σ 2 0).toInt ∧ 0 ≤ A2 ∧ A2 ≤ 1) (jMy (σ 48) (σ 49) (σ 3) ((σ 2 0).toInt) ((σ 47 0).toInt) ((σ 16 0).toInt) ((σ 16 1).toInt) a1) (r.toInt) ((σ 47 0).toInt) ((σ' 47 0).toInt) a1 a2 (σ 48) (σ' 48) (σ 49) (σ' 49))) ∧ True) := by
  refine jM.of hJ (by decide +kernel) (nt := .int) rfl (Nat.le_of_ble_eq_true rfl) ?_
  intro p e s m args below meth c Q ls hC hret hl hP
  obtain ⟨hx, hb, hr, hml, hown, hts, hK, -, hlocks, hZ⟩ := hC
  have hown : s.vm.findClass RX11 = some m.cls := hown
  have hS : va_S (jA ad) s.heap s.heap [] := va_S.rf
  have hA : ∀ q, jA ad q → jA ad q := fun _ h => h
  have hl : lv_has ls 3 [(0, .ref (ad 0)), (1, .int a1), (2, .int a2)] := hl
  have g1 := jrg t1
  have g2 := jrg t2
  obtain ⟨i1, i2, i3, i4, i5, w6⟩ : (0 ≤ (σ 2 0).toInt ∧ (σ 2 0).toInt ≤ 4) ∧ (0 ≤ (σ 2 1).toInt ∧ (σ 2 1).toInt ≤ 3) ∧ (0 ≤ (σ 2 2).toInt) ∧ (0 ≤ (σ 2 3).toInt) ∧ ((σ 2 2).toInt + (σ 2 3).toInt ≤ 40) ∧ (∀ k : Nat, k < 40 → 0 ≤ (σ 6 k).toInt ∧ (σ 6 k).toInt ≤ 67) := id hI2
  obtain ⟨i7, i8, i9, w10⟩ : (1 ≤ (σ 16 0).toInt ∧ (σ 16 0).toInt ≤ 8) ∧ (1 ≤ (σ 16 1).toInt ∧ (σ 16 1).toInt ≤ 12) ∧ (0 ≤ (σ 16 2).toInt ∧ (σ 16 2).toInt ≤ 999) ∧ (∀ k : Nat, k < 8 → 0 ≤ (σ 17 k).toInt ∧ (σ 17 k).toInt ≤ 3) := id hI16
  obtain ⟨i11, w12, w13⟩ : (0 ≤ (σ 47 0).toInt ∧ (σ 47 0).toInt ≤ 12) ∧ (∀ k : Nat, k < 12 → 0 ≤ (σ 48 k).toInt ∧ (σ 48 k).toInt ≤ 3) ∧ (∀ k : Nat, k < 12 → 0 ≤ (σ 49 k).toInt ∧ (σ 49 k).toInt ≤ 1) := id hI47
  refine lv_aload_n hx hb dX11_book_0 rfl (lv_at hl 0 rfl) ?_
  refine lv_iload_n hx hb dX11_book_1 rfl (lv_at hl 1 rfl) ?_
  refine jcallV (As := [.int a1]) (rest := []) ⟨hx, hb, hml, hown, hts⟩ hK hP hA hS hZ (c_X11_noBowler l D cI cL ad zz hJ σ τ a1 (A1) t1 hI2) cw_RX11_152 (jc_0 cI cL ad σ τ) rfl ⟨Nat.le_of_ble_eq_true rfl, Nat.le_of_ble_eq_true rfl⟩ rfl rfl rfl hl.1 rfl (Nat.le_of_ble_eq_true rfl) dX11_book_2 ⟨Nat.zero_le _, Nat.zero_le _⟩ (fun r15 σ14 τ14 H locs h14 hP hS => ?_)
  obtain ⟨⟨rfl, rfl⟩, h14⟩ := h14
  rcases h14 with h16 | h17
  · obtain ⟨q19, k18⟩ := h16
    have q19 := q19.symm
    subst q19
    refine lv_if_ne (tgt := 17) hx hb dX11_book_5 (of_decide_eq_true rfl) (fun _ => ?_) (fun c => absurd c (of_decide_eq_true rfl))
    refine lv_iconst (v := (-1)) hx hb dX11_book_17 (of_decide_eq_true rfl) ?_
    exact hret (-1) σ τ _ _ _ _ rfl ⟨rfl, (fun _ _ => rfl), (fun _ _ => rfl), hI47, (fun ok => Or.inl ⟨(by have h9 := jz_m1; omega), (fun w => by omega), by omega, rfl, rfl⟩), trivial⟩ hP hS dX11_book_18
  · obtain ⟨q21, k20⟩ := h17
    have q21 := q21.symm
    subst q21
    refine lv_if_ne (tgt := 17) hx hb dX11_book_5 (of_decide_eq_true rfl) (fun c => absurd (of_decide_eq_true rfl) c) (fun _ => ?_)
    refine lv_iload_n hx hb dX11_book_8 rfl (lv_at hl 2 rfl) ?_
    refine lv_iconst (v := 0) hx hb dX11_book_9 (of_decide_eq_true rfl) ?_
    refine lv_iconst (v := 1) hx hb dX11_book_10 (of_decide_eq_true rfl) ?_
    refine jcallS (As := [.int a2, .int 0, .int 1]) (rest := []) ⟨hx, hb, hml, hown, hts⟩ hK hP hA hS hZ (c_X11_outside l D cI cL ad zz hJ σ τ a2 (A2) t2 0 (0) jz_0 1 (1) jz_1) cw_RX11_94 ⟨Nat.le_of_ble_eq_true rfl, Nat.le_of_ble_eq_true rfl⟩ rfl rfl rfl hl.1 rfl (Nat.le_of_ble_eq_true rfl) dX11_book_11 ⟨Nat.zero_le _, Nat.zero_le _⟩ (fun r23 σ22 τ22 H locs h22 hP hS => ?_)
    obtain ⟨⟨rfl, rfl⟩, h22⟩ := h22
    rcases h22 with h24 | h25
    · obtain ⟨q27, k26⟩ := h24
      have q27 := q27.symm
      subst q27
      refine lv_if_eq (tgt := 19) hx hb dX11_book_14 (of_decide_eq_true rfl) (fun c => absurd c (of_decide_eq_true rfl)) (fun _ => ?_)
      refine lv_iconst (v := (-1)) hx hb dX11_book_17 (of_decide_eq_true rfl) ?_
      exact hret (-1) σ τ _ _ _ _ rfl ⟨rfl, (fun _ _ => rfl), (fun _ _ => rfl), hI47, (fun ok => Or.inl ⟨(by have h9 := jz_m1; omega), (fun w => by omega), by omega, rfl, rfl⟩), trivial⟩ hP hS dX11_book_18
    · obtain ⟨q29, k28⟩ := h25
      have q29 := q29.symm
      subst q29
      refine lv_if_eq (tgt := 19) hx hb dX11_book_14 (of_decide_eq_true rfl) (fun _ => ?_) (fun c => absurd (of_decide_eq_true rfl) c)
      refine lv_aload_n hx hb dX11_book_19 rfl (lv_at hl 0 rfl) ?_
      refine lv_iload_n hx hb dX11_book_20 rfl (lv_at hl 1 rfl) ?_
      refine jcallV (As := [.int a1]) (rest := []) ⟨hx, hb, hml, hown, hts⟩ hK hP hA hS hZ (c_X11_mayBeBooked l D cI cL ad zz hJ σ τ a1 (A1) t1 hI2 hI16 hI47) cw_RX11_243 (jc_0 cI cL ad σ τ) rfl ⟨Nat.le_of_ble_eq_true rfl, Nat.le_of_ble_eq_true rfl⟩ rfl rfl rfl hl.1 rfl (Nat.le_of_ble_eq_true rfl) dX11_book_21 ⟨Nat.zero_le _, Nat.zero_le _⟩ (fun r31 σ30 τ30 H locs h30 hP hS => ?_)
      obtain ⟨⟨rfl, rfl⟩, w32, h30⟩ := h30
      refine lv_if_ne (tgt := 30) hx hb dX11_book_24 (of_decide_eq_true rfl) (fun c33 => ?_) (fun c33 => ?_)
      · have kc33 := jne c33 rfl jz_0
        refine lv_aload_n hx hb dX11_book_30 rfl (lv_at hl 0 rfl) ?_
        refine va_get (D := D) hx hb hts inlX11 hown hK hP 0 (jc_0 cI cL ad σ τ) rfl 9 (of_decide_eq_true rfl) (hts _ kw_3_1) (fun _ h9 => h9) rfl dX11_book_31 ?_
        refine va_get (D := D) hx hb hts inlX2 hown hK hP 47 (jc_47 cI cL ad σ τ) rfl 0 (of_decide_eq_true rfl) (hts _ kw_13_11) (fun _ h9 => h9) rfl dX11_book_34 ?_
        refine lv_bipush (v := 12) hx hb dX11_book_37 (of_decide_eq_true rfl) ?_
        refine lv_icmp_lt (tgt := 45) hx hb dX11_book_39 (of_decide_eq_true rfl) (fun c34 => ?_) (fun c34 => ?_)
        · have kc34 := jlt c34 rfl jz_12
          refine lv_aload_n hx hb dX11_book_45 rfl (lv_at hl 0 rfl) ?_
          refine va_get (D := D) hx hb hts inlX11 hown hK hP 0 (jc_0 cI cL ad σ τ) rfl 9 (of_decide_eq_true rfl) (hts _ kw_3_1) (fun _ h9 => h9) rfl dX11_book_46 ?_
          refine lv_iload_n hx hb dX11_book_49 rfl (lv_at hl 1 rfl) ?_
          refine lv_iload_n hx hb dX11_book_50 rfl (lv_at hl 2 rfl) ?_
          exact by
           refine jcallV (As := [.int a1, .int a2]) (rest := []) ⟨hx, hb, hml, hown, hts⟩ hK hP hA hS hZ (c_X2_write_47 l D cI cL ad zz hJ σ τ a1 (A1) t1 a2 (A2) t2 hI47 (by omega) (by omega)) cw_RX11_246 (jc_47 cI cL ad σ τ) rfl ⟨Nat.le_of_ble_eq_true rfl, Nat.le_of_ble_eq_true rfl⟩ rfl rfl rfl hl.1 rfl (Nat.le_of_ble_eq_true rfl) dX11_book_51 ⟨Nat.zero_le _, Nat.zero_le _⟩ (fun r36 σ35 τ35 H locs h35 hP hS => ?_)
           obtain ⟨rfl, f37, f38, I39, h35⟩ := h35
           obtain ⟨i41, w42, w43⟩ : (0 ≤ (σ35 47 0).toInt ∧ (σ35 47 0).toInt ≤ 12) ∧ (∀ k : Nat, k < 12 → 0 ≤ (σ35 48 k).toInt ∧ (σ35 48 k).toInt ≤ 3) ∧ (∀ k : Nat, k < 12 → 0 ≤ (σ35 49 k).toInt ∧ (σ35 49 k).toInt ≤ 1) := id I39
           rcases h35 with h44 | h45
           · obtain ⟨q49, k46, k47, k48⟩ := h44
             exact absurd (by omega : False) id
           · obtain ⟨q54, k50, k51, k52, k53⟩ := h45
             exact by exact hret r36 σ35 τ _ _ _ _ rfl ⟨rfl, (fun i hi => (f37 i hi)), (fun i hi => (f38 i hi)), I39, (fun ok => Or.inr (Or.inr ⟨(by omega), ⟨by omega, by omega, by omega, by omega⟩, (w32 ok).elim (fun q => q.2) (fun q => absurd (congrArg Int32.toInt q.1) (by rw [jz_0]; omega)), by omega, k53.1, k53.2⟩)), trivial⟩ hP hS dX11_book_54
        · have kc34 := jnlt c34 rfl jz_12
          refine lv_bipush (v := (-3)) hx hb dX11_book_42 (of_decide_eq_true rfl) ?_
          exact by exact hret (-3) σ τ _ _ _ _ rfl ⟨rfl, (fun _ _ => rfl), (fun _ _ => rfl), hI47, (fun ok => (w32 ok).elim (fun q => False.elim (by have e := q.2.2.1; omega)) (fun q => absurd (congrArg Int32.toInt (show (r31 : Int32) = 0 from q.1)) (by rw [jz_0]; omega))), trivial⟩ hP hS dX11_book_44
      · have kc33 := jeq c33 rfl jz_0
        refine lv_bipush (v := (-5)) hx hb dX11_book_27 (of_decide_eq_true rfl) ?_
        exact by exact hret (-5) σ τ _ _ _ _ rfl ⟨rfl, (fun _ _ => rfl), (fun _ _ => rfl), hI47, (fun ok => Or.inr (Or.inl ⟨(by have h9 := jz_m5; omega), ⟨by omega, by omega, by omega, by omega⟩, (w32 ok).elim (fun q => absurd (congrArg Int32.toInt q.1) (by rw [jz_1]; omega)) (fun q => q.2), by omega, rfl, rfl⟩)), trivial⟩ hP hS dX11_book_29
set_option maxHeartbeats 4000000 in
set_option maxRecDepth 100000 in
theorem c_X11_books (l : Launch) (D : va_G) (cI cL : ClassId) (ad zz : Nat → Nat) (hJ : jD ad) (σ : Nat → Nat → Int32) (τ : Nat → Nat → Int64) (a1 : Int32) (A1 : Int) (t1 : a1.toInt = A1) (a2 : Int32) (A2 : Int) (t2 : a2.toInt = A2) (hI2 : jI2 σ) (hI16 : jI16 σ) (hI47 : jI47 σ) (hI50 : jI50 σ) : jM l yX11_books cX11_books 6 (some .int) ({ frames := 6, cells := 0, slots := 0, locals := 127 }) D cI cL ad zz [.ref (ad 0), .int a1, .int a2] σ τ (fun r σ' τ' => τ = τ' ∧ (∀ i : Nat, (i < 47 ∨ 49 < i) → σ' i = σ i) ∧ (∀ k : Nat, (k < 0 ∨ 0 < k) → σ' 47 k = σ 47 k) ∧ (jI47 σ') ∧ ((jOk (σ 3) → (0 ≤ A1 → A1 ≤ 5 → ((σ 51 a1.toNatClampNeg).toInt) = 0 → ∀ p : Nat, (p : Int) < ((σ 52 a1.toNatClampNeg).toInt) → -128 ≤ (τ 54 (60 * (A1) + (p : Int)).toNat).toInt ∧ (τ 54 (60 * (A1) + (p : Int)).toNat).toInt ≤ 127) → jBb (A1 < 0 ∨ 5 < A1) (((σ 51 a1.toNatClampNeg).toInt) ≠ -2 ∧ ((σ 51 a1.toNatClampNeg).toInt) ≠ 0) (r.toInt) ((σ 47 0).toInt) ((σ' 47 0).toInt) (σ 48) (σ' 48) (σ 49) (σ' 49) (jBs (fun k : Nat => τ 54 (60 * (A1) + (A2) + (k : Int)).toNat) (if ((σ 51 a1.toNatClampNeg).toInt) = 0 ∧ 0 ≤ A2 then ((σ 52 a1.toNatClampNeg).toInt) - (A2) else 0) ((σ 2 0).toInt) ((σ 16 0).toInt) ((σ 16 1).toInt) (σ 3) (σ' 48) (σ' 49) ((σ' 47 0).toInt)))) ∧ True) := by
  refine jM.of hJ (by decide +kernel) (nt := .int) rfl (Nat.le_of_ble_eq_true rfl) ?_
  intro p e s m args below meth c Q ls hC hret hl hP
  obtain ⟨hx, hb, hr, hml, hown, hts, hK, -, hlocks, hZ⟩ := hC
  have hown : s.vm.findClass RX11 = some m.cls := hown
  have hS : va_S (jA ad) s.heap s.heap [] := va_S.rf
  have hA : ∀ q, jA ad q → jA ad q := fun _ h => h
  have hl : lv_has ls 6 [(0, .ref (ad 0)), (1, .int a1), (2, .int a2)] := hl
  have g1 := jrg t1
  have g2 := jrg t2
  obtain ⟨i1, i2, i3, i4, i5, w6⟩ : (0 ≤ (σ 2 0).toInt ∧ (σ 2 0).toInt ≤ 4) ∧ (0 ≤ (σ 2 1).toInt ∧ (σ 2 1).toInt ≤ 3) ∧ (0 ≤ (σ 2 2).toInt) ∧ (0 ≤ (σ 2 3).toInt) ∧ ((σ 2 2).toInt + (σ 2 3).toInt ≤ 40) ∧ (∀ k : Nat, k < 40 → 0 ≤ (σ 6 k).toInt ∧ (σ 6 k).toInt ≤ 67) := id hI2
  obtain ⟨i7, i8, i9, w10⟩ : (1 ≤ (σ 16 0).toInt ∧ (σ 16 0).toInt ≤ 8) ∧ (1 ≤ (σ 16 1).toInt ∧ (σ 16 1).toInt ≤ 12) ∧ (0 ≤ (σ 16 2).toInt ∧ (σ 16 2).toInt ≤ 999) ∧ (∀ k : Nat, k < 8 → 0 ≤ (σ 17 k).toInt ∧ (σ 17 k).toInt ≤ 3) := id hI16
  obtain ⟨i11, w12, w13⟩ : (0 ≤ (σ 47 0).toInt ∧ (σ 47 0).toInt ≤ 12) ∧ (∀ k : Nat, k < 12 → 0 ≤ (σ 48 k).toInt ∧ (σ 48 k).toInt ≤ 3) ∧ (∀ k : Nat, k < 12 → 0 ≤ (σ 49 k).toInt ∧ (σ 49 k).toInt ≤ 1) := id hI47
  have w14 : ∀ k : Nat, k < 6 → 0 ≤ (σ 52 k).toInt ∧ (σ 52 k).toInt ≤ 60 := hI50
  refine lv_iload_n hx hb dX11_books_0 rfl (lv_at hl 1 rfl) ?_
  refine jcallS (As := [.int a1]) (rest := []) ⟨hx, hb, hml, hown, hts⟩ hK hP hA hS hZ (c_X11_noShelf l D cI cL ad zz hJ σ τ a1 (A1) t1) cw_RX11_249 ⟨Nat.le_of_ble_eq_true rfl, Nat.le_of_ble_eq_true rfl⟩ rfl rfl rfl hl.1 rfl (Nat.le_of_ble_eq_true rfl) dX11_books_1 ⟨Nat.zero_le _, Nat.zero_le _⟩ (fun r16 σ15 τ15 H locs h15 hP hS => ?_)
  obtain ⟨⟨rfl, rfl⟩, h15⟩ := h15
  rcases h15 with h17 | h18
  · obtain ⟨q20, k19⟩ := h17
    have q20 := q20.symm
    subst q20
    refine lv_if_eq (tgt := 9) hx hb dX11_books_4 (of_decide_eq_true rfl) (fun c => absurd c (of_decide_eq_true rfl)) (fun _ => ?_)
    refine lv_iconst (v := (-1)) hx hb dX11_books_7 (of_decide_eq_true rfl) ?_
    exact hret (-1) σ τ _ _ _ _ rfl ⟨rfl, (fun _ _ => rfl), (fun _ _ => rfl), hI47, (fun ok hy => Or.inl ⟨(by have h9 := jz_m1; omega), by omega, rfl, rfl, rfl⟩), trivial⟩ hP hS dX11_books_8
  · obtain ⟨q22, k21⟩ := h18
    have q22 := q22.symm
    subst q22
    refine lv_if_eq (tgt := 9) hx hb dX11_books_4 (of_decide_eq_true rfl) (fun _ => ?_) (fun c => absurd (of_decide_eq_true rfl) c)
    refine lv_aload_n hx hb dX11_books_9 rfl (lv_at hl 0 rfl) ?_
    refine va_get (D := D) hx hb hts inlX11 hown hK hP 0 (jc_0 cI cL ad σ τ) rfl 10 (of_decide_eq_true rfl) (hts _ kw_3_5) (fun _ h9 => h9) rfl dX11_books_10 ?_
    refine lv_iload_n hx hb dX11_books_13 rfl (lv_at hl 1 rfl) ?_
    refine jcallV (As := [.int a1]) (rest := []) ⟨hx, hb, hml, hown, hts⟩ hK hP hA hS hZ (c_X9_isEmpty_50 l D cI cL ad zz hJ σ τ a1 (A1) t1) cw_RX11_252 (jc_50 cI cL ad σ τ) rfl ⟨Nat.le_of_ble_eq_true rfl, Nat.le_of_ble_eq_true rfl⟩ rfl rfl rfl hl.1 rfl (Nat.le_of_ble_eq_true rfl) dX11_books_14 ⟨Nat.zero_le _, Nat.zero_le _⟩ (fun r24 σ23 τ23 H locs h23 hP hS => ?_)
    obtain ⟨⟨rfl, rfl⟩, h23⟩ := h23
    rcases h23 with h25 | h26
    · obtain ⟨q29, k27, k28⟩ := h25
      have q29 := q29.symm
      subst q29
      refine lv_if_ne (tgt := 34) hx hb dX11_books_17 (of_decide_eq_true rfl) (fun c => absurd (of_decide_eq_true rfl) c) (fun _ => ?_)
      refine lv_aload_n hx hb dX11_books_20 rfl (lv_at hl 0 rfl) ?_
      refine va_get (D := D) hx hb hts inlX11 hown hK hP 0 (jc_0 cI cL ad σ τ) rfl 10 (of_decide_eq_true rfl) (hts _ kw_3_5) (fun _ h9 => h9) rfl dX11_books_21 ?_
      refine lv_iload_n hx hb dX11_books_24 rfl (lv_at hl 1 rfl) ?_
      refine jcallV (As := [.int a1]) (rest := []) ⟨hx, hb, hml, hown, hts⟩ hK hP hA hS hZ (c_X9_sortOf_50 l D cI cL ad zz hJ σ τ a1 (A1) t1) cw_RX11_255 (jc_50 cI cL ad σ τ) rfl ⟨Nat.le_of_ble_eq_true rfl, Nat.le_of_ble_eq_true rfl⟩ rfl rfl rfl hl.1 rfl (Nat.le_of_ble_eq_true rfl) dX11_books_25 ⟨Nat.zero_le _, Nat.zero_le _⟩ (fun r31 σ30 τ30 H locs h30 hP hS => ?_)
      obtain ⟨⟨rfl, rfl⟩, h30⟩ := h30
      rcases h30 with h32 | h33
      · obtain ⟨q36, k34, k35⟩ := h32
        have q37 : r31 = (σ 51 a1.toNatClampNeg) := q36.trans rfl
        have q37 := q37.symm
        subst q37
        refine lv_if_eq (tgt := 34) hx hb dX11_books_28 (of_decide_eq_true rfl) (fun c38 => ?_) (fun c38 => ?_)
        · have kc38 := jeq c38 rfl jz_0
          refine lv_aload_n hx hb dX11_books_34 rfl (lv_at hl 0 rfl) ?_
          refine va_get (D := D) hx hb hts inlX11 hown hK hP 0 (jc_0 cI cL ad σ τ) rfl 9 (of_decide_eq_true rfl) (hts _ kw_3_1) (fun _ h9 => h9) rfl dX11_books_35 ?_
          refine lv_iconst (v := 0) hx hb dX11_books_38 (of_decide_eq_true rfl) ?_
          refine jput (ty := .int) hx hb hts inlX2 tyX2 tyX2_ok nmX2 hown hK hP hJ hA hS (jc_47 cI cL ad σ τ) rfl (k := 0) (of_decide_eq_true rfl) (Nat.le_of_ble_eq_true rfl) (jp_47_0 cI cL ad σ τ 0) (hts _ kw_13_11) (fun _ h9 => h9) rfl (by decide +kernel) rfl rfl dX11_books_39 (fun σ39 H locs eσ39 hP hS => ?_)
          refine lv_aload_n hx hb dX11_books_42 rfl (lv_at hl 0 rfl) ?_
          refine va_get (D := D) hx hb hts inlX11 hown hK hP 0 (jc_0 cI cL ad σ39 τ) rfl 10 (of_decide_eq_true rfl) (hts _ kw_3_5) (fun _ h9 => h9) rfl dX11_books_43 ?_
          refine lv_iload_n hx hb dX11_books_46 rfl (lv_at hl 1 rfl) ?_
          have I40 : jI50 σ39 := jI50_fr (jnp 52 eσ39 (of_decide_eq_true rfl)) hI50
          refine jcallV (As := [.int a1]) (rest := []) ⟨hx, hb, hml, hown, hts⟩ hK hP hA hS hZ (c_X9_lengthOf_50 l D cI cL ad zz hJ σ39 τ a1 (A1) t1 I40) cw_RX11_258 (jc_50 cI cL ad σ39 τ) rfl ⟨Nat.le_of_ble_eq_true rfl, Nat.le_of_ble_eq_true rfl⟩ rfl rfl rfl hl.1 rfl (Nat.le_of_ble_eq_true rfl) dX11_books_47 ⟨Nat.zero_le _, Nat.zero_le _⟩ (fun r42 σ41 τ41 H locs h41 hP hS => ?_)
          obtain ⟨⟨rfl, rfl⟩, h41⟩ := h41
          rcases h41 with h43 | h44
          · obtain ⟨q49, k45, k46, k47, k48⟩ := h43
            have z50 : (σ39 52 a1.toNatClampNeg).toInt = (σ 52 a1.toNatClampNeg).toInt := by rw [jnp 52 eσ39 (of_decide_eq_true rfl)]
            have z51 : (σ39 51 a1.toNatClampNeg).toInt = (σ 51 a1.toNatClampNeg).toInt := by rw [jnp 51 eσ39 (of_decide_eq_true rfl)]
            exact by
             have q52 : r42 = (σ 52 a1.toNatClampNeg) := q49.trans (by rw [jnp 52 eσ39 (of_decide_eq_true rfl)])
             have q52e : (σ39 52 a1.toNatClampNeg).toInt = (σ 52 a1.toNatClampNeg).toInt := by rw [← q49, ← q52]
             have q52 := q52.symm
             subst q52
             refine lv_istore_n (lv' := [(3, .int (σ 52 a1.toNatClampNeg)), (0, .ref (ad 0)), (1, .int a1), (2, .int a2)]) hx hb dX11_books_50 rfl hl (of_decide_eq_true rfl) rfl (fun ls hl => ?_)
             refine lv_iload_n hx hb dX11_books_51 rfl (lv_at hl 3 rfl) ?_
             refine lv_if_lt (tgt := 60) hx hb dX11_books_52 (of_decide_eq_true rfl) (fun c53 => ?_) (fun c53 => ?_)
             · have kc53 := jlt c53 t2 jz_0
               refine lv_iconst (v := 0) hx hb dX11_books_60 (of_decide_eq_true rfl) ?_
               have z54 : (σ39 47 0).toInt = 0 := ((congrArg Int32.toInt (show σ39 47 0 = 0 from (jsp eσ39))).trans jz_0)
               have w55 : ∀ k : Nat, k < 12 → 0 ≤ (σ39 48 k).toInt ∧ (σ39 48 k).toInt ≤ 3 := (jrr_fr (jnp 48 eσ39 (of_decide_eq_true rfl)) w12)
               have w56 : ∀ k : Nat, k < 12 → 0 ≤ (σ39 49 k).toInt ∧ (σ39 49 k).toInt ≤ 1 := (jrr_fr (jnp 49 eσ39 (of_decide_eq_true rfl)) w13)
               exact by
                have I57 : jI47 σ39 := ⟨(by omega), w55, w56⟩
                exact by exact hret 0 σ39 τ _ _ _ _ rfl ⟨rfl, (fun i hi => (jnp i eσ39 (imp_116 i hi))), (fun i hi => (jkp i eσ39 (imp_4 i hi))), I57, (fun ok hy => Or.inr (Or.inr ⟨by omega, by omega, (by have h9 := jz_0; omega), (jBf.first (by omega)).stop (fun w => by
                  have e := w.1
                  revert e; split <;> intro e <;> omega)⟩)), trivial⟩ hP hS dX11_books_61
             · have kc53 := jnlt c53 t2 jz_0
               refine lv_iload_n hx hb dX11_books_55 rfl (lv_at hl 3 rfl) ?_
               refine lv_iload_n hx hb dX11_books_56 rfl (lv_at hl 0 rfl) ?_
               refine lv_icmp_lt (tgt := 62) hx hb dX11_books_57 (of_decide_eq_true rfl) (fun c58 => ?_) (fun c58 => ?_)
               · have kc58 := jlt c58 t2 rfl
                 refine lv_iload_n hx hb dX11_books_62 rfl (lv_at hl 3 rfl) ?_
                 refine lv_istore (lv' := [(4, .int a2), (3, .int (σ 52 a1.toNatClampNeg)), (0, .ref (ad 0)), (1, .int a1), (2, .int a2)]) hx hb dX11_books_63 hl (of_decide_eq_true rfl) rfl (fun ls hl => ?_)
                 have z64 : (σ39 47 0).toInt = 0 := ((congrArg Int32.toInt (show σ39 47 0 = 0 from (jsp eσ39))).trans jz_0)
                 have w65 : ∀ k : Nat, k < 12 → 0 ≤ (σ39 48 k).toInt ∧ (σ39 48 k).toInt ≤ 3 := (jrr_fr (jnp 48 eσ39 (of_decide_eq_true rfl)) w12)
                 have w66 : ∀ k : Nat, k < 12 → 0 ≤ (σ39 49 k).toInt ∧ (σ39 49 k).toInt ≤ 1 := (jrr_fr (jnp 49 eσ39 (of_decide_eq_true rfl)) w13)
                 exact by
                  have I67 : jI47 σ39 := ⟨(by omega), w65, w66⟩
                  have lp59 : ∀ (n60 : Nat) (x61 : Int32) (σ63 : Nat → Nat → Int32) (H : Heap) (locs : List Loc) (ls : Array Slot), ((σ 52 a1.toNatClampNeg).toInt - x61.toInt : Int) < n60 → 0 ≤ x61.toInt → x61.toInt ≤ 60 → x61.toInt ≤ (σ 52 a1.toNatClampNeg).toInt → (σ63 47 0).toInt = x61.toInt - A2 → (∀ i : Nat, (i < 47 ∨ 49 < i) → σ63 i = σ39 i) → (∀ k : Nat, (k < 0 ∨ 0 < k) → σ63 47 k = σ39 47 k) → jI47 σ63 → ((jOk (σ 3) → (0 ≤ A1 → A1 ≤ 5 → ((σ 51 a1.toNatClampNeg).toInt) = 0 → ∀ p : Nat, (p : Int) < ((σ 52 a1.toNatClampNeg).toInt) → -128 ≤ (τ 54 (60 * (A1) + (p : Int)).toNat).toInt ∧ (τ 54 (60 * (A1) + (p : Int)).toNat).toInt ≤ 127) → jBf (fun k : Nat => τ 54 (60 * (A1) + (A2) + (k : Int)).toNat) (((σ 52 a1.toNatClampNeg).toInt) - (A2)) ((σ 2 0).toInt) ((σ 16 0).toInt) ((σ 16 1).toInt) (σ 3) (σ63 48) (σ63 49) ((σ63 47 0).toInt))) → jH D cI cL ad σ63 τ H → va_S (jA ad) s.heap H locs → lv_has ls 6 [(4, .int x61), (3, .int (σ 52 a1.toNatClampNeg)), (0, .ref (ad 0)), (1, .int a1), (2, .int a2)] → W p l e ({ frames := 6, cells := 0, slots := 0, locals := 127 }) s m args below meth c H locs 0 0 Q (F0 m 65 ls []) := by
                    intro n60
                    induction n60 with
                    | zero => intro x61 σ63 H locs ls h69 h70 h71 h72 h73; exact absurd h69 (by omega)
                    | succ n60 ihlp59 =>
                      intro x61 σ63 H locs ls h69 h70 h71 h72 h73 f74 f75 p76 q77 hP hS hl
                      obtain ⟨i78, w79, w80⟩ : (0 ≤ (σ63 47 0).toInt ∧ (σ63 47 0).toInt ≤ 12) ∧ (∀ k : Nat, k < 12 → 0 ≤ (σ63 48 k).toInt ∧ (σ63 48 k).toInt ≤ 3) ∧ (∀ k : Nat, k < 12 → 0 ≤ (σ63 49 k).toInt ∧ (σ63 49 k).toInt ≤ 1) := id p76
                      refine lv_iload hx hb dX11_books_65 (lv_at hl 0 rfl) ?_
                      exact by
                       refine lv_iload_n hx hb dX11_books_67 rfl (lv_at hl 1 rfl) ?_
                       refine lv_icmp_ge (tgt := 161) hx hb dX11_books_68 (of_decide_eq_true rfl) (fun c81 => ?_) (fun c81 => ?_)
                       · have kc81 := jle c81 rfl rfl
                         refine lv_aload_n hx hb dX11_books_161 rfl (lv_at hl 2 rfl) ?_
                         refine va_get (D := D) hx hb hts inlX11 hown hK hP 0 (jc_0 cI cL ad σ63 τ) rfl 9 (of_decide_eq_true rfl) (hts _ kw_3_1) (fun _ h9 => h9) rfl dX11_books_162 ?_
                         refine va_get (D := D) hx hb hts inlX2 hown hK hP 47 (jc_47 cI cL ad σ63 τ) rfl 0 (of_decide_eq_true rfl) (hts _ kw_13_11) (fun _ h9 => h9) rfl dX11_books_165 ?_
                         exact hret (σ63 47 0) σ63 τ _ _ _ _ rfl ⟨rfl, (fun i hi => ((f74 i hi).trans (jnp i eσ39 (imp_116 i hi)))), (fun i hi => ((f75 i hi).trans (jkp i eσ39 (imp_4 i hi)))), p76, (fun ok hy => Or.inr (Or.inr ⟨by omega, by omega, (by omega), (by
                           rw [if_pos (by omega)]
                           exact (q77 ok hy).stop ((fun w => absurd w.1 (by omega))))⟩)), trivial⟩ hP hS dX11_books_168
                       · exact by
                          have kc81 := jnle c81 rfl rfl
                          refine lv_aload_n hx hb dX11_books_71 rfl (lv_at hl 2 rfl) ?_
                          refine va_get (D := D) hx hb hts inlX11 hown hK hP 0 (jc_0 cI cL ad σ63 τ) rfl 10 (of_decide_eq_true rfl) (hts _ kw_3_5) (fun _ h9 => h9) rfl dX11_books_72 ?_
                          refine lv_iload_n hx hb dX11_books_75 rfl (lv_at hl 3 rfl) ?_
                          refine lv_iload hx hb dX11_books_76 (lv_at hl 0 rfl) ?_
                          have I82 : jI50 σ63 := jI50_fr (f74 52 (of_decide_eq_true rfl)) I40
                          refine jcallVl (As := [.int a1, .int x61]) (rest := []) ⟨hx, hb, hml, hown, hts⟩ hK hP hA hS hZ (c_X9_elementAt_50 l D cI cL ad zz hJ σ63 τ a1 (A1) t1 x61 (x61.toInt) rfl I82) cw_RX11_261 (jc_50 cI cL ad σ63 τ) rfl ⟨Nat.le_of_ble_eq_true rfl, Nat.le_of_ble_eq_true rfl⟩ rfl rfl rfl hl.1 rfl (Nat.le_of_ble_eq_true rfl) dX11_books_78 ⟨Nat.zero_le _, Nat.zero_le _⟩ (fun lxr84 σ83 τ83 H locs h83 hP hS => ?_)
                          obtain ⟨⟨rfl, rfl⟩, w85, h83⟩ := h83
                          refine lv_l2i hx hb dX11_books_81 rfl ?_
                          refine lv_topi (fun x86 ex86 => ?_)
                          have gx86 := jrg (rfl : x86.toInt = x86.toInt)
                          refine lv_istore (lv' := [(5, .int x86), (4, .int x61), (3, .int (σ 52 a1.toNatClampNeg)), (0, .ref (ad 0)), (1, .int a1), (2, .int a2)]) hx hb dX11_books_82 hl (of_decide_eq_true rfl) rfl (fun ls hl => ?_)
                          refine lv_iload hx hb dX11_books_84 (lv_at hl 0 rfl) ?_
                          refine lv_iconst (v := 0) hx hb dX11_books_86 (of_decide_eq_true rfl) ?_
                          refine lv_bipush (v := 19) hx hb dX11_books_87 (of_decide_eq_true rfl) ?_
                          refine jcallS (As := [.int x86, .int 0, .int 19]) (rest := []) ⟨hx, hb, hml, hown, hts⟩ hK hP hA hS hZ (c_X11_outside l D cI cL ad zz hJ σ63 τ x86 (x86.toInt) rfl 0 (0) jz_0 19 (19) jz_19) cw_RX11_94 ⟨Nat.le_of_ble_eq_true rfl, Nat.le_of_ble_eq_true rfl⟩ rfl rfl rfl hl.1 rfl (Nat.le_of_ble_eq_true rfl) dX11_books_89 ⟨Nat.zero_le _, Nat.zero_le _⟩ (fun r88 σ87 τ87 H locs h87 hP hS => ?_)
                          obtain ⟨⟨rfl, rfl⟩, h87⟩ := h87
                          rcases h87 with h89 | h90
                          · obtain ⟨q92, k91⟩ := h89
                            have q92 := q92.symm
                            subst q92
                            refine lv_if_ne (tgt := 161) hx hb dX11_books_92 (of_decide_eq_true rfl) (fun _ => ?_) (fun c => absurd c (of_decide_eq_true rfl))
                            refine lv_aload_n hx hb dX11_books_161 rfl (lv_at hl 3 rfl) ?_
                            refine va_get (D := D) hx hb hts inlX11 hown hK hP 0 (jc_0 cI cL ad σ63 τ) rfl 9 (of_decide_eq_true rfl) (hts _ kw_3_1) (fun _ h9 => h9) rfl dX11_books_162 ?_
                            refine va_get (D := D) hx hb hts inlX2 hown hK hP 47 (jc_47 cI cL ad σ63 τ) rfl 0 (of_decide_eq_true rfl) (hts _ kw_13_11) (fun _ h9 => h9) rfl dX11_books_165 ?_
                            exact hret (σ63 47 0) σ63 τ _ _ _ _ rfl ⟨rfl, (fun i hi => ((f74 i hi).trans (jnp i eσ39 (imp_116 i hi)))), (fun i hi => ((f75 i hi).trans (jkp i eσ39 (imp_4 i hi)))), p76, (fun ok hy => Or.inr (Or.inr ⟨by omega, by omega, (by omega), (by
                              rw [if_pos (by omega)]
                              exact (q77 ok hy).stop (fun w => by
                                  exact by
                                   have z51 : (σ63 51 a1.toNatClampNeg).toInt = (σ 51 a1.toNatClampNeg).toInt := by rw [show σ63 51 = σ 51 from ((f74 51 (of_decide_eq_true rfl)).trans (jnp 51 eσ39 (of_decide_eq_true rfl)))]
                                   have z52 : (σ63 52 a1.toNatClampNeg).toInt = (σ 52 a1.toNatClampNeg).toInt := by rw [show σ63 52 = σ 52 from ((f74 52 (of_decide_eq_true rfl)).trans (jnp 52 eσ39 (of_decide_eq_true rfl)))]
                                   have g1 := jGt.get w85 (by unfold jRf; first | ((repeat (first | rw [if_pos (by omega)] | rw [if_neg (by omega)])) <;> omega) | ((repeat' split) <;> omega))
                                   have g3 := hy (by omega) (by omega) (by omega) (x61.toInt).toNat (by omega)
                                   rw [show ((x61.toInt).toNat : Int) = x61.toInt by omega, ← g1] at g3
                                   have g4 : x86.toInt = lxr84.toInt := jtoI ex86 rfl (by omega) (by omega)
                                   have hE : (τ 54 (60 * (A1) + (A2) + ((((σ63 47 0).toInt).toNat : Nat) : Int)).toNat).toInt = x86.toInt := by rw [show 60 * (A1) + (A2) + ((((σ63 47 0).toInt).toNat : Nat) : Int) = 60 * (A1) + (x61.toInt) by omega, ← g1]; exact g4.symm
                                   obtain ⟨w1, w2, w3, b, w4, w5⟩ := w
                                   have w2 : 0 ≤ (τ 54 (60 * (A1) + (A2) + ((((σ63 47 0).toInt).toNat : Nat) : Int)).toNat).toInt ∧ (τ 54 (60 * (A1) + (A2) + ((((σ63 47 0).toInt).toNat : Nat) : Int)).toNat).toInt < 20 := w2
                                   exact by
                                    have w3 : (τ 54 (60 * (A1) + (A2) + ((((σ63 47 0).toInt).toNat : Nat) : Int)).toNat).toInt % 10 < (σ 2 0).toInt := w3
                                    have w4 : b.toInt = (τ 54 (60 * (A1) + (A2) + ((((σ63 47 0).toInt).toNat : Nat) : Int)).toNat).toInt % 10 := w4
                                    omega))⟩)), trivial⟩ hP hS dX11_books_168
                          · obtain ⟨q94, k93⟩ := h90
                            have q94 := q94.symm
                            subst q94
                            refine lv_if_ne (tgt := 161) hx hb dX11_books_92 (of_decide_eq_true rfl) (fun c => absurd (of_decide_eq_true rfl) c) (fun _ => ?_)
                            refine lv_aload_n hx hb dX11_books_95 rfl (lv_at hl 3 rfl) ?_
                            refine lv_iload hx hb dX11_books_96 (lv_at hl 0 rfl) ?_
                            refine lv_bipush (v := 10) hx hb dX11_books_98 (of_decide_eq_true rfl) ?_
                            refine lv_irem hx hb dX11_books_100 (of_decide_eq_true rfl) ?_
                            refine lv_topi (fun x95 ex95 => ?_)
                            exact by
                             have tx95 : x95.toInt = (x86.toInt % 10) := jrem ex95 rfl jz_10 (by omega)
                             have I96 : jI2 σ63 := jI2_fr ((congrFun (f74 2 (of_decide_eq_true rfl)) 0).trans (congrFun (jnp 2 eσ39 (of_decide_eq_true rfl)) 0)) ((congrFun (f74 2 (of_decide_eq_true rfl)) 1).trans (congrFun (jnp 2 eσ39 (of_decide_eq_true rfl)) 1)) ((congrFun (f74 2 (of_decide_eq_true rfl)) 2).trans (congrFun (jnp 2 eσ39 (of_decide_eq_true rfl)) 2)) ((congrFun (f74 2 (of_decide_eq_true rfl)) 3).trans (congrFun (jnp 2 eσ39 (of_decide_eq_true rfl)) 3)) ((f74 6 (of_decide_eq_true rfl)).trans (jnp 6 eσ39 (of_decide_eq_true rfl))) hI2
                             have z97 : (σ63 2 0).toInt = (σ 2 0).toInt := (congrArg Int32.toInt (show σ63 2 0 = (σ 2 0) from ((congrFun (f74 2 (of_decide_eq_true rfl)) 0).trans (congrFun (jnp 2 eσ39 (of_decide_eq_true rfl)) 0))))
                             refine jcallV (As := [.int x95]) (rest := []) ⟨hx, hb, hml, hown, hts⟩ hK hP hA hS hZ (c_X11_noBowler l D cI cL ad zz hJ σ63 τ x95 ((x86.toInt % 10)) tx95 I96) cw_RX11_152 (jc_0 cI cL ad σ63 τ) rfl ⟨Nat.le_of_ble_eq_true rfl, Nat.le_of_ble_eq_true rfl⟩ rfl rfl rfl hl.1 rfl (Nat.le_of_ble_eq_true rfl) dX11_books_101 ⟨Nat.zero_le _, Nat.zero_le _⟩ (fun r99 σ98 τ98 H locs h98 hP hS => ?_)
                             obtain ⟨⟨rfl, rfl⟩, h98⟩ := h98
                             rcases h98 with h100 | h101
                             · obtain ⟨q103, k102⟩ := h100
                               have q103 := q103.symm
                               subst q103
                               refine lv_if_ne (tgt := 161) hx hb dX11_books_104 (of_decide_eq_true rfl) (fun _ => ?_) (fun c => absurd c (of_decide_eq_true rfl))
                               refine lv_aload_n hx hb dX11_books_161 rfl (lv_at hl 3 rfl) ?_
                               refine va_get (D := D) hx hb hts inlX11 hown hK hP 0 (jc_0 cI cL ad σ63 τ) rfl 9 (of_decide_eq_true rfl) (hts _ kw_3_1) (fun _ h9 => h9) rfl dX11_books_162 ?_
                               refine va_get (D := D) hx hb hts inlX2 hown hK hP 47 (jc_47 cI cL ad σ63 τ) rfl 0 (of_decide_eq_true rfl) (hts _ kw_13_11) (fun _ h9 => h9) rfl dX11_books_165 ?_
                               exact hret (σ63 47 0) σ63 τ _ _ _ _ rfl ⟨rfl, (fun i hi => ((f74 i hi).trans (jnp i eσ39 (imp_116 i hi)))), (fun i hi => ((f75 i hi).trans (jkp i eσ39 (imp_4 i hi)))), p76, (fun ok hy => Or.inr (Or.inr ⟨by omega, by omega, (by omega), (by
                                 rw [if_pos (by omega)]
                                 exact (q77 ok hy).stop (fun w => by
                                     exact by
                                      have z51 : (σ63 51 a1.toNatClampNeg).toInt = (σ 51 a1.toNatClampNeg).toInt := by rw [show σ63 51 = σ 51 from ((f74 51 (of_decide_eq_true rfl)).trans (jnp 51 eσ39 (of_decide_eq_true rfl)))]
                                      have z52 : (σ63 52 a1.toNatClampNeg).toInt = (σ 52 a1.toNatClampNeg).toInt := by rw [show σ63 52 = σ 52 from ((f74 52 (of_decide_eq_true rfl)).trans (jnp 52 eσ39 (of_decide_eq_true rfl)))]
                                      have g1 := jGt.get w85 (by unfold jRf; first | ((repeat (first | rw [if_pos (by omega)] | rw [if_neg (by omega)])) <;> omega) | ((repeat' split) <;> omega))
                                      have g3 := hy (by omega) (by omega) (by omega) (x61.toInt).toNat (by omega)
                                      rw [show ((x61.toInt).toNat : Int) = x61.toInt by omega, ← g1] at g3
                                      have g4 : x86.toInt = lxr84.toInt := jtoI ex86 rfl (by omega) (by omega)
                                      have hE : (τ 54 (60 * (A1) + (A2) + ((((σ63 47 0).toInt).toNat : Nat) : Int)).toNat).toInt = x86.toInt := by rw [show 60 * (A1) + (A2) + ((((σ63 47 0).toInt).toNat : Nat) : Int) = 60 * (A1) + (x61.toInt) by omega, ← g1]; exact g4.symm
                                      obtain ⟨w1, w2, w3, b, w4, w5⟩ := w
                                      have w2 : 0 ≤ (τ 54 (60 * (A1) + (A2) + ((((σ63 47 0).toInt).toNat : Nat) : Int)).toNat).toInt ∧ (τ 54 (60 * (A1) + (A2) + ((((σ63 47 0).toInt).toNat : Nat) : Int)).toNat).toInt < 20 := w2
                                      exact by
                                       have w3 : (τ 54 (60 * (A1) + (A2) + ((((σ63 47 0).toInt).toNat : Nat) : Int)).toNat).toInt % 10 < (σ 2 0).toInt := w3
                                       have w4 : b.toInt = (τ 54 (60 * (A1) + (A2) + ((((σ63 47 0).toInt).toNat : Nat) : Int)).toNat).toInt % 10 := w4
                                       omega))⟩)), trivial⟩ hP hS dX11_books_168
                             · obtain ⟨q105, k104⟩ := h101
                               have q105 := q105.symm
                               subst q105
                               refine lv_if_ne (tgt := 161) hx hb dX11_books_104 (of_decide_eq_true rfl) (fun c => absurd (of_decide_eq_true rfl) c) (fun _ => ?_)
                               refine lv_aload_n hx hb dX11_books_107 rfl (lv_at hl 3 rfl) ?_
                               refine lv_iload hx hb dX11_books_108 (lv_at hl 0 rfl) ?_
                               refine lv_bipush (v := 10) hx hb dX11_books_110 (of_decide_eq_true rfl) ?_
                               refine lv_irem hx hb dX11_books_112 (of_decide_eq_true rfl) ?_
                               refine lv_topi (fun x106 ex106 => ?_)
                               exact by
                                have tx106 : x106.toInt = (x86.toInt % 10) := jrem ex106 rfl jz_10 (by omega)
                                have I107 : jI16 σ63 := jI16_fr ((congrFun (f74 16 (of_decide_eq_true rfl)) 0).trans (congrFun (jnp 16 eσ39 (of_decide_eq_true rfl)) 0)) ((congrFun (f74 16 (of_decide_eq_true rfl)) 1).trans (congrFun (jnp 16 eσ39 (of_decide_eq_true rfl)) 1)) ((congrFun (f74 16 (of_decide_eq_true rfl)) 2).trans (congrFun (jnp 16 eσ39 (of_decide_eq_true rfl)) 2)) ((f74 17 (of_decide_eq_true rfl)).trans (jnp 17 eσ39 (of_decide_eq_true rfl))) hI16
                                refine jcallV (As := [.int x106]) (rest := []) ⟨hx, hb, hml, hown, hts⟩ hK hP hA hS hZ (c_X11_mayBeBooked l D cI cL ad zz hJ σ63 τ x106 ((x86.toInt % 10)) tx106 I96 I107 p76) cw_RX11_243 (jc_0 cI cL ad σ63 τ) rfl ⟨Nat.le_of_ble_eq_true rfl, Nat.le_of_ble_eq_true rfl⟩ rfl rfl rfl hl.1 rfl (Nat.le_of_ble_eq_true rfl) dX11_books_113 ⟨Nat.zero_le _, Nat.zero_le _⟩ (fun r109 σ108 τ108 H locs h108 hP hS => ?_)
                                obtain ⟨⟨rfl, rfl⟩, w110, h108⟩ := h108
                                have z111 : (σ63 16 0).toInt = (σ 16 0).toInt := (congrArg Int32.toInt (show σ63 16 0 = (σ 16 0) from ((congrFun (f74 16 (of_decide_eq_true rfl)) 0).trans (congrFun (jnp 16 eσ39 (of_decide_eq_true rfl)) 0))))
                                have z112 : (σ63 16 1).toInt = (σ 16 1).toInt := (congrArg Int32.toInt (show σ63 16 1 = (σ 16 1) from ((congrFun (f74 16 (of_decide_eq_true rfl)) 1).trans (congrFun (jnp 16 eσ39 (of_decide_eq_true rfl)) 1))))
                                rw [show σ63 3 = σ 3 from ((f74 3 (of_decide_eq_true rfl)).trans (jnp 3 eσ39 (of_decide_eq_true rfl))), show (σ63 2 0).toInt = (σ 2 0).toInt from by omega, show (σ63 16 0).toInt = (σ 16 0).toInt from by omega, show (σ63 16 1).toInt = (σ 16 1).toInt from by omega] at w110
                                refine lv_if_ne (tgt := 122) hx hb dX11_books_116 (of_decide_eq_true rfl) (fun c113 => ?_) (fun c113 => ?_)
                                · have kc113 := jne c113 rfl jz_0
                                  refine lv_aload_n hx hb dX11_books_122 rfl (lv_at hl 3 rfl) ?_
                                  refine va_get (D := D) hx hb hts inlX11 hown hK hP 0 (jc_0 cI cL ad σ63 τ) rfl 9 (of_decide_eq_true rfl) (hts _ kw_3_1) (fun _ h9 => h9) rfl dX11_books_123 ?_
                                  refine va_get (D := D) hx hb hts inlX2 hown hK hP 47 (jc_47 cI cL ad σ63 τ) rfl 0 (of_decide_eq_true rfl) (hts _ kw_13_11) (fun _ h9 => h9) rfl dX11_books_126 ?_
                                  refine lv_bipush (v := 12) hx hb dX11_books_129 (of_decide_eq_true rfl) ?_
                                  refine lv_icmp_lt (tgt := 137) hx hb dX11_books_131 (of_decide_eq_true rfl) (fun c114 => ?_) (fun c114 => ?_)
                                  · have kc114 := jlt c114 rfl jz_12
                                    refine lv_aload_n hx hb dX11_books_137 rfl (lv_at hl 3 rfl) ?_
                                    refine va_get (D := D) hx hb hts inlX11 hown hK hP 0 (jc_0 cI cL ad σ63 τ) rfl 9 (of_decide_eq_true rfl) (hts _ kw_3_1) (fun _ h9 => h9) rfl dX11_books_138 ?_
                                    refine lv_iload hx hb dX11_books_141 (lv_at hl 0 rfl) ?_
                                    refine lv_bipush (v := 10) hx hb dX11_books_143 (of_decide_eq_true rfl) ?_
                                    refine lv_irem hx hb dX11_books_145 (of_decide_eq_true rfl) ?_
                                    refine lv_topi (fun x115 ex115 => ?_)
                                    exact by
                                     have tx115 : x115.toInt = (x86.toInt % 10) := jrem ex115 rfl jz_10 (by omega)
                                     refine lv_iload hx hb dX11_books_146 (lv_at hl 0 rfl) ?_
                                     refine lv_bipush (v := 10) hx hb dX11_books_148 (of_decide_eq_true rfl) ?_
                                     refine lv_idiv hx hb dX11_books_150 (of_decide_eq_true rfl) ?_
                                     refine lv_topi (fun x116 ex116 => ?_)
                                     have tx116 : x116.toInt = (x86.toInt / 10) := jdiv ex116 rfl jz_10 (by omega) (by omega)
                                     refine jcallV (As := [.int x115, .int x116]) (rest := []) ⟨hx, hb, hml, hown, hts⟩ hK hP hA hS hZ (c_X2_write_47 l D cI cL ad zz hJ σ63 τ x115 ((x86.toInt % 10)) tx115 x116 ((x86.toInt / 10)) tx116 p76 (by omega) (by omega)) cw_RX11_246 (jc_47 cI cL ad σ63 τ) rfl ⟨Nat.le_of_ble_eq_true rfl, Nat.le_of_ble_eq_true rfl⟩ rfl rfl rfl hl.1 rfl (Nat.le_of_ble_eq_true rfl) dX11_books_151 ⟨Nat.zero_le _, Nat.zero_le _⟩ (fun r118 σ117 τ117 H locs h117 hP hS => ?_)
                                     obtain ⟨rfl, f119, f120, I121, h117⟩ := h117
                                     obtain ⟨i123, w124, w125⟩ : (0 ≤ (σ117 47 0).toInt ∧ (σ117 47 0).toInt ≤ 12) ∧ (∀ k : Nat, k < 12 → 0 ≤ (σ117 48 k).toInt ∧ (σ117 48 k).toInt ≤ 3) ∧ (∀ k : Nat, k < 12 → 0 ≤ (σ117 49 k).toInt ∧ (σ117 49 k).toInt ≤ 1) := id I121
                                     exact by
                                      rcases h117 with h126 | h127
                                      · obtain ⟨q131, k128, k129, k130⟩ := h126
                                        exact absurd (by omega : False) id
                                      · obtain ⟨q136, k132, k133, k134, k135⟩ := h127
                                        refine lv_pop hx hb dX11_books_154 rfl ?_
                                        obtain ⟨x137, ex137⟩ : ∃ y : Int32, y = x61 + 1 := ⟨_, rfl⟩
                                        have tx137 : x137.toInt = x61.toInt + 1 := (jadd ex137 rfl jz_1 (by omega) (by omega)).trans (by omega)
                                        refine lv_iinc (v := x137) (lv' := [(4, .int x137), (5, .int x86), (3, .int (σ 52 a1.toNatClampNeg)), (0, .ref (ad 0)), (1, .int a1), (2, .int a2)]) hx hb dX11_books_155 hl (k := 1) rfl (by rw [ex137]; rfl) (of_decide_eq_true rfl) rfl (fun ls hl => ?_)
                                        refine lv_goto (tgt := 65) hx hb dX11_books_158 (of_decide_eq_true rfl) ?_
                                        exact by exact ihlp59 x137 σ117 _ _ ls (by have h90 := tx137; omega) (by have h90 := tx137; omega) (by have h90 := tx137; omega) (by have h90 := tx137; omega) (by have h90 := tx137; omega) (fun i hi => ((f119 i hi).trans (f74 i hi))) (fun i hi => ((f120 i hi).trans (f75 i hi)))  I121 (fun ok hy => by
                                              exact by
                                               have z51 : (σ63 51 a1.toNatClampNeg).toInt = (σ 51 a1.toNatClampNeg).toInt := by rw [show σ63 51 = σ 51 from ((f74 51 (of_decide_eq_true rfl)).trans (jnp 51 eσ39 (of_decide_eq_true rfl)))]
                                               have z52 : (σ63 52 a1.toNatClampNeg).toInt = (σ 52 a1.toNatClampNeg).toInt := by rw [show σ63 52 = σ 52 from ((f74 52 (of_decide_eq_true rfl)).trans (jnp 52 eσ39 (of_decide_eq_true rfl)))]
                                               have g1 := jGt.get w85 (by unfold jRf; first | ((repeat (first | rw [if_pos (by omega)] | rw [if_neg (by omega)])) <;> omega) | ((repeat' split) <;> omega))
                                               have g3 := hy (by omega) (by omega) (by omega) (x61.toInt).toNat (by omega)
                                               rw [show ((x61.toInt).toNat : Int) = x61.toInt by omega, ← g1] at g3
                                               have g4 : x86.toInt = lxr84.toInt := jtoI ex86 rfl (by omega) (by omega)
                                               have hE : (τ 54 (60 * (A1) + (A2) + ((((σ63 47 0).toInt).toNat : Nat) : Int)).toNat).toInt = x86.toInt := by rw [show 60 * (A1) + (A2) + ((((σ63 47 0).toInt).toNat : Nat) : Int) = 60 * (A1) + (x61.toInt) by omega, ← g1]; exact g4.symm
                                               exact by exact (q77 ok hy).step k135.1 k135.2 (by omega) (by show 0 ≤ _ ∧ _ < (20 : Int); rw [hE]; omega) (by show _ % 10 < _; rw [hE]; omega) (by show _ = _ % 10; rw [hE]; have h9 := tx115; omega) (by show _ = _ / 10; rw [hE]; have h9 := tx116; omega) (by rw [show x115 = x106 from Int32.toInt_inj.mp (by have h8 := tx115; have h9 := tx106; omega)]; exact (w110 ok).elim (fun q => q.2) (fun q => absurd (congrArg Int32.toInt q.1) (by rw [jz_0]; omega))) (by omega)) hP hS (lv_sub hl [0, 2, 3, 4, 5] rfl)
                                  · have kc114 := jnlt c114 rfl jz_12
                                    exact by
                                     refine lv_goto (tgt := 161) hx hb dX11_books_134 (of_decide_eq_true rfl) ?_
                                     refine lv_aload_n hx hb dX11_books_161 rfl (lv_at hl 3 rfl) ?_
                                     refine va_get (D := D) hx hb hts inlX11 hown hK hP 0 (jc_0 cI cL ad σ63 τ) rfl 9 (of_decide_eq_true rfl) (hts _ kw_3_1) (fun _ h9 => h9) rfl dX11_books_162 ?_
                                     refine va_get (D := D) hx hb hts inlX2 hown hK hP 47 (jc_47 cI cL ad σ63 τ) rfl 0 (of_decide_eq_true rfl) (hts _ kw_13_11) (fun _ h9 => h9) rfl dX11_books_165 ?_
                                     exact hret (σ63 47 0) σ63 τ _ _ _ _ rfl ⟨rfl, (fun i hi => ((f74 i hi).trans (jnp i eσ39 (imp_116 i hi)))), (fun i hi => ((f75 i hi).trans (jkp i eσ39 (imp_4 i hi)))), p76, (fun ok hy => Or.inr (Or.inr ⟨by omega, by omega, (by omega), (by
                                       rw [if_pos (by omega)]
                                       exact (q77 ok hy).stop (fun w => by
                                           have z51 : (σ63 51 a1.toNatClampNeg).toInt = (σ 51 a1.toNatClampNeg).toInt := by rw [show σ63 51 = σ 51 from ((f74 51 (of_decide_eq_true rfl)).trans (jnp 51 eσ39 (of_decide_eq_true rfl)))]
                                           have z52 : (σ63 52 a1.toNatClampNeg).toInt = (σ 52 a1.toNatClampNeg).toInt := by rw [show σ63 52 = σ 52 from ((f74 52 (of_decide_eq_true rfl)).trans (jnp 52 eσ39 (of_decide_eq_true rfl)))]
                                           exact by
                                            have g1 := jGt.get w85 (by unfold jRf; first | ((repeat (first | rw [if_pos (by omega)] | rw [if_neg (by omega)])) <;> omega) | ((repeat' split) <;> omega))
                                            have g3 := hy (by omega) (by omega) (by omega) (x61.toInt).toNat (by omega)
                                            rw [show ((x61.toInt).toNat : Int) = x61.toInt by omega, ← g1] at g3
                                            have g4 : x86.toInt = lxr84.toInt := jtoI ex86 rfl (by omega) (by omega)
                                            have hE : (τ 54 (60 * (A1) + (A2) + ((((σ63 47 0).toInt).toNat : Nat) : Int)).toNat).toInt = x86.toInt := by rw [show 60 * (A1) + (A2) + ((((σ63 47 0).toInt).toNat : Nat) : Int) = 60 * (A1) + (x61.toInt) by omega, ← g1]; exact g4.symm
                                            obtain ⟨w1, w2, w3, b, w4, w5⟩ := w
                                            have w2 : 0 ≤ (τ 54 (60 * (A1) + (A2) + ((((σ63 47 0).toInt).toNat : Nat) : Int)).toNat).toInt ∧ (τ 54 (60 * (A1) + (A2) + ((((σ63 47 0).toInt).toNat : Nat) : Int)).toNat).toInt < 20 := w2
                                            have w3 : (τ 54 (60 * (A1) + (A2) + ((((σ63 47 0).toInt).toNat : Nat) : Int)).toNat).toInt % 10 < (σ 2 0).toInt := w3
                                            have w4 : b.toInt = (τ 54 (60 * (A1) + (A2) + ((((σ63 47 0).toInt).toNat : Nat) : Int)).toNat).toInt % 10 := w4
                                            rw [show (((σ63 47 0).toInt).toNat : Int) = (σ63 47 0).toInt by omega, show b = x106 from Int32.toInt_inj.mp (by have h9 := tx106; omega)] at w5
                                            exact (w110 ok).elim (fun q => by have e := q.2.2.1; have e2 := q.1; first | omega | exact absurd (congrArg Int32.toInt e2) (by rw [jz_1]; omega)) (fun q => q.2 w5)))⟩)), trivial⟩ hP hS dX11_books_168
                                · exact by
                                   have kc113 := jeq c113 rfl jz_0
                                   refine lv_goto (tgt := 161) hx hb dX11_books_119 (of_decide_eq_true rfl) ?_
                                   refine lv_aload_n hx hb dX11_books_161 rfl (lv_at hl 3 rfl) ?_
                                   refine va_get (D := D) hx hb hts inlX11 hown hK hP 0 (jc_0 cI cL ad σ63 τ) rfl 9 (of_decide_eq_true rfl) (hts _ kw_3_1) (fun _ h9 => h9) rfl dX11_books_162 ?_
                                   refine va_get (D := D) hx hb hts inlX2 hown hK hP 47 (jc_47 cI cL ad σ63 τ) rfl 0 (of_decide_eq_true rfl) (hts _ kw_13_11) (fun _ h9 => h9) rfl dX11_books_165 ?_
                                   exact hret (σ63 47 0) σ63 τ _ _ _ _ rfl ⟨rfl, (fun i hi => ((f74 i hi).trans (jnp i eσ39 (imp_116 i hi)))), (fun i hi => ((f75 i hi).trans (jkp i eσ39 (imp_4 i hi)))), p76, (fun ok hy => Or.inr (Or.inr ⟨by omega, by omega, (by omega), (by
                                     rw [if_pos (by omega)]
                                     exact (q77 ok hy).stop (fun w => by
                                         have z51 : (σ63 51 a1.toNatClampNeg).toInt = (σ 51 a1.toNatClampNeg).toInt := by rw [show σ63 51 = σ 51 from ((f74 51 (of_decide_eq_true rfl)).trans (jnp 51 eσ39 (of_decide_eq_true rfl)))]
                                         exact by
                                          have z52 : (σ63 52 a1.toNatClampNeg).toInt = (σ 52 a1.toNatClampNeg).toInt := by rw [show σ63 52 = σ 52 from ((f74 52 (of_decide_eq_true rfl)).trans (jnp 52 eσ39 (of_decide_eq_true rfl)))]
                                          have g1 := jGt.get w85 (by unfold jRf; first | ((repeat (first | rw [if_pos (by omega)] | rw [if_neg (by omega)])) <;> omega) | ((repeat' split) <;> omega))
                                          have g3 := hy (by omega) (by omega) (by omega) (x61.toInt).toNat (by omega)
                                          rw [show ((x61.toInt).toNat : Int) = x61.toInt by omega, ← g1] at g3
                                          have g4 : x86.toInt = lxr84.toInt := jtoI ex86 rfl (by omega) (by omega)
                                          have hE : (τ 54 (60 * (A1) + (A2) + ((((σ63 47 0).toInt).toNat : Nat) : Int)).toNat).toInt = x86.toInt := by rw [show 60 * (A1) + (A2) + ((((σ63 47 0).toInt).toNat : Nat) : Int) = 60 * (A1) + (x61.toInt) by omega, ← g1]; exact g4.symm
                                          obtain ⟨w1, w2, w3, b, w4, w5⟩ := w
                                          have w2 : 0 ≤ (τ 54 (60 * (A1) + (A2) + ((((σ63 47 0).toInt).toNat : Nat) : Int)).toNat).toInt ∧ (τ 54 (60 * (A1) + (A2) + ((((σ63 47 0).toInt).toNat : Nat) : Int)).toNat).toInt < 20 := w2
                                          have w3 : (τ 54 (60 * (A1) + (A2) + ((((σ63 47 0).toInt).toNat : Nat) : Int)).toNat).toInt % 10 < (σ 2 0).toInt := w3
                                          exact by
                                           have w4 : b.toInt = (τ 54 (60 * (A1) + (A2) + ((((σ63 47 0).toInt).toNat : Nat) : Int)).toNat).toInt % 10 := w4
                                           rw [show (((σ63 47 0).toInt).toNat : Int) = (σ63 47 0).toInt by omega, show b = x106 from Int32.toInt_inj.mp (by have h9 := tx106; omega)] at w5
                                           exact (w110 ok).elim (fun q => by have e := q.2.2.1; have e2 := q.1; first | omega | exact absurd (congrArg Int32.toInt e2) (by rw [jz_1]; omega)) (fun q => q.2 w5)))⟩)), trivial⟩ hP hS dX11_books_168
                  exact by exact lp59 1000000 a2 σ39 _ _ ls (by have h90 := t2; omega) (by have h90 := t2; omega) (by have h90 := t2; omega) (by have h90 := t2; omega) (by have h90 := t2; omega) (fun _ _ => rfl) (fun _ _ => rfl)  I67 (fun ok hy => jBf.first (by omega)) hP hS hl
               · have kc58 := jnlt c58 t2 rfl
                 refine lv_iconst (v := 0) hx hb dX11_books_60 (of_decide_eq_true rfl) ?_
                 have z138 : (σ39 47 0).toInt = 0 := ((congrArg Int32.toInt (show σ39 47 0 = 0 from (jsp eσ39))).trans jz_0)
                 have w139 : ∀ k : Nat, k < 12 → 0 ≤ (σ39 48 k).toInt ∧ (σ39 48 k).toInt ≤ 3 := (jrr_fr (jnp 48 eσ39 (of_decide_eq_true rfl)) w12)
                 have w140 : ∀ k : Nat, k < 12 → 0 ≤ (σ39 49 k).toInt ∧ (σ39 49 k).toInt ≤ 1 := (jrr_fr (jnp 49 eσ39 (of_decide_eq_true rfl)) w13)
                 exact by
                  have I141 : jI47 σ39 := ⟨(by omega), w139, w140⟩
                  exact by exact hret 0 σ39 τ _ _ _ _ rfl ⟨rfl, (fun i hi => (jnp i eσ39 (imp_116 i hi))), (fun i hi => (jkp i eσ39 (imp_4 i hi))), I141, (fun ok hy => Or.inr (Or.inr ⟨by omega, by omega, (by have h9 := jz_0; omega), (jBf.first (by omega)).stop (fun w => by
                    have e := w.1
                    revert e; split <;> intro e <;> omega)⟩)), trivial⟩ hP hS dX11_books_61
          · obtain ⟨q143, k142⟩ := h44
            have z144 : (σ39 52 a1.toNatClampNeg).toInt = (σ 52 a1.toNatClampNeg).toInt := by rw [jnp 52 eσ39 (of_decide_eq_true rfl)]
            have z145 : (σ39 51 a1.toNatClampNeg).toInt = (σ 51 a1.toNatClampNeg).toInt := by rw [jnp 51 eσ39 (of_decide_eq_true rfl)]
            exact absurd (by omega : False) id
        · have kc38 := jne c38 rfl jz_0
          refine lv_bipush (v := (-12)) hx hb dX11_books_31 (of_decide_eq_true rfl) ?_
          exact hret (-12) σ τ _ _ _ _ rfl ⟨rfl, (fun _ _ => rfl), (fun _ _ => rfl), hI47, (fun ok hy => Or.inr (Or.inl ⟨(by have h9 := jz_m12; omega), by omega, ⟨by omega, by omega⟩, rfl, rfl, rfl⟩)), trivial⟩ hP hS dX11_books_33
      · obtain ⟨q147, k146⟩ := h33
        exact absurd (by omega : False) id
    · obtain ⟨q149, k148⟩ := h26
      have q149 := q149.symm
      subst q149
      refine lv_if_ne (tgt := 34) hx hb dX11_books_17 (of_decide_eq_true rfl) (fun _ => ?_) (fun c => absurd c (of_decide_eq_true rfl))
      refine lv_aload_n hx hb dX11_books_34 rfl (lv_at hl 0 rfl) ?_
      refine va_get (D := D) hx hb hts inlX11 hown hK hP 0 (jc_0 cI cL ad σ τ) rfl 9 (of_decide_eq_true rfl) (hts _ kw_3_1) (fun _ h9 => h9) rfl dX11_books_35 ?_
      refine lv_iconst (v := 0) hx hb dX11_books_38 (of_decide_eq_true rfl) ?_
      refine jput (ty := .int) hx hb hts inlX2 tyX2 tyX2_ok nmX2 hown hK hP hJ hA hS (jc_47 cI cL ad σ τ) rfl (k := 0) (of_decide_eq_true rfl) (Nat.le_of_ble_eq_true rfl) (jp_47_0 cI cL ad σ τ 0) (hts _ kw_13_11) (fun _ h9 => h9) rfl (by decide +kernel) rfl rfl dX11_books_39 (fun σ150 H locs eσ150 hP hS => ?_)
      refine lv_aload_n hx hb dX11_books_42 rfl (lv_at hl 0 rfl) ?_
      refine va_get (D := D) hx hb hts inlX11 hown hK hP 0 (jc_0 cI cL ad σ150 τ) rfl 10 (of_decide_eq_true rfl) (hts _ kw_3_5) (fun _ h9 => h9) rfl dX11_books_43 ?_
      refine lv_iload_n hx hb dX11_books_46 rfl (lv_at hl 1 rfl) ?_
      have I151 : jI50 σ150 := jI50_fr (jnp 52 eσ150 (of_decide_eq_true rfl)) hI50
      refine jcallV (As := [.int a1]) (rest := []) ⟨hx, hb, hml, hown, hts⟩ hK hP hA hS hZ (c_X9_lengthOf_50 l D cI cL ad zz hJ σ150 τ a1 (A1) t1 I151) cw_RX11_258 (jc_50 cI cL ad σ150 τ) rfl ⟨Nat.le_of_ble_eq_true rfl, Nat.le_of_ble_eq_true rfl⟩ rfl rfl rfl hl.1 rfl (Nat.le_of_ble_eq_true rfl) dX11_books_47 ⟨Nat.zero_le _, Nat.zero_le _⟩ (fun r153 σ152 τ152 H locs h152 hP hS => ?_)
      obtain ⟨⟨rfl, rfl⟩, h152⟩ := h152
      rcases h152 with h154 | h155
      · obtain ⟨q160, k156, k157, k158, k159⟩ := h154
        have z161 : (σ150 52 a1.toNatClampNeg).toInt = (σ 52 a1.toNatClampNeg).toInt := by rw [jnp 52 eσ150 (of_decide_eq_true rfl)]
        have z162 : (σ150 51 a1.toNatClampNeg).toInt = (σ 51 a1.toNatClampNeg).toInt := by rw [jnp 51 eσ150 (of_decide_eq_true rfl)]
        exact absurd (by omega : False) id
      · obtain ⟨q164, k163⟩ := h155
        have z165 : (σ150 52 a1.toNatClampNeg).toInt = (σ 52 a1.toNatClampNeg).toInt := by rw [jnp 52 eσ150 (of_decide_eq_true rfl)]
        have z166 : (σ150 51 a1.toNatClampNeg).toInt = (σ 51 a1.toNatClampNeg).toInt := by rw [jnp 51 eσ150 (of_decide_eq_true rfl)]
        have q164 := q164.symm
        subst q164
        refine lv_istore_n (lv' := [(3, .int 0), (0, .ref (ad 0)), (1, .int a1), (2, .int a2)]) hx hb dX11_books_50 rfl hl (of_decide_eq_true rfl) rfl (fun ls hl => ?_)
        refine lv_iload_n hx hb dX11_books_51 rfl (lv_at hl 3 rfl) ?_
        refine lv_if_lt (tgt := 60) hx hb dX11_books_52 (of_decide_eq_true rfl) (fun c167 => ?_) (fun c167 => ?_)
        · have kc167 := jlt c167 t2 jz_0
          refine lv_iconst (v := 0) hx hb dX11_books_60 (of_decide_eq_true rfl) ?_
          have z168 : (σ150 47 0).toInt = 0 := ((congrArg Int32.toInt (show σ150 47 0 = 0 from (jsp eσ150))).trans jz_0)
          have w169 : ∀ k : Nat, k < 12 → 0 ≤ (σ150 48 k).toInt ∧ (σ150 48 k).toInt ≤ 3 := (jrr_fr (jnp 48 eσ150 (of_decide_eq_true rfl)) w12)
          have w170 : ∀ k : Nat, k < 12 → 0 ≤ (σ150 49 k).toInt ∧ (σ150 49 k).toInt ≤ 1 := (jrr_fr (jnp 49 eσ150 (of_decide_eq_true rfl)) w13)
          exact by
           have I171 : jI47 σ150 := ⟨(by omega), w169, w170⟩
           exact by exact hret 0 σ150 τ _ _ _ _ rfl ⟨rfl, (fun i hi => (jnp i eσ150 (imp_116 i hi))), (fun i hi => (jkp i eσ150 (imp_4 i hi))), I171, (fun ok hy => Or.inr (Or.inr ⟨by omega, by omega, (by have h9 := jz_0; omega), (jBf.first (by omega)).stop (fun w => by
             have e := w.1
             revert e; split <;> intro e <;> omega)⟩)), trivial⟩ hP hS dX11_books_61
        · have kc167 := jnlt c167 t2 jz_0
          refine lv_iload_n hx hb dX11_books_55 rfl (lv_at hl 3 rfl) ?_
          refine lv_iload_n hx hb dX11_books_56 rfl (lv_at hl 0 rfl) ?_
          refine lv_icmp_lt (tgt := 62) hx hb dX11_books_57 (of_decide_eq_true rfl) (fun c => absurd (jlt c t2 jz_0) (by omega)) (fun c172 => ?_)
          have kc172 := jnlt c172 t2 jz_0
          exact by
           refine lv_iconst (v := 0) hx hb dX11_books_60 (of_decide_eq_true rfl) ?_
           have z173 : (σ150 47 0).toInt = 0 := ((congrArg Int32.toInt (show σ150 47 0 = 0 from (jsp eσ150))).trans jz_0)
           have w174 : ∀ k : Nat, k < 12 → 0 ≤ (σ150 48 k).toInt ∧ (σ150 48 k).toInt ≤ 3 := (jrr_fr (jnp 48 eσ150 (of_decide_eq_true rfl)) w12)
           have w175 : ∀ k : Nat, k < 12 → 0 ≤ (σ150 49 k).toInt ∧ (σ150 49 k).toInt ≤ 1 := (jrr_fr (jnp 49 eσ150 (of_decide_eq_true rfl)) w13)
           have I176 : jI47 σ150 := ⟨(by omega), w174, w175⟩
           exact by exact hret 0 σ150 τ _ _ _ _ rfl ⟨rfl, (fun i hi => (jnp i eσ150 (imp_116 i hi))), (fun i hi => (jkp i eσ150 (imp_4 i hi))), I176, (fun ok hy => Or.inr (Or.inr ⟨by omega, by omega, (by have h9 := jz_0; omega), (jBf.first (by omega)).stop (fun w => by
             have e := w.1
             revert e; split <;> intro e <;> omega)⟩)), trivial⟩ hP hS dX11_books_61
set_option maxHeartbeats 4000000 in
set_option maxRecDepth 100000 in
theorem c_X11_close (l : Launch) (D : va_G) (cI cL : ClassId) (ad zz : Nat → Nat) (hJ : jD ad) (σ : Nat → Nat → Int32) (τ : Nat → Nat → Int64) (hI47 : jI47 σ) : jM l yX11_close cX11_close 2 (some .int) ({ frames := 0, cells := 0, slots := 0, locals := 0 }) D cI cL ad zz [.ref (ad 0)] σ τ (fun r σ' τ' => τ = τ' ∧ (∀ i : Nat, (i < 47 ∨ 47 < i) → σ' i = σ i) ∧ (∀ k : Nat, (k < 0 ∨ 0 < k) → σ' 47 k = σ 47 k) ∧ (jI47 σ') ∧ ((True ∧ (r.toInt = (σ 47 0).toInt) ∧ ((σ' 47 0).toInt = 0)))) := by
  refine jM.of hJ (by decide +kernel) (nt := .int) rfl (Nat.le_of_ble_eq_true rfl) ?_
  intro p e s m args below meth c Q ls hC hret hl hP
  obtain ⟨hx, hb, hr, hml, hown, hts, hK, -, hlocks, hZ⟩ := hC
  have hown : s.vm.findClass RX11 = some m.cls := hown
  have hS : va_S (jA ad) s.heap s.heap [] := va_S.rf
  have hA : ∀ q, jA ad q → jA ad q := fun _ h => h
  have hl : lv_has ls 2 [(0, .ref (ad 0))] := hl
  obtain ⟨i1, w2, w3⟩ : (0 ≤ (σ 47 0).toInt ∧ (σ 47 0).toInt ≤ 12) ∧ (∀ k : Nat, k < 12 → 0 ≤ (σ 48 k).toInt ∧ (σ 48 k).toInt ≤ 3) ∧ (∀ k : Nat, k < 12 → 0 ≤ (σ 49 k).toInt ∧ (σ 49 k).toInt ≤ 1) := id hI47
  refine lv_aload_n hx hb dX11_close_0 rfl (lv_at hl 0 rfl) ?_
  refine va_get (D := D) hx hb hts inlX11 hown hK hP 0 (jc_0 cI cL ad σ τ) rfl 9 (of_decide_eq_true rfl) (hts _ kw_3_1) (fun _ h9 => h9) rfl dX11_close_1 ?_
  refine va_get (D := D) hx hb hts inlX2 hown hK hP 47 (jc_47 cI cL ad σ τ) rfl 0 (of_decide_eq_true rfl) (hts _ kw_13_11) (fun _ h9 => h9) rfl dX11_close_4 ?_
  refine lv_istore_n (lv' := [(1, .int (σ 47 0)), (0, .ref (ad 0))]) hx hb dX11_close_7 rfl hl (of_decide_eq_true rfl) rfl (fun ls hl => ?_)
  refine lv_aload_n hx hb dX11_close_8 rfl (lv_at hl 1 rfl) ?_
  refine va_get (D := D) hx hb hts inlX11 hown hK hP 0 (jc_0 cI cL ad σ τ) rfl 9 (of_decide_eq_true rfl) (hts _ kw_3_1) (fun _ h9 => h9) rfl dX11_close_9 ?_
  refine lv_iconst (v := 0) hx hb dX11_close_12 (of_decide_eq_true rfl) ?_
  refine jput (ty := .int) hx hb hts inlX2 tyX2 tyX2_ok nmX2 hown hK hP hJ hA hS (jc_47 cI cL ad σ τ) rfl (k := 0) (of_decide_eq_true rfl) (Nat.le_of_ble_eq_true rfl) (jp_47_0 cI cL ad σ τ 0) (hts _ kw_13_11) (fun _ h9 => h9) rfl (by decide +kernel) rfl rfl dX11_close_13 (fun σ4 H locs eσ4 hP hS => ?_)
  refine lv_iload_n hx hb dX11_close_16 rfl (lv_at hl 0 rfl) ?_
  have z5 : (σ4 47 0).toInt = 0 := ((congrArg Int32.toInt (show σ4 47 0 = 0 from (jsp eσ4))).trans jz_0)
  have w6 : ∀ k : Nat, k < 12 → 0 ≤ (σ4 48 k).toInt ∧ (σ4 48 k).toInt ≤ 3 := (jrr_fr (jnp 48 eσ4 (of_decide_eq_true rfl)) w2)
  have w7 : ∀ k : Nat, k < 12 → 0 ≤ (σ4 49 k).toInt ∧ (σ4 49 k).toInt ≤ 1 := (jrr_fr (jnp 49 eσ4 (of_decide_eq_true rfl)) w3)
  exact by
   have I8 : jI47 σ4 := ⟨(by omega), w6, w7⟩
   exact by exact hret (σ 47 0) σ4 τ _ _ _ _ rfl ⟨rfl, (fun i hi => (jnp i eσ4 (imp_142 i hi))), (fun i hi => (jkp i eσ4 (imp_4 i hi))), I8, ⟨trivial, (by omega), (by omega)⟩⟩ hP hS dX11_close_17
set_option maxHeartbeats 4000000 in
set_option maxRecDepth 100000 in
theorem c_X11_costOf (l : Launch) (D : va_G) (cI cL : ClassId) (ad zz : Nat → Nat) (hJ : jD ad) (σ : Nat → Nat → Int32) (τ : Nat → Nat → Int64) (a1 : Int32) (A1 : Int) (t1 : a1.toInt = A1) (hI2 : jI2 σ) (hI16 : jI16 σ) (hI22 : jI22 σ) (hI31 : jI31 σ) (hI47 : jI47 σ) : jM l yX11_costOf cX11_costOf 12 (some .int) ({ frames := 6, cells := 0, slots := 0, locals := 162 }) D cI cL ad zz [.ref (ad 0), .int a1] σ τ (fun r σ' τ' => τ = τ' ∧ (∀ i : Nat, (i < 24 ∨ 25 < i) ∧ (i < 27 ∨ 37 < i) → σ' i = σ i) ∧ (∀ k : Nat, (k < 8 ∨ 8 < k) ∧ (k < 9 ∨ 9 < k) ∧ (k < 10 ∨ 10 < k) ∧ (k < 11 ∨ 11 < k) ∧ (k < 12 ∨ 12 < k) → σ' 31 k = σ 31 k) ∧ (jI31 σ') ∧ True) := by
  refine jM.of hJ (by decide +kernel) (nt := .int) rfl (Nat.le_of_ble_eq_true rfl) ?_
  intro p e s m args below meth c Q ls hC hret hl hP
  obtain ⟨hx, hb, hr, hml, hown, hts, hK, -, hlocks, hZ⟩ := hC
  have hown : s.vm.findClass RX11 = some m.cls := hown
  have hS : va_S (jA ad) s.heap s.heap [] := va_S.rf
  have hA : ∀ q, jA ad q → jA ad q := fun _ h => h
  have hl : lv_has ls 12 [(0, .ref (ad 0)), (1, .int a1)] := hl
  have g1 := jrg t1
  obtain ⟨i1, i2, i3, i4, i5, w6⟩ : (0 ≤ (σ 2 0).toInt ∧ (σ 2 0).toInt ≤ 4) ∧ (0 ≤ (σ 2 1).toInt ∧ (σ 2 1).toInt ≤ 3) ∧ (0 ≤ (σ 2 2).toInt) ∧ (0 ≤ (σ 2 3).toInt) ∧ ((σ 2 2).toInt + (σ 2 3).toInt ≤ 40) ∧ (∀ k : Nat, k < 40 → 0 ≤ (σ 6 k).toInt ∧ (σ 6 k).toInt ≤ 67) := id hI2
  obtain ⟨i7, i8, i9, w10⟩ : (1 ≤ (σ 16 0).toInt ∧ (σ 16 0).toInt ≤ 8) ∧ (1 ≤ (σ 16 1).toInt ∧ (σ 16 1).toInt ≤ 12) ∧ (0 ≤ (σ 16 2).toInt ∧ (σ 16 2).toInt ≤ 999) ∧ (∀ k : Nat, k < 8 → 0 ≤ (σ 17 k).toInt ∧ (σ 17 k).toInt ≤ 3) := id hI16
  refine lv_aload_n hx hb dX11_costOf_0 rfl (lv_at hl 0 rfl) ?_
  refine va_get (D := D) hx hb hts inlX11 hown hK hP 0 (jc_0 cI cL ad σ τ) rfl 9 (of_decide_eq_true rfl) (hts _ kw_3_1) (fun _ h9 => h9) rfl dX11_costOf_1 ?_
  refine lv_iload_n hx hb dX11_costOf_4 rfl (lv_at hl 1 rfl) ?_
  refine jcallV (As := [.int a1]) (rest := []) ⟨hx, hb, hml, hown, hts⟩ hK hP hA hS hZ (c_X2_outs_47 l D cI cL ad zz hJ σ τ a1 (A1) t1 hI47) cw_RX11_180 (jc_47 cI cL ad σ τ) rfl ⟨Nat.le_of_ble_eq_true rfl, Nat.le_of_ble_eq_true rfl⟩ rfl rfl rfl hl.1 rfl (Nat.le_of_ble_eq_true rfl) dX11_costOf_5 ⟨Nat.zero_le _, Nat.zero_le _⟩ (fun r12 σ11 τ11 H locs h11 hP hS => ?_)
  obtain ⟨⟨rfl, rfl⟩, w13, h11⟩ := h11
  have h14 := h11
  obtain ⟨q16, k15⟩ := h14
  refine lv_istore_n (lv' := [(2, .int r12), (0, .ref (ad 0)), (1, .int a1)]) hx hb dX11_costOf_8 rfl hl (of_decide_eq_true rfl) rfl (fun ls hl => ?_)
  refine lv_aload_n hx hb dX11_costOf_9 rfl (lv_at hl 1 rfl) ?_
  refine va_get (D := D) hx hb hts inlX11 hown hK hP 0 (jc_0 cI cL ad σ τ) rfl 9 (of_decide_eq_true rfl) (hts _ kw_3_1) (fun _ h9 => h9) rfl dX11_costOf_10 ?_
  refine lv_iload_n hx hb dX11_costOf_13 rfl (lv_at hl 2 rfl) ?_
  refine lv_aload_n hx hb dX11_costOf_14 rfl (lv_at hl 1 rfl) ?_
  refine va_get (D := D) hx hb hts inlX11 hown hK hP 0 (jc_0 cI cL ad σ τ) rfl 0 (of_decide_eq_true rfl) (hts _ kw_1_16) (fun _ h9 => h9) rfl dX11_costOf_15 ?_
  refine jcallV (As := [.int a1, .ref (ad 2)]) (rest := []) ⟨hx, hb, hml, hown, hts⟩ hK hP hA hS hZ (c_X2_attackAhead_47 l D cI cL ad zz hJ σ τ a1 (A1) t1 hI2 hI47) cw_RX11_186 (jc_47 cI cL ad σ τ) rfl ⟨Nat.le_of_ble_eq_true rfl, Nat.le_of_ble_eq_true rfl⟩ rfl rfl rfl hl.1 rfl (Nat.le_of_ble_eq_true rfl) dX11_costOf_18 ⟨Nat.zero_le _, Nat.zero_le _⟩ (fun r18 σ17 τ17 H locs h17 hP hS => ?_)
  obtain ⟨⟨rfl, rfl⟩, w19, h17⟩ := h17
  refine lv_istore_n (lv' := [(3, .int r18), (2, .int r12), (0, .ref (ad 0)), (1, .int a1)]) hx hb dX11_costOf_21 rfl hl (of_decide_eq_true rfl) rfl (fun ls hl => ?_)
  refine lv_aload_n hx hb dX11_costOf_22 rfl (lv_at hl 2 rfl) ?_
  refine va_get (D := D) hx hb hts inlX11 hown hK hP 0 (jc_0 cI cL ad σ τ) rfl 9 (of_decide_eq_true rfl) (hts _ kw_3_1) (fun _ h9 => h9) rfl dX11_costOf_23 ?_
  refine lv_iload_n hx hb dX11_costOf_26 rfl (lv_at hl 3 rfl) ?_
  refine jcallV (As := [.int a1]) (rest := []) ⟨hx, hb, hml, hown, hts⟩ hK hP hA hS hZ (c_X2_bowlerAt_47 l D cI cL ad zz hJ σ τ a1 (A1) t1 hI47) cw_RX11_343 (jc_47 cI cL ad σ τ) rfl ⟨Nat.le_of_ble_eq_true rfl, Nat.le_of_ble_eq_true rfl⟩ rfl rfl rfl hl.1 rfl (Nat.le_of_ble_eq_true rfl) dX11_costOf_27 ⟨Nat.zero_le _, Nat.zero_le _⟩ (fun r21 σ20 τ20 H locs h20 hP hS => ?_)
  obtain ⟨⟨rfl, rfl⟩, h20⟩ := h20
  refine lv_istore (lv' := [(4, .int r21), (3, .int r18), (2, .int r12), (0, .ref (ad 0)), (1, .int a1)]) hx hb dX11_costOf_30 hl (of_decide_eq_true rfl) rfl (fun ls hl => ?_)
  refine lv_aload_n hx hb dX11_costOf_32 rfl (lv_at hl 3 rfl) ?_
  refine va_get (D := D) hx hb hts inlX11 hown hK hP 0 (jc_0 cI cL ad σ τ) rfl 2 (of_decide_eq_true rfl) (hts _ kw_2_0) (fun _ h9 => h9) rfl dX11_costOf_33 ?_
  refine lv_iload_n hx hb dX11_costOf_36 rfl (lv_at hl 4 rfl) ?_
  refine lv_iload_n hx hb dX11_costOf_37 rfl (lv_at hl 2 rfl) ?_
  refine lv_iload_n hx hb dX11_costOf_38 rfl (lv_at hl 1 rfl) ?_
  refine jcallV (As := [.int a1, .int r12, .int r18]) (rest := []) ⟨hx, hb, hml, hown, hts⟩ hK hP hA hS hZ (c_X6_ended_16 l D cI cL ad zz hJ σ τ a1 (A1) t1 r12 (r12.toInt) rfl r18 (r18.toInt) rfl) cw_RX11_190 (jc_16 cI cL ad σ τ) rfl ⟨Nat.le_of_ble_eq_true rfl, Nat.le_of_ble_eq_true rfl⟩ rfl rfl rfl hl.1 rfl (Nat.le_of_ble_eq_true rfl) dX11_costOf_39 ⟨Nat.zero_le _, Nat.zero_le _⟩ (fun r23 σ22 τ22 H locs h22 hP hS => ?_)
  obtain ⟨⟨rfl, rfl⟩, w24, h22⟩ := h22
  refine lv_if_eq (tgt := 47) hx hb dX11_costOf_42 (of_decide_eq_true rfl) (fun c25 => ?_) (fun c25 => ?_)
  · have kc25 := jeq c25 rfl jz_0
    refine lv_aload_n hx hb dX11_costOf_47 rfl (lv_at hl 3 rfl) ?_
    refine va_get (D := D) hx hb hts inlX11 hown hK hP 0 (jc_0 cI cL ad σ τ) rfl 5 (of_decide_eq_true rfl) (hts _ kw_2_9) (fun _ h9 => h9) rfl dX11_costOf_48 ?_
    refine lv_aload_n hx hb dX11_costOf_51 rfl (lv_at hl 3 rfl) ?_
    refine va_get (D := D) hx hb hts inlX11 hown hK hP 0 (jc_0 cI cL ad σ τ) rfl 0 (of_decide_eq_true rfl) (hts _ kw_1_16) (fun _ h9 => h9) rfl dX11_costOf_52 ?_
    refine va_get (D := D) hx hb hts inlX4 hown hK hP 2 (jc_2 cI cL ad σ τ) rfl 1 (of_decide_eq_true rfl) (hts _ kw_12_8) (fun _ h9 => h9) rfl dX11_costOf_55 ?_
    refine jcallVv (As := [.int (σ 2 1)]) (rest := []) ⟨hx, hb, hml, hown, hts⟩ hK hP hA hS hZ (c_X5_lay_26 l D cI cL ad zz hJ σ τ (σ 2 1) ((σ 2 1).toInt) rfl) cw_RX11_156 (jc_26 cI cL ad σ τ) rfl ⟨Nat.le_of_ble_eq_true rfl, Nat.le_of_ble_eq_true rfl⟩ rfl rfl rfl hl.1 rfl (Nat.le_of_ble_eq_true rfl) dX11_costOf_58 ⟨Nat.zero_le _, Nat.zero_le _⟩ (fun σ26 τ26 H locs h26 hP hS => ?_)
    obtain ⟨rfl, f28, h26⟩ := h26
    refine lv_aload_n hx hb dX11_costOf_61 rfl (lv_at hl 3 rfl) ?_
    refine va_get (D := D) hx hb hts inlX11 hown hK hP 0 (jc_0 cI cL ad σ26 τ) rfl 6 (of_decide_eq_true rfl) (hts _ kw_2_13) (fun _ h9 => h9) rfl dX11_costOf_62 ?_
    refine lv_iload_n hx hb dX11_costOf_65 rfl (lv_at hl 1 rfl) ?_
    refine lv_iload_n hx hb dX11_costOf_66 rfl (lv_at hl 4 rfl) ?_
    refine lv_iload_n hx hb dX11_costOf_67 rfl (lv_at hl 2 rfl) ?_
    have I30 : jI16 σ26 := jI16_fr (congrFun (f28 16 (of_decide_eq_true rfl)) 0) (congrFun (f28 16 (of_decide_eq_true rfl)) 1) (congrFun (f28 16 (of_decide_eq_true rfl)) 2) (f28 17 (of_decide_eq_true rfl)) hI16
    have I31 : jI22 σ26 := jI22_fr (congrFun (f28 22 (of_decide_eq_true rfl)) 0) (f28 23 (of_decide_eq_true rfl)) hI22
    have I32 : jI31 σ26 := jI31_fr (congrFun (f28 31 (of_decide_eq_true rfl)) 8) (f28 33 (of_decide_eq_true rfl)) (f28 36 (of_decide_eq_true rfl)) hI31
    refine jcallVv (As := [.int r18, .int a1, .int r12]) (rest := []) ⟨hx, hb, hml, hown, hts⟩ hK hP hA hS hZ (c_X1_seek_31 l D cI cL ad zz hJ σ26 τ r18 (r18.toInt) rfl a1 (A1) t1 r12 (r12.toInt) rfl I30 I31 I32) cw_RX11_193 (jc_31 cI cL ad σ26 τ) rfl ⟨Nat.le_of_ble_eq_true rfl, Nat.le_of_ble_eq_true rfl⟩ rfl rfl rfl hl.1 rfl (Nat.le_of_ble_eq_true rfl) dX11_costOf_68 ⟨Nat.zero_le _, Nat.zero_le _⟩ (fun σ33 τ33 H locs h33 hP hS => ?_)
    obtain ⟨rfl, f35, f36, I37, h33⟩ := h33
    refine lv_aload_n hx hb dX11_costOf_71 rfl (lv_at hl 3 rfl) ?_
    refine va_get (D := D) hx hb hts inlX11 hown hK hP 0 (jc_0 cI cL ad σ33 τ) rfl 6 (of_decide_eq_true rfl) (hts _ kw_2_13) (fun _ h9 => h9) rfl dX11_costOf_72 ?_
    refine lv_iconst (v := 0) hx hb dX11_costOf_75 (of_decide_eq_true rfl) ?_
    refine lv_iload_n hx hb dX11_costOf_76 rfl (lv_at hl 2 rfl) ?_
    have I39 : jI16 σ33 := jI16_fr (congrFun (f35 16 (of_decide_eq_true rfl)) 0) (congrFun (f35 16 (of_decide_eq_true rfl)) 1) (congrFun (f35 16 (of_decide_eq_true rfl)) 2) (f35 17 (of_decide_eq_true rfl)) I30
    refine jcallV (As := [.int 0, .int r12]) (rest := []) ⟨hx, hb, hml, hown, hts⟩ hK hP hA hS hZ (c_X1_valueAt_31 l D cI cL ad zz hJ σ33 τ 0 (0) jz_0 r12 (r12.toInt) rfl I39 I37) cw_RX11_215 (jc_31 cI cL ad σ33 τ) rfl ⟨Nat.le_of_ble_eq_true rfl, Nat.le_of_ble_eq_true rfl⟩ rfl rfl rfl hl.1 rfl (Nat.le_of_ble_eq_true rfl) dX11_costOf_77 ⟨Nat.zero_le _, Nat.zero_le _⟩ (fun r41 σ40 τ40 H locs h40 hP hS => ?_)
    obtain ⟨⟨rfl, rfl⟩, h40⟩ := h40
    refine lv_istore (lv' := [(5, .int r41), (4, .int r21), (3, .int r18), (2, .int r12), (0, .ref (ad 0)), (1, .int a1)]) hx hb dX11_costOf_80 hl (of_decide_eq_true rfl) rfl (fun ls hl => ?_)
    refine lv_iconst (v := 0) hx hb dX11_costOf_82 (of_decide_eq_true rfl) ?_
    refine lv_istore (lv' := [(6, .int 0), (5, .int r41), (4, .int r21), (3, .int r18), (2, .int r12), (0, .ref (ad 0)), (1, .int a1)]) hx hb dX11_costOf_83 hl (of_decide_eq_true rfl) rfl (fun ls hl => ?_)
    refine lv_iconst (v := 0) hx hb dX11_costOf_85 (of_decide_eq_true rfl) ?_
    refine lv_istore (lv' := [(7, .int 0), (6, .int 0), (5, .int r41), (4, .int r21), (3, .int r18), (2, .int r12), (0, .ref (ad 0)), (1, .int a1)]) hx hb dX11_costOf_86 hl (of_decide_eq_true rfl) rfl (fun ls hl => ?_)
    refine lv_iload_n hx hb dX11_costOf_88 rfl (lv_at hl 4 rfl) ?_
    refine lv_iload hx hb dX11_costOf_89 (lv_at hl 3 rfl) ?_
    refine jcallS (As := [.int r18, .int r21]) (rest := []) ⟨hx, hb, hml, hown, hts⟩ hK hP hA hS hZ (c_X0_after l D cI cL ad zz hJ σ33 τ r18 (r18.toInt) rfl r21 (r21.toInt) rfl) cw_RX11_232 ⟨Nat.le_of_ble_eq_true rfl, Nat.le_of_ble_eq_true rfl⟩ rfl rfl rfl hl.1 rfl (Nat.le_of_ble_eq_true rfl) dX11_costOf_91 ⟨Nat.zero_le _, Nat.zero_le _⟩ (fun r43 σ42 τ42 H locs h42 hP hS => ?_)
    obtain ⟨⟨rfl, rfl⟩, w44, h42⟩ := h42
    refine lv_istore (lv' := [(8, .int r43), (7, .int 0), (6, .int 0), (5, .int r41), (4, .int r21), (3, .int r18), (2, .int r12), (0, .ref (ad 0)), (1, .int a1)]) hx hb dX11_costOf_94 hl (of_decide_eq_true rfl) rfl (fun ls hl => ?_)
    refine lv_iload_n hx hb dX11_costOf_96 rfl (lv_at hl 8 rfl) ?_
    refine lv_iconst (v := 1) hx hb dX11_costOf_97 (of_decide_eq_true rfl) ?_
    refine lv_iadd hx hb dX11_costOf_98 ?_
    refine lv_topi (fun x45 ex45 => ?_)
    have gx45 := jrg (rfl : x45.toInt = x45.toInt)
    refine lv_aload_n hx hb dX11_costOf_99 rfl (lv_at hl 7 rfl) ?_
    refine va_get (D := D) hx hb hts inlX11 hown hK hP 0 (jc_0 cI cL ad σ33 τ) rfl 2 (of_decide_eq_true rfl) (hts _ kw_2_0) (fun _ h9 => h9) rfl dX11_costOf_100 ?_
    refine va_get (D := D) hx hb hts inlX6 hown hK hP 16 (jc_16 cI cL ad σ33 τ) rfl 1 (of_decide_eq_true rfl) (hts _ kw_20_5) (fun _ h9 => h9) rfl dX11_costOf_103 ?_
    have m46 : σ33 16 1 = (σ 16 1) := ((congrFun (f35 16 (of_decide_eq_true rfl)) 1).trans (congrFun (f28 16 (of_decide_eq_true rfl)) 1))
    refine jtopr m46 ?_
    refine lv_icmp_ge (tgt := 146) hx hb dX11_costOf_106 (of_decide_eq_true rfl) (fun c47 => ?_) (fun c47 => ?_)
    · have kc47 := jle c47 rfl rfl
      refine lv_aload_n hx hb dX11_costOf_146 rfl (lv_at hl 7 rfl) ?_
      refine va_get (D := D) hx hb hts inlX11 hown hK hP 0 (jc_0 cI cL ad σ33 τ) rfl 2 (of_decide_eq_true rfl) (hts _ kw_2_0) (fun _ h9 => h9) rfl dX11_costOf_147 ?_
      refine lv_iload_n hx hb dX11_costOf_150 rfl (lv_at hl 6 rfl) ?_
      refine jcallV (As := [.int r12]) (rest := []) ⟨hx, hb, hml, hown, hts⟩ hK hP hA hS hZ (c_X6_sortAt_16 l D cI cL ad zz hJ σ33 τ r12 (r12.toInt) rfl) cw_RX11_149 (jc_16 cI cL ad σ33 τ) rfl ⟨Nat.le_of_ble_eq_true rfl, Nat.le_of_ble_eq_true rfl⟩ rfl rfl rfl hl.1 rfl (Nat.le_of_ble_eq_true rfl) dX11_costOf_151 ⟨Nat.zero_le _, Nat.zero_le _⟩ (fun r49 σ48 τ48 H locs h48 hP hS => ?_)
      obtain ⟨⟨rfl, rfl⟩, h48⟩ := h48
      rcases h48 with h50 | h51
      · obtain ⟨q53, k52⟩ := h50
        exact by
         have q54 : r49 = (σ 17 r12.toNatClampNeg) := q53.trans (by rw [f35 17 (of_decide_eq_true rfl), f28 17 (of_decide_eq_true rfl)])
         have q54e : (σ33 17 r12.toNatClampNeg).toInt = (σ 17 r12.toNatClampNeg).toInt := by rw [← q53, ← q54]
         have q54 := q54.symm
         subst q54
         refine lv_istore (lv' := [(9, .int (σ 17 r12.toNatClampNeg)), (8, .int r43), (7, .int 0), (6, .int 0), (5, .int r41), (4, .int r21), (3, .int r18), (2, .int r12), (0, .ref (ad 0)), (1, .int a1)]) hx hb dX11_costOf_154 hl (of_decide_eq_true rfl) rfl (fun ls hl => ?_)
         refine lv_iload_n hx hb dX11_costOf_156 rfl (lv_at hl 6 rfl) ?_
         refine lv_iload hx hb dX11_costOf_157 (lv_at hl 5 rfl) ?_
         refine jcallS (As := [.int r18, .int r21]) (rest := []) ⟨hx, hb, hml, hown, hts⟩ hK hP hA hS hZ (c_X0_steps l D cI cL ad zz hJ σ33 τ r18 (r18.toInt) rfl r21 (r21.toInt) rfl) cw_RX11_346 ⟨Nat.le_of_ble_eq_true rfl, Nat.le_of_ble_eq_true rfl⟩ rfl rfl rfl hl.1 rfl (Nat.le_of_ble_eq_true rfl) dX11_costOf_159 ⟨Nat.zero_le _, Nat.zero_le _⟩ (fun r56 σ55 τ55 H locs h55 hP hS => ?_)
         obtain ⟨⟨rfl, rfl⟩, w57, h55⟩ := h55
         have k58 := congrArg Int32.toInt w57
         have h59 := h55
         obtain ⟨q61, k60⟩ := h59
         refine lv_istore (lv' := [(10, .int r56), (9, .int (σ 17 r12.toNatClampNeg)), (8, .int r43), (7, .int 0), (6, .int 0), (5, .int r41), (4, .int r21), (3, .int r18), (2, .int r12), (0, .ref (ad 0)), (1, .int a1)]) hx hb dX11_costOf_162 hl (of_decide_eq_true rfl) rfl (fun ls hl => ?_)
         refine lv_aload_n hx hb dX11_costOf_164 rfl (lv_at hl 9 rfl) ?_
         refine va_get (D := D) hx hb hts inlX11 hown hK hP 0 (jc_0 cI cL ad σ33 τ) rfl 5 (of_decide_eq_true rfl) (hts _ kw_2_9) (fun _ h9 => h9) rfl dX11_costOf_165 ?_
         refine lv_iload hx hb dX11_costOf_168 (lv_at hl 6 rfl) ?_
         refine lv_iload hx hb dX11_costOf_170 (lv_at hl 1 rfl) ?_
         refine lv_iload hx hb dX11_costOf_172 (lv_at hl 0 rfl) ?_
         refine lv_aload_n hx hb dX11_costOf_174 rfl (lv_at hl 9 rfl) ?_
         refine va_get (D := D) hx hb hts inlX11 hown hK hP 0 (jc_0 cI cL ad σ33 τ) rfl 9 (of_decide_eq_true rfl) (hts _ kw_3_1) (fun _ h9 => h9) rfl dX11_costOf_175 ?_
         refine lv_iload_n hx hb dX11_costOf_178 rfl (lv_at hl 10 rfl) ?_
         refine lv_iload hx hb dX11_costOf_179 (lv_at hl 6 rfl) ?_
         refine lv_aload_n hx hb dX11_costOf_181 rfl (lv_at hl 9 rfl) ?_
         refine va_get (D := D) hx hb hts inlX11 hown hK hP 0 (jc_0 cI cL ad σ33 τ) rfl 0 (of_decide_eq_true rfl) (hts _ kw_1_16) (fun _ h9 => h9) rfl dX11_costOf_182 ?_
         have I62 : jI47 σ33 := jI47_fr ((congrFun (f35 47 (of_decide_eq_true rfl)) 0).trans (congrFun (f28 47 (of_decide_eq_true rfl)) 0)) ((f35 48 (of_decide_eq_true rfl)).trans (f28 48 (of_decide_eq_true rfl))) ((f35 49 (of_decide_eq_true rfl)).trans (f28 49 (of_decide_eq_true rfl))) hI47
         refine jcallV (As := [.int a1, .int r21, .ref (ad 2)]) (rest := [.int r56, .int (σ 17 r12.toNatClampNeg), .int r21, .ref (ad 26)]) ⟨hx, hb, hml, hown, hts⟩ hK hP hA hS hZ (c_X2_leftAhead_47 l D cI cL ad zz hJ σ33 τ a1 (A1) t1 r21 (r21.toInt) rfl I62) cw_RX11_349 (jc_47 cI cL ad σ33 τ) rfl ⟨Nat.le_of_ble_eq_true rfl, Nat.le_of_ble_eq_true rfl⟩ rfl rfl rfl hl.1 rfl (Nat.le_of_ble_eq_true rfl) dX11_costOf_185 ⟨Nat.zero_le _, Nat.zero_le _⟩ (fun r64 σ63 τ63 H locs h63 hP hS => ?_)
         obtain ⟨⟨rfl, rfl⟩, h63⟩ := h63
         refine lv_iload_n hx hb dX11_costOf_188 rfl (lv_at hl 10 rfl) ?_
         refine lv_iload_n hx hb dX11_costOf_189 rfl (lv_at hl 8 rfl) ?_
         have I65 : jI22 σ33 := jI22_fr (congrFun (f35 22 (of_decide_eq_true rfl)) 0) (f35 23 (of_decide_eq_true rfl)) I31
         refine jcallV (As := [.int r21, .int (σ 17 r12.toNatClampNeg), .int r56, .int r64, .int a1, .int r12]) (rest := []) ⟨hx, hb, hml, hown, hts⟩ hK hP hA hS hZ (c_X5_outOf_26 l D cI cL ad zz hJ σ33 τ r21 (r21.toInt) rfl (σ 17 r12.toNatClampNeg) ((σ 17 r12.toNatClampNeg).toInt) rfl r56 (r56.toInt) rfl r64 (r64.toInt) rfl a1 (A1) t1 r12 (r12.toInt) rfl I65) cw_RX11_166 (jc_26 cI cL ad σ33 τ) rfl ⟨Nat.le_of_ble_eq_true rfl, Nat.le_of_ble_eq_true rfl⟩ rfl rfl rfl hl.1 rfl (Nat.le_of_ble_eq_true rfl) dX11_costOf_190 ⟨Nat.zero_le _, Nat.zero_le _⟩ (fun r67 σ66 τ66 H locs h66 hP hS => ?_)
         obtain ⟨rfl, f68, h66⟩ := h66
         refine lv_istore (lv' := [(11, .int r67), (10, .int r56), (9, .int (σ 17 r12.toNatClampNeg)), (8, .int r43), (7, .int 0), (6, .int 0), (5, .int r41), (4, .int r21), (3, .int r18), (2, .int r12), (0, .ref (ad 0)), (1, .int a1)]) hx hb dX11_costOf_193 hl (of_decide_eq_true rfl) rfl (fun ls hl => ?_)
         refine lv_aload_n hx hb dX11_costOf_195 rfl (lv_at hl 10 rfl) ?_
         refine va_get (D := D) hx hb hts inlX11 hown hK hP 0 (jc_0 cI cL ad σ66 τ) rfl 2 (of_decide_eq_true rfl) (hts _ kw_2_0) (fun _ h9 => h9) rfl dX11_costOf_196 ?_
         refine lv_aload_n hx hb dX11_costOf_199 rfl (lv_at hl 10 rfl) ?_
         refine va_get (D := D) hx hb hts inlX11 hown hK hP 0 (jc_0 cI cL ad σ66 τ) rfl 5 (of_decide_eq_true rfl) (hts _ kw_2_9) (fun _ h9 => h9) rfl dX11_costOf_200 ?_
         refine lv_iload hx hb dX11_costOf_203 (lv_at hl 7 rfl) ?_
         refine lv_iload hx hb dX11_costOf_205 (lv_at hl 2 rfl) ?_
         refine lv_iload hx hb dX11_costOf_207 (lv_at hl 1 rfl) ?_
         refine jcallV (As := [.int r21, .int (σ 17 r12.toNatClampNeg), .int r56]) (rest := [.ref (ad 16)]) ⟨hx, hb, hml, hown, hts⟩ hK hP hA hS hZ (c_X5_runsOf_26 l D cI cL ad zz hJ σ66 τ r21 (r21.toInt) rfl (σ 17 r12.toNatClampNeg) ((σ 17 r12.toNatClampNeg).toInt) rfl r56 (r56.toInt) rfl) cw_RX11_160 (jc_26 cI cL ad σ66 τ) rfl ⟨Nat.le_of_ble_eq_true rfl, Nat.le_of_ble_eq_true rfl⟩ rfl rfl rfl hl.1 rfl (Nat.le_of_ble_eq_true rfl) dX11_costOf_209 ⟨Nat.zero_le _, Nat.zero_le _⟩ (fun r71 σ70 τ70 H locs h70 hP hS => ?_)
         obtain ⟨⟨rfl, rfl⟩, h70⟩ := h70
         refine lv_iload hx hb dX11_costOf_212 (lv_at hl 0 rfl) ?_
         refine lv_iload hx hb dX11_costOf_214 (lv_at hl 5 rfl) ?_
         refine lv_iload hx hb dX11_costOf_216 (lv_at hl 4 rfl) ?_
         refine jcallV (As := [.int r71, .int r67, .int 0, .int 0]) (rest := []) ⟨hx, hb, hml, hown, hts⟩ hK hP hA hS hZ (c_X6_meanOf_16 l D cI cL ad zz hJ σ66 τ r71 (r71.toInt) rfl r67 (r67.toInt) rfl 0 (0) jz_0 0 (0) jz_0) cw_RX11_353 (jc_16 cI cL ad σ66 τ) rfl ⟨Nat.le_of_ble_eq_true rfl, Nat.le_of_ble_eq_true rfl⟩ rfl rfl rfl hl.1 rfl (Nat.le_of_ble_eq_true rfl) dX11_costOf_218 ⟨Nat.zero_le _, Nat.zero_le _⟩ (fun r73 σ72 τ72 H locs h72 hP hS => ?_)
         obtain ⟨⟨rfl, rfl⟩, h72⟩ := h72
         refine lv_iload hx hb dX11_costOf_221 (lv_at hl 6 rfl) ?_
         have g74 := jrg (rfl : r73.toInt = r73.toInt)
         have g75 := jrg (rfl : r41.toInt = r41.toInt)
         refine lv_isub hx hb dX11_costOf_223 ?_
         refine lv_topi (fun x76 ex76 => ?_)
         have gx76 := jrg (rfl : x76.toInt = x76.toInt)
         have I77 : jI31 σ66 := jI31_fr (congrFun (f68 31 (of_decide_eq_true rfl)) 8) (f68 33 (of_decide_eq_true rfl)) (f68 36 (of_decide_eq_true rfl)) I37
         exact hret x76 σ66 τ _ _ _ _ rfl ⟨rfl, (fun i hi => ((f68 i (imp_143 i hi)).trans ((f35 i (imp_132 i hi)).trans (f28 i (imp_131 i hi))))), (fun i hi => ((congrFun (f68 31 (of_decide_eq_true rfl)) i).trans ((f36 i hi).trans (congrFun (f28 31 (of_decide_eq_true rfl)) i)))), I77, trivial⟩ hP hS dX11_costOf_224
      · obtain ⟨q79, k78⟩ := h51
        have q79 := q79.symm
        subst q79
        refine lv_istore (lv' := [(9, .int 0), (8, .int r43), (7, .int 0), (6, .int 0), (5, .int r41), (4, .int r21), (3, .int r18), (2, .int r12), (0, .ref (ad 0)), (1, .int a1)]) hx hb dX11_costOf_154 hl (of_decide_eq_true rfl) rfl (fun ls hl => ?_)
        refine lv_iload_n hx hb dX11_costOf_156 rfl (lv_at hl 6 rfl) ?_
        refine lv_iload hx hb dX11_costOf_157 (lv_at hl 5 rfl) ?_
        refine jcallS (As := [.int r18, .int r21]) (rest := []) ⟨hx, hb, hml, hown, hts⟩ hK hP hA hS hZ (c_X0_steps l D cI cL ad zz hJ σ33 τ r18 (r18.toInt) rfl r21 (r21.toInt) rfl) cw_RX11_346 ⟨Nat.le_of_ble_eq_true rfl, Nat.le_of_ble_eq_true rfl⟩ rfl rfl rfl hl.1 rfl (Nat.le_of_ble_eq_true rfl) dX11_costOf_159 ⟨Nat.zero_le _, Nat.zero_le _⟩ (fun r81 σ80 τ80 H locs h80 hP hS => ?_)
        obtain ⟨⟨rfl, rfl⟩, w82, h80⟩ := h80
        have k83 := congrArg Int32.toInt w82
        have h84 := h80
        obtain ⟨q86, k85⟩ := h84
        refine lv_istore (lv' := [(10, .int r81), (9, .int 0), (8, .int r43), (7, .int 0), (6, .int 0), (5, .int r41), (4, .int r21), (3, .int r18), (2, .int r12), (0, .ref (ad 0)), (1, .int a1)]) hx hb dX11_costOf_162 hl (of_decide_eq_true rfl) rfl (fun ls hl => ?_)
        refine lv_aload_n hx hb dX11_costOf_164 rfl (lv_at hl 9 rfl) ?_
        refine va_get (D := D) hx hb hts inlX11 hown hK hP 0 (jc_0 cI cL ad σ33 τ) rfl 5 (of_decide_eq_true rfl) (hts _ kw_2_9) (fun _ h9 => h9) rfl dX11_costOf_165 ?_
        refine lv_iload hx hb dX11_costOf_168 (lv_at hl 6 rfl) ?_
        refine lv_iload hx hb dX11_costOf_170 (lv_at hl 1 rfl) ?_
        refine lv_iload hx hb dX11_costOf_172 (lv_at hl 0 rfl) ?_
        refine lv_aload_n hx hb dX11_costOf_174 rfl (lv_at hl 9 rfl) ?_
        refine va_get (D := D) hx hb hts inlX11 hown hK hP 0 (jc_0 cI cL ad σ33 τ) rfl 9 (of_decide_eq_true rfl) (hts _ kw_3_1) (fun _ h9 => h9) rfl dX11_costOf_175 ?_
        refine lv_iload_n hx hb dX11_costOf_178 rfl (lv_at hl 10 rfl) ?_
        refine lv_iload hx hb dX11_costOf_179 (lv_at hl 6 rfl) ?_
        refine lv_aload_n hx hb dX11_costOf_181 rfl (lv_at hl 9 rfl) ?_
        refine va_get (D := D) hx hb hts inlX11 hown hK hP 0 (jc_0 cI cL ad σ33 τ) rfl 0 (of_decide_eq_true rfl) (hts _ kw_1_16) (fun _ h9 => h9) rfl dX11_costOf_182 ?_
        have I87 : jI47 σ33 := jI47_fr ((congrFun (f35 47 (of_decide_eq_true rfl)) 0).trans (congrFun (f28 47 (of_decide_eq_true rfl)) 0)) ((f35 48 (of_decide_eq_true rfl)).trans (f28 48 (of_decide_eq_true rfl))) ((f35 49 (of_decide_eq_true rfl)).trans (f28 49 (of_decide_eq_true rfl))) hI47
        refine jcallV (As := [.int a1, .int r21, .ref (ad 2)]) (rest := [.int r81, .int 0, .int r21, .ref (ad 26)]) ⟨hx, hb, hml, hown, hts⟩ hK hP hA hS hZ (c_X2_leftAhead_47 l D cI cL ad zz hJ σ33 τ a1 (A1) t1 r21 (r21.toInt) rfl I87) cw_RX11_349 (jc_47 cI cL ad σ33 τ) rfl ⟨Nat.le_of_ble_eq_true rfl, Nat.le_of_ble_eq_true rfl⟩ rfl rfl rfl hl.1 rfl (Nat.le_of_ble_eq_true rfl) dX11_costOf_185 ⟨Nat.zero_le _, Nat.zero_le _⟩ (fun r89 σ88 τ88 H locs h88 hP hS => ?_)
        obtain ⟨⟨rfl, rfl⟩, h88⟩ := h88
        refine lv_iload_n hx hb dX11_costOf_188 rfl (lv_at hl 10 rfl) ?_
        refine lv_iload_n hx hb dX11_costOf_189 rfl (lv_at hl 8 rfl) ?_
        have I90 : jI22 σ33 := jI22_fr (congrFun (f35 22 (of_decide_eq_true rfl)) 0) (f35 23 (of_decide_eq_true rfl)) I31
        refine jcallV (As := [.int r21, .int 0, .int r81, .int r89, .int a1, .int r12]) (rest := []) ⟨hx, hb, hml, hown, hts⟩ hK hP hA hS hZ (c_X5_outOf_26 l D cI cL ad zz hJ σ33 τ r21 (r21.toInt) rfl 0 (0) jz_0 r81 (r81.toInt) rfl r89 (r89.toInt) rfl a1 (A1) t1 r12 (r12.toInt) rfl I90) cw_RX11_166 (jc_26 cI cL ad σ33 τ) rfl ⟨Nat.le_of_ble_eq_true rfl, Nat.le_of_ble_eq_true rfl⟩ rfl rfl rfl hl.1 rfl (Nat.le_of_ble_eq_true rfl) dX11_costOf_190 ⟨Nat.zero_le _, Nat.zero_le _⟩ (fun r92 σ91 τ91 H locs h91 hP hS => ?_)
        obtain ⟨rfl, f93, h91⟩ := h91
        refine lv_istore (lv' := [(11, .int r92), (10, .int r81), (9, .int 0), (8, .int r43), (7, .int 0), (6, .int 0), (5, .int r41), (4, .int r21), (3, .int r18), (2, .int r12), (0, .ref (ad 0)), (1, .int a1)]) hx hb dX11_costOf_193 hl (of_decide_eq_true rfl) rfl (fun ls hl => ?_)
        refine lv_aload_n hx hb dX11_costOf_195 rfl (lv_at hl 10 rfl) ?_
        refine va_get (D := D) hx hb hts inlX11 hown hK hP 0 (jc_0 cI cL ad σ91 τ) rfl 2 (of_decide_eq_true rfl) (hts _ kw_2_0) (fun _ h9 => h9) rfl dX11_costOf_196 ?_
        refine lv_aload_n hx hb dX11_costOf_199 rfl (lv_at hl 10 rfl) ?_
        refine va_get (D := D) hx hb hts inlX11 hown hK hP 0 (jc_0 cI cL ad σ91 τ) rfl 5 (of_decide_eq_true rfl) (hts _ kw_2_9) (fun _ h9 => h9) rfl dX11_costOf_200 ?_
        refine lv_iload hx hb dX11_costOf_203 (lv_at hl 7 rfl) ?_
        refine lv_iload hx hb dX11_costOf_205 (lv_at hl 2 rfl) ?_
        refine lv_iload hx hb dX11_costOf_207 (lv_at hl 1 rfl) ?_
        refine jcallV (As := [.int r21, .int 0, .int r81]) (rest := [.ref (ad 16)]) ⟨hx, hb, hml, hown, hts⟩ hK hP hA hS hZ (c_X5_runsOf_26 l D cI cL ad zz hJ σ91 τ r21 (r21.toInt) rfl 0 (0) jz_0 r81 (r81.toInt) rfl) cw_RX11_160 (jc_26 cI cL ad σ91 τ) rfl ⟨Nat.le_of_ble_eq_true rfl, Nat.le_of_ble_eq_true rfl⟩ rfl rfl rfl hl.1 rfl (Nat.le_of_ble_eq_true rfl) dX11_costOf_209 ⟨Nat.zero_le _, Nat.zero_le _⟩ (fun r96 σ95 τ95 H locs h95 hP hS => ?_)
        obtain ⟨⟨rfl, rfl⟩, h95⟩ := h95
        refine lv_iload hx hb dX11_costOf_212 (lv_at hl 0 rfl) ?_
        refine lv_iload hx hb dX11_costOf_214 (lv_at hl 5 rfl) ?_
        refine lv_iload hx hb dX11_costOf_216 (lv_at hl 4 rfl) ?_
        refine jcallV (As := [.int r96, .int r92, .int 0, .int 0]) (rest := []) ⟨hx, hb, hml, hown, hts⟩ hK hP hA hS hZ (c_X6_meanOf_16 l D cI cL ad zz hJ σ91 τ r96 (r96.toInt) rfl r92 (r92.toInt) rfl 0 (0) jz_0 0 (0) jz_0) cw_RX11_353 (jc_16 cI cL ad σ91 τ) rfl ⟨Nat.le_of_ble_eq_true rfl, Nat.le_of_ble_eq_true rfl⟩ rfl rfl rfl hl.1 rfl (Nat.le_of_ble_eq_true rfl) dX11_costOf_218 ⟨Nat.zero_le _, Nat.zero_le _⟩ (fun r98 σ97 τ97 H locs h97 hP hS => ?_)
        obtain ⟨⟨rfl, rfl⟩, h97⟩ := h97
        refine lv_iload hx hb dX11_costOf_221 (lv_at hl 6 rfl) ?_
        have g99 := jrg (rfl : r98.toInt = r98.toInt)
        have g100 := jrg (rfl : r41.toInt = r41.toInt)
        refine lv_isub hx hb dX11_costOf_223 ?_
        refine lv_topi (fun x101 ex101 => ?_)
        have gx101 := jrg (rfl : x101.toInt = x101.toInt)
        have I102 : jI31 σ91 := jI31_fr (congrFun (f93 31 (of_decide_eq_true rfl)) 8) (f93 33 (of_decide_eq_true rfl)) (f93 36 (of_decide_eq_true rfl)) I37
        exact hret x101 σ91 τ _ _ _ _ rfl ⟨rfl, (fun i hi => ((f93 i (imp_143 i hi)).trans ((f35 i (imp_132 i hi)).trans (f28 i (imp_131 i hi))))), (fun i hi => ((congrFun (f93 31 (of_decide_eq_true rfl)) i).trans ((f36 i hi).trans (congrFun (f28 31 (of_decide_eq_true rfl)) i)))), I102, trivial⟩ hP hS dX11_costOf_224
    · have kc47 := jnle c47 rfl rfl
      refine lv_aload_n hx hb dX11_costOf_109 rfl (lv_at hl 7 rfl) ?_
      refine va_get (D := D) hx hb hts inlX11 hown hK hP 0 (jc_0 cI cL ad σ33 τ) rfl 6 (of_decide_eq_true rfl) (hts _ kw_2_13) (fun _ h9 => h9) rfl dX11_costOf_110 ?_
      refine lv_iload hx hb dX11_costOf_113 (lv_at hl 0 rfl) ?_
      refine lv_iload_n hx hb dX11_costOf_115 rfl (lv_at hl 8 rfl) ?_
      refine lv_iconst (v := 1) hx hb dX11_costOf_116 (of_decide_eq_true rfl) ?_
      refine lv_iadd hx hb dX11_costOf_117 ?_
      refine lv_topi (fun x103 ex103 => ?_)
      have gx103 := jrg (rfl : x103.toInt = x103.toInt)
      refine lv_iload_n hx hb dX11_costOf_118 rfl (lv_at hl 6 rfl) ?_
      have I104 : jI22 σ33 := jI22_fr (congrFun (f35 22 (of_decide_eq_true rfl)) 0) (f35 23 (of_decide_eq_true rfl)) I31
      refine jcallVv (As := [.int r43, .int x103, .int r12]) (rest := []) ⟨hx, hb, hml, hown, hts⟩ hK hP hA hS hZ (c_X1_seek_31 l D cI cL ad zz hJ σ33 τ r43 (r43.toInt) rfl x103 (x103.toInt) rfl r12 (r12.toInt) rfl I39 I104 I37) cw_RX11_193 (jc_31 cI cL ad σ33 τ) rfl ⟨Nat.le_of_ble_eq_true rfl, Nat.le_of_ble_eq_true rfl⟩ rfl rfl rfl hl.1 rfl (Nat.le_of_ble_eq_true rfl) dX11_costOf_119 ⟨Nat.zero_le _, Nat.zero_le _⟩ (fun σ105 τ105 H locs h105 hP hS => ?_)
      obtain ⟨rfl, f107, f108, I109, h105⟩ := h105
      refine lv_aload_n hx hb dX11_costOf_122 rfl (lv_at hl 7 rfl) ?_
      refine va_get (D := D) hx hb hts inlX11 hown hK hP 0 (jc_0 cI cL ad σ105 τ) rfl 6 (of_decide_eq_true rfl) (hts _ kw_2_13) (fun _ h9 => h9) rfl dX11_costOf_123 ?_
      refine lv_iconst (v := 0) hx hb dX11_costOf_126 (of_decide_eq_true rfl) ?_
      refine lv_iload_n hx hb dX11_costOf_127 rfl (lv_at hl 6 rfl) ?_
      refine lv_iconst (v := 1) hx hb dX11_costOf_128 (of_decide_eq_true rfl) ?_
      have g111 := jrg (rfl : r12.toInt = r12.toInt)
      refine lv_iadd hx hb dX11_costOf_129 ?_
      refine lv_topi (fun x112 ex112 => ?_)
      exact by
       have tx112 : x112.toInt = r12.toInt + 1 := (jadd ex112 rfl jz_1 (by omega) (by omega)).trans (by omega)
       have I113 : jI16 σ105 := jI16_fr (congrFun (f107 16 (of_decide_eq_true rfl)) 0) (congrFun (f107 16 (of_decide_eq_true rfl)) 1) (congrFun (f107 16 (of_decide_eq_true rfl)) 2) (f107 17 (of_decide_eq_true rfl)) I39
       refine jcallV (As := [.int 0, .int x112]) (rest := []) ⟨hx, hb, hml, hown, hts⟩ hK hP hA hS hZ (c_X1_valueAt_31 l D cI cL ad zz hJ σ105 τ 0 (0) jz_0 x112 (r12.toInt + 1) tx112 I113 I109) cw_RX11_215 (jc_31 cI cL ad σ105 τ) rfl ⟨Nat.le_of_ble_eq_true rfl, Nat.le_of_ble_eq_true rfl⟩ rfl rfl rfl hl.1 rfl (Nat.le_of_ble_eq_true rfl) dX11_costOf_130 ⟨Nat.zero_le _, Nat.zero_le _⟩ (fun r115 σ114 τ114 H locs h114 hP hS => ?_)
       obtain ⟨⟨rfl, rfl⟩, h114⟩ := h114
       refine lv_istore (lv' := [(6, .int r115), (8, .int r43), (7, .int 0), (5, .int r41), (4, .int r21), (3, .int r18), (2, .int r12), (0, .ref (ad 0)), (1, .int a1)]) hx hb dX11_costOf_133 hl (of_decide_eq_true rfl) rfl (fun ls hl => ?_)
       refine lv_aload_n hx hb dX11_costOf_135 rfl (lv_at hl 7 rfl) ?_
       refine va_get (D := D) hx hb hts inlX11 hown hK hP 0 (jc_0 cI cL ad σ105 τ) rfl 6 (of_decide_eq_true rfl) (hts _ kw_2_13) (fun _ h9 => h9) rfl dX11_costOf_136 ?_
       refine lv_iconst (v := 0) hx hb dX11_costOf_139 (of_decide_eq_true rfl) ?_
       refine lv_iload_n hx hb dX11_costOf_140 rfl (lv_at hl 6 rfl) ?_
       refine jcallV (As := [.int 0, .int r12]) (rest := []) ⟨hx, hb, hml, hown, hts⟩ hK hP hA hS hZ (c_X1_valueAt_31 l D cI cL ad zz hJ σ105 τ 0 (0) jz_0 r12 (r12.toInt) rfl I113 I109) cw_RX11_215 (jc_31 cI cL ad σ105 τ) rfl ⟨Nat.le_of_ble_eq_true rfl, Nat.le_of_ble_eq_true rfl⟩ rfl rfl rfl hl.1 rfl (Nat.le_of_ble_eq_true rfl) dX11_costOf_141 ⟨Nat.zero_le _, Nat.zero_le _⟩ (fun r117 σ116 τ116 H locs h116 hP hS => ?_)
       obtain ⟨⟨rfl, rfl⟩, h116⟩ := h116
       refine lv_istore (lv' := [(7, .int r117), (6, .int r115), (8, .int r43), (5, .int r41), (4, .int r21), (3, .int r18), (2, .int r12), (0, .ref (ad 0)), (1, .int a1)]) hx hb dX11_costOf_144 hl (of_decide_eq_true rfl) rfl (fun ls hl => ?_)
       refine lv_aload_n hx hb dX11_costOf_146 rfl (lv_at hl 7 rfl) ?_
       refine va_get (D := D) hx hb hts inlX11 hown hK hP 0 (jc_0 cI cL ad σ105 τ) rfl 2 (of_decide_eq_true rfl) (hts _ kw_2_0) (fun _ h9 => h9) rfl dX11_costOf_147 ?_
       refine lv_iload_n hx hb dX11_costOf_150 rfl (lv_at hl 6 rfl) ?_
       refine jcallV (As := [.int r12]) (rest := []) ⟨hx, hb, hml, hown, hts⟩ hK hP hA hS hZ (c_X6_sortAt_16 l D cI cL ad zz hJ σ105 τ r12 (r12.toInt) rfl) cw_RX11_149 (jc_16 cI cL ad σ105 τ) rfl ⟨Nat.le_of_ble_eq_true rfl, Nat.le_of_ble_eq_true rfl⟩ rfl rfl rfl hl.1 rfl (Nat.le_of_ble_eq_true rfl) dX11_costOf_151 ⟨Nat.zero_le _, Nat.zero_le _⟩ (fun r119 σ118 τ118 H locs h118 hP hS => ?_)
       obtain ⟨⟨rfl, rfl⟩, h118⟩ := h118
       rcases h118 with h120 | h121
       · obtain ⟨q123, k122⟩ := h120
         exact by
          have q124 : r119 = (σ 17 r12.toNatClampNeg) := q123.trans (by rw [f107 17 (of_decide_eq_true rfl), f35 17 (of_decide_eq_true rfl), f28 17 (of_decide_eq_true rfl)])
          have q124e : (σ105 17 r12.toNatClampNeg).toInt = (σ 17 r12.toNatClampNeg).toInt := by rw [← q123, ← q124]
          have q124 := q124.symm
          subst q124
          refine lv_istore (lv' := [(9, .int (σ 17 r12.toNatClampNeg)), (7, .int r117), (6, .int r115), (8, .int r43), (5, .int r41), (4, .int r21), (3, .int r18), (2, .int r12), (0, .ref (ad 0)), (1, .int a1)]) hx hb dX11_costOf_154 hl (of_decide_eq_true rfl) rfl (fun ls hl => ?_)
          refine lv_iload_n hx hb dX11_costOf_156 rfl (lv_at hl 6 rfl) ?_
          refine lv_iload hx hb dX11_costOf_157 (lv_at hl 5 rfl) ?_
          refine jcallS (As := [.int r18, .int r21]) (rest := []) ⟨hx, hb, hml, hown, hts⟩ hK hP hA hS hZ (c_X0_steps l D cI cL ad zz hJ σ105 τ r18 (r18.toInt) rfl r21 (r21.toInt) rfl) cw_RX11_346 ⟨Nat.le_of_ble_eq_true rfl, Nat.le_of_ble_eq_true rfl⟩ rfl rfl rfl hl.1 rfl (Nat.le_of_ble_eq_true rfl) dX11_costOf_159 ⟨Nat.zero_le _, Nat.zero_le _⟩ (fun r126 σ125 τ125 H locs h125 hP hS => ?_)
          obtain ⟨⟨rfl, rfl⟩, w127, h125⟩ := h125
          have k128 := congrArg Int32.toInt w127
          have h129 := h125
          obtain ⟨q131, k130⟩ := h129
          refine lv_istore (lv' := [(10, .int r126), (9, .int (σ 17 r12.toNatClampNeg)), (7, .int r117), (6, .int r115), (8, .int r43), (5, .int r41), (4, .int r21), (3, .int r18), (2, .int r12), (0, .ref (ad 0)), (1, .int a1)]) hx hb dX11_costOf_162 hl (of_decide_eq_true rfl) rfl (fun ls hl => ?_)
          refine lv_aload_n hx hb dX11_costOf_164 rfl (lv_at hl 9 rfl) ?_
          refine va_get (D := D) hx hb hts inlX11 hown hK hP 0 (jc_0 cI cL ad σ105 τ) rfl 5 (of_decide_eq_true rfl) (hts _ kw_2_9) (fun _ h9 => h9) rfl dX11_costOf_165 ?_
          refine lv_iload hx hb dX11_costOf_168 (lv_at hl 6 rfl) ?_
          refine lv_iload hx hb dX11_costOf_170 (lv_at hl 1 rfl) ?_
          refine lv_iload hx hb dX11_costOf_172 (lv_at hl 0 rfl) ?_
          refine lv_aload_n hx hb dX11_costOf_174 rfl (lv_at hl 9 rfl) ?_
          refine va_get (D := D) hx hb hts inlX11 hown hK hP 0 (jc_0 cI cL ad σ105 τ) rfl 9 (of_decide_eq_true rfl) (hts _ kw_3_1) (fun _ h9 => h9) rfl dX11_costOf_175 ?_
          refine lv_iload_n hx hb dX11_costOf_178 rfl (lv_at hl 10 rfl) ?_
          refine lv_iload hx hb dX11_costOf_179 (lv_at hl 6 rfl) ?_
          refine lv_aload_n hx hb dX11_costOf_181 rfl (lv_at hl 9 rfl) ?_
          refine va_get (D := D) hx hb hts inlX11 hown hK hP 0 (jc_0 cI cL ad σ105 τ) rfl 0 (of_decide_eq_true rfl) (hts _ kw_1_16) (fun _ h9 => h9) rfl dX11_costOf_182 ?_
          have I132 : jI47 σ105 := jI47_fr ((congrFun (f107 47 (of_decide_eq_true rfl)) 0).trans ((congrFun (f35 47 (of_decide_eq_true rfl)) 0).trans (congrFun (f28 47 (of_decide_eq_true rfl)) 0))) ((f107 48 (of_decide_eq_true rfl)).trans ((f35 48 (of_decide_eq_true rfl)).trans (f28 48 (of_decide_eq_true rfl)))) ((f107 49 (of_decide_eq_true rfl)).trans ((f35 49 (of_decide_eq_true rfl)).trans (f28 49 (of_decide_eq_true rfl)))) hI47
          refine jcallV (As := [.int a1, .int r21, .ref (ad 2)]) (rest := [.int r126, .int (σ 17 r12.toNatClampNeg), .int r21, .ref (ad 26)]) ⟨hx, hb, hml, hown, hts⟩ hK hP hA hS hZ (c_X2_leftAhead_47 l D cI cL ad zz hJ σ105 τ a1 (A1) t1 r21 (r21.toInt) rfl I132) cw_RX11_349 (jc_47 cI cL ad σ105 τ) rfl ⟨Nat.le_of_ble_eq_true rfl, Nat.le_of_ble_eq_true rfl⟩ rfl rfl rfl hl.1 rfl (Nat.le_of_ble_eq_true rfl) dX11_costOf_185 ⟨Nat.zero_le _, Nat.zero_le _⟩ (fun r134 σ133 τ133 H locs h133 hP hS => ?_)
          obtain ⟨⟨rfl, rfl⟩, h133⟩ := h133
          refine lv_iload_n hx hb dX11_costOf_188 rfl (lv_at hl 10 rfl) ?_
          refine lv_iload_n hx hb dX11_costOf_189 rfl (lv_at hl 8 rfl) ?_
          have I135 : jI22 σ105 := jI22_fr (congrFun (f107 22 (of_decide_eq_true rfl)) 0) (f107 23 (of_decide_eq_true rfl)) I104
          refine jcallV (As := [.int r21, .int (σ 17 r12.toNatClampNeg), .int r126, .int r134, .int a1, .int r12]) (rest := []) ⟨hx, hb, hml, hown, hts⟩ hK hP hA hS hZ (c_X5_outOf_26 l D cI cL ad zz hJ σ105 τ r21 (r21.toInt) rfl (σ 17 r12.toNatClampNeg) ((σ 17 r12.toNatClampNeg).toInt) rfl r126 (r126.toInt) rfl r134 (r134.toInt) rfl a1 (A1) t1 r12 (r12.toInt) rfl I135) cw_RX11_166 (jc_26 cI cL ad σ105 τ) rfl ⟨Nat.le_of_ble_eq_true rfl, Nat.le_of_ble_eq_true rfl⟩ rfl rfl rfl hl.1 rfl (Nat.le_of_ble_eq_true rfl) dX11_costOf_190 ⟨Nat.zero_le _, Nat.zero_le _⟩ (fun r137 σ136 τ136 H locs h136 hP hS => ?_)
          obtain ⟨rfl, f138, h136⟩ := h136
          refine lv_istore (lv' := [(11, .int r137), (10, .int r126), (9, .int (σ 17 r12.toNatClampNeg)), (7, .int r117), (6, .int r115), (8, .int r43), (5, .int r41), (4, .int r21), (3, .int r18), (2, .int r12), (0, .ref (ad 0)), (1, .int a1)]) hx hb dX11_costOf_193 hl (of_decide_eq_true rfl) rfl (fun ls hl => ?_)
          refine lv_aload_n hx hb dX11_costOf_195 rfl (lv_at hl 10 rfl) ?_
          refine va_get (D := D) hx hb hts inlX11 hown hK hP 0 (jc_0 cI cL ad σ136 τ) rfl 2 (of_decide_eq_true rfl) (hts _ kw_2_0) (fun _ h9 => h9) rfl dX11_costOf_196 ?_
          refine lv_aload_n hx hb dX11_costOf_199 rfl (lv_at hl 10 rfl) ?_
          refine va_get (D := D) hx hb hts inlX11 hown hK hP 0 (jc_0 cI cL ad σ136 τ) rfl 5 (of_decide_eq_true rfl) (hts _ kw_2_9) (fun _ h9 => h9) rfl dX11_costOf_200 ?_
          refine lv_iload hx hb dX11_costOf_203 (lv_at hl 7 rfl) ?_
          refine lv_iload hx hb dX11_costOf_205 (lv_at hl 2 rfl) ?_
          refine lv_iload hx hb dX11_costOf_207 (lv_at hl 1 rfl) ?_
          refine jcallV (As := [.int r21, .int (σ 17 r12.toNatClampNeg), .int r126]) (rest := [.ref (ad 16)]) ⟨hx, hb, hml, hown, hts⟩ hK hP hA hS hZ (c_X5_runsOf_26 l D cI cL ad zz hJ σ136 τ r21 (r21.toInt) rfl (σ 17 r12.toNatClampNeg) ((σ 17 r12.toNatClampNeg).toInt) rfl r126 (r126.toInt) rfl) cw_RX11_160 (jc_26 cI cL ad σ136 τ) rfl ⟨Nat.le_of_ble_eq_true rfl, Nat.le_of_ble_eq_true rfl⟩ rfl rfl rfl hl.1 rfl (Nat.le_of_ble_eq_true rfl) dX11_costOf_209 ⟨Nat.zero_le _, Nat.zero_le _⟩ (fun r141 σ140 τ140 H locs h140 hP hS => ?_)
          obtain ⟨⟨rfl, rfl⟩, h140⟩ := h140
          refine lv_iload hx hb dX11_costOf_212 (lv_at hl 0 rfl) ?_
          refine lv_iload hx hb dX11_costOf_214 (lv_at hl 4 rfl) ?_
          refine lv_iload hx hb dX11_costOf_216 (lv_at hl 3 rfl) ?_
          refine jcallV (As := [.int r141, .int r137, .int r115, .int r117]) (rest := []) ⟨hx, hb, hml, hown, hts⟩ hK hP hA hS hZ (c_X6_meanOf_16 l D cI cL ad zz hJ σ136 τ r141 (r141.toInt) rfl r137 (r137.toInt) rfl r115 (r115.toInt) rfl r117 (r117.toInt) rfl) cw_RX11_353 (jc_16 cI cL ad σ136 τ) rfl ⟨Nat.le_of_ble_eq_true rfl, Nat.le_of_ble_eq_true rfl⟩ rfl rfl rfl hl.1 rfl (Nat.le_of_ble_eq_true rfl) dX11_costOf_218 ⟨Nat.zero_le _, Nat.zero_le _⟩ (fun r143 σ142 τ142 H locs h142 hP hS => ?_)
          obtain ⟨⟨rfl, rfl⟩, h142⟩ := h142
          refine lv_iload hx hb dX11_costOf_221 (lv_at hl 6 rfl) ?_
          have g144 := jrg (rfl : r143.toInt = r143.toInt)
          have g145 := jrg (rfl : r41.toInt = r41.toInt)
          refine lv_isub hx hb dX11_costOf_223 ?_
          refine lv_topi (fun x146 ex146 => ?_)
          have gx146 := jrg (rfl : x146.toInt = x146.toInt)
          have I147 : jI31 σ136 := jI31_fr (congrFun (f138 31 (of_decide_eq_true rfl)) 8) (f138 33 (of_decide_eq_true rfl)) (f138 36 (of_decide_eq_true rfl)) I109
          exact hret x146 σ136 τ _ _ _ _ rfl ⟨rfl, (fun i hi => ((f138 i (imp_143 i hi)).trans ((f107 i (imp_132 i hi)).trans ((f35 i (imp_132 i hi)).trans (f28 i (imp_131 i hi)))))), (fun i hi => ((congrFun (f138 31 (of_decide_eq_true rfl)) i).trans ((f108 i hi).trans ((f36 i hi).trans (congrFun (f28 31 (of_decide_eq_true rfl)) i))))), I147, trivial⟩ hP hS dX11_costOf_224
       · obtain ⟨q149, k148⟩ := h121
         have q149 := q149.symm
         subst q149
         refine lv_istore (lv' := [(9, .int 0), (7, .int r117), (6, .int r115), (8, .int r43), (5, .int r41), (4, .int r21), (3, .int r18), (2, .int r12), (0, .ref (ad 0)), (1, .int a1)]) hx hb dX11_costOf_154 hl (of_decide_eq_true rfl) rfl (fun ls hl => ?_)
         refine lv_iload_n hx hb dX11_costOf_156 rfl (lv_at hl 6 rfl) ?_
         refine lv_iload hx hb dX11_costOf_157 (lv_at hl 5 rfl) ?_
         refine jcallS (As := [.int r18, .int r21]) (rest := []) ⟨hx, hb, hml, hown, hts⟩ hK hP hA hS hZ (c_X0_steps l D cI cL ad zz hJ σ105 τ r18 (r18.toInt) rfl r21 (r21.toInt) rfl) cw_RX11_346 ⟨Nat.le_of_ble_eq_true rfl, Nat.le_of_ble_eq_true rfl⟩ rfl rfl rfl hl.1 rfl (Nat.le_of_ble_eq_true rfl) dX11_costOf_159 ⟨Nat.zero_le _, Nat.zero_le _⟩ (fun r151 σ150 τ150 H locs h150 hP hS => ?_)
         obtain ⟨⟨rfl, rfl⟩, w152, h150⟩ := h150
         have k153 := congrArg Int32.toInt w152
         have h154 := h150
         obtain ⟨q156, k155⟩ := h154
         refine lv_istore (lv' := [(10, .int r151), (9, .int 0), (7, .int r117), (6, .int r115), (8, .int r43), (5, .int r41), (4, .int r21), (3, .int r18), (2, .int r12), (0, .ref (ad 0)), (1, .int a1)]) hx hb dX11_costOf_162 hl (of_decide_eq_true rfl) rfl (fun ls hl => ?_)
         refine lv_aload_n hx hb dX11_costOf_164 rfl (lv_at hl 9 rfl) ?_
         refine va_get (D := D) hx hb hts inlX11 hown hK hP 0 (jc_0 cI cL ad σ105 τ) rfl 5 (of_decide_eq_true rfl) (hts _ kw_2_9) (fun _ h9 => h9) rfl dX11_costOf_165 ?_
         refine lv_iload hx hb dX11_costOf_168 (lv_at hl 6 rfl) ?_
         refine lv_iload hx hb dX11_costOf_170 (lv_at hl 1 rfl) ?_
         refine lv_iload hx hb dX11_costOf_172 (lv_at hl 0 rfl) ?_
         refine lv_aload_n hx hb dX11_costOf_174 rfl (lv_at hl 9 rfl) ?_
         refine va_get (D := D) hx hb hts inlX11 hown hK hP 0 (jc_0 cI cL ad σ105 τ) rfl 9 (of_decide_eq_true rfl) (hts _ kw_3_1) (fun _ h9 => h9) rfl dX11_costOf_175 ?_
         refine lv_iload_n hx hb dX11_costOf_178 rfl (lv_at hl 10 rfl) ?_
         refine lv_iload hx hb dX11_costOf_179 (lv_at hl 6 rfl) ?_
         refine lv_aload_n hx hb dX11_costOf_181 rfl (lv_at hl 9 rfl) ?_
         refine va_get (D := D) hx hb hts inlX11 hown hK hP 0 (jc_0 cI cL ad σ105 τ) rfl 0 (of_decide_eq_true rfl) (hts _ kw_1_16) (fun _ h9 => h9) rfl dX11_costOf_182 ?_
         have I157 : jI47 σ105 := jI47_fr ((congrFun (f107 47 (of_decide_eq_true rfl)) 0).trans ((congrFun (f35 47 (of_decide_eq_true rfl)) 0).trans (congrFun (f28 47 (of_decide_eq_true rfl)) 0))) ((f107 48 (of_decide_eq_true rfl)).trans ((f35 48 (of_decide_eq_true rfl)).trans (f28 48 (of_decide_eq_true rfl)))) ((f107 49 (of_decide_eq_true rfl)).trans ((f35 49 (of_decide_eq_true rfl)).trans (f28 49 (of_decide_eq_true rfl)))) hI47
         refine jcallV (As := [.int a1, .int r21, .ref (ad 2)]) (rest := [.int r151, .int 0, .int r21, .ref (ad 26)]) ⟨hx, hb, hml, hown, hts⟩ hK hP hA hS hZ (c_X2_leftAhead_47 l D cI cL ad zz hJ σ105 τ a1 (A1) t1 r21 (r21.toInt) rfl I157) cw_RX11_349 (jc_47 cI cL ad σ105 τ) rfl ⟨Nat.le_of_ble_eq_true rfl, Nat.le_of_ble_eq_true rfl⟩ rfl rfl rfl hl.1 rfl (Nat.le_of_ble_eq_true rfl) dX11_costOf_185 ⟨Nat.zero_le _, Nat.zero_le _⟩ (fun r159 σ158 τ158 H locs h158 hP hS => ?_)
         obtain ⟨⟨rfl, rfl⟩, h158⟩ := h158
         refine lv_iload_n hx hb dX11_costOf_188 rfl (lv_at hl 10 rfl) ?_
         refine lv_iload_n hx hb dX11_costOf_189 rfl (lv_at hl 8 rfl) ?_
         have I160 : jI22 σ105 := jI22_fr (congrFun (f107 22 (of_decide_eq_true rfl)) 0) (f107 23 (of_decide_eq_true rfl)) I104
         refine jcallV (As := [.int r21, .int 0, .int r151, .int r159, .int a1, .int r12]) (rest := []) ⟨hx, hb, hml, hown, hts⟩ hK hP hA hS hZ (c_X5_outOf_26 l D cI cL ad zz hJ σ105 τ r21 (r21.toInt) rfl 0 (0) jz_0 r151 (r151.toInt) rfl r159 (r159.toInt) rfl a1 (A1) t1 r12 (r12.toInt) rfl I160) cw_RX11_166 (jc_26 cI cL ad σ105 τ) rfl ⟨Nat.le_of_ble_eq_true rfl, Nat.le_of_ble_eq_true rfl⟩ rfl rfl rfl hl.1 rfl (Nat.le_of_ble_eq_true rfl) dX11_costOf_190 ⟨Nat.zero_le _, Nat.zero_le _⟩ (fun r162 σ161 τ161 H locs h161 hP hS => ?_)
         obtain ⟨rfl, f163, h161⟩ := h161
         refine lv_istore (lv' := [(11, .int r162), (10, .int r151), (9, .int 0), (7, .int r117), (6, .int r115), (8, .int r43), (5, .int r41), (4, .int r21), (3, .int r18), (2, .int r12), (0, .ref (ad 0)), (1, .int a1)]) hx hb dX11_costOf_193 hl (of_decide_eq_true rfl) rfl (fun ls hl => ?_)
         refine lv_aload_n hx hb dX11_costOf_195 rfl (lv_at hl 10 rfl) ?_
         refine va_get (D := D) hx hb hts inlX11 hown hK hP 0 (jc_0 cI cL ad σ161 τ) rfl 2 (of_decide_eq_true rfl) (hts _ kw_2_0) (fun _ h9 => h9) rfl dX11_costOf_196 ?_
         refine lv_aload_n hx hb dX11_costOf_199 rfl (lv_at hl 10 rfl) ?_
         refine va_get (D := D) hx hb hts inlX11 hown hK hP 0 (jc_0 cI cL ad σ161 τ) rfl 5 (of_decide_eq_true rfl) (hts _ kw_2_9) (fun _ h9 => h9) rfl dX11_costOf_200 ?_
         refine lv_iload hx hb dX11_costOf_203 (lv_at hl 7 rfl) ?_
         refine lv_iload hx hb dX11_costOf_205 (lv_at hl 2 rfl) ?_
         refine lv_iload hx hb dX11_costOf_207 (lv_at hl 1 rfl) ?_
         refine jcallV (As := [.int r21, .int 0, .int r151]) (rest := [.ref (ad 16)]) ⟨hx, hb, hml, hown, hts⟩ hK hP hA hS hZ (c_X5_runsOf_26 l D cI cL ad zz hJ σ161 τ r21 (r21.toInt) rfl 0 (0) jz_0 r151 (r151.toInt) rfl) cw_RX11_160 (jc_26 cI cL ad σ161 τ) rfl ⟨Nat.le_of_ble_eq_true rfl, Nat.le_of_ble_eq_true rfl⟩ rfl rfl rfl hl.1 rfl (Nat.le_of_ble_eq_true rfl) dX11_costOf_209 ⟨Nat.zero_le _, Nat.zero_le _⟩ (fun r166 σ165 τ165 H locs h165 hP hS => ?_)
         obtain ⟨⟨rfl, rfl⟩, h165⟩ := h165
         refine lv_iload hx hb dX11_costOf_212 (lv_at hl 0 rfl) ?_
         refine lv_iload hx hb dX11_costOf_214 (lv_at hl 4 rfl) ?_
         refine lv_iload hx hb dX11_costOf_216 (lv_at hl 3 rfl) ?_
         refine jcallV (As := [.int r166, .int r162, .int r115, .int r117]) (rest := []) ⟨hx, hb, hml, hown, hts⟩ hK hP hA hS hZ (c_X6_meanOf_16 l D cI cL ad zz hJ σ161 τ r166 (r166.toInt) rfl r162 (r162.toInt) rfl r115 (r115.toInt) rfl r117 (r117.toInt) rfl) cw_RX11_353 (jc_16 cI cL ad σ161 τ) rfl ⟨Nat.le_of_ble_eq_true rfl, Nat.le_of_ble_eq_true rfl⟩ rfl rfl rfl hl.1 rfl (Nat.le_of_ble_eq_true rfl) dX11_costOf_218 ⟨Nat.zero_le _, Nat.zero_le _⟩ (fun r168 σ167 τ167 H locs h167 hP hS => ?_)
         obtain ⟨⟨rfl, rfl⟩, h167⟩ := h167
         refine lv_iload hx hb dX11_costOf_221 (lv_at hl 6 rfl) ?_
         have g169 := jrg (rfl : r168.toInt = r168.toInt)
         have g170 := jrg (rfl : r41.toInt = r41.toInt)
         refine lv_isub hx hb dX11_costOf_223 ?_
         refine lv_topi (fun x171 ex171 => ?_)
         have gx171 := jrg (rfl : x171.toInt = x171.toInt)
         have I172 : jI31 σ161 := jI31_fr (congrFun (f163 31 (of_decide_eq_true rfl)) 8) (f163 33 (of_decide_eq_true rfl)) (f163 36 (of_decide_eq_true rfl)) I109
         exact hret x171 σ161 τ _ _ _ _ rfl ⟨rfl, (fun i hi => ((f163 i (imp_143 i hi)).trans ((f107 i (imp_132 i hi)).trans ((f35 i (imp_132 i hi)).trans (f28 i (imp_131 i hi)))))), (fun i hi => ((congrFun (f163 31 (of_decide_eq_true rfl)) i).trans ((f108 i hi).trans ((f36 i hi).trans (congrFun (f28 31 (of_decide_eq_true rfl)) i))))), I172, trivial⟩ hP hS dX11_costOf_224
  · have kc25 := jne c25 rfl jz_0
    refine lv_iconst (v := 0) hx hb dX11_costOf_45 (of_decide_eq_true rfl) ?_
    exact hret 0 σ τ _ _ _ _ rfl ⟨rfl, (fun _ _ => rfl), (fun _ _ => rfl), hI31, trivial⟩ hP hS dX11_costOf_46
set_option maxHeartbeats 4000000 in
set_option maxRecDepth 100000 in
theorem c_X11_cost (l : Launch) (D : va_G) (cI cL : ClassId) (ad zz : Nat → Nat) (hJ : jD ad) (σ : Nat → Nat → Int32) (τ : Nat → Nat → Int64) (a1 : Int32) (A1 : Int) (t1 : a1.toInt = A1) (hI2 : jI2 σ) (hI16 : jI16 σ) (hI22 : jI22 σ) (hI31 : jI31 σ) (hI47 : jI47 σ) : jM l yX11_cost cX11_cost 2 (some .int) ({ frames := 7, cells := 0, slots := 0, locals := 193 }) D cI cL ad zz [.ref (ad 0), .int a1] σ τ (fun r σ' τ' => τ = τ' ∧ (∀ i : Nat, (i < 24 ∨ 25 < i) ∧ (i < 27 ∨ 37 < i) → σ' i = σ i) ∧ (∀ k : Nat, (k < 8 ∨ 8 < k) ∧ (k < 9 ∨ 9 < k) ∧ (k < 10 ∨ 10 < k) ∧ (k < 11 ∨ 11 < k) ∧ (k < 12 ∨ 12 < k) → σ' 31 k = σ 31 k) ∧ (jI31 σ') ∧ True) := by
  refine jM.of hJ (by decide +kernel) (nt := .int) rfl (Nat.le_of_ble_eq_true rfl) ?_
  intro p e s m args below meth c Q ls hC hret hl hP
  obtain ⟨hx, hb, hr, hml, hown, hts, hK, -, hlocks, hZ⟩ := hC
  have hown : s.vm.findClass RX11 = some m.cls := hown
  have hS : va_S (jA ad) s.heap s.heap [] := va_S.rf
  have hA : ∀ q, jA ad q → jA ad q := fun _ h => h
  have hl : lv_has ls 2 [(0, .ref (ad 0)), (1, .int a1)] := hl
  have g1 := jrg t1
  obtain ⟨i1, i2, i3, w4⟩ : (1 ≤ (σ 16 0).toInt ∧ (σ 16 0).toInt ≤ 8) ∧ (1 ≤ (σ 16 1).toInt ∧ (σ 16 1).toInt ≤ 12) ∧ (0 ≤ (σ 16 2).toInt ∧ (σ 16 2).toInt ≤ 999) ∧ (∀ k : Nat, k < 8 → 0 ≤ (σ 17 k).toInt ∧ (σ 17 k).toInt ≤ 3) := id hI16
  obtain ⟨i5, w6, w7⟩ : (0 ≤ (σ 47 0).toInt ∧ (σ 47 0).toInt ≤ 12) ∧ (∀ k : Nat, k < 12 → 0 ≤ (σ 48 k).toInt ∧ (σ 48 k).toInt ≤ 3) ∧ (∀ k : Nat, k < 12 → 0 ≤ (σ 49 k).toInt ∧ (σ 49 k).toInt ≤ 1) := id hI47
  refine lv_iload_n hx hb dX11_cost_0 rfl (lv_at hl 1 rfl) ?_
  refine lv_iconst (v := 0) hx hb dX11_cost_1 (of_decide_eq_true rfl) ?_
  refine lv_aload_n hx hb dX11_cost_2 rfl (lv_at hl 0 rfl) ?_
  refine va_get (D := D) hx hb hts inlX11 hown hK hP 0 (jc_0 cI cL ad σ τ) rfl 9 (of_decide_eq_true rfl) (hts _ kw_3_1) (fun _ h9 => h9) rfl dX11_cost_3 ?_
  refine va_get (D := D) hx hb hts inlX2 hown hK hP 47 (jc_47 cI cL ad σ τ) rfl 0 (of_decide_eq_true rfl) (hts _ kw_13_11) (fun _ h9 => h9) rfl dX11_cost_6 ?_
  refine lv_iconst (v := 1) hx hb dX11_cost_9 (of_decide_eq_true rfl) ?_
  have g8 := jrg (rfl : (σ 47 0).toInt = (σ 47 0).toInt)
  refine lv_isub hx hb dX11_cost_10 ?_
  refine lv_topi (fun x9 ex9 => ?_)
  exact by
   have tx9 : x9.toInt = (σ 47 0).toInt - 1 := (jsub ex9 rfl jz_1 (by omega) (by omega)).trans (by omega)
   refine jcallS (As := [.int a1, .int 0, .int x9]) (rest := []) ⟨hx, hb, hml, hown, hts⟩ hK hP hA hS hZ (c_X11_outside l D cI cL ad zz hJ σ τ a1 (A1) t1 0 (0) jz_0 x9 ((σ 47 0).toInt - 1) tx9) cw_RX11_94 ⟨Nat.le_of_ble_eq_true rfl, Nat.le_of_ble_eq_true rfl⟩ rfl rfl rfl hl.1 rfl (Nat.le_of_ble_eq_true rfl) dX11_cost_11 ⟨Nat.zero_le _, Nat.zero_le _⟩ (fun r11 σ10 τ10 H locs h10 hP hS => ?_)
   obtain ⟨⟨rfl, rfl⟩, h10⟩ := h10
   rcases h10 with h12 | h13
   · obtain ⟨q15, k14⟩ := h12
     have q15 := q15.symm
     subst q15
     refine lv_if_ne (tgt := 31) hx hb dX11_cost_14 (of_decide_eq_true rfl) (fun _ => ?_) (fun c => absurd c (of_decide_eq_true rfl))
     refine lv_ldc (v := (-2000000000)) hx hb hown (hts _ kw_9_21) dX11_cost_31 ?_
     exact hret (-2000000000) σ τ _ _ _ _ rfl ⟨rfl, (fun _ _ => rfl), (fun _ _ => rfl), hI31, trivial⟩ hP hS dX11_cost_33
   · obtain ⟨q17, k16⟩ := h13
     have q17 := q17.symm
     subst q17
     refine lv_if_ne (tgt := 31) hx hb dX11_cost_14 (of_decide_eq_true rfl) (fun c => absurd (of_decide_eq_true rfl) c) (fun _ => ?_)
     refine lv_aload_n hx hb dX11_cost_17 rfl (lv_at hl 0 rfl) ?_
     refine va_get (D := D) hx hb hts inlX11 hown hK hP 0 (jc_0 cI cL ad σ τ) rfl 2 (of_decide_eq_true rfl) (hts _ kw_2_0) (fun _ h9 => h9) rfl dX11_cost_18 ?_
     refine va_get (D := D) hx hb hts inlX6 hown hK hP 16 (jc_16 cI cL ad σ τ) rfl 1 (of_decide_eq_true rfl) (hts _ kw_20_5) (fun _ h9 => h9) rfl dX11_cost_21 ?_
     refine lv_iload_n hx hb dX11_cost_24 rfl (lv_at hl 1 rfl) ?_
     have g18 := jrg (rfl : (σ 16 1).toInt = (σ 16 1).toInt)
     refine lv_isub hx hb dX11_cost_25 ?_
     refine lv_topi (fun x19 ex19 => ?_)
     exact by
      have tx19 : x19.toInt = (σ 16 1).toInt - A1 := (jsub ex19 rfl t1 (by omega) (by omega)).trans (by omega)
      refine lv_bipush (v := 8) hx hb dX11_cost_26 (of_decide_eq_true rfl) ?_
      refine lv_icmp_le (tgt := 34) hx hb dX11_cost_28 (of_decide_eq_true rfl) (fun c20 => ?_) (fun c20 => ?_)
      · have kc20 := jle c20 tx19 jz_8
        refine lv_aload_n hx hb dX11_cost_34 rfl (lv_at hl 0 rfl) ?_
        refine lv_iload_n hx hb dX11_cost_35 rfl (lv_at hl 1 rfl) ?_
        refine jcallV (As := [.int a1]) (rest := []) ⟨hx, hb, hml, hown, hts⟩ hK hP hA hS hZ (c_X11_costOf l D cI cL ad zz hJ σ τ a1 (A1) t1 hI2 hI16 hI22 hI31 hI47) cw_RX11_265 (jc_0 cI cL ad σ τ) rfl ⟨Nat.le_of_ble_eq_true rfl, Nat.le_of_ble_eq_true rfl⟩ rfl rfl rfl hl.1 rfl (Nat.le_of_ble_eq_true rfl) dX11_cost_36 ⟨Nat.zero_le _, Nat.zero_le _⟩ (fun r22 σ21 τ21 H locs h21 hP hS => ?_)
        obtain ⟨rfl, f23, f24, I25, h21⟩ := h21
        exact hret r22 σ21 τ _ _ _ _ rfl ⟨rfl, (fun i hi => (f23 i hi)), (fun i hi => (f24 i hi)), I25, trivial⟩ hP hS dX11_cost_39
      · have kc20 := jnle c20 tx19 jz_8
        refine lv_ldc (v := (-2000000000)) hx hb hown (hts _ kw_9_21) dX11_cost_31 ?_
        exact hret (-2000000000) σ τ _ _ _ _ rfl ⟨rfl, (fun _ _ => rfl), (fun _ _ => rfl), hI31, trivial⟩ hP hS dX11_cost_33
set_option maxHeartbeats 4000000 in
set_option maxRecDepth 100000 in
theorem c_X11_lost (l : Launch) (D : va_G) (cI cL : ClassId) (ad zz : Nat → Nat) (hJ : jD ad) (σ : Nat → Nat → Int32) (τ : Nat → Nat → Int64) (a1 : Int32) (A1 : Int) (t1 : a1.toInt = A1) (hI2 : jI2 σ) (hI16 : jI16 σ) (hI22 : jI22 σ) (hI31 : jI31 σ) (hI47 : jI47 σ) : jM l yX11_lost cX11_lost 7 (some .int) ({ frames := 7, cells := 0, slots := 0, locals := 193 }) D cI cL ad zz [.ref (ad 0), .int a1] σ τ (fun r σ' τ' => τ = τ' ∧ (∀ i : Nat, (i < 24 ∨ 25 < i) ∧ (i < 27 ∨ 37 < i) → σ' i = σ i) ∧ (∀ k : Nat, (k < 8 ∨ 8 < k) ∧ (k < 9 ∨ 9 < k) ∧ (k < 10 ∨ 10 < k) ∧ (k < 11 ∨ 11 < k) ∧ (k < 12 ∨ 12 < k) → σ' 31 k = σ 31 k) ∧ (jI31 σ') ∧ True) := by
  refine jM.of hJ (by decide +kernel) (nt := .int) rfl (Nat.le_of_ble_eq_true rfl) ?_
  intro p e s m args below meth c Q ls hC hret hl hP
  obtain ⟨hx, hb, hr, hml, hown, hts, hK, -, hlocks, hZ⟩ := hC
  have hown : s.vm.findClass RX11 = some m.cls := hown
  have hS : va_S (jA ad) s.heap s.heap [] := va_S.rf
  have hA : ∀ q, jA ad q → jA ad q := fun _ h => h
  have hl : lv_has ls 7 [(0, .ref (ad 0)), (1, .int a1)] := hl
  have g1 := jrg t1
  obtain ⟨i1, i2, i3, w4⟩ : (1 ≤ (σ 16 0).toInt ∧ (σ 16 0).toInt ≤ 8) ∧ (1 ≤ (σ 16 1).toInt ∧ (σ 16 1).toInt ≤ 12) ∧ (0 ≤ (σ 16 2).toInt ∧ (σ 16 2).toInt ≤ 999) ∧ (∀ k : Nat, k < 8 → 0 ≤ (σ 17 k).toInt ∧ (σ 17 k).toInt ≤ 3) := id hI16
  obtain ⟨i5, w6, w7⟩ : (0 ≤ (σ 47 0).toInt ∧ (σ 47 0).toInt ≤ 12) ∧ (∀ k : Nat, k < 12 → 0 ≤ (σ 48 k).toInt ∧ (σ 48 k).toInt ≤ 3) ∧ (∀ k : Nat, k < 12 → 0 ≤ (σ 49 k).toInt ∧ (σ 49 k).toInt ≤ 1) := id hI47
  refine lv_iload_n hx hb dX11_lost_0 rfl (lv_at hl 1 rfl) ?_
  refine lv_iconst (v := 0) hx hb dX11_lost_1 (of_decide_eq_true rfl) ?_
  refine lv_iconst (v := 2) hx hb dX11_lost_2 (of_decide_eq_true rfl) ?_
  refine jcallS (As := [.int a1, .int 0, .int 2]) (rest := []) ⟨hx, hb, hml, hown, hts⟩ hK hP hA hS hZ (c_X11_outside l D cI cL ad zz hJ σ τ a1 (A1) t1 0 (0) jz_0 2 (2) jz_2) cw_RX11_94 ⟨Nat.le_of_ble_eq_true rfl, Nat.le_of_ble_eq_true rfl⟩ rfl rfl rfl hl.1 rfl (Nat.le_of_ble_eq_true rfl) dX11_lost_3 ⟨Nat.zero_le _, Nat.zero_le _⟩ (fun r9 σ8 τ8 H locs h8 hP hS => ?_)
  obtain ⟨⟨rfl, rfl⟩, h8⟩ := h8
  rcases h8 with h10 | h11
  · obtain ⟨q13, k12⟩ := h10
    have q13 := q13.symm
    subst q13
    refine lv_if_ne (tgt := 19) hx hb dX11_lost_6 (of_decide_eq_true rfl) (fun _ => ?_) (fun c => absurd c (of_decide_eq_true rfl))
    refine lv_iconst (v := (-1)) hx hb dX11_lost_19 (of_decide_eq_true rfl) ?_
    exact hret (-1) σ τ _ _ _ _ rfl ⟨rfl, (fun _ _ => rfl), (fun _ _ => rfl), hI31, trivial⟩ hP hS dX11_lost_20
  · obtain ⟨q15, k14⟩ := h11
    have q15 := q15.symm
    subst q15
    refine lv_if_ne (tgt := 19) hx hb dX11_lost_6 (of_decide_eq_true rfl) (fun c => absurd (of_decide_eq_true rfl) c) (fun _ => ?_)
    refine lv_aload_n hx hb dX11_lost_9 rfl (lv_at hl 0 rfl) ?_
    refine va_get (D := D) hx hb hts inlX11 hown hK hP 0 (jc_0 cI cL ad σ τ) rfl 9 (of_decide_eq_true rfl) (hts _ kw_3_1) (fun _ h9 => h9) rfl dX11_lost_10 ?_
    refine va_get (D := D) hx hb hts inlX2 hown hK hP 47 (jc_47 cI cL ad σ τ) rfl 0 (of_decide_eq_true rfl) (hts _ kw_13_11) (fun _ h9 => h9) rfl dX11_lost_13 ?_
    refine lv_if_ne (tgt := 21) hx hb dX11_lost_16 (of_decide_eq_true rfl) (fun c16 => ?_) (fun c16 => ?_)
    · have kc16 := jne c16 rfl jz_0
      refine lv_aload_n hx hb dX11_lost_21 rfl (lv_at hl 0 rfl) ?_
      refine va_get (D := D) hx hb hts inlX11 hown hK hP 0 (jc_0 cI cL ad σ τ) rfl 2 (of_decide_eq_true rfl) (hts _ kw_2_0) (fun _ h9 => h9) rfl dX11_lost_22 ?_
      refine va_get (D := D) hx hb hts inlX6 hown hK hP 16 (jc_16 cI cL ad σ τ) rfl 1 (of_decide_eq_true rfl) (hts _ kw_20_5) (fun _ h9 => h9) rfl dX11_lost_25 ?_
      refine lv_bipush (v := 8) hx hb dX11_lost_28 (of_decide_eq_true rfl) ?_
      refine lv_icmp_le (tgt := 36) hx hb dX11_lost_30 (of_decide_eq_true rfl) (fun c17 => ?_) (fun c17 => ?_)
      · have kc17 := jle c17 rfl jz_8
        refine lv_iconst (v := 0) hx hb dX11_lost_36 (of_decide_eq_true rfl) ?_
        refine lv_istore_n (lv' := [(2, .int 0), (0, .ref (ad 0)), (1, .int a1)]) hx hb dX11_lost_37 rfl hl (of_decide_eq_true rfl) rfl (fun ls hl => ?_)
        refine lv_iconst (v := 0) hx hb dX11_lost_38 (of_decide_eq_true rfl) ?_
        refine lv_istore_n (lv' := [(3, .int 0), (2, .int 0), (0, .ref (ad 0)), (1, .int a1)]) hx hb dX11_lost_39 rfl hl (of_decide_eq_true rfl) rfl (fun ls hl => ?_)
        refine lv_iconst (v := 0) hx hb dX11_lost_40 (of_decide_eq_true rfl) ?_
        refine lv_istore (lv' := [(4, .int 0), (3, .int 0), (2, .int 0), (0, .ref (ad 0)), (1, .int a1)]) hx hb dX11_lost_41 hl (of_decide_eq_true rfl) rfl (fun ls hl => ?_)
        refine lv_iconst (v := 0) hx hb dX11_lost_43 (of_decide_eq_true rfl) ?_
        refine lv_istore (lv' := [(5, .int 0), (4, .int 0), (3, .int 0), (2, .int 0), (0, .ref (ad 0)), (1, .int a1)]) hx hb dX11_lost_44 hl (of_decide_eq_true rfl) rfl (fun ls hl => ?_)
        have lp18 : ∀ (n19 : Nat) (x20 : Int32) (x21 : Int32) (x22 : Int32) (x23 : Int32) (σ25 : Nat → Nat → Int32) (H : Heap) (locs : List Loc) (ls : Array Slot), ((σ25 47 0).toInt - x23.toInt : Int) < n19 → 0 ≤ x23.toInt → x23.toInt ≤ 12 → x23.toInt ≤ (σ25 47 0).toInt → (∀ i : Nat, (i < 24 ∨ 25 < i) ∧ (i < 27 ∨ 37 < i) → σ25 i = σ i) → (∀ k : Nat, (k < 8 ∨ 8 < k) ∧ (k < 9 ∨ 9 < k) ∧ (k < 10 ∨ 10 < k) ∧ (k < 11 ∨ 11 < k) ∧ (k < 12 ∨ 12 < k) → σ25 31 k = σ 31 k) → jI31 σ25 → jH D cI cL ad σ25 τ H → va_S (jA ad) s.heap H locs → lv_has ls 7 [(5, .int x23), (4, .int x22), (3, .int x21), (2, .int x20), (0, .ref (ad 0)), (1, .int a1)] → W p l e ({ frames := 7, cells := 0, slots := 0, locals := 193 }) s m args below meth c H locs 0 0 Q (F0 m 46 ls []) := by
          intro n19
          induction n19 with
          | zero => intro x20 x21 x22 x23 σ25 H locs ls h27 h28 h29 h30; have gx20 := jrg (rfl : x20.toInt = x20.toInt); have gx21 := jrg (rfl : x21.toInt = x21.toInt); have gx22 := jrg (rfl : x22.toInt = x22.toInt); exact absurd h27 (by omega)
          | succ n19 ihlp18 =>
            intro x20 x21 x22 x23 σ25 H locs ls h27 h28 h29 h30 f31 f32 p33 hP hS hl
            exact by
             have gx20 := jrg (rfl : x20.toInt = x20.toInt); have gx21 := jrg (rfl : x21.toInt = x21.toInt); have gx22 := jrg (rfl : x22.toInt = x22.toInt)
             have z34 : (σ25 47 0).toInt = (σ 47 0).toInt := (congrArg Int32.toInt (show σ25 47 0 = (σ 47 0) from (congrFun (f31 47 (of_decide_eq_true rfl)) 0)))
             refine lv_iload hx hb dX11_lost_46 (lv_at hl 0 rfl) ?_
             refine lv_aload_n hx hb dX11_lost_48 rfl (lv_at hl 4 rfl) ?_
             refine va_get (D := D) hx hb hts inlX11 hown hK hP 0 (jc_0 cI cL ad σ25 τ) rfl 9 (of_decide_eq_true rfl) (hts _ kw_3_1) (fun _ h9 => h9) rfl dX11_lost_49 ?_
             refine va_get (D := D) hx hb hts inlX2 hown hK hP 47 (jc_47 cI cL ad σ25 τ) rfl 0 (of_decide_eq_true rfl) (hts _ kw_13_11) (fun _ h9 => h9) rfl dX11_lost_52 ?_
             have m35 : σ25 47 0 = (σ 47 0) := (congrFun (f31 47 (of_decide_eq_true rfl)) 0)
             refine jtopr m35 ?_
             refine lv_icmp_ge (tgt := 96) hx hb dX11_lost_55 (of_decide_eq_true rfl) (fun c36 => ?_) (fun c36 => ?_)
             · have kc36 := jle c36 rfl rfl
               refine lv_iload_n hx hb dX11_lost_96 rfl (lv_at hl 5 rfl) ?_
               refine lv_if_ne (tgt := 102) hx hb dX11_lost_97 (of_decide_eq_true rfl) (fun c37 => ?_) (fun c37 => ?_)
               · have kc37 := jne c37 t1 jz_0
                 refine lv_iload_n hx hb dX11_lost_102 rfl (lv_at hl 5 rfl) ?_
                 refine lv_iconst (v := 1) hx hb dX11_lost_103 (of_decide_eq_true rfl) ?_
                 refine lv_icmp_ne (tgt := 111) hx hb dX11_lost_104 (of_decide_eq_true rfl) (fun c38 => ?_) (fun c38 => ?_)
                 · have kc38 := jne c38 t1 jz_1
                   refine lv_iload hx hb dX11_lost_111 (lv_at hl 1 rfl) ?_
                   exact hret x22 σ25 τ _ _ _ _ rfl ⟨rfl, (fun i hi => (f31 i hi)), (fun i hi => (f32 i hi)), p33, trivial⟩ hP hS dX11_lost_113
                 · have kc38 := jeq c38 t1 jz_1
                   refine lv_iload_n hx hb dX11_lost_107 rfl (lv_at hl 2 rfl) ?_
                   refine lv_goto (tgt := 113) hx hb dX11_lost_108 (of_decide_eq_true rfl) ?_
                   exact hret x21 σ25 τ _ _ _ _ rfl ⟨rfl, (fun i hi => (f31 i hi)), (fun i hi => (f32 i hi)), p33, trivial⟩ hP hS dX11_lost_113
               · have kc37 := jeq c37 t1 jz_0
                 refine lv_iload_n hx hb dX11_lost_100 rfl (lv_at hl 3 rfl) ?_
                 exact hret x20 σ25 τ _ _ _ _ rfl ⟨rfl, (fun i hi => (f31 i hi)), (fun i hi => (f32 i hi)), p33, trivial⟩ hP hS dX11_lost_101
             · have kc36 := jnle c36 rfl rfl
               refine lv_aload_n hx hb dX11_lost_58 rfl (lv_at hl 4 rfl) ?_
               refine lv_iload hx hb dX11_lost_59 (lv_at hl 0 rfl) ?_
               have I39 : jI2 σ25 := jI2_fr (congrFun (f31 2 (of_decide_eq_true rfl)) 0) (congrFun (f31 2 (of_decide_eq_true rfl)) 1) (congrFun (f31 2 (of_decide_eq_true rfl)) 2) (congrFun (f31 2 (of_decide_eq_true rfl)) 3) (f31 6 (of_decide_eq_true rfl)) hI2
               have I40 : jI16 σ25 := jI16_fr (congrFun (f31 16 (of_decide_eq_true rfl)) 0) (congrFun (f31 16 (of_decide_eq_true rfl)) 1) (congrFun (f31 16 (of_decide_eq_true rfl)) 2) (f31 17 (of_decide_eq_true rfl)) hI16
               have I41 : jI22 σ25 := jI22_fr (congrFun (f31 22 (of_decide_eq_true rfl)) 0) (f31 23 (of_decide_eq_true rfl)) hI22
               have I42 : jI47 σ25 := jI47_fr (congrFun (f31 47 (of_decide_eq_true rfl)) 0) (f31 48 (of_decide_eq_true rfl)) (f31 49 (of_decide_eq_true rfl)) hI47
               refine jcallV (As := [.int x23]) (rest := []) ⟨hx, hb, hml, hown, hts⟩ hK hP hA hS hZ (c_X11_costOf l D cI cL ad zz hJ σ25 τ x23 (x23.toInt) rfl I39 I40 I41 p33 I42) cw_RX11_265 (jc_0 cI cL ad σ25 τ) rfl ⟨Nat.le_of_ble_eq_true rfl, Nat.le_of_ble_eq_true rfl⟩ rfl rfl rfl hl.1 rfl (Nat.le_of_ble_eq_true rfl) dX11_lost_61 ⟨Nat.zero_le _, Nat.zero_le _⟩ (fun r44 σ43 τ43 H locs h43 hP hS => ?_)
               obtain ⟨rfl, f45, f46, I47, h43⟩ := h43
               refine lv_istore (lv' := [(6, .int r44), (5, .int x23), (4, .int x22), (3, .int x21), (2, .int x20), (0, .ref (ad 0)), (1, .int a1)]) hx hb dX11_lost_64 hl (of_decide_eq_true rfl) rfl (fun ls hl => ?_)
               refine lv_iload hx hb dX11_lost_66 (lv_at hl 2 rfl) ?_
               refine lv_iload hx hb dX11_lost_68 (lv_at hl 0 rfl) ?_
               have g49 := jrg (rfl : x22.toInt = x22.toInt)
               have g50 := jrg (rfl : r44.toInt = r44.toInt)
               refine lv_iadd hx hb dX11_lost_70 ?_
               refine lv_topi (fun x51 ex51 => ?_)
               have gx51 := jrg (rfl : x51.toInt = x51.toInt)
               refine lv_istore (lv' := [(4, .int x51), (6, .int r44), (5, .int x23), (3, .int x21), (2, .int x20), (0, .ref (ad 0)), (1, .int a1)]) hx hb dX11_lost_71 hl (of_decide_eq_true rfl) rfl (fun ls hl => ?_)
               refine lv_iload hx hb dX11_lost_73 (lv_at hl 2 rfl) ?_
               refine lv_if_eq (tgt := 84) hx hb dX11_lost_75 (of_decide_eq_true rfl) (fun c52 => ?_) (fun c52 => ?_)
               · have kc52 := jeq c52 rfl jz_0
                 refine lv_iload hx hb dX11_lost_84 (lv_at hl 2 rfl) ?_
                 refine lv_istore_n (lv' := [(2, .int x23), (4, .int x51), (6, .int r44), (5, .int x23), (3, .int x21), (0, .ref (ad 0)), (1, .int a1)]) hx hb dX11_lost_86 rfl hl (of_decide_eq_true rfl) rfl (fun ls hl => ?_)
                 refine lv_iload hx hb dX11_lost_87 (lv_at hl 2 rfl) ?_
                 refine lv_istore_n (lv' := [(3, .int r44), (2, .int x23), (4, .int x51), (6, .int r44), (5, .int x23), (0, .ref (ad 0)), (1, .int a1)]) hx hb dX11_lost_89 rfl hl (of_decide_eq_true rfl) rfl (fun ls hl => ?_)
                 obtain ⟨x53, ex53⟩ : ∃ y : Int32, y = x23 + 1 := ⟨_, rfl⟩
                 exact by
                  have tx53 : x53.toInt = x23.toInt + 1 := (jadd ex53 rfl jz_1 (by omega) (by omega)).trans (by omega)
                  refine lv_iinc (v := x53) (lv' := [(5, .int x53), (3, .int r44), (2, .int x23), (4, .int x51), (6, .int r44), (0, .ref (ad 0)), (1, .int a1)]) hx hb dX11_lost_90 hl (k := 4) rfl (by rw [ex53]; rfl) (of_decide_eq_true rfl) rfl (fun ls hl => ?_)
                  refine lv_goto (tgt := 46) hx hb dX11_lost_93 (of_decide_eq_true rfl) ?_
                  have z54 : (σ43 47 0).toInt = (σ 47 0).toInt := (congrArg Int32.toInt (show σ43 47 0 = (σ 47 0) from ((congrFun (f45 47 (of_decide_eq_true rfl)) 0).trans m35)))
                  exact by exact ihlp18 x23 r44 x51 x53 σ43 _ _ ls (by have h93 := tx53; omega) (by have h93 := tx53; omega) (by have h93 := tx53; omega) (by have h93 := tx53; omega) (fun i hi => ((f45 i hi).trans (f31 i hi))) (fun i hi => ((f46 i hi).trans (f32 i hi)))  I47 hP hS (lv_sub hl [0, 3, 1, 2, 5, 6] rfl)
               · have kc52 := jne c52 rfl jz_0
                 refine lv_iload hx hb dX11_lost_78 (lv_at hl 1 rfl) ?_
                 refine lv_iload_n hx hb dX11_lost_80 rfl (lv_at hl 3 rfl) ?_
                 refine lv_icmp_le (tgt := 90) hx hb dX11_lost_81 (of_decide_eq_true rfl) (fun c55 => ?_) (fun c55 => ?_)
                 · exact by
                    have kc55 := jle c55 rfl rfl
                    obtain ⟨x56, ex56⟩ : ∃ y : Int32, y = x23 + 1 := ⟨_, rfl⟩
                    have tx56 : x56.toInt = x23.toInt + 1 := (jadd ex56 rfl jz_1 (by omega) (by omega)).trans (by omega)
                    refine lv_iinc (v := x56) (lv' := [(5, .int x56), (4, .int x51), (6, .int r44), (3, .int x21), (2, .int x20), (0, .ref (ad 0)), (1, .int a1)]) hx hb dX11_lost_90 hl (k := 2) rfl (by rw [ex56]; rfl) (of_decide_eq_true rfl) rfl (fun ls hl => ?_)
                    refine lv_goto (tgt := 46) hx hb dX11_lost_93 (of_decide_eq_true rfl) ?_
                    have z57 : (σ43 47 0).toInt = (σ 47 0).toInt := (congrArg Int32.toInt (show σ43 47 0 = (σ 47 0) from ((congrFun (f45 47 (of_decide_eq_true rfl)) 0).trans m35)))
                    exact by exact ihlp18 x20 x21 x51 x56 σ43 _ _ ls (by have h93 := tx56; omega) (by have h93 := tx56; omega) (by have h93 := tx56; omega) (by have h93 := tx56; omega) (fun i hi => ((f45 i hi).trans (f31 i hi))) (fun i hi => ((f46 i hi).trans (f32 i hi)))  I47 hP hS (lv_sub hl [0, 1, 3, 4, 5, 6] rfl)
                 · have kc55 := jnle c55 rfl rfl
                   refine lv_iload hx hb dX11_lost_84 (lv_at hl 2 rfl) ?_
                   exact by
                    refine lv_istore_n (lv' := [(2, .int x23), (4, .int x51), (6, .int r44), (5, .int x23), (3, .int x21), (0, .ref (ad 0)), (1, .int a1)]) hx hb dX11_lost_86 rfl hl (of_decide_eq_true rfl) rfl (fun ls hl => ?_)
                    refine lv_iload hx hb dX11_lost_87 (lv_at hl 2 rfl) ?_
                    refine lv_istore_n (lv' := [(3, .int r44), (2, .int x23), (4, .int x51), (6, .int r44), (5, .int x23), (0, .ref (ad 0)), (1, .int a1)]) hx hb dX11_lost_89 rfl hl (of_decide_eq_true rfl) rfl (fun ls hl => ?_)
                    obtain ⟨x58, ex58⟩ : ∃ y : Int32, y = x23 + 1 := ⟨_, rfl⟩
                    have tx58 : x58.toInt = x23.toInt + 1 := (jadd ex58 rfl jz_1 (by omega) (by omega)).trans (by omega)
                    refine lv_iinc (v := x58) (lv' := [(5, .int x58), (3, .int r44), (2, .int x23), (4, .int x51), (6, .int r44), (0, .ref (ad 0)), (1, .int a1)]) hx hb dX11_lost_90 hl (k := 4) rfl (by rw [ex58]; rfl) (of_decide_eq_true rfl) rfl (fun ls hl => ?_)
                    refine lv_goto (tgt := 46) hx hb dX11_lost_93 (of_decide_eq_true rfl) ?_
                    have z59 : (σ43 47 0).toInt = (σ 47 0).toInt := (congrArg Int32.toInt (show σ43 47 0 = (σ 47 0) from ((congrFun (f45 47 (of_decide_eq_true rfl)) 0).trans m35)))
                    exact by exact ihlp18 x23 r44 x51 x58 σ43 _ _ ls (by have h93 := tx58; omega) (by have h93 := tx58; omega) (by have h93 := tx58; omega) (by have h93 := tx58; omega) (fun i hi => ((f45 i hi).trans (f31 i hi))) (fun i hi => ((f46 i hi).trans (f32 i hi)))  I47 hP hS (lv_sub hl [0, 3, 1, 2, 5, 6] rfl)
        exact by exact lp18 1000000 0 0 0 0 σ _ _ ls (by have h90 := jz_0; have h91 := jz_0; have h92 := jz_0; have h93 := jz_0; omega) (by have h90 := jz_0; have h91 := jz_0; have h92 := jz_0; have h93 := jz_0; omega) (by have h90 := jz_0; have h91 := jz_0; have h92 := jz_0; have h93 := jz_0; omega) (by have h90 := jz_0; have h91 := jz_0; have h92 := jz_0; have h93 := jz_0; omega) (fun _ _ => rfl) (fun _ _ => rfl)  hI31 hP hS hl
      · exact by
         have kc17 := jnle c17 rfl jz_8
         refine lv_bipush (v := (-4)) hx hb dX11_lost_33 (of_decide_eq_true rfl) ?_
         exact hret (-4) σ τ _ _ _ _ rfl ⟨rfl, (fun _ _ => rfl), (fun _ _ => rfl), hI31, trivial⟩ hP hS dX11_lost_35
    · have kc16 := jeq c16 rfl jz_0
      refine lv_iconst (v := (-1)) hx hb dX11_lost_19 (of_decide_eq_true rfl) ?_
      exact hret (-1) σ τ _ _ _ _ rfl ⟨rfl, (fun _ _ => rfl), (fun _ _ => rfl), hI31, trivial⟩ hP hS dX11_lost_20
set_option maxHeartbeats 4000000 in
set_option maxRecDepth 100000 in
theorem c_X11_game (l : Launch) (D : va_G) (cI cL : ClassId) (ad zz : Nat → Nat) (hJ : jD ad) (σ : Nat → Nat → Int32) (τ : Nat → Nat → Int64) (a1 : Int32) (A1 : Int) (t1 : a1.toInt = A1) (a2 : Int32) (A2 : Int) (t2 : a2.toInt = A2) (hI2 : jI2 σ) (hI16 : jI16 σ) (hI18 : jI18 σ) (hI22 : jI22 σ) (hI31 : jI31 σ) (hI38 : jI38 σ) (hI43 : jI43 σ) : jM l yX11_game cX11_game 3 (some .int) ({ frames := 7, cells := 0, slots := 0, locals := 188 }) D cI cL ad zz [.ref (ad 0), .int a1, .int a2] σ τ (fun r σ' τ' => τ = τ' ∧ (∀ i : Nat, (i < 20 ∨ 21 < i) ∧ (i < 24 ∨ 25 < i) ∧ (i < 27 ∨ 37 < i) ∧ (i < 43 ∨ 46 < i) → σ' i = σ i) ∧ (∀ k : Nat, (k < 8 ∨ 8 < k) ∧ (k < 9 ∨ 9 < k) ∧ (k < 10 ∨ 10 < k) ∧ (k < 11 ∨ 11 < k) ∧ (k < 12 ∨ 12 < k) → σ' 31 k = σ 31 k) ∧ (∀ k : Nat, (k < 8 ∨ 8 < k) → σ' 43 k = σ 43 k) ∧ (jI31 σ') ∧ (jI43 σ') ∧ True) := by
  refine jM.of hJ (by decide +kernel) (nt := .int) rfl (Nat.le_of_ble_eq_true rfl) ?_
  intro p e s m args below meth c Q ls hC hret hl hP
  obtain ⟨hx, hb, hr, hml, hown, hts, hK, -, hlocks, hZ⟩ := hC
  have hown : s.vm.findClass RX11 = some m.cls := hown
  have hS : va_S (jA ad) s.heap s.heap [] := va_S.rf
  have hA : ∀ q, jA ad q → jA ad q := fun _ h => h
  have hl : lv_has ls 3 [(0, .ref (ad 0)), (1, .int a1), (2, .int a2)] := hl
  have g1 := jrg t1
  have g2 := jrg t2
  obtain ⟨i1, i2, i3, w4⟩ : (1 ≤ (σ 16 0).toInt ∧ (σ 16 0).toInt ≤ 8) ∧ (1 ≤ (σ 16 1).toInt ∧ (σ 16 1).toInt ≤ 12) ∧ (0 ≤ (σ 16 2).toInt ∧ (σ 16 2).toInt ≤ 999) ∧ (∀ k : Nat, k < 8 → 0 ≤ (σ 17 k).toInt ∧ (σ 17 k).toInt ≤ 3) := id hI16
  obtain ⟨i5, i6, w7⟩ : (0 ≤ (σ 38 0).toInt ∧ (σ 38 0).toInt ≤ 20) ∧ (0 ≤ (σ 38 1).toInt ∧ (σ 38 1).toInt ≤ 1000) ∧ (∀ k : Nat, k < 20 → 0 ≤ (σ 39 k).toInt ∧ (σ 39 k).toInt ≤ 6) := id hI38
  refine lv_aload_n hx hb dX11_game_0 rfl (lv_at hl 0 rfl) ?_
  refine lv_iload_n hx hb dX11_game_1 rfl (lv_at hl 1 rfl) ?_
  refine jcallV (As := [.int a1]) (rest := []) ⟨hx, hb, hml, hown, hts⟩ hK hP hA hS hZ (c_X11_noRule l D cI cL ad zz hJ σ τ a1 (A1) t1 hI38) cw_RX11_177 (jc_0 cI cL ad σ τ) rfl ⟨Nat.le_of_ble_eq_true rfl, Nat.le_of_ble_eq_true rfl⟩ rfl rfl rfl hl.1 rfl (Nat.le_of_ble_eq_true rfl) dX11_game_2 ⟨Nat.zero_le _, Nat.zero_le _⟩ (fun r9 σ8 τ8 H locs h8 hP hS => ?_)
  obtain ⟨⟨rfl, rfl⟩, h8⟩ := h8
  rcases h8 with h10 | h11
  · obtain ⟨q13, k12⟩ := h10
    have q13 := q13.symm
    subst q13
    refine lv_if_eq (tgt := 10) hx hb dX11_game_5 (of_decide_eq_true rfl) (fun c => absurd c (of_decide_eq_true rfl)) (fun _ => ?_)
    refine lv_iconst (v := (-1)) hx hb dX11_game_8 (of_decide_eq_true rfl) ?_
    exact hret (-1) σ τ _ _ _ _ rfl ⟨rfl, (fun _ _ => rfl), (fun _ _ => rfl), (fun _ _ => rfl), hI31, hI43, trivial⟩ hP hS dX11_game_9
  · obtain ⟨q15, k14⟩ := h11
    have q15 := q15.symm
    subst q15
    refine lv_if_eq (tgt := 10) hx hb dX11_game_5 (of_decide_eq_true rfl) (fun _ => ?_) (fun c => absurd (of_decide_eq_true rfl) c)
    refine lv_aload_n hx hb dX11_game_10 rfl (lv_at hl 0 rfl) ?_
    refine va_get (D := D) hx hb hts inlX11 hown hK hP 0 (jc_0 cI cL ad σ τ) rfl 2 (of_decide_eq_true rfl) (hts _ kw_2_0) (fun _ h9 => h9) rfl dX11_game_11 ?_
    refine va_get (D := D) hx hb hts inlX6 hown hK hP 16 (jc_16 cI cL ad σ τ) rfl 1 (of_decide_eq_true rfl) (hts _ kw_20_5) (fun _ h9 => h9) rfl dX11_game_14 ?_
    refine lv_bipush (v := 8) hx hb dX11_game_17 (of_decide_eq_true rfl) ?_
    refine lv_icmp_le (tgt := 25) hx hb dX11_game_19 (of_decide_eq_true rfl) (fun c16 => ?_) (fun c16 => ?_)
    · have kc16 := jle c16 rfl jz_8
      refine lv_aload_n hx hb dX11_game_25 rfl (lv_at hl 0 rfl) ?_
      refine lv_iload_n hx hb dX11_game_26 rfl (lv_at hl 1 rfl) ?_
      refine jcallVv (As := [.int a1]) (rest := []) ⟨hx, hb, hml, hown, hts⟩ hK hP hA hS hZ (c_X11_makeReady l D cI cL ad zz hJ σ τ a1 (A1) t1 hI2 hI16 hI22 hI31 hI38) cw_RX11_201 (jc_0 cI cL ad σ τ) rfl ⟨Nat.le_of_ble_eq_true rfl, Nat.le_of_ble_eq_true rfl⟩ rfl rfl rfl hl.1 rfl (Nat.le_of_ble_eq_true rfl) dX11_game_27 ⟨Nat.zero_le _, Nat.zero_le _⟩ (fun σ17 τ17 H locs h17 hP hS => ?_)
      obtain ⟨rfl, f19, f20, I21, h17⟩ := h17
      refine lv_aload_n hx hb dX11_game_30 rfl (lv_at hl 0 rfl) ?_
      refine va_get (D := D) hx hb hts inlX11 hown hK hP 0 (jc_0 cI cL ad σ17 τ) rfl 8 (of_decide_eq_true rfl) (hts _ kw_2_21) (fun _ h9 => h9) rfl dX11_game_31 ?_
      refine lv_iload_n hx hb dX11_game_34 rfl (lv_at hl 1 rfl) ?_
      refine lv_iload_n hx hb dX11_game_35 rfl (lv_at hl 2 rfl) ?_
      refine lv_aload_n hx hb dX11_game_36 rfl (lv_at hl 0 rfl) ?_
      refine va_get (D := D) hx hb hts inlX11 hown hK hP 0 (jc_0 cI cL ad σ17 τ) rfl 0 (of_decide_eq_true rfl) (hts _ kw_1_16) (fun _ h9 => h9) rfl dX11_game_37 ?_
      have I23 : jI2 σ17 := jI2_fr (congrFun (f19 2 (of_decide_eq_true rfl)) 0) (congrFun (f19 2 (of_decide_eq_true rfl)) 1) (congrFun (f19 2 (of_decide_eq_true rfl)) 2) (congrFun (f19 2 (of_decide_eq_true rfl)) 3) (f19 6 (of_decide_eq_true rfl)) hI2
      refine jcallV (As := []) (rest := [.int a2, .int a1, .ref (ad 43)]) ⟨hx, hb, hml, hown, hts⟩ hK hP hA hS hZ (c_X4_freshAttack_2 l D cI cL ad zz hJ σ17 τ I23) cw_RX11_204 (jc_2 cI cL ad σ17 τ) rfl ⟨Nat.le_of_ble_eq_true rfl, Nat.le_of_ble_eq_true rfl⟩ rfl rfl rfl hl.1 rfl (Nat.le_of_ble_eq_true rfl) dX11_game_40 ⟨Nat.zero_le _, Nat.zero_le _⟩ (fun r25 σ24 τ24 H locs h24 hP hS => ?_)
      obtain ⟨⟨rfl, rfl⟩, w26, h24⟩ := h24
      have I27 : jI16 σ17 := jI16_fr (congrFun (f19 16 (of_decide_eq_true rfl)) 0) (congrFun (f19 16 (of_decide_eq_true rfl)) 1) (congrFun (f19 16 (of_decide_eq_true rfl)) 2) (f19 17 (of_decide_eq_true rfl)) hI16
      have I28 : jI18 σ17 := jI18_fr (congrFun (f19 18 (of_decide_eq_true rfl)) 0) (f19 19 (of_decide_eq_true rfl)) hI18
      have I29 : jI22 σ17 := jI22_fr (congrFun (f19 22 (of_decide_eq_true rfl)) 0) (f19 23 (of_decide_eq_true rfl)) hI22
      have I30 : jI38 σ17 := jI38_fr (congrFun (f19 38 (of_decide_eq_true rfl)) 0) (congrFun (f19 38 (of_decide_eq_true rfl)) 1) (f19 39 (of_decide_eq_true rfl)) hI38
      have I31 : jI43 σ17 := jI43_fr (congrFun (f19 43 (of_decide_eq_true rfl)) 8) hI43
      refine jcallV (As := [.int a1, .int a2, .int r25]) (rest := []) ⟨hx, hb, hml, hown, hts⟩ hK hP hA hS hZ (c_X3_play_43 l D cI cL ad zz hJ σ17 τ a1 (A1) t1 a2 (A2) t2 r25 (r25.toInt) rfl I27 I28 I29 I21 I30 I31) cw_RX11_268 (jc_43 cI cL ad σ17 τ) rfl ⟨Nat.le_of_ble_eq_true rfl, Nat.le_of_ble_eq_true rfl⟩ rfl rfl rfl hl.1 rfl (Nat.le_of_ble_eq_true rfl) dX11_game_43 ⟨Nat.zero_le _, Nat.zero_le _⟩ (fun r33 σ32 τ32 H locs h32 hP hS => ?_)
      obtain ⟨rfl, f34, f35, I36, h32⟩ := h32
      have I38 : jI31 σ32 := jI31_fr (congrFun (f34 31 (of_decide_eq_true rfl)) 8) (f34 33 (of_decide_eq_true rfl)) (f34 36 (of_decide_eq_true rfl)) I21
      exact hret r33 σ32 τ _ _ _ _ rfl ⟨rfl, (fun i hi => ((f34 i (imp_144 i hi)).trans (f19 i (imp_145 i hi)))), (fun i hi => ((congrFun (f34 31 (of_decide_eq_true rfl)) i).trans (f20 i hi))), (fun i hi => ((f35 i hi).trans (congrFun (f19 43 (of_decide_eq_true rfl)) i))), I38, I36, trivial⟩ hP hS dX11_game_46
    · have kc16 := jnle c16 rfl jz_8
      refine lv_bipush (v := (-4)) hx hb dX11_game_22 (of_decide_eq_true rfl) ?_
      exact hret (-4) σ τ _ _ _ _ rfl ⟨rfl, (fun _ _ => rfl), (fun _ _ => rfl), (fun _ _ => rfl), hI31, hI43, trivial⟩ hP hS dX11_game_24
set_option maxHeartbeats 4000000 in
set_option maxRecDepth 100000 in
theorem c_X11_led (l : Launch) (D : va_G) (cI cL : ClassId) (ad zz : Nat → Nat) (hJ : jD ad) (σ : Nat → Nat → Int32) (τ : Nat → Nat → Int64) (a1 : Int32) (A1 : Int) (t1 : a1.toInt = A1) (a2 : Int32) (A2 : Int) (t2 : a2.toInt = A2) (hI43 : jI43 σ) : jM l yX11_led cX11_led 3 (some .int) ({ frames := 1, cells := 0, slots := 0, locals := 22 }) D cI cL ad zz [.ref (ad 0), .int a1, .int a2] σ τ (fun r σ' τ' => (σ = σ' ∧ τ = τ') ∧ True) := by
  refine jM.of hJ (by decide +kernel) (nt := .int) rfl (Nat.le_of_ble_eq_true rfl) ?_
  intro p e s m args below meth c Q ls hC hret hl hP
  obtain ⟨hx, hb, hr, hml, hown, hts, hK, -, hlocks, hZ⟩ := hC
  have hown : s.vm.findClass RX11 = some m.cls := hown
  have hS : va_S (jA ad) s.heap s.heap [] := va_S.rf
  have hA : ∀ q, jA ad q → jA ad q := fun _ h => h
  have hl : lv_has ls 3 [(0, .ref (ad 0)), (1, .int a1), (2, .int a2)] := hl
  have g1 := jrg t1
  have g2 := jrg t2
  have i1 : 0 ≤ (σ 43 8).toInt ∧ (σ 43 8).toInt ≤ 8 := hI43
  refine lv_iload_n hx hb dX11_led_0 rfl (lv_at hl 1 rfl) ?_
  refine lv_iconst (v := (-1)) hx hb dX11_led_1 (of_decide_eq_true rfl) ?_
  refine lv_icmp_ne (tgt := 17) hx hb dX11_led_2 (of_decide_eq_true rfl) (fun c2 => ?_) (fun c2 => ?_)
  · have kc2 := jne c2 t1 jz_m1
    refine lv_iload_n hx hb dX11_led_17 rfl (lv_at hl 1 rfl) ?_
    refine lv_iconst (v := 0) hx hb dX11_led_18 (of_decide_eq_true rfl) ?_
    refine lv_aload_n hx hb dX11_led_19 rfl (lv_at hl 0 rfl) ?_
    refine va_get (D := D) hx hb hts inlX11 hown hK hP 0 (jc_0 cI cL ad σ τ) rfl 8 (of_decide_eq_true rfl) (hts _ kw_2_21) (fun _ h9 => h9) rfl dX11_led_20 ?_
    refine va_get (D := D) hx hb hts inlX3 hown hK hP 43 (jc_43 cI cL ad σ τ) rfl 8 (of_decide_eq_true rfl) (hts _ kw_46_19) (fun _ h9 => h9) rfl dX11_led_23 ?_
    refine lv_iconst (v := 1) hx hb dX11_led_26 (of_decide_eq_true rfl) ?_
    have g3 := jrg (rfl : (σ 43 8).toInt = (σ 43 8).toInt)
    refine lv_isub hx hb dX11_led_27 ?_
    refine lv_topi (fun x4 ex4 => ?_)
    exact by
     have tx4 : x4.toInt = (σ 43 8).toInt - 1 := (jsub ex4 rfl jz_1 (by omega) (by omega)).trans (by omega)
     refine jcallS (As := [.int a1, .int 0, .int x4]) (rest := []) ⟨hx, hb, hml, hown, hts⟩ hK hP hA hS hZ (c_X11_outside l D cI cL ad zz hJ σ τ a1 (A1) t1 0 (0) jz_0 x4 ((σ 43 8).toInt - 1) tx4) cw_RX11_94 ⟨Nat.le_of_ble_eq_true rfl, Nat.le_of_ble_eq_true rfl⟩ rfl rfl rfl hl.1 rfl (Nat.le_of_ble_eq_true rfl) dX11_led_28 ⟨Nat.zero_le _, Nat.zero_le _⟩ (fun r6 σ5 τ5 H locs h5 hP hS => ?_)
     obtain ⟨⟨rfl, rfl⟩, h5⟩ := h5
     rcases h5 with h7 | h8
     · obtain ⟨q10, k9⟩ := h7
       have q10 := q10.symm
       subst q10
       refine lv_if_ne (tgt := 43) hx hb dX11_led_31 (of_decide_eq_true rfl) (fun _ => ?_) (fun c => absurd c (of_decide_eq_true rfl))
       refine lv_iconst (v := (-1)) hx hb dX11_led_43 (of_decide_eq_true rfl) ?_
       exact hret (-1) σ τ _ _ _ _ rfl ⟨⟨rfl, rfl⟩, trivial⟩ hP hS dX11_led_44
     · obtain ⟨q12, k11⟩ := h8
       have q12 := q12.symm
       subst q12
       refine lv_if_ne (tgt := 43) hx hb dX11_led_31 (of_decide_eq_true rfl) (fun c => absurd (of_decide_eq_true rfl) c) (fun _ => ?_)
       refine lv_iload_n hx hb dX11_led_34 rfl (lv_at hl 2 rfl) ?_
       refine lv_iconst (v := 0) hx hb dX11_led_35 (of_decide_eq_true rfl) ?_
       refine lv_iconst (v := 2) hx hb dX11_led_36 (of_decide_eq_true rfl) ?_
       refine jcallS (As := [.int a2, .int 0, .int 2]) (rest := []) ⟨hx, hb, hml, hown, hts⟩ hK hP hA hS hZ (c_X11_outside l D cI cL ad zz hJ σ τ a2 (A2) t2 0 (0) jz_0 2 (2) jz_2) cw_RX11_94 ⟨Nat.le_of_ble_eq_true rfl, Nat.le_of_ble_eq_true rfl⟩ rfl rfl rfl hl.1 rfl (Nat.le_of_ble_eq_true rfl) dX11_led_37 ⟨Nat.zero_le _, Nat.zero_le _⟩ (fun r14 σ13 τ13 H locs h13 hP hS => ?_)
       obtain ⟨⟨rfl, rfl⟩, h13⟩ := h13
       rcases h13 with h15 | h16
       · obtain ⟨q18, k17⟩ := h15
         have q18 := q18.symm
         subst q18
         refine lv_if_eq (tgt := 45) hx hb dX11_led_40 (of_decide_eq_true rfl) (fun c => absurd c (of_decide_eq_true rfl)) (fun _ => ?_)
         refine lv_iconst (v := (-1)) hx hb dX11_led_43 (of_decide_eq_true rfl) ?_
         exact hret (-1) σ τ _ _ _ _ rfl ⟨⟨rfl, rfl⟩, trivial⟩ hP hS dX11_led_44
       · obtain ⟨q20, k19⟩ := h16
         have q20 := q20.symm
         subst q20
         refine lv_if_eq (tgt := 45) hx hb dX11_led_40 (of_decide_eq_true rfl) (fun _ => ?_) (fun c => absurd (of_decide_eq_true rfl) c)
         refine lv_aload_n hx hb dX11_led_45 rfl (lv_at hl 0 rfl) ?_
         refine va_get (D := D) hx hb hts inlX11 hown hK hP 0 (jc_0 cI cL ad σ τ) rfl 8 (of_decide_eq_true rfl) (hts _ kw_2_21) (fun _ h9 => h9) rfl dX11_led_46 ?_
         refine lv_iload_n hx hb dX11_led_49 rfl (lv_at hl 1 rfl) ?_
         refine lv_iload_n hx hb dX11_led_50 rfl (lv_at hl 2 rfl) ?_
         refine jcallV (As := [.int a1, .int a2]) (rest := []) ⟨hx, hb, hml, hown, hts⟩ hK hP hA hS hZ (c_X3_ledAt_43 l D cI cL ad zz hJ σ τ a1 (A1) t1 a2 (A2) t2) cw_RX11_274 (jc_43 cI cL ad σ τ) rfl ⟨Nat.le_of_ble_eq_true rfl, Nat.le_of_ble_eq_true rfl⟩ rfl rfl rfl hl.1 rfl (Nat.le_of_ble_eq_true rfl) dX11_led_51 ⟨Nat.zero_le _, Nat.zero_le _⟩ (fun r22 σ21 τ21 H locs h21 hP hS => ?_)
         obtain ⟨⟨rfl, rfl⟩, h21⟩ := h21
         exact hret r22 σ τ _ _ _ _ rfl ⟨⟨rfl, rfl⟩, trivial⟩ hP hS dX11_led_54
  · have kc2 := jeq c2 t1 jz_m1
    refine lv_iload_n hx hb dX11_led_5 rfl (lv_at hl 2 rfl) ?_
    refine lv_if_ne (tgt := 17) hx hb dX11_led_6 (of_decide_eq_true rfl) (fun c23 => ?_) (fun c23 => ?_)
    · have kc23 := jne c23 t2 jz_0
      refine lv_iload_n hx hb dX11_led_17 rfl (lv_at hl 1 rfl) ?_
      refine lv_iconst (v := 0) hx hb dX11_led_18 (of_decide_eq_true rfl) ?_
      refine lv_aload_n hx hb dX11_led_19 rfl (lv_at hl 0 rfl) ?_
      refine va_get (D := D) hx hb hts inlX11 hown hK hP 0 (jc_0 cI cL ad σ τ) rfl 8 (of_decide_eq_true rfl) (hts _ kw_2_21) (fun _ h9 => h9) rfl dX11_led_20 ?_
      refine va_get (D := D) hx hb hts inlX3 hown hK hP 43 (jc_43 cI cL ad σ τ) rfl 8 (of_decide_eq_true rfl) (hts _ kw_46_19) (fun _ h9 => h9) rfl dX11_led_23 ?_
      refine lv_iconst (v := 1) hx hb dX11_led_26 (of_decide_eq_true rfl) ?_
      have g24 := jrg (rfl : (σ 43 8).toInt = (σ 43 8).toInt)
      refine lv_isub hx hb dX11_led_27 ?_
      refine lv_topi (fun x25 ex25 => ?_)
      exact by
       have tx25 : x25.toInt = (σ 43 8).toInt - 1 := (jsub ex25 rfl jz_1 (by omega) (by omega)).trans (by omega)
       refine jcallS (As := [.int a1, .int 0, .int x25]) (rest := []) ⟨hx, hb, hml, hown, hts⟩ hK hP hA hS hZ (c_X11_outside l D cI cL ad zz hJ σ τ a1 (A1) t1 0 (0) jz_0 x25 ((σ 43 8).toInt - 1) tx25) cw_RX11_94 ⟨Nat.le_of_ble_eq_true rfl, Nat.le_of_ble_eq_true rfl⟩ rfl rfl rfl hl.1 rfl (Nat.le_of_ble_eq_true rfl) dX11_led_28 ⟨Nat.zero_le _, Nat.zero_le _⟩ (fun r27 σ26 τ26 H locs h26 hP hS => ?_)
       obtain ⟨⟨rfl, rfl⟩, h26⟩ := h26
       rcases h26 with h28 | h29
       · obtain ⟨q31, k30⟩ := h28
         have q31 := q31.symm
         subst q31
         refine lv_if_ne (tgt := 43) hx hb dX11_led_31 (of_decide_eq_true rfl) (fun _ => ?_) (fun c => absurd c (of_decide_eq_true rfl))
         refine lv_iconst (v := (-1)) hx hb dX11_led_43 (of_decide_eq_true rfl) ?_
         exact hret (-1) σ τ _ _ _ _ rfl ⟨⟨rfl, rfl⟩, trivial⟩ hP hS dX11_led_44
       · obtain ⟨q33, k32⟩ := h29
         exact absurd (by omega : False) id
    · have kc23 := jeq c23 t2 jz_0
      refine lv_aload_n hx hb dX11_led_9 rfl (lv_at hl 0 rfl) ?_
      refine va_get (D := D) hx hb hts inlX11 hown hK hP 0 (jc_0 cI cL ad σ τ) rfl 8 (of_decide_eq_true rfl) (hts _ kw_2_21) (fun _ h9 => h9) rfl dX11_led_10 ?_
      refine va_get (D := D) hx hb hts inlX3 hown hK hP 43 (jc_43 cI cL ad σ τ) rfl 8 (of_decide_eq_true rfl) (hts _ kw_46_19) (fun _ h9 => h9) rfl dX11_led_13 ?_
      exact hret (σ 43 8) σ τ _ _ _ _ rfl ⟨⟨rfl, rfl⟩, trivial⟩ hP hS dX11_led_16
set_option maxHeartbeats 4000000 in
set_option maxRecDepth 100000 in
theorem c_X11_trace (l : Launch) (D : va_G) (cI cL : ClassId) (ad zz : Nat → Nat) (hJ : jD ad) (σ : Nat → Nat → Int32) (τ : Nat → Nat → Int64) (a1 : Int32) (A1 : Int) (t1 : a1.toInt = A1) (hI38 : jI38 σ) : jM l yX11_trace cX11_trace 2 (some .int) ({ frames := 1, cells := 0, slots := 0, locals := 22 }) D cI cL ad zz [.ref (ad 0), .int a1] σ τ (fun r σ' τ' => (σ = σ' ∧ τ = τ') ∧ ((r = (σ 42 a1.toNatClampNeg) ∧ (0 ≤ A1) ∧ (A1 ≤ 23) ∧ (A1 < (σ 38 1).toInt)) ∨ (r = (-1) ∧ ((A1 < 0) ∨ (23 < A1) ∨ ((σ 38 1).toInt ≤ A1))))) := by
  refine jM.of hJ (by decide +kernel) (nt := .int) rfl (Nat.le_of_ble_eq_true rfl) ?_
  intro p e s m args below meth c Q ls hC hret hl hP
  obtain ⟨hx, hb, hr, hml, hown, hts, hK, -, hlocks, hZ⟩ := hC
  have hown : s.vm.findClass RX11 = some m.cls := hown
  have hS : va_S (jA ad) s.heap s.heap [] := va_S.rf
  have hA : ∀ q, jA ad q → jA ad q := fun _ h => h
  have hl : lv_has ls 2 [(0, .ref (ad 0)), (1, .int a1)] := hl
  have g1 := jrg t1
  obtain ⟨i1, i2, w3⟩ : (0 ≤ (σ 38 0).toInt ∧ (σ 38 0).toInt ≤ 20) ∧ (0 ≤ (σ 38 1).toInt ∧ (σ 38 1).toInt ≤ 1000) ∧ (∀ k : Nat, k < 20 → 0 ≤ (σ 39 k).toInt ∧ (σ 39 k).toInt ≤ 6) := id hI38
  refine lv_iload_n hx hb dX11_trace_0 rfl (lv_at hl 1 rfl) ?_
  refine lv_iconst (v := 0) hx hb dX11_trace_1 (of_decide_eq_true rfl) ?_
  refine lv_aload_n hx hb dX11_trace_2 rfl (lv_at hl 0 rfl) ?_
  refine va_get (D := D) hx hb hts inlX11 hown hK hP 0 (jc_0 cI cL ad σ τ) rfl 7 (of_decide_eq_true rfl) (hts _ kw_2_17) (fun _ h9 => h9) rfl dX11_trace_3 ?_
  refine va_get (D := D) hx hb hts inlX8 hown hK hP 38 (jc_38 cI cL ad σ τ) rfl 1 (of_decide_eq_true rfl) (hts _ kw_48_10) (fun _ h9 => h9) rfl dX11_trace_6 ?_
  refine lv_bipush (v := 24) hx hb dX11_trace_9 (of_decide_eq_true rfl) ?_
  refine va_mmin hx hb (hml.trans hl.1.symm) hown (hts _ kw_41_3) (hts _ kw_22_11) (hts _ kw_21_1) (hts _ kw_22_12) (Nat.le_of_ble_eq_true rfl) (Nat.le_of_ble_eq_true rfl) (Nat.le_of_ble_eq_true rfl) (Nat.le_of_ble_eq_true rfl) dX11_trace_11 ?_
  refine lv_topi (fun x4 ex4 => ?_)
  have g5 := jmin ex4 rfl jz_24
  refine lv_iconst (v := 1) hx hb dX11_trace_14 (of_decide_eq_true rfl) ?_
  have g6 := jrg (rfl : x4.toInt = x4.toInt)
  refine lv_isub hx hb dX11_trace_15 ?_
  refine lv_topi (fun x7 ex7 => ?_)
  exact by
   have tx7 : x7.toInt = x4.toInt - 1 := (jsub ex7 rfl jz_1 (by omega) (by omega)).trans (by omega)
   refine jcallS (As := [.int a1, .int 0, .int x7]) (rest := []) ⟨hx, hb, hml, hown, hts⟩ hK hP hA hS hZ (c_X11_outside l D cI cL ad zz hJ σ τ a1 (A1) t1 0 (0) jz_0 x7 (x4.toInt - 1) tx7) cw_RX11_94 ⟨Nat.le_of_ble_eq_true rfl, Nat.le_of_ble_eq_true rfl⟩ rfl rfl rfl hl.1 rfl (Nat.le_of_ble_eq_true rfl) dX11_trace_16 ⟨Nat.zero_le _, Nat.zero_le _⟩ (fun r9 σ8 τ8 H locs h8 hP hS => ?_)
   obtain ⟨⟨rfl, rfl⟩, h8⟩ := h8
   rcases h8 with h10 | h11
   · obtain ⟨q13, k12⟩ := h10
     have q13 := q13.symm
     subst q13
     refine lv_if_eq (tgt := 24) hx hb dX11_trace_19 (of_decide_eq_true rfl) (fun c => absurd c (of_decide_eq_true rfl)) (fun _ => ?_)
     refine lv_iconst (v := (-1)) hx hb dX11_trace_22 (of_decide_eq_true rfl) ?_
     exact hret (-1) σ τ _ _ _ _ rfl ⟨⟨rfl, rfl⟩, Or.inr (⟨rfl, (by have h9 := jz_m1; omega)⟩)⟩ hP hS dX11_trace_23
   · obtain ⟨q15, k14⟩ := h11
     have q15 := q15.symm
     subst q15
     refine lv_if_eq (tgt := 24) hx hb dX11_trace_19 (of_decide_eq_true rfl) (fun _ => ?_) (fun c => absurd (of_decide_eq_true rfl) c)
     refine lv_aload_n hx hb dX11_trace_24 rfl (lv_at hl 0 rfl) ?_
     refine va_get (D := D) hx hb hts inlX11 hown hK hP 0 (jc_0 cI cL ad σ τ) rfl 7 (of_decide_eq_true rfl) (hts _ kw_2_17) (fun _ h9 => h9) rfl dX11_trace_25 ?_
     refine lv_iload_n hx hb dX11_trace_28 rfl (lv_at hl 1 rfl) ?_
     refine jcallV (As := [.int a1]) (rest := []) ⟨hx, hb, hml, hown, hts⟩ hK hP hA hS hZ (c_X8_traceAt_38 l D cI cL ad zz hJ σ τ a1 (A1) t1) cw_RX11_295 (jc_38 cI cL ad σ τ) rfl ⟨Nat.le_of_ble_eq_true rfl, Nat.le_of_ble_eq_true rfl⟩ rfl rfl rfl hl.1 rfl (Nat.le_of_ble_eq_true rfl) dX11_trace_29 ⟨Nat.zero_le _, Nat.zero_le _⟩ (fun r17 σ16 τ16 H locs h16 hP hS => ?_)
     obtain ⟨⟨rfl, rfl⟩, h16⟩ := h16
     rcases h16 with h18 | h19
     · obtain ⟨q21, k20⟩ := h18
       have q22 : r17 = (σ 42 a1.toNatClampNeg) := q21.trans rfl
       have q22 := q22.symm
       subst q22
       exact by exact hret (σ 42 a1.toNatClampNeg) σ τ _ _ _ _ rfl ⟨⟨rfl, rfl⟩, Or.inl ⟨rfl, (by omega), (by omega), (by omega)⟩⟩ hP hS dX11_trace_32
     · obtain ⟨q24, k23⟩ := h19
       exact absurd (by omega : False) id
set_option maxHeartbeats 4000000 in
set_option maxRecDepth 100000 in
theorem c_X11_keep (l : Launch) (D : va_G) (cI cL : ClassId) (ad zz : Nat → Nat) (hJ : jD ad) (σ : Nat → Nat → Int32) (τ : Nat → Nat → Int64) (a1 : Int32) (A1 : Int) (t1 : a1.toInt = A1) (a2 : Int32) (A2 : Int) (t2 : a2.toInt = A2) (hI38 : jI38 σ) (hI50 : jI50 σ) : jM l yX11_keep cX11_keep 3 (some .int) ({ frames := 2, cells := 0, slots := 0, locals := 43 }) D cI cL ad zz [.ref (ad 0), .int a1, .int a2] σ τ (fun r σ' τ' => τ = τ' ∧ (∀ i : Nat, (i < 51 ∨ 53 < i) → σ' i = σ i) ∧ (jI50 σ') ∧ ((r = 1 ∧ (0 ≤ A1 ∧ A1 ≤ 5) ∧ (A2 = (-1)) ∧ (σ' 51 = jupd (σ 51) (A1).toNat (-2) ∧ σ' 53 = jupd (σ 53) (A1).toNat (-1) ∧ σ' 52 = jupd (σ 52) (A1).toNat 0)) ∨ (r = 1 ∧ (0 ≤ A1 ∧ A1 ≤ 5) ∧ (0 ≤ A2 ∧ A2 < (σ 38 0).toInt) ∧ (σ' 51 = jupd (σ 51) (A1).toNat (-1) ∧ σ' 53 = jupd (σ 53) (A1).toNat a2 ∧ σ' 52 = jupd (σ 52) (A1).toNat 0)) ∨ (r = (-1) ∧ ((A1 < 0) ∨ (5 < A1) ∨ (A2 < (-1)) ∨ (0 ≤ A2 ∧ (σ 38 0).toInt ≤ A2)) ∧ (σ' 51 = σ 51 ∧ σ' 52 = σ 52 ∧ σ' 53 = σ 53)))) := by
  refine jM.of hJ (by decide +kernel) (nt := .int) rfl (Nat.le_of_ble_eq_true rfl) ?_
  intro p e s m args below meth c Q ls hC hret hl hP
  obtain ⟨hx, hb, hr, hml, hown, hts, hK, -, hlocks, hZ⟩ := hC
  have hown : s.vm.findClass RX11 = some m.cls := hown
  have hS : va_S (jA ad) s.heap s.heap [] := va_S.rf
  have hA : ∀ q, jA ad q → jA ad q := fun _ h => h
  have hl : lv_has ls 3 [(0, .ref (ad 0)), (1, .int a1), (2, .int a2)] := hl
  have g1 := jrg t1
  have g2 := jrg t2
  obtain ⟨i1, i2, w3⟩ : (0 ≤ (σ 38 0).toInt ∧ (σ 38 0).toInt ≤ 20) ∧ (0 ≤ (σ 38 1).toInt ∧ (σ 38 1).toInt ≤ 1000) ∧ (∀ k : Nat, k < 20 → 0 ≤ (σ 39 k).toInt ∧ (σ 39 k).toInt ≤ 6) := id hI38
  refine lv_iload_n hx hb dX11_keep_0 rfl (lv_at hl 1 rfl) ?_
  refine jcallS (As := [.int a1]) (rest := []) ⟨hx, hb, hml, hown, hts⟩ hK hP hA hS hZ (c_X11_noShelf l D cI cL ad zz hJ σ τ a1 (A1) t1) cw_RX11_249 ⟨Nat.le_of_ble_eq_true rfl, Nat.le_of_ble_eq_true rfl⟩ rfl rfl rfl hl.1 rfl (Nat.le_of_ble_eq_true rfl) dX11_keep_1 ⟨Nat.zero_le _, Nat.zero_le _⟩ (fun r5 σ4 τ4 H locs h4 hP hS => ?_)
  obtain ⟨⟨rfl, rfl⟩, h4⟩ := h4
  rcases h4 with h6 | h7
  · obtain ⟨q9, k8⟩ := h6
    have q9 := q9.symm
    subst q9
    refine lv_if_ne (tgt := 20) hx hb dX11_keep_4 (of_decide_eq_true rfl) (fun _ => ?_) (fun c => absurd c (of_decide_eq_true rfl))
    refine lv_iconst (v := (-1)) hx hb dX11_keep_20 (of_decide_eq_true rfl) ?_
    exact hret (-1) σ τ _ _ _ _ rfl ⟨rfl, (fun _ _ => rfl), hI50, Or.inr (Or.inr (⟨rfl, (by have h9 := jz_m1; omega), ⟨rfl, rfl, rfl⟩⟩))⟩ hP hS dX11_keep_21
  · obtain ⟨q11, k10⟩ := h7
    have q11 := q11.symm
    subst q11
    refine lv_if_ne (tgt := 20) hx hb dX11_keep_4 (of_decide_eq_true rfl) (fun c => absurd (of_decide_eq_true rfl) c) (fun _ => ?_)
    refine lv_iload_n hx hb dX11_keep_7 rfl (lv_at hl 2 rfl) ?_
    refine lv_iconst (v := (-1)) hx hb dX11_keep_8 (of_decide_eq_true rfl) ?_
    refine lv_icmp_eq (tgt := 22) hx hb dX11_keep_9 (of_decide_eq_true rfl) (fun c12 => ?_) (fun c12 => ?_)
    · have kc12 := jeq c12 t2 jz_m1
      refine lv_aload_n hx hb dX11_keep_22 rfl (lv_at hl 0 rfl) ?_
      refine va_get (D := D) hx hb hts inlX11 hown hK hP 0 (jc_0 cI cL ad σ τ) rfl 10 (of_decide_eq_true rfl) (hts _ kw_3_5) (fun _ h9 => h9) rfl dX11_keep_23 ?_
      refine lv_iload_n hx hb dX11_keep_26 rfl (lv_at hl 1 rfl) ?_
      refine lv_iload_n hx hb dX11_keep_27 rfl (lv_at hl 2 rfl) ?_
      exact by
       refine jcallVv (As := [.int a1, .int a2]) (rest := []) ⟨hx, hb, hml, hown, hts⟩ hK hP hA hS hZ (c_X9_hold_50 l D cI cL ad zz hJ σ τ a1 (A1) t1 a2 (A2) t2 hI38 hI50 (by omega) (by omega) (by omega)) cw_RX11_298 (jc_50 cI cL ad σ τ) rfl ⟨Nat.le_of_ble_eq_true rfl, Nat.le_of_ble_eq_true rfl⟩ rfl rfl rfl hl.1 rfl (Nat.le_of_ble_eq_true rfl) dX11_keep_28 ⟨Nat.zero_le _, Nat.zero_le _⟩ (fun σ13 τ13 H locs h13 hP hS => ?_)
       obtain ⟨rfl, f15, I16, h13⟩ := h13
       rcases h13 with h18 | h19
       · obtain ⟨q22, k20, k21⟩ := h18
         refine lv_iconst (v := 1) hx hb dX11_keep_31 (of_decide_eq_true rfl) ?_
         exact by exact hret 1 σ13 τ _ _ _ _ rfl ⟨rfl, (fun i hi => (f15 i hi)), I16, Or.inl ⟨rfl, (by have h9 := jz_1; omega), (by have h9 := jz_1; omega), k21⟩⟩ hP hS dX11_keep_32
       · obtain ⟨q25, k23, k24⟩ := h19
         exact absurd (by omega : False) id
    · have kc12 := jne c12 t2 jz_m1
      refine lv_aload_n hx hb dX11_keep_12 rfl (lv_at hl 0 rfl) ?_
      refine lv_iload_n hx hb dX11_keep_13 rfl (lv_at hl 2 rfl) ?_
      refine jcallV (As := [.int a2]) (rest := []) ⟨hx, hb, hml, hown, hts⟩ hK hP hA hS hZ (c_X11_noRule l D cI cL ad zz hJ σ τ a2 (A2) t2 hI38) cw_RX11_177 (jc_0 cI cL ad σ τ) rfl ⟨Nat.le_of_ble_eq_true rfl, Nat.le_of_ble_eq_true rfl⟩ rfl rfl rfl hl.1 rfl (Nat.le_of_ble_eq_true rfl) dX11_keep_14 ⟨Nat.zero_le _, Nat.zero_le _⟩ (fun r27 σ26 τ26 H locs h26 hP hS => ?_)
      obtain ⟨⟨rfl, rfl⟩, h26⟩ := h26
      rcases h26 with h28 | h29
      · obtain ⟨q31, k30⟩ := h28
        have q31 := q31.symm
        subst q31
        refine lv_if_eq (tgt := 22) hx hb dX11_keep_17 (of_decide_eq_true rfl) (fun c => absurd c (of_decide_eq_true rfl)) (fun _ => ?_)
        refine lv_iconst (v := (-1)) hx hb dX11_keep_20 (of_decide_eq_true rfl) ?_
        exact hret (-1) σ τ _ _ _ _ rfl ⟨rfl, (fun _ _ => rfl), hI50, Or.inr (Or.inr (⟨rfl, (by have h9 := jz_m1; omega), ⟨rfl, rfl, rfl⟩⟩))⟩ hP hS dX11_keep_21
      · obtain ⟨q33, k32⟩ := h29
        have q33 := q33.symm
        subst q33
        refine lv_if_eq (tgt := 22) hx hb dX11_keep_17 (of_decide_eq_true rfl) (fun _ => ?_) (fun c => absurd (of_decide_eq_true rfl) c)
        refine lv_aload_n hx hb dX11_keep_22 rfl (lv_at hl 0 rfl) ?_
        refine va_get (D := D) hx hb hts inlX11 hown hK hP 0 (jc_0 cI cL ad σ τ) rfl 10 (of_decide_eq_true rfl) (hts _ kw_3_5) (fun _ h9 => h9) rfl dX11_keep_23 ?_
        refine lv_iload_n hx hb dX11_keep_26 rfl (lv_at hl 1 rfl) ?_
        refine lv_iload_n hx hb dX11_keep_27 rfl (lv_at hl 2 rfl) ?_
        exact by
         refine jcallVv (As := [.int a1, .int a2]) (rest := []) ⟨hx, hb, hml, hown, hts⟩ hK hP hA hS hZ (c_X9_hold_50 l D cI cL ad zz hJ σ τ a1 (A1) t1 a2 (A2) t2 hI38 hI50 (by omega) (by omega) (by omega)) cw_RX11_298 (jc_50 cI cL ad σ τ) rfl ⟨Nat.le_of_ble_eq_true rfl, Nat.le_of_ble_eq_true rfl⟩ rfl rfl rfl hl.1 rfl (Nat.le_of_ble_eq_true rfl) dX11_keep_28 ⟨Nat.zero_le _, Nat.zero_le _⟩ (fun σ34 τ34 H locs h34 hP hS => ?_)
         obtain ⟨rfl, f36, I37, h34⟩ := h34
         rcases h34 with h39 | h40
         · obtain ⟨q43, k41, k42⟩ := h39
           exact absurd (by omega : False) id
         · obtain ⟨q46, k44, k45⟩ := h40
           refine lv_iconst (v := 1) hx hb dX11_keep_31 (of_decide_eq_true rfl) ?_
           exact by exact hret 1 σ34 τ _ _ _ _ rfl ⟨rfl, (fun i hi => (f36 i hi)), I37, Or.inr (Or.inl ⟨rfl, (by have h9 := jz_1; omega), (by have h9 := jz_1; omega), k45⟩)⟩ hP hS dX11_keep_32
set_option maxHeartbeats 4000000 in
set_option maxRecDepth 100000 in
theorem c_X11_row (l : Launch) (D : va_G) (cI cL : ClassId) (ad zz : Nat → Nat) (hJ : jD ad) (σ : Nat → Nat → Int32) (τ : Nat → Nat → Int64) (a1 : Int32) (A1 : Int) (t1 : a1.toInt = A1) (a2 : Int32) (A2 : Int) (t2 : a2.toInt = A2) (a3 : Int32) (A3 : Int) (t3 : a3.toInt = A3) (hI50 : jI50 σ) : jM l yX11_row cX11_row 4 (some .int) ({ frames := 2, cells := 0, slots := 0, locals := 44 }) D cI cL ad zz [.ref (ad 0), .int a1, .int a2, .int a3] σ τ (fun r σ' τ' => (∀ i : Nat, (i < 54 ∨ 54 < i) → τ' i = τ i) ∧ (∀ i : Nat, (i < 51 ∨ 53 < i) → σ' i = σ i) ∧ (jI50 σ') ∧ ((r = (-1) ∧ ((A1 < 0) ∨ (5 < A1) ∨ (A2 < 0) ∨ (4 < A2) ∨ (60 < A3)) ∧ (σ' 51 = σ 51 ∧ σ' 52 = σ 52 ∧ σ' 53 = σ 53) ∧ (τ' 54 = τ 54)) ∨ (r = (-14) ∧ (0 ≤ A1 ∧ A1 ≤ 5) ∧ (0 ≤ A2 ∧ A2 ≤ 4) ∧ (A3 < 0) ∧ (σ' 51 = σ 51 ∧ σ' 52 = σ 52 ∧ σ' 53 = σ 53) ∧ (τ' 54 = τ 54)) ∨ (r = 1 ∧ (0 ≤ A1 ∧ A1 ≤ 5) ∧ (0 ≤ A2 ∧ A2 ≤ 4) ∧ (0 ≤ A3 ∧ A3 ≤ 60) ∧ (σ' 51 = jupd (σ 51) (A1).toNat a2 ∧ σ' 52 = jupd (σ 52) (A1).toNat a3 ∧ σ' 53 = jupd (σ 53) (A1).toNat (-1)) ∧ (jFl (τ 54) (τ' 54) (60 * (A1)).toNat (A3))))) := by
  refine jM.of hJ (by decide +kernel) (nt := .int) rfl (Nat.le_of_ble_eq_true rfl) ?_
  intro p e s m args below meth c Q ls hC hret hl hP
  obtain ⟨hx, hb, hr, hml, hown, hts, hK, -, hlocks, hZ⟩ := hC
  have hown : s.vm.findClass RX11 = some m.cls := hown
  have hS : va_S (jA ad) s.heap s.heap [] := va_S.rf
  have hA : ∀ q, jA ad q → jA ad q := fun _ h => h
  have hl : lv_has ls 4 [(0, .ref (ad 0)), (1, .int a1), (2, .int a2), (3, .int a3)] := hl
  have g1 := jrg t1
  have g2 := jrg t2
  have g3 := jrg t3
  refine lv_iload_n hx hb dX11_row_0 rfl (lv_at hl 1 rfl) ?_
  refine jcallS (As := [.int a1]) (rest := []) ⟨hx, hb, hml, hown, hts⟩ hK hP hA hS hZ (c_X11_noShelf l D cI cL ad zz hJ σ τ a1 (A1) t1) cw_RX11_249 ⟨Nat.le_of_ble_eq_true rfl, Nat.le_of_ble_eq_true rfl⟩ rfl rfl rfl hl.1 rfl (Nat.le_of_ble_eq_true rfl) dX11_row_1 ⟨Nat.zero_le _, Nat.zero_le _⟩ (fun r2 σ1 τ1 H locs h1 hP hS => ?_)
  obtain ⟨⟨rfl, rfl⟩, h1⟩ := h1
  rcases h1 with h3 | h4
  · obtain ⟨q6, k5⟩ := h3
    have q6 := q6.symm
    subst q6
    refine lv_if_ne (tgt := 22) hx hb dX11_row_4 (of_decide_eq_true rfl) (fun _ => ?_) (fun c => absurd c (of_decide_eq_true rfl))
    refine lv_iconst (v := (-1)) hx hb dX11_row_22 (of_decide_eq_true rfl) ?_
    exact hret (-1) σ τ _ _ _ _ rfl ⟨(fun _ _ => rfl), (fun _ _ => rfl), hI50, Or.inl ⟨rfl, (by have h9 := jz_m1; omega), ⟨rfl, rfl, rfl⟩, rfl⟩⟩ hP hS dX11_row_23
  · obtain ⟨q8, k7⟩ := h4
    have q8 := q8.symm
    subst q8
    refine lv_if_ne (tgt := 22) hx hb dX11_row_4 (of_decide_eq_true rfl) (fun c => absurd (of_decide_eq_true rfl) c) (fun _ => ?_)
    refine lv_iload_n hx hb dX11_row_7 rfl (lv_at hl 2 rfl) ?_
    refine lv_iconst (v := 0) hx hb dX11_row_8 (of_decide_eq_true rfl) ?_
    refine lv_iconst (v := 4) hx hb dX11_row_9 (of_decide_eq_true rfl) ?_
    refine jcallS (As := [.int a2, .int 0, .int 4]) (rest := []) ⟨hx, hb, hml, hown, hts⟩ hK hP hA hS hZ (c_X11_outside l D cI cL ad zz hJ σ τ a2 (A2) t2 0 (0) jz_0 4 (4) jz_4) cw_RX11_94 ⟨Nat.le_of_ble_eq_true rfl, Nat.le_of_ble_eq_true rfl⟩ rfl rfl rfl hl.1 rfl (Nat.le_of_ble_eq_true rfl) dX11_row_10 ⟨Nat.zero_le _, Nat.zero_le _⟩ (fun r10 σ9 τ9 H locs h9 hP hS => ?_)
    obtain ⟨⟨rfl, rfl⟩, h9⟩ := h9
    rcases h9 with h11 | h12
    · obtain ⟨q14, k13⟩ := h11
      have q14 := q14.symm
      subst q14
      refine lv_if_ne (tgt := 22) hx hb dX11_row_13 (of_decide_eq_true rfl) (fun _ => ?_) (fun c => absurd c (of_decide_eq_true rfl))
      refine lv_iconst (v := (-1)) hx hb dX11_row_22 (of_decide_eq_true rfl) ?_
      exact hret (-1) σ τ _ _ _ _ rfl ⟨(fun _ _ => rfl), (fun _ _ => rfl), hI50, Or.inl ⟨rfl, (by have h9 := jz_m1; omega), ⟨rfl, rfl, rfl⟩, rfl⟩⟩ hP hS dX11_row_23
    · obtain ⟨q16, k15⟩ := h12
      have q16 := q16.symm
      subst q16
      refine lv_if_ne (tgt := 22) hx hb dX11_row_13 (of_decide_eq_true rfl) (fun c => absurd (of_decide_eq_true rfl) c) (fun _ => ?_)
      refine lv_iload_n hx hb dX11_row_16 rfl (lv_at hl 3 rfl) ?_
      refine lv_bipush (v := 60) hx hb dX11_row_17 (of_decide_eq_true rfl) ?_
      refine lv_icmp_le (tgt := 24) hx hb dX11_row_19 (of_decide_eq_true rfl) (fun c17 => ?_) (fun c17 => ?_)
      · have kc17 := jle c17 t3 jz_60
        refine lv_iload_n hx hb dX11_row_24 rfl (lv_at hl 3 rfl) ?_
        refine lv_if_ge (tgt := 31) hx hb dX11_row_25 (of_decide_eq_true rfl) (fun c18 => ?_) (fun c18 => ?_)
        · have kc18 := jle c18 jz_0 t3
          refine lv_aload_n hx hb dX11_row_31 rfl (lv_at hl 0 rfl) ?_
          refine va_get (D := D) hx hb hts inlX11 hown hK hP 0 (jc_0 cI cL ad σ τ) rfl 10 (of_decide_eq_true rfl) (hts _ kw_3_5) (fun _ h9 => h9) rfl dX11_row_32 ?_
          refine lv_iload_n hx hb dX11_row_35 rfl (lv_at hl 1 rfl) ?_
          refine lv_iload_n hx hb dX11_row_36 rfl (lv_at hl 2 rfl) ?_
          refine lv_iload_n hx hb dX11_row_37 rfl (lv_at hl 3 rfl) ?_
          exact by
           refine jcallVv (As := [.int a1, .int a2, .int a3]) (rest := []) ⟨hx, hb, hml, hown, hts⟩ hK hP hA hS hZ (c_X9_lay_50 l D cI cL ad zz hJ σ τ a1 (A1) t1 a2 (A2) t2 a3 (A3) t3 hI50 (by omega) (by omega)) cw_RX11_302 (jc_50 cI cL ad σ τ) rfl ⟨Nat.le_of_ble_eq_true rfl, Nat.le_of_ble_eq_true rfl⟩ rfl rfl rfl hl.1 rfl (Nat.le_of_ble_eq_true rfl) dX11_row_38 ⟨Nat.zero_le _, Nat.zero_le _⟩ (fun σ19 τ19 H locs h19 hP hS => ?_)
           obtain ⟨f23, f21, I22, h19⟩ := h19
           have h24 := h19
           obtain ⟨q27, k25, k26⟩ := h24
           refine lv_iconst (v := 1) hx hb dX11_row_41 (of_decide_eq_true rfl) ?_
           exact by exact hret 1 σ19 τ19 _ _ _ _ rfl ⟨(fun i hi => (f23 i hi)), (fun i hi => (f21 i hi)), I22, Or.inr (Or.inr (⟨rfl, (by have h9 := jz_1; omega), (by have h9 := jz_1; omega), (by have h9 := jz_1; omega), k25, k26⟩))⟩ hP hS dX11_row_42
        · have kc18 := jnle c18 jz_0 t3
          refine lv_bipush (v := (-14)) hx hb dX11_row_28 (of_decide_eq_true rfl) ?_
          exact by exact hret (-14) σ τ _ _ _ _ rfl ⟨(fun _ _ => rfl), (fun _ _ => rfl), hI50, Or.inr (Or.inl ⟨rfl, (by have h9 := jz_m14; omega), (by have h9 := jz_m14; omega), (by have h9 := jz_m14; omega), ⟨rfl, rfl, rfl⟩, rfl⟩)⟩ hP hS dX11_row_30
      · have kc17 := jnle c17 t3 jz_60
        refine lv_iconst (v := (-1)) hx hb dX11_row_22 (of_decide_eq_true rfl) ?_
        exact hret (-1) σ τ _ _ _ _ rfl ⟨(fun _ _ => rfl), (fun _ _ => rfl), hI50, Or.inl ⟨rfl, (by have h9 := jz_m1; omega), ⟨rfl, rfl, rfl⟩, rfl⟩⟩ hP hS dX11_row_23
set_option maxHeartbeats 4000000 in
set_option maxRecDepth 100000 in
theorem c_X11_put (l : Launch) (D : va_G) (cI cL : ClassId) (ad zz : Nat → Nat) (hJ : jD ad) (σ : Nat → Nat → Int32) (τ : Nat → Nat → Int64) (a1 : Int32) (A1 : Int) (t1 : a1.toInt = A1) (a2 : Int32) (A2 : Int) (t2 : a2.toInt = A2) (a3 : Int64) (AL3 : Int) (t3 : a3.toInt = AL3) (hI50 : jI50 σ) : jM l yX11_put cX11_put 6 (some .int) ({ frames := 6, cells := 0, slots := 0, locals := 129 }) D cI cL ad zz [.ref (ad 0), .int a1, .int a2, .long a3] σ τ (fun r σ' τ' => (∀ i : Nat, (i < 54 ∨ 54 < i) → τ' i = τ i) ∧ (∀ i : Nat, (0 = 0) → σ' i = σ i) ∧ (r.toInt = jRf (A1) (A2) ((σ 51 a1.toNatClampNeg).toInt) ((σ 52 a1.toNatClampNeg).toInt)) ∧ (jPt (r.toInt) (60 * (A1) + (A2)).toNat (jCut ((σ 51 a1.toNatClampNeg).toInt) a3) (τ 54) (τ' 54)) ∧ True) := by
  refine jM.of hJ (by decide +kernel) (nt := .int) rfl (Nat.le_of_ble_eq_true rfl) ?_
  intro p e s m args below meth c Q ls hC hret hl hP
  obtain ⟨hx, hb, hr, hml, hown, hts, hK, -, hlocks, hZ⟩ := hC
  have hown : s.vm.findClass RX11 = some m.cls := hown
  have hS : va_S (jA ad) s.heap s.heap [] := va_S.rf
  have hA : ∀ q, jA ad q → jA ad q := fun _ h => h
  have hl : lv_has ls 6 [(0, .ref (ad 0)), (1, .int a1), (2, .int a2), (3, .long a3)] := hl
  have g1 := jrg t1
  have g2 := jrg t2
  have g3 := jrgL t3
  refine lv_iload_n hx hb dX11_put_0 rfl (lv_at hl 1 rfl) ?_
  refine jcallS (As := [.int a1]) (rest := []) ⟨hx, hb, hml, hown, hts⟩ hK hP hA hS hZ (c_X11_noShelf l D cI cL ad zz hJ σ τ a1 (A1) t1) cw_RX11_249 ⟨Nat.le_of_ble_eq_true rfl, Nat.le_of_ble_eq_true rfl⟩ rfl rfl rfl hl.1 rfl (Nat.le_of_ble_eq_true rfl) dX11_put_1 ⟨Nat.zero_le _, Nat.zero_le _⟩ (fun r2 σ1 τ1 H locs h1 hP hS => ?_)
  obtain ⟨⟨rfl, rfl⟩, h1⟩ := h1
  rcases h1 with h3 | h4
  · obtain ⟨q6, k5⟩ := h3
    have q6 := q6.symm
    subst q6
    refine lv_if_eq (tgt := 9) hx hb dX11_put_4 (of_decide_eq_true rfl) (fun c => absurd c (of_decide_eq_true rfl)) (fun _ => ?_)
    refine lv_iconst (v := (-1)) hx hb dX11_put_7 (of_decide_eq_true rfl) ?_
    exact by exact hret (-1) σ τ _ _ _ _ rfl ⟨(fun _ _ => rfl), (fun _ _ => rfl), (by have h9 := jz_m1; unfold jRf; first | ((repeat (first | rw [if_pos (by omega)] | rw [if_neg (by omega)])) <;> omega) | ((repeat' split) <;> omega)), (Or.inr ⟨(by have h9 := jz_m1; omega), rfl⟩), trivial⟩ hP hS dX11_put_8
  · obtain ⟨q8, k7⟩ := h4
    have q8 := q8.symm
    subst q8
    refine lv_if_eq (tgt := 9) hx hb dX11_put_4 (of_decide_eq_true rfl) (fun _ => ?_) (fun c => absurd (of_decide_eq_true rfl) c)
    refine lv_aload_n hx hb dX11_put_9 rfl (lv_at hl 0 rfl) ?_
    refine va_get (D := D) hx hb hts inlX11 hown hK hP 0 (jc_0 cI cL ad σ τ) rfl 10 (of_decide_eq_true rfl) (hts _ kw_3_5) (fun _ h9 => h9) rfl dX11_put_10 ?_
    refine lv_iload_n hx hb dX11_put_13 rfl (lv_at hl 1 rfl) ?_
    refine lv_iload_n hx hb dX11_put_14 rfl (lv_at hl 2 rfl) ?_
    refine jcallV (As := [.int a1, .int a2]) (rest := []) ⟨hx, hb, hml, hown, hts⟩ hK hP hA hS hZ (c_X9_refusal_50 l D cI cL ad zz hJ σ τ a1 (A1) t1 a2 (A2) t2 hI50) cw_RX11_304 (jc_50 cI cL ad σ τ) rfl ⟨Nat.le_of_ble_eq_true rfl, Nat.le_of_ble_eq_true rfl⟩ rfl rfl rfl hl.1 rfl (Nat.le_of_ble_eq_true rfl) dX11_put_15 ⟨Nat.zero_le _, Nat.zero_le _⟩ (fun r10 σ9 τ9 H locs h9 hP hS => ?_)
    obtain ⟨⟨rfl, rfl⟩, h9⟩ := h9
    rcases h9 with h11 | h12 | h13 | h14
    · obtain ⟨q20, k15, k16, k17, k18, k19⟩ := h11
      have q20 := q20.symm
      subst q20
      refine lv_istore (lv' := [(5, .int 0), (0, .ref (ad 0)), (1, .int a1), (2, .int a2), (3, .long a3)]) hx hb dX11_put_18 hl (of_decide_eq_true rfl) rfl (fun ls hl => ?_)
      refine lv_iload hx hb dX11_put_20 (lv_at hl 0 rfl) ?_
      refine lv_if_ge (tgt := 28) hx hb dX11_put_22 (of_decide_eq_true rfl) (fun _ => ?_) (fun c => absurd (of_decide_eq_true rfl) c)
      refine lv_aload_n hx hb dX11_put_28 rfl (lv_at hl 1 rfl) ?_
      refine va_get (D := D) hx hb hts inlX11 hown hK hP 0 (jc_0 cI cL ad σ τ) rfl 10 (of_decide_eq_true rfl) (hts _ kw_3_5) (fun _ h9 => h9) rfl dX11_put_29 ?_
      refine lv_iload_n hx hb dX11_put_32 rfl (lv_at hl 2 rfl) ?_
      refine lv_iload_n hx hb dX11_put_33 rfl (lv_at hl 3 rfl) ?_
      refine lv_lload_n hx hb dX11_put_34 rfl (lv_at hl 4 rfl) ?_
      refine jcallVv (As := [.int a1, .int a2, .long a3]) (rest := []) ⟨hx, hb, hml, hown, hts⟩ hK hP hA hS hZ (c_X9_write_50 l D cI cL ad zz hJ σ τ a1 (A1) t1 a2 (A2) t2 a3 (AL3) t3 hI50) cw_RX11_307 (jc_50 cI cL ad σ τ) rfl ⟨Nat.le_of_ble_eq_true rfl, Nat.le_of_ble_eq_true rfl⟩ rfl rfl rfl hl.1 rfl (Nat.le_of_ble_eq_true rfl) dX11_put_35 ⟨Nat.zero_le _, Nat.zero_le _⟩ (fun σ21 τ21 H locs h21 hP hS => ?_)
      obtain ⟨f25, f23, w24, h21⟩ := h21
      refine lv_iconst (v := 1) hx hb dX11_put_38 (of_decide_eq_true rfl) ?_
      exact by exact hret 1 σ21 τ21 _ _ _ _ rfl ⟨(fun i hi => (f25 i hi)), (fun i hi => (f23 i hi)), (by have h9 := jz_1; unfold jRf; first | ((repeat (first | rw [if_pos (by omega)] | rw [if_neg (by omega)])) <;> omega) | ((repeat' split) <;> omega)), (by rw [show (1 : Int32).toInt = jRf (A1) (A2) ((σ 51 a1.toNatClampNeg).toInt) ((σ 52 a1.toNatClampNeg).toInt) from (by have h9 := jz_1; unfold jRf; first | ((repeat (first | rw [if_pos (by omega)] | rw [if_neg (by omega)])) <;> omega) | ((repeat' split) <;> omega))]; exact w24), trivial⟩ hP hS dX11_put_39
    · obtain ⟨q27, k26⟩ := h12
      have q27 := q27.symm
      subst q27
      refine lv_istore (lv' := [(5, .int (-11)), (0, .ref (ad 0)), (1, .int a1), (2, .int a2), (3, .long a3)]) hx hb dX11_put_18 hl (of_decide_eq_true rfl) rfl (fun ls hl => ?_)
      refine lv_iload hx hb dX11_put_20 (lv_at hl 0 rfl) ?_
      refine lv_if_ge (tgt := 28) hx hb dX11_put_22 (of_decide_eq_true rfl) (fun c => absurd c (of_decide_eq_true rfl)) (fun _ => ?_)
      refine lv_iload hx hb dX11_put_25 (lv_at hl 0 rfl) ?_
      exact by exact hret (-11) σ τ _ _ _ _ rfl ⟨(fun _ _ => rfl), (fun _ _ => rfl), (by have h9 := jz_m11; unfold jRf; first | ((repeat (first | rw [if_pos (by omega)] | rw [if_neg (by omega)])) <;> omega) | ((repeat' split) <;> omega)), (Or.inr ⟨(by have h9 := jz_m11; omega), rfl⟩), trivial⟩ hP hS dX11_put_27
    · obtain ⟨q30, k28, k29⟩ := h13
      have q30 := q30.symm
      subst q30
      refine lv_istore (lv' := [(5, .int (-12)), (0, .ref (ad 0)), (1, .int a1), (2, .int a2), (3, .long a3)]) hx hb dX11_put_18 hl (of_decide_eq_true rfl) rfl (fun ls hl => ?_)
      refine lv_iload hx hb dX11_put_20 (lv_at hl 0 rfl) ?_
      refine lv_if_ge (tgt := 28) hx hb dX11_put_22 (of_decide_eq_true rfl) (fun c => absurd c (of_decide_eq_true rfl)) (fun _ => ?_)
      refine lv_iload hx hb dX11_put_25 (lv_at hl 0 rfl) ?_
      exact by exact hret (-12) σ τ _ _ _ _ rfl ⟨(fun _ _ => rfl), (fun _ _ => rfl), (by have h9 := jz_m12; unfold jRf; first | ((repeat (first | rw [if_pos (by omega)] | rw [if_neg (by omega)])) <;> omega) | ((repeat' split) <;> omega)), (Or.inr ⟨(by have h9 := jz_m12; omega), rfl⟩), trivial⟩ hP hS dX11_put_27
    · obtain ⟨q35, k31, k32, k33, k34⟩ := h14
      have q35 := q35.symm
      subst q35
      refine lv_istore (lv' := [(5, .int (-13)), (0, .ref (ad 0)), (1, .int a1), (2, .int a2), (3, .long a3)]) hx hb dX11_put_18 hl (of_decide_eq_true rfl) rfl (fun ls hl => ?_)
      refine lv_iload hx hb dX11_put_20 (lv_at hl 0 rfl) ?_
      refine lv_if_ge (tgt := 28) hx hb dX11_put_22 (of_decide_eq_true rfl) (fun c => absurd c (of_decide_eq_true rfl)) (fun _ => ?_)
      refine lv_iload hx hb dX11_put_25 (lv_at hl 0 rfl) ?_
      exact by exact hret (-13) σ τ _ _ _ _ rfl ⟨(fun _ _ => rfl), (fun _ _ => rfl), (by have h9 := jz_m13; unfold jRf; first | ((repeat (first | rw [if_pos (by omega)] | rw [if_neg (by omega)])) <;> omega) | ((repeat' split) <;> omega)), (Or.inr ⟨(by have h9 := jz_m13; omega), rfl⟩), trivial⟩ hP hS dX11_put_27
set_option maxHeartbeats 4000000 in
set_option maxRecDepth 100000 in
theorem c_X11_element (l : Launch) (D : va_G) (cI cL : ClassId) (ad zz : Nat → Nat) (hJ : jD ad) (σ : Nat → Nat → Int32) (τ : Nat → Nat → Int64) (a1 : Int32) (A1 : Int) (t1 : a1.toInt = A1) (a2 : Int32) (A2 : Int) (t2 : a2.toInt = A2) (hI50 : jI50 σ) : jMl l yX11_element cX11_element 3 (some .long) ({ frames := 6, cells := 0, slots := 0, locals := 127 }) D cI cL ad zz [.ref (ad 0), .int a1, .int a2] σ τ (fun r σ' τ' => (σ = σ' ∧ τ = τ') ∧ (jGt (jRf (A1) (A2) ((σ 51 a1.toNatClampNeg).toInt) ((σ 52 a1.toNatClampNeg).toInt)) (60 * (A1) + (A2)).toNat (τ 54) r) ∧ True) := by
  refine jMl.of hJ (by decide +kernel) rfl (Nat.le_of_ble_eq_true rfl) ?_
  intro p e s m args below meth c Q ls hC hret hl hP
  obtain ⟨hx, hb, hr, hml, hown, hts, hK, -, hlocks, hZ⟩ := hC
  have hown : s.vm.findClass RX11 = some m.cls := hown
  have hS : va_S (jA ad) s.heap s.heap [] := va_S.rf
  have hA : ∀ q, jA ad q → jA ad q := fun _ h => h
  have hl : lv_has ls 3 [(0, .ref (ad 0)), (1, .int a1), (2, .int a2)] := hl
  have g1 := jrg t1
  have g2 := jrg t2
  refine lv_iload_n hx hb dX11_element_0 rfl (lv_at hl 1 rfl) ?_
  refine jcallS (As := [.int a1]) (rest := []) ⟨hx, hb, hml, hown, hts⟩ hK hP hA hS hZ (c_X11_noShelf l D cI cL ad zz hJ σ τ a1 (A1) t1) cw_RX11_249 ⟨Nat.le_of_ble_eq_true rfl, Nat.le_of_ble_eq_true rfl⟩ rfl rfl rfl hl.1 rfl (Nat.le_of_ble_eq_true rfl) dX11_element_1 ⟨Nat.zero_le _, Nat.zero_le _⟩ (fun r2 σ1 τ1 H locs h1 hP hS => ?_)
  obtain ⟨⟨rfl, rfl⟩, h1⟩ := h1
  rcases h1 with h3 | h4
  · obtain ⟨q6, k5⟩ := h3
    have q6 := q6.symm
    subst q6
    refine lv_if_ne (tgt := 19) hx hb dX11_element_4 (of_decide_eq_true rfl) (fun _ => ?_) (fun c => absurd c (of_decide_eq_true rfl))
    refine lv_ldc2 (v := (-9223372036854775808)) hx hb hown (hts _ kw_52_22) dX11_element_19 ?_
    exact hret (-9223372036854775808) σ τ _ _ _ _ ⟨⟨rfl, rfl⟩, (Or.inr ⟨(by unfold jRf; first | ((repeat (first | rw [if_pos (by omega)] | rw [if_neg (by omega)])) <;> omega) | ((repeat' split) <;> omega)), rfl⟩), trivial⟩ hP hS dX11_element_22
  · obtain ⟨q8, k7⟩ := h4
    have q8 := q8.symm
    subst q8
    refine lv_if_ne (tgt := 19) hx hb dX11_element_4 (of_decide_eq_true rfl) (fun c => absurd (of_decide_eq_true rfl) c) (fun _ => ?_)
    refine lv_aload_n hx hb dX11_element_7 rfl (lv_at hl 0 rfl) ?_
    refine va_get (D := D) hx hb hts inlX11 hown hK hP 0 (jc_0 cI cL ad σ τ) rfl 10 (of_decide_eq_true rfl) (hts _ kw_3_5) (fun _ h9 => h9) rfl dX11_element_8 ?_
    refine lv_iload_n hx hb dX11_element_11 rfl (lv_at hl 1 rfl) ?_
    refine lv_iload_n hx hb dX11_element_12 rfl (lv_at hl 2 rfl) ?_
    refine jcallV (As := [.int a1, .int a2]) (rest := []) ⟨hx, hb, hml, hown, hts⟩ hK hP hA hS hZ (c_X9_refusal_50 l D cI cL ad zz hJ σ τ a1 (A1) t1 a2 (A2) t2 hI50) cw_RX11_304 (jc_50 cI cL ad σ τ) rfl ⟨Nat.le_of_ble_eq_true rfl, Nat.le_of_ble_eq_true rfl⟩ rfl rfl rfl hl.1 rfl (Nat.le_of_ble_eq_true rfl) dX11_element_13 ⟨Nat.zero_le _, Nat.zero_le _⟩ (fun r10 σ9 τ9 H locs h9 hP hS => ?_)
    obtain ⟨⟨rfl, rfl⟩, h9⟩ := h9
    rcases h9 with h11 | h12 | h13 | h14
    · obtain ⟨q20, k15, k16, k17, k18, k19⟩ := h11
      have q20 := q20.symm
      subst q20
      refine lv_if_ge (tgt := 23) hx hb dX11_element_16 (of_decide_eq_true rfl) (fun _ => ?_) (fun c => absurd (of_decide_eq_true rfl) c)
      refine lv_aload_n hx hb dX11_element_23 rfl (lv_at hl 0 rfl) ?_
      refine va_get (D := D) hx hb hts inlX11 hown hK hP 0 (jc_0 cI cL ad σ τ) rfl 10 (of_decide_eq_true rfl) (hts _ kw_3_5) (fun _ h9 => h9) rfl dX11_element_24 ?_
      refine lv_iload_n hx hb dX11_element_27 rfl (lv_at hl 1 rfl) ?_
      refine lv_iload_n hx hb dX11_element_28 rfl (lv_at hl 2 rfl) ?_
      refine jcallVl (As := [.int a1, .int a2]) (rest := []) ⟨hx, hb, hml, hown, hts⟩ hK hP hA hS hZ (c_X9_elementAt_50 l D cI cL ad zz hJ σ τ a1 (A1) t1 a2 (A2) t2 hI50) cw_RX11_261 (jc_50 cI cL ad σ τ) rfl ⟨Nat.le_of_ble_eq_true rfl, Nat.le_of_ble_eq_true rfl⟩ rfl rfl rfl hl.1 rfl (Nat.le_of_ble_eq_true rfl) dX11_element_29 ⟨Nat.zero_le _, Nat.zero_le _⟩ (fun lxr22 σ21 τ21 H locs h21 hP hS => ?_)
      obtain ⟨⟨rfl, rfl⟩, w23, h21⟩ := h21
      exact hret lxr22 σ τ _ _ _ _ ⟨⟨rfl, rfl⟩, w23, trivial⟩ hP hS dX11_element_32
    · obtain ⟨q25, k24⟩ := h12
      have q25 := q25.symm
      subst q25
      refine lv_if_ge (tgt := 23) hx hb dX11_element_16 (of_decide_eq_true rfl) (fun c => absurd c (of_decide_eq_true rfl)) (fun _ => ?_)
      refine lv_ldc2 (v := (-9223372036854775808)) hx hb hown (hts _ kw_52_22) dX11_element_19 ?_
      exact hret (-9223372036854775808) σ τ _ _ _ _ ⟨⟨rfl, rfl⟩, (Or.inr ⟨(by unfold jRf; first | ((repeat (first | rw [if_pos (by omega)] | rw [if_neg (by omega)])) <;> omega) | ((repeat' split) <;> omega)), rfl⟩), trivial⟩ hP hS dX11_element_22
    · obtain ⟨q28, k26, k27⟩ := h13
      have q28 := q28.symm
      subst q28
      refine lv_if_ge (tgt := 23) hx hb dX11_element_16 (of_decide_eq_true rfl) (fun c => absurd c (of_decide_eq_true rfl)) (fun _ => ?_)
      refine lv_ldc2 (v := (-9223372036854775808)) hx hb hown (hts _ kw_52_22) dX11_element_19 ?_
      exact hret (-9223372036854775808) σ τ _ _ _ _ ⟨⟨rfl, rfl⟩, (Or.inr ⟨(by unfold jRf; first | ((repeat (first | rw [if_pos (by omega)] | rw [if_neg (by omega)])) <;> omega) | ((repeat' split) <;> omega)), rfl⟩), trivial⟩ hP hS dX11_element_22
    · obtain ⟨q33, k29, k30, k31, k32⟩ := h14
      have q33 := q33.symm
      subst q33
      refine lv_if_ge (tgt := 23) hx hb dX11_element_16 (of_decide_eq_true rfl) (fun c => absurd c (of_decide_eq_true rfl)) (fun _ => ?_)
      refine lv_ldc2 (v := (-9223372036854775808)) hx hb hown (hts _ kw_52_22) dX11_element_19 ?_
      exact hret (-9223372036854775808) σ τ _ _ _ _ ⟨⟨rfl, rfl⟩, (Or.inr ⟨(by unfold jRf; first | ((repeat (first | rw [if_pos (by omega)] | rw [if_neg (by omega)])) <;> omega) | ((repeat' split) <;> omega)), rfl⟩), trivial⟩ hP hS dX11_element_22
set_option maxHeartbeats 4000000 in
set_option maxRecDepth 100000 in
theorem c_X11_shift (l : Launch) (D : va_G) (cI cL : ClassId) (ad zz : Nat → Nat) (hJ : jD ad) (σ : Nat → Nat → Int32) (τ : Nat → Nat → Int64) (a1 : Int32) (A1 : Int) (t1 : a1.toInt = A1) (a2 : Int32) (A2 : Int) (t2 : a2.toInt = A2) (a3 : Int32) (A3 : Int) (t3 : a3.toInt = A3) (a4 : Int32) (A4 : Int) (t4 : a4.toInt = A4) (a5 : Int32) (A5 : Int) (t5 : a5.toInt = A5) (hI50 : jI50 σ) : jM l yX11_shift cX11_shift 7 (some .int) ({ frames := 5, cells := 0, slots := 0, locals := 108 }) D cI cL ad zz [.ref (ad 0), .int a1, .int a2, .int a3, .int a4, .int a5] σ τ (fun r σ' τ' => (∀ i : Nat, (i < 54 ∨ 54 < i) → τ' i = τ i) ∧ (∀ i : Nat, (0 = 0) → σ' i = σ i) ∧ (r.toInt = jSf (A1) (A2) (A3) (A4) (A5) ((σ 51 a1.toNatClampNeg).toInt) ((σ 51 a3.toNatClampNeg).toInt) ((σ 52 a1.toNatClampNeg).toInt) ((σ 52 a3.toNatClampNeg).toInt)) ∧ (jMvL (r.toInt) (60 * (A1) + (A2)).toNat (60 * (A3) + (A4)).toNat (A5) (τ 54) (τ' 54)) ∧ True) := by
  refine jM.of hJ (by decide +kernel) (nt := .int) rfl (Nat.le_of_ble_eq_true rfl) ?_
  intro p e s m args below meth c Q ls hC hret hl hP
  obtain ⟨hx, hb, hr, hml, hown, hts, hK, -, hlocks, hZ⟩ := hC
  have hown : s.vm.findClass RX11 = some m.cls := hown
  have hS : va_S (jA ad) s.heap s.heap [] := va_S.rf
  have hA : ∀ q, jA ad q → jA ad q := fun _ h => h
  have hl : lv_has ls 7 [(0, .ref (ad 0)), (1, .int a1), (2, .int a2), (3, .int a3), (4, .int a4), (5, .int a5)] := hl
  have g1 := jrg t1
  have g2 := jrg t2
  have g3 := jrg t3
  have g4 := jrg t4
  have g5 := jrg t5
  refine lv_iload_n hx hb dX11_shift_0 rfl (lv_at hl 1 rfl) ?_
  refine jcallS (As := [.int a1]) (rest := []) ⟨hx, hb, hml, hown, hts⟩ hK hP hA hS hZ (c_X11_noShelf l D cI cL ad zz hJ σ τ a1 (A1) t1) cw_RX11_249 ⟨Nat.le_of_ble_eq_true rfl, Nat.le_of_ble_eq_true rfl⟩ rfl rfl rfl hl.1 rfl (Nat.le_of_ble_eq_true rfl) dX11_shift_1 ⟨Nat.zero_le _, Nat.zero_le _⟩ (fun r2 σ1 τ1 H locs h1 hP hS => ?_)
  obtain ⟨⟨rfl, rfl⟩, h1⟩ := h1
  rcases h1 with h3 | h4
  · obtain ⟨q6, k5⟩ := h3
    have q6 := q6.symm
    subst q6
    refine lv_if_ne (tgt := 14) hx hb dX11_shift_4 (of_decide_eq_true rfl) (fun _ => ?_) (fun c => absurd c (of_decide_eq_true rfl))
    refine lv_iconst (v := (-1)) hx hb dX11_shift_14 (of_decide_eq_true rfl) ?_
    exact by exact hret (-1) σ τ _ _ _ _ rfl ⟨(fun _ _ => rfl), (fun _ _ => rfl), (by have h9 := jz_m1; unfold jSf; first | ((repeat (first | rw [if_pos (by omega)] | rw [if_neg (by omega)])) <;> omega) | ((repeat' split) <;> omega)), (Or.inr ⟨(by have h9 := jz_m1; omega), rfl⟩), trivial⟩ hP hS dX11_shift_15
  · obtain ⟨q8, k7⟩ := h4
    have q8 := q8.symm
    subst q8
    refine lv_if_ne (tgt := 14) hx hb dX11_shift_4 (of_decide_eq_true rfl) (fun c => absurd (of_decide_eq_true rfl) c) (fun _ => ?_)
    refine lv_iload_n hx hb dX11_shift_7 rfl (lv_at hl 3 rfl) ?_
    refine jcallS (As := [.int a3]) (rest := []) ⟨hx, hb, hml, hown, hts⟩ hK hP hA hS hZ (c_X11_noShelf l D cI cL ad zz hJ σ τ a3 (A3) t3) cw_RX11_249 ⟨Nat.le_of_ble_eq_true rfl, Nat.le_of_ble_eq_true rfl⟩ rfl rfl rfl hl.1 rfl (Nat.le_of_ble_eq_true rfl) dX11_shift_8 ⟨Nat.zero_le _, Nat.zero_le _⟩ (fun r10 σ9 τ9 H locs h9 hP hS => ?_)
    obtain ⟨⟨rfl, rfl⟩, h9⟩ := h9
    rcases h9 with h11 | h12
    · obtain ⟨q14, k13⟩ := h11
      have q14 := q14.symm
      subst q14
      refine lv_if_eq (tgt := 16) hx hb dX11_shift_11 (of_decide_eq_true rfl) (fun c => absurd c (of_decide_eq_true rfl)) (fun _ => ?_)
      refine lv_iconst (v := (-1)) hx hb dX11_shift_14 (of_decide_eq_true rfl) ?_
      exact by exact hret (-1) σ τ _ _ _ _ rfl ⟨(fun _ _ => rfl), (fun _ _ => rfl), (by have h9 := jz_m1; unfold jSf; first | ((repeat (first | rw [if_pos (by omega)] | rw [if_neg (by omega)])) <;> omega) | ((repeat' split) <;> omega)), (Or.inr ⟨(by have h9 := jz_m1; omega), rfl⟩), trivial⟩ hP hS dX11_shift_15
    · obtain ⟨q16, k15⟩ := h12
      have q16 := q16.symm
      subst q16
      refine lv_if_eq (tgt := 16) hx hb dX11_shift_11 (of_decide_eq_true rfl) (fun _ => ?_) (fun c => absurd (of_decide_eq_true rfl) c)
      refine lv_aload_n hx hb dX11_shift_16 rfl (lv_at hl 0 rfl) ?_
      refine va_get (D := D) hx hb hts inlX11 hown hK hP 0 (jc_0 cI cL ad σ τ) rfl 10 (of_decide_eq_true rfl) (hts _ kw_3_5) (fun _ h9 => h9) rfl dX11_shift_17 ?_
      refine lv_iload_n hx hb dX11_shift_20 rfl (lv_at hl 1 rfl) ?_
      refine jcallV (As := [.int a1]) (rest := []) ⟨hx, hb, hml, hown, hts⟩ hK hP hA hS hZ (c_X9_isEmpty_50 l D cI cL ad zz hJ σ τ a1 (A1) t1) cw_RX11_252 (jc_50 cI cL ad σ τ) rfl ⟨Nat.le_of_ble_eq_true rfl, Nat.le_of_ble_eq_true rfl⟩ rfl rfl rfl hl.1 rfl (Nat.le_of_ble_eq_true rfl) dX11_shift_21 ⟨Nat.zero_le _, Nat.zero_le _⟩ (fun r18 σ17 τ17 H locs h17 hP hS => ?_)
      obtain ⟨⟨rfl, rfl⟩, h17⟩ := h17
      rcases h17 with h19 | h20
      · obtain ⟨q23, k21, k22⟩ := h19
        have q23 := q23.symm
        subst q23
        refine lv_if_ne (tgt := 38) hx hb dX11_shift_24 (of_decide_eq_true rfl) (fun c => absurd (of_decide_eq_true rfl) c) (fun _ => ?_)
        refine lv_aload_n hx hb dX11_shift_27 rfl (lv_at hl 0 rfl) ?_
        refine va_get (D := D) hx hb hts inlX11 hown hK hP 0 (jc_0 cI cL ad σ τ) rfl 10 (of_decide_eq_true rfl) (hts _ kw_3_5) (fun _ h9 => h9) rfl dX11_shift_28 ?_
        refine lv_iload_n hx hb dX11_shift_31 rfl (lv_at hl 3 rfl) ?_
        refine jcallV (As := [.int a3]) (rest := []) ⟨hx, hb, hml, hown, hts⟩ hK hP hA hS hZ (c_X9_isEmpty_50 l D cI cL ad zz hJ σ τ a3 (A3) t3) cw_RX11_252 (jc_50 cI cL ad σ τ) rfl ⟨Nat.le_of_ble_eq_true rfl, Nat.le_of_ble_eq_true rfl⟩ rfl rfl rfl hl.1 rfl (Nat.le_of_ble_eq_true rfl) dX11_shift_32 ⟨Nat.zero_le _, Nat.zero_le _⟩ (fun r25 σ24 τ24 H locs h24 hP hS => ?_)
        obtain ⟨⟨rfl, rfl⟩, h24⟩ := h24
        rcases h24 with h26 | h27
        · obtain ⟨q30, k28, k29⟩ := h26
          have q30 := q30.symm
          subst q30
          refine lv_if_eq (tgt := 41) hx hb dX11_shift_35 (of_decide_eq_true rfl) (fun _ => ?_) (fun c => absurd (of_decide_eq_true rfl) c)
          refine lv_aload_n hx hb dX11_shift_41 rfl (lv_at hl 0 rfl) ?_
          refine va_get (D := D) hx hb hts inlX11 hown hK hP 0 (jc_0 cI cL ad σ τ) rfl 10 (of_decide_eq_true rfl) (hts _ kw_3_5) (fun _ h9 => h9) rfl dX11_shift_42 ?_
          refine lv_iload_n hx hb dX11_shift_45 rfl (lv_at hl 1 rfl) ?_
          refine jcallV (As := [.int a1]) (rest := []) ⟨hx, hb, hml, hown, hts⟩ hK hP hA hS hZ (c_X9_sortOf_50 l D cI cL ad zz hJ σ τ a1 (A1) t1) cw_RX11_255 (jc_50 cI cL ad σ τ) rfl ⟨Nat.le_of_ble_eq_true rfl, Nat.le_of_ble_eq_true rfl⟩ rfl rfl rfl hl.1 rfl (Nat.le_of_ble_eq_true rfl) dX11_shift_46 ⟨Nat.zero_le _, Nat.zero_le _⟩ (fun r32 σ31 τ31 H locs h31 hP hS => ?_)
          obtain ⟨⟨rfl, rfl⟩, h31⟩ := h31
          rcases h31 with h33 | h34
          · obtain ⟨q37, k35, k36⟩ := h33
            have q38 : r32 = (σ 51 a1.toNatClampNeg) := q37.trans rfl
            have q38 := q38.symm
            subst q38
            refine lv_istore (lv' := [(6, .int (σ 51 a1.toNatClampNeg)), (0, .ref (ad 0)), (1, .int a1), (2, .int a2), (3, .int a3), (4, .int a4), (5, .int a5)]) hx hb dX11_shift_49 hl (of_decide_eq_true rfl) rfl (fun ls hl => ?_)
            refine lv_iload hx hb dX11_shift_51 (lv_at hl 0 rfl) ?_
            refine lv_iconst (v := (-1)) hx hb dX11_shift_53 (of_decide_eq_true rfl) ?_
            refine lv_icmp_eq (tgt := 70) hx hb dX11_shift_54 (of_decide_eq_true rfl) (fun c39 => ?_) (fun c39 => ?_)
            · have kc39 := jeq c39 rfl jz_m1
              refine lv_bipush (v := (-12)) hx hb dX11_shift_70 (of_decide_eq_true rfl) ?_
              exact by exact hret (-12) σ τ _ _ _ _ rfl ⟨(fun _ _ => rfl), (fun _ _ => rfl), (by have h9 := jz_m12; unfold jSf; first | ((repeat (first | rw [if_pos (by omega)] | rw [if_neg (by omega)])) <;> omega) | ((repeat' split) <;> omega)), (Or.inr ⟨(by have h9 := jz_m12; omega), rfl⟩), trivial⟩ hP hS dX11_shift_72
            · have kc39 := jne c39 rfl jz_m1
              refine lv_iload hx hb dX11_shift_57 (lv_at hl 0 rfl) ?_
              refine lv_aload_n hx hb dX11_shift_59 rfl (lv_at hl 1 rfl) ?_
              refine va_get (D := D) hx hb hts inlX11 hown hK hP 0 (jc_0 cI cL ad σ τ) rfl 10 (of_decide_eq_true rfl) (hts _ kw_3_5) (fun _ h9 => h9) rfl dX11_shift_60 ?_
              refine lv_iload_n hx hb dX11_shift_63 rfl (lv_at hl 4 rfl) ?_
              refine jcallV (As := [.int a3]) (rest := [.int (σ 51 a1.toNatClampNeg)]) ⟨hx, hb, hml, hown, hts⟩ hK hP hA hS hZ (c_X9_sortOf_50 l D cI cL ad zz hJ σ τ a3 (A3) t3) cw_RX11_255 (jc_50 cI cL ad σ τ) rfl ⟨Nat.le_of_ble_eq_true rfl, Nat.le_of_ble_eq_true rfl⟩ rfl rfl rfl hl.1 rfl (Nat.le_of_ble_eq_true rfl) dX11_shift_64 ⟨Nat.zero_le _, Nat.zero_le _⟩ (fun r41 σ40 τ40 H locs h40 hP hS => ?_)
              obtain ⟨⟨rfl, rfl⟩, h40⟩ := h40
              rcases h40 with h42 | h43
              · obtain ⟨q46, k44, k45⟩ := h42
                have q47 : r41 = (σ 51 a3.toNatClampNeg) := q46.trans rfl
                have q47 := q47.symm
                subst q47
                refine lv_icmp_eq (tgt := 73) hx hb dX11_shift_67 (of_decide_eq_true rfl) (fun c48 => ?_) (fun c48 => ?_)
                · have kc48 := jeq c48 rfl rfl
                  refine lv_iload hx hb dX11_shift_73 (lv_at hl 6 rfl) ?_
                  refine lv_if_lt (tgt := 87) hx hb dX11_shift_75 (of_decide_eq_true rfl) (fun c49 => ?_) (fun c49 => ?_)
                  · have kc49 := jlt c49 t5 jz_0
                    refine lv_bipush (v := (-13)) hx hb dX11_shift_87 (of_decide_eq_true rfl) ?_
                    exact by exact hret (-13) σ τ _ _ _ _ rfl ⟨(fun _ _ => rfl), (fun _ _ => rfl), (by have h9 := jz_m13; unfold jSf; first | ((repeat (first | rw [if_pos (by omega)] | rw [if_neg (by omega)])) <;> omega) | ((repeat' split) <;> omega)), (Or.inr ⟨(by have h9 := jz_m13; omega), rfl⟩), trivial⟩ hP hS dX11_shift_89
                  · have kc49 := jnlt c49 t5 jz_0
                    refine lv_iload_n hx hb dX11_shift_78 rfl (lv_at hl 3 rfl) ?_
                    refine lv_if_lt (tgt := 87) hx hb dX11_shift_79 (of_decide_eq_true rfl) (fun c50 => ?_) (fun c50 => ?_)
                    · have kc50 := jlt c50 t2 jz_0
                      refine lv_bipush (v := (-13)) hx hb dX11_shift_87 (of_decide_eq_true rfl) ?_
                      exact by exact hret (-13) σ τ _ _ _ _ rfl ⟨(fun _ _ => rfl), (fun _ _ => rfl), (by have h9 := jz_m13; unfold jSf; first | ((repeat (first | rw [if_pos (by omega)] | rw [if_neg (by omega)])) <;> omega) | ((repeat' split) <;> omega)), (Or.inr ⟨(by have h9 := jz_m13; omega), rfl⟩), trivial⟩ hP hS dX11_shift_89
                    · have kc50 := jnlt c50 t2 jz_0
                      refine lv_iload hx hb dX11_shift_82 (lv_at hl 5 rfl) ?_
                      refine lv_if_ge (tgt := 90) hx hb dX11_shift_84 (of_decide_eq_true rfl) (fun c51 => ?_) (fun c51 => ?_)
                      · have kc51 := jle c51 jz_0 t4
                        refine lv_iload hx hb dX11_shift_90 (lv_at hl 6 rfl) ?_
                        refine lv_aload_n hx hb dX11_shift_92 rfl (lv_at hl 1 rfl) ?_
                        refine va_get (D := D) hx hb hts inlX11 hown hK hP 0 (jc_0 cI cL ad σ τ) rfl 10 (of_decide_eq_true rfl) (hts _ kw_3_5) (fun _ h9 => h9) rfl dX11_shift_93 ?_
                        refine lv_iload_n hx hb dX11_shift_96 rfl (lv_at hl 2 rfl) ?_
                        refine jcallV (As := [.int a1]) (rest := [.int a5]) ⟨hx, hb, hml, hown, hts⟩ hK hP hA hS hZ (c_X9_lengthOf_50 l D cI cL ad zz hJ σ τ a1 (A1) t1 hI50) cw_RX11_258 (jc_50 cI cL ad σ τ) rfl ⟨Nat.le_of_ble_eq_true rfl, Nat.le_of_ble_eq_true rfl⟩ rfl rfl rfl hl.1 rfl (Nat.le_of_ble_eq_true rfl) dX11_shift_97 ⟨Nat.zero_le _, Nat.zero_le _⟩ (fun r53 σ52 τ52 H locs h52 hP hS => ?_)
                        obtain ⟨⟨rfl, rfl⟩, h52⟩ := h52
                        rcases h52 with h54 | h55
                        · obtain ⟨q60, k56, k57, k58, k59⟩ := h54
                          have q61 : r53 = (σ 52 a1.toNatClampNeg) := q60.trans rfl
                          have q61 := q61.symm
                          subst q61
                          refine lv_iload_n hx hb dX11_shift_100 rfl (lv_at hl 3 rfl) ?_
                          have g62 := jrg (rfl : (σ 52 a1.toNatClampNeg).toInt = (σ 52 a1.toNatClampNeg).toInt)
                          refine lv_isub hx hb dX11_shift_101 ?_
                          refine lv_topi (fun x63 ex63 => ?_)
                          exact by
                           have tx63 : x63.toInt = (σ 52 a1.toNatClampNeg).toInt - A2 := (jsub ex63 rfl t2 (by omega) (by omega)).trans (by omega)
                           refine lv_icmp_gt (tgt := 121) hx hb dX11_shift_102 (of_decide_eq_true rfl) (fun c64 => ?_) (fun c64 => ?_)
                           · have kc64 := jlt c64 tx63 t5
                             refine lv_bipush (v := (-13)) hx hb dX11_shift_121 (of_decide_eq_true rfl) ?_
                             exact by exact hret (-13) σ τ _ _ _ _ rfl ⟨(fun _ _ => rfl), (fun _ _ => rfl), (by have h9 := jz_m13; unfold jSf; first | ((repeat (first | rw [if_pos (by omega)] | rw [if_neg (by omega)])) <;> omega) | ((repeat' split) <;> omega)), (Or.inr ⟨(by have h9 := jz_m13; omega), rfl⟩), trivial⟩ hP hS dX11_shift_123
                           · have kc64 := jnlt c64 tx63 t5
                             refine lv_iload hx hb dX11_shift_105 (lv_at hl 6 rfl) ?_
                             refine lv_aload_n hx hb dX11_shift_107 rfl (lv_at hl 1 rfl) ?_
                             refine va_get (D := D) hx hb hts inlX11 hown hK hP 0 (jc_0 cI cL ad σ τ) rfl 10 (of_decide_eq_true rfl) (hts _ kw_3_5) (fun _ h9 => h9) rfl dX11_shift_108 ?_
                             refine lv_iload_n hx hb dX11_shift_111 rfl (lv_at hl 4 rfl) ?_
                             refine jcallV (As := [.int a3]) (rest := [.int a5]) ⟨hx, hb, hml, hown, hts⟩ hK hP hA hS hZ (c_X9_lengthOf_50 l D cI cL ad zz hJ σ τ a3 (A3) t3 hI50) cw_RX11_258 (jc_50 cI cL ad σ τ) rfl ⟨Nat.le_of_ble_eq_true rfl, Nat.le_of_ble_eq_true rfl⟩ rfl rfl rfl hl.1 rfl (Nat.le_of_ble_eq_true rfl) dX11_shift_112 ⟨Nat.zero_le _, Nat.zero_le _⟩ (fun r66 σ65 τ65 H locs h65 hP hS => ?_)
                             obtain ⟨⟨rfl, rfl⟩, h65⟩ := h65
                             rcases h65 with h67 | h68
                             · obtain ⟨q73, k69, k70, k71, k72⟩ := h67
                               have q74 : r66 = (σ 52 a3.toNatClampNeg) := q73.trans rfl
                               have q74 := q74.symm
                               subst q74
                               refine lv_iload hx hb dX11_shift_115 (lv_at hl 5 rfl) ?_
                               have g75 := jrg (rfl : (σ 52 a3.toNatClampNeg).toInt = (σ 52 a3.toNatClampNeg).toInt)
                               refine lv_isub hx hb dX11_shift_117 ?_
                               refine lv_topi (fun x76 ex76 => ?_)
                               exact by
                                have tx76 : x76.toInt = (σ 52 a3.toNatClampNeg).toInt - A4 := (jsub ex76 rfl t4 (by omega) (by omega)).trans (by omega)
                                refine lv_icmp_le (tgt := 124) hx hb dX11_shift_118 (of_decide_eq_true rfl) (fun c77 => ?_) (fun c77 => ?_)
                                · have kc77 := jle c77 t5 tx76
                                  refine lv_aload_n hx hb dX11_shift_124 rfl (lv_at hl 1 rfl) ?_
                                  refine va_get (D := D) hx hb hts inlX11 hown hK hP 0 (jc_0 cI cL ad σ τ) rfl 10 (of_decide_eq_true rfl) (hts _ kw_3_5) (fun _ h9 => h9) rfl dX11_shift_125 ?_
                                  refine lv_iload_n hx hb dX11_shift_128 rfl (lv_at hl 2 rfl) ?_
                                  refine lv_iload_n hx hb dX11_shift_129 rfl (lv_at hl 3 rfl) ?_
                                  refine lv_iload_n hx hb dX11_shift_130 rfl (lv_at hl 4 rfl) ?_
                                  refine lv_iload hx hb dX11_shift_131 (lv_at hl 5 rfl) ?_
                                  refine lv_iload hx hb dX11_shift_133 (lv_at hl 6 rfl) ?_
                                  exact by
                                   refine jcallVv (As := [.int a1, .int a2, .int a3, .int a4, .int a5]) (rest := []) ⟨hx, hb, hml, hown, hts⟩ hK hP hA hS hZ (c_X9_move_50 l D cI cL ad zz hJ σ τ a1 (A1) t1 a2 (A2) t2 a3 (A3) t3 a4 (A4) t4 a5 (A5) t5 hI50 (by omega) (by omega)) cw_RX11_314 (jc_50 cI cL ad σ τ) rfl ⟨Nat.le_of_ble_eq_true rfl, Nat.le_of_ble_eq_true rfl⟩ rfl rfl rfl hl.1 rfl (Nat.le_of_ble_eq_true rfl) dX11_shift_135 ⟨Nat.zero_le _, Nat.zero_le _⟩ (fun σ78 τ78 H locs h78 hP hS => ?_)
                                   obtain ⟨f81, f80, h78⟩ := h78
                                   rcases h78 with h82 | h83
                                   · obtain ⟨q88, k84, k85, k86, k87⟩ := h82
                                     refine lv_iload hx hb dX11_shift_138 (lv_at hl 6 rfl) ?_
                                     exact by exact hret a5 σ78 τ78 _ _ _ _ rfl ⟨(fun i hi => (f81 i hi)), (fun i hi => (f80 i hi)), (by have h9 := t5; unfold jSf; first | ((repeat (first | rw [if_pos (by omega)] | rw [if_neg (by omega)])) <;> omega) | ((repeat' split) <;> omega)), (k87.c (by omega) (by have h9 := t5; omega)), trivial⟩ hP hS dX11_shift_140
                                   · obtain ⟨q91, k89, k90⟩ := h83
                                     refine lv_iload hx hb dX11_shift_138 (lv_at hl 6 rfl) ?_
                                     exact by exact hret a5 σ78 τ78 _ _ _ _ rfl ⟨(fun i hi => (f81 i hi)), (fun i hi => (f80 i hi)), (by have h9 := t5; unfold jSf; first | ((repeat (first | rw [if_pos (by omega)] | rw [if_neg (by omega)])) <;> omega) | ((repeat' split) <;> omega)), (False.elim (by omega)), trivial⟩ hP hS dX11_shift_140
                                · have kc77 := jnle c77 t5 tx76
                                  refine lv_bipush (v := (-13)) hx hb dX11_shift_121 (of_decide_eq_true rfl) ?_
                                  exact by exact hret (-13) σ τ _ _ _ _ rfl ⟨(fun _ _ => rfl), (fun _ _ => rfl), (by have h9 := jz_m13; unfold jSf; first | ((repeat (first | rw [if_pos (by omega)] | rw [if_neg (by omega)])) <;> omega) | ((repeat' split) <;> omega)), (Or.inr ⟨(by have h9 := jz_m13; omega), rfl⟩), trivial⟩ hP hS dX11_shift_123
                             · obtain ⟨q93, k92⟩ := h68
                               exact absurd (by omega : False) id
                        · obtain ⟨q95, k94⟩ := h55
                          exact absurd (by omega : False) id
                      · have kc51 := jnle c51 jz_0 t4
                        refine lv_bipush (v := (-13)) hx hb dX11_shift_87 (of_decide_eq_true rfl) ?_
                        exact by exact hret (-13) σ τ _ _ _ _ rfl ⟨(fun _ _ => rfl), (fun _ _ => rfl), (by have h9 := jz_m13; unfold jSf; first | ((repeat (first | rw [if_pos (by omega)] | rw [if_neg (by omega)])) <;> omega) | ((repeat' split) <;> omega)), (Or.inr ⟨(by have h9 := jz_m13; omega), rfl⟩), trivial⟩ hP hS dX11_shift_89
                · have kc48 := jne c48 rfl rfl
                  refine lv_bipush (v := (-12)) hx hb dX11_shift_70 (of_decide_eq_true rfl) ?_
                  exact by exact hret (-12) σ τ _ _ _ _ rfl ⟨(fun _ _ => rfl), (fun _ _ => rfl), (by have h9 := jz_m12; unfold jSf; first | ((repeat (first | rw [if_pos (by omega)] | rw [if_neg (by omega)])) <;> omega) | ((repeat' split) <;> omega)), (Or.inr ⟨(by have h9 := jz_m12; omega), rfl⟩), trivial⟩ hP hS dX11_shift_72
              · obtain ⟨q97, k96⟩ := h43
                exact absurd (by omega : False) id
          · obtain ⟨q99, k98⟩ := h34
            exact absurd (by omega : False) id
        · obtain ⟨q101, k100⟩ := h27
          have q101 := q101.symm
          subst q101
          refine lv_if_eq (tgt := 41) hx hb dX11_shift_35 (of_decide_eq_true rfl) (fun c => absurd c (of_decide_eq_true rfl)) (fun _ => ?_)
          refine lv_bipush (v := (-11)) hx hb dX11_shift_38 (of_decide_eq_true rfl) ?_
          exact by exact hret (-11) σ τ _ _ _ _ rfl ⟨(fun _ _ => rfl), (fun _ _ => rfl), (by have h9 := jz_m11; unfold jSf; first | ((repeat (first | rw [if_pos (by omega)] | rw [if_neg (by omega)])) <;> omega) | ((repeat' split) <;> omega)), (Or.inr ⟨(by have h9 := jz_m11; omega), rfl⟩), trivial⟩ hP hS dX11_shift_40
      · obtain ⟨q103, k102⟩ := h20
        have q103 := q103.symm
        subst q103
        refine lv_if_ne (tgt := 38) hx hb dX11_shift_24 (of_decide_eq_true rfl) (fun _ => ?_) (fun c => absurd c (of_decide_eq_true rfl))
        refine lv_bipush (v := (-11)) hx hb dX11_shift_38 (of_decide_eq_true rfl) ?_
        exact by exact hret (-11) σ τ _ _ _ _ rfl ⟨(fun _ _ => rfl), (fun _ _ => rfl), (by have h9 := jz_m11; unfold jSf; first | ((repeat (first | rw [if_pos (by omega)] | rw [if_neg (by omega)])) <;> omega) | ((repeat' split) <;> omega)), (Or.inr ⟨(by have h9 := jz_m11; omega), rfl⟩), trivial⟩ hP hS dX11_shift_40
set_option maxHeartbeats 4000000 in
set_option maxRecDepth 100000 in
theorem c_X11_taken (l : Launch) (D : va_G) (cI cL : ClassId) (ad zz : Nat → Nat) (hJ : jD ad) (σ : Nat → Nat → Int32) (τ : Nat → Nat → Int64) (a1 : Int32) (A1 : Int) (t1 : a1.toInt = A1) (a2 : Int32) (A2 : Int) (t2 : a2.toInt = A2) (hI38 : jI38 σ) : jM l yX11_taken cX11_taken 4 (some .int) ({ frames := 2, cells := 0, slots := 0, locals := 43 }) D cI cL ad zz [.ref (ad 0), .int a1, .int a2] σ τ (fun r σ' τ' => (σ = σ' ∧ τ = τ') ∧ (r.toInt = jTk (A1) (A2) ((σ 51 a1.toNatClampNeg).toInt) ((σ 53 a1.toNatClampNeg).toInt) ((σ 39 (σ 53 a1.toNatClampNeg).toNatClampNeg).toInt) ((σ 38 0).toInt)) ∧ True) := by
  refine jM.of hJ (by decide +kernel) (nt := .int) rfl (Nat.le_of_ble_eq_true rfl) ?_
  intro p e s m args below meth c Q ls hC hret hl hP
  obtain ⟨hx, hb, hr, hml, hown, hts, hK, -, hlocks, hZ⟩ := hC
  have hown : s.vm.findClass RX11 = some m.cls := hown
  have hS : va_S (jA ad) s.heap s.heap [] := va_S.rf
  have hA : ∀ q, jA ad q → jA ad q := fun _ h => h
  have hl : lv_has ls 4 [(0, .ref (ad 0)), (1, .int a1), (2, .int a2)] := hl
  have g1 := jrg t1
  have g2 := jrg t2
  obtain ⟨i1, i2, w3⟩ : (0 ≤ (σ 38 0).toInt ∧ (σ 38 0).toInt ≤ 20) ∧ (0 ≤ (σ 38 1).toInt ∧ (σ 38 1).toInt ≤ 1000) ∧ (∀ k : Nat, k < 20 → 0 ≤ (σ 39 k).toInt ∧ (σ 39 k).toInt ≤ 6) := id hI38
  refine lv_iload_n hx hb dX11_taken_0 rfl (lv_at hl 1 rfl) ?_
  refine jcallS (As := [.int a1]) (rest := []) ⟨hx, hb, hml, hown, hts⟩ hK hP hA hS hZ (c_X11_noShelf l D cI cL ad zz hJ σ τ a1 (A1) t1) cw_RX11_249 ⟨Nat.le_of_ble_eq_true rfl, Nat.le_of_ble_eq_true rfl⟩ rfl rfl rfl hl.1 rfl (Nat.le_of_ble_eq_true rfl) dX11_taken_1 ⟨Nat.zero_le _, Nat.zero_le _⟩ (fun r5 σ4 τ4 H locs h4 hP hS => ?_)
  obtain ⟨⟨rfl, rfl⟩, h4⟩ := h4
  rcases h4 with h6 | h7
  · obtain ⟨q9, k8⟩ := h6
    have q9 := q9.symm
    subst q9
    refine lv_if_ne (tgt := 17) hx hb dX11_taken_4 (of_decide_eq_true rfl) (fun _ => ?_) (fun c => absurd c (of_decide_eq_true rfl))
    refine lv_iconst (v := (-1)) hx hb dX11_taken_17 (of_decide_eq_true rfl) ?_
    exact hret (-1) σ τ _ _ _ _ rfl ⟨⟨rfl, rfl⟩, (by have h9 := jz_m1; unfold jTk; first | ((repeat (first | rw [if_pos (by omega)] | rw [if_neg (by omega)])) <;> omega) | ((repeat' split) <;> omega)), trivial⟩ hP hS dX11_taken_18
  · obtain ⟨q11, k10⟩ := h7
    have q11 := q11.symm
    subst q11
    refine lv_if_ne (tgt := 17) hx hb dX11_taken_4 (of_decide_eq_true rfl) (fun c => absurd (of_decide_eq_true rfl) c) (fun _ => ?_)
    refine lv_iload_n hx hb dX11_taken_7 rfl (lv_at hl 2 rfl) ?_
    refine lv_iconst (v := 0) hx hb dX11_taken_8 (of_decide_eq_true rfl) ?_
    refine lv_bipush (v := 6) hx hb dX11_taken_9 (of_decide_eq_true rfl) ?_
    refine jcallS (As := [.int a2, .int 0, .int 6]) (rest := []) ⟨hx, hb, hml, hown, hts⟩ hK hP hA hS hZ (c_X11_outside l D cI cL ad zz hJ σ τ a2 (A2) t2 0 (0) jz_0 6 (6) jz_6) cw_RX11_94 ⟨Nat.le_of_ble_eq_true rfl, Nat.le_of_ble_eq_true rfl⟩ rfl rfl rfl hl.1 rfl (Nat.le_of_ble_eq_true rfl) dX11_taken_11 ⟨Nat.zero_le _, Nat.zero_le _⟩ (fun r13 σ12 τ12 H locs h12 hP hS => ?_)
    obtain ⟨⟨rfl, rfl⟩, h12⟩ := h12
    rcases h12 with h14 | h15
    · obtain ⟨q17, k16⟩ := h14
      have q17 := q17.symm
      subst q17
      refine lv_if_eq (tgt := 19) hx hb dX11_taken_14 (of_decide_eq_true rfl) (fun c => absurd c (of_decide_eq_true rfl)) (fun _ => ?_)
      refine lv_iconst (v := (-1)) hx hb dX11_taken_17 (of_decide_eq_true rfl) ?_
      exact hret (-1) σ τ _ _ _ _ rfl ⟨⟨rfl, rfl⟩, (by have h9 := jz_m1; unfold jTk; first | ((repeat (first | rw [if_pos (by omega)] | rw [if_neg (by omega)])) <;> omega) | ((repeat' split) <;> omega)), trivial⟩ hP hS dX11_taken_18
    · obtain ⟨q19, k18⟩ := h15
      have q19 := q19.symm
      subst q19
      refine lv_if_eq (tgt := 19) hx hb dX11_taken_14 (of_decide_eq_true rfl) (fun _ => ?_) (fun c => absurd (of_decide_eq_true rfl) c)
      refine lv_aload_n hx hb dX11_taken_19 rfl (lv_at hl 0 rfl) ?_
      refine va_get (D := D) hx hb hts inlX11 hown hK hP 0 (jc_0 cI cL ad σ τ) rfl 10 (of_decide_eq_true rfl) (hts _ kw_3_5) (fun _ h9 => h9) rfl dX11_taken_20 ?_
      refine lv_iload_n hx hb dX11_taken_23 rfl (lv_at hl 1 rfl) ?_
      refine jcallV (As := [.int a1]) (rest := []) ⟨hx, hb, hml, hown, hts⟩ hK hP hA hS hZ (c_X9_isEmpty_50 l D cI cL ad zz hJ σ τ a1 (A1) t1) cw_RX11_252 (jc_50 cI cL ad σ τ) rfl ⟨Nat.le_of_ble_eq_true rfl, Nat.le_of_ble_eq_true rfl⟩ rfl rfl rfl hl.1 rfl (Nat.le_of_ble_eq_true rfl) dX11_taken_24 ⟨Nat.zero_le _, Nat.zero_le _⟩ (fun r21 σ20 τ20 H locs h20 hP hS => ?_)
      obtain ⟨⟨rfl, rfl⟩, h20⟩ := h20
      rcases h20 with h22 | h23
      · obtain ⟨q26, k24, k25⟩ := h22
        have q26 := q26.symm
        subst q26
        refine lv_if_eq (tgt := 33) hx hb dX11_taken_27 (of_decide_eq_true rfl) (fun _ => ?_) (fun c => absurd (of_decide_eq_true rfl) c)
        refine lv_aload_n hx hb dX11_taken_33 rfl (lv_at hl 0 rfl) ?_
        refine va_get (D := D) hx hb hts inlX11 hown hK hP 0 (jc_0 cI cL ad σ τ) rfl 10 (of_decide_eq_true rfl) (hts _ kw_3_5) (fun _ h9 => h9) rfl dX11_taken_34 ?_
        refine lv_iload_n hx hb dX11_taken_37 rfl (lv_at hl 1 rfl) ?_
        refine jcallV (As := [.int a1]) (rest := []) ⟨hx, hb, hml, hown, hts⟩ hK hP hA hS hZ (c_X9_ruleOn_50 l D cI cL ad zz hJ σ τ a1 (A1) t1) cw_RX11_318 (jc_50 cI cL ad σ τ) rfl ⟨Nat.le_of_ble_eq_true rfl, Nat.le_of_ble_eq_true rfl⟩ rfl rfl rfl hl.1 rfl (Nat.le_of_ble_eq_true rfl) dX11_taken_38 ⟨Nat.zero_le _, Nat.zero_le _⟩ (fun r28 σ27 τ27 H locs h27 hP hS => ?_)
        obtain ⟨⟨rfl, rfl⟩, h27⟩ := h27
        rcases h27 with h29 | h30
        · obtain ⟨q32, k31⟩ := h29
          have q33 : r28 = (σ 53 a1.toNatClampNeg) := q32.trans rfl
          have q33 := q33.symm
          subst q33
          refine lv_istore_n (lv' := [(3, .int (σ 53 a1.toNatClampNeg)), (0, .ref (ad 0)), (1, .int a1), (2, .int a2)]) hx hb dX11_taken_41 rfl hl (of_decide_eq_true rfl) rfl (fun ls hl => ?_)
          refine lv_iload_n hx hb dX11_taken_42 rfl (lv_at hl 0 rfl) ?_
          refine lv_if_lt (tgt := 61) hx hb dX11_taken_43 (of_decide_eq_true rfl) (fun c34 => ?_) (fun c34 => ?_)
          · have kc34 := jlt c34 rfl jz_0
            refine lv_bipush (v := (-12)) hx hb dX11_taken_61 (of_decide_eq_true rfl) ?_
            exact hret (-12) σ τ _ _ _ _ rfl ⟨⟨rfl, rfl⟩, (by have h9 := jz_m12; unfold jTk; first | ((repeat (first | rw [if_pos (by omega)] | rw [if_neg (by omega)])) <;> omega) | ((repeat' split) <;> omega)), trivial⟩ hP hS dX11_taken_63
          · have kc34 := jnlt c34 rfl jz_0
            refine lv_aload_n hx hb dX11_taken_46 rfl (lv_at hl 1 rfl) ?_
            refine va_get (D := D) hx hb hts inlX11 hown hK hP 0 (jc_0 cI cL ad σ τ) rfl 7 (of_decide_eq_true rfl) (hts _ kw_2_17) (fun _ h9 => h9) rfl dX11_taken_47 ?_
            refine lv_iload_n hx hb dX11_taken_50 rfl (lv_at hl 0 rfl) ?_
            refine jcallV (As := [.int (σ 53 a1.toNatClampNeg)]) (rest := []) ⟨hx, hb, hml, hown, hts⟩ hK hP hA hS hZ (c_X8_kindOf_e l D cI cL ad zz hJ σ τ (σ 53 a1.toNatClampNeg) ((σ 53 a1.toNatClampNeg).toInt) rfl hI38) cw_RX11_183 (jc_38 cI cL ad σ τ) rfl ⟨Nat.le_of_ble_eq_true rfl, Nat.le_of_ble_eq_true rfl⟩ rfl rfl rfl hl.1 rfl (Nat.le_of_ble_eq_true rfl) dX11_taken_51 ⟨Nat.zero_le _, Nat.zero_le _⟩ (fun r36 σ35 τ35 H locs h35 hP hS => ?_)
            obtain ⟨⟨rfl, rfl⟩, h35⟩ := h35
            rcases h35 with h37 | h38
            · obtain ⟨q42, k39, k40, k41⟩ := h37
              have q43 : r36 = (σ 39 (σ 53 a1.toNatClampNeg).toNatClampNeg) := q42.trans rfl
              have q43 := q43.symm
              subst q43
              refine lv_iload_n hx hb dX11_taken_54 rfl (lv_at hl 3 rfl) ?_
              by_cases c44 : (σ 39 (σ 53 a1.toNatClampNeg).toNatClampNeg) = 0
              · have kc44 := jeq c44 (rfl : (σ 39 (σ 53 a1.toNatClampNeg).toNatClampNeg).toInt = (σ 39 (σ 53 a1.toNatClampNeg).toNatClampNeg).toInt) jz_0
                rw [c44]
                refine jcallS (As := [.int 0, .int a2]) (rest := []) ⟨hx, hb, hml, hown, hts⟩ hK hP hA hS hZ (c_X8_isUnder_0 l D cI cL ad zz hJ σ τ a2 (A2) t2) cw_RX11_321 ⟨Nat.le_of_ble_eq_true rfl, Nat.le_of_ble_eq_true rfl⟩ rfl rfl rfl hl.1 rfl (Nat.le_of_ble_eq_true rfl) dX11_taken_55 ⟨Nat.zero_le _, Nat.zero_le _⟩ (fun r46 σ45 τ45 H locs h45 hP hS => ?_)
                obtain ⟨⟨rfl, rfl⟩, h45⟩ := h45
                rcases h45 with h47 | h48
                · obtain ⟨q50, k49⟩ := h47
                  have q50 := q50.symm
                  subst q50
                  refine lv_if_ne (tgt := 64) hx hb dX11_taken_58 (of_decide_eq_true rfl) (fun _ => ?_) (fun c => absurd c (of_decide_eq_true rfl))
                  refine lv_aload_n hx hb dX11_taken_64 rfl (lv_at hl 1 rfl) ?_
                  refine va_get (D := D) hx hb hts inlX11 hown hK hP 0 (jc_0 cI cL ad σ τ) rfl 7 (of_decide_eq_true rfl) (hts _ kw_2_17) (fun _ h9 => h9) rfl dX11_taken_65 ?_
                  refine lv_iload_n hx hb dX11_taken_68 rfl (lv_at hl 0 rfl) ?_
                  refine jcallV (As := [.int (σ 53 a1.toNatClampNeg)]) (rest := []) ⟨hx, hb, hml, hown, hts⟩ hK hP hA hS hZ (c_X8_kindOf_e l D cI cL ad zz hJ σ τ (σ 53 a1.toNatClampNeg) ((σ 53 a1.toNatClampNeg).toInt) rfl hI38) cw_RX11_183 (jc_38 cI cL ad σ τ) rfl ⟨Nat.le_of_ble_eq_true rfl, Nat.le_of_ble_eq_true rfl⟩ rfl rfl rfl hl.1 rfl (Nat.le_of_ble_eq_true rfl) dX11_taken_69 ⟨Nat.zero_le _, Nat.zero_le _⟩ (fun r52 σ51 τ51 H locs h51 hP hS => ?_)
                  obtain ⟨⟨rfl, rfl⟩, h51⟩ := h51
                  rcases h51 with h53 | h54
                  · obtain ⟨q58, k55, k56, k57⟩ := h53
                    have q59 : r52 = (σ 39 (σ 53 a1.toNatClampNeg).toNatClampNeg) := q58.trans rfl
                    have q59 := q59.symm
                    subst q59
                    exact hret (σ 39 (σ 53 a1.toNatClampNeg).toNatClampNeg) σ τ _ _ _ _ rfl ⟨⟨rfl, rfl⟩, (by unfold jTk; first | ((repeat (first | rw [if_pos (by omega)] | rw [if_neg (by omega)])) <;> omega) | ((repeat' split) <;> omega)), trivial⟩ hP hS dX11_taken_72
                  · obtain ⟨q61, k60⟩ := h54
                    exact absurd (by omega : False) id
                · obtain ⟨q63, k62⟩ := h48
                  have q63 := q63.symm
                  subst q63
                  refine lv_if_ne (tgt := 64) hx hb dX11_taken_58 (of_decide_eq_true rfl) (fun c => absurd (of_decide_eq_true rfl) c) (fun _ => ?_)
                  refine lv_bipush (v := (-12)) hx hb dX11_taken_61 (of_decide_eq_true rfl) ?_
                  exact hret (-12) σ τ _ _ _ _ rfl ⟨⟨rfl, rfl⟩, (by have h9 := jz_m12; unfold jTk; first | ((repeat (first | rw [if_pos (by omega)] | rw [if_neg (by omega)])) <;> omega) | ((repeat' split) <;> omega)), trivial⟩ hP hS dX11_taken_63
              have kc44 := jne c44 (rfl : (σ 39 (σ 53 a1.toNatClampNeg).toNatClampNeg).toInt = (σ 39 (σ 53 a1.toNatClampNeg).toNatClampNeg).toInt) jz_0
              by_cases c64 : (σ 39 (σ 53 a1.toNatClampNeg).toNatClampNeg) = 1
              · have kc64 := jeq c64 (rfl : (σ 39 (σ 53 a1.toNatClampNeg).toNatClampNeg).toInt = (σ 39 (σ 53 a1.toNatClampNeg).toNatClampNeg).toInt) jz_1
                rw [c64]
                refine jcallS (As := [.int 1, .int a2]) (rest := []) ⟨hx, hb, hml, hown, hts⟩ hK hP hA hS hZ (c_X8_isUnder_1 l D cI cL ad zz hJ σ τ a2 (A2) t2) cw_RX11_321 ⟨Nat.le_of_ble_eq_true rfl, Nat.le_of_ble_eq_true rfl⟩ rfl rfl rfl hl.1 rfl (Nat.le_of_ble_eq_true rfl) dX11_taken_55 ⟨Nat.zero_le _, Nat.zero_le _⟩ (fun r66 σ65 τ65 H locs h65 hP hS => ?_)
                obtain ⟨⟨rfl, rfl⟩, h65⟩ := h65
                rcases h65 with h67 | h68
                · obtain ⟨q70, k69⟩ := h67
                  have q70 := q70.symm
                  subst q70
                  refine lv_if_ne (tgt := 64) hx hb dX11_taken_58 (of_decide_eq_true rfl) (fun _ => ?_) (fun c => absurd c (of_decide_eq_true rfl))
                  refine lv_aload_n hx hb dX11_taken_64 rfl (lv_at hl 1 rfl) ?_
                  refine va_get (D := D) hx hb hts inlX11 hown hK hP 0 (jc_0 cI cL ad σ τ) rfl 7 (of_decide_eq_true rfl) (hts _ kw_2_17) (fun _ h9 => h9) rfl dX11_taken_65 ?_
                  refine lv_iload_n hx hb dX11_taken_68 rfl (lv_at hl 0 rfl) ?_
                  refine jcallV (As := [.int (σ 53 a1.toNatClampNeg)]) (rest := []) ⟨hx, hb, hml, hown, hts⟩ hK hP hA hS hZ (c_X8_kindOf_e l D cI cL ad zz hJ σ τ (σ 53 a1.toNatClampNeg) ((σ 53 a1.toNatClampNeg).toInt) rfl hI38) cw_RX11_183 (jc_38 cI cL ad σ τ) rfl ⟨Nat.le_of_ble_eq_true rfl, Nat.le_of_ble_eq_true rfl⟩ rfl rfl rfl hl.1 rfl (Nat.le_of_ble_eq_true rfl) dX11_taken_69 ⟨Nat.zero_le _, Nat.zero_le _⟩ (fun r72 σ71 τ71 H locs h71 hP hS => ?_)
                  obtain ⟨⟨rfl, rfl⟩, h71⟩ := h71
                  rcases h71 with h73 | h74
                  · obtain ⟨q78, k75, k76, k77⟩ := h73
                    have q79 : r72 = (σ 39 (σ 53 a1.toNatClampNeg).toNatClampNeg) := q78.trans rfl
                    have q79 := q79.symm
                    subst q79
                    exact hret (σ 39 (σ 53 a1.toNatClampNeg).toNatClampNeg) σ τ _ _ _ _ rfl ⟨⟨rfl, rfl⟩, (by unfold jTk; first | ((repeat (first | rw [if_pos (by omega)] | rw [if_neg (by omega)])) <;> omega) | ((repeat' split) <;> omega)), trivial⟩ hP hS dX11_taken_72
                  · obtain ⟨q81, k80⟩ := h74
                    exact absurd (by omega : False) id
                · obtain ⟨q84, k82, k83⟩ := h68
                  have q84 := q84.symm
                  subst q84
                  refine lv_if_ne (tgt := 64) hx hb dX11_taken_58 (of_decide_eq_true rfl) (fun c => absurd (of_decide_eq_true rfl) c) (fun _ => ?_)
                  refine lv_bipush (v := (-12)) hx hb dX11_taken_61 (of_decide_eq_true rfl) ?_
                  exact hret (-12) σ τ _ _ _ _ rfl ⟨⟨rfl, rfl⟩, (by have h9 := jz_m12; unfold jTk; first | ((repeat (first | rw [if_pos (by omega)] | rw [if_neg (by omega)])) <;> omega) | ((repeat' split) <;> omega)), trivial⟩ hP hS dX11_taken_63
              have kc64 := jne c64 (rfl : (σ 39 (σ 53 a1.toNatClampNeg).toNatClampNeg).toInt = (σ 39 (σ 53 a1.toNatClampNeg).toNatClampNeg).toInt) jz_1
              by_cases c85 : (σ 39 (σ 53 a1.toNatClampNeg).toNatClampNeg) = 2
              · have kc85 := jeq c85 (rfl : (σ 39 (σ 53 a1.toNatClampNeg).toNatClampNeg).toInt = (σ 39 (σ 53 a1.toNatClampNeg).toNatClampNeg).toInt) jz_2
                rw [c85]
                refine jcallS (As := [.int 2, .int a2]) (rest := []) ⟨hx, hb, hml, hown, hts⟩ hK hP hA hS hZ (c_X8_isUnder_2 l D cI cL ad zz hJ σ τ a2 (A2) t2) cw_RX11_321 ⟨Nat.le_of_ble_eq_true rfl, Nat.le_of_ble_eq_true rfl⟩ rfl rfl rfl hl.1 rfl (Nat.le_of_ble_eq_true rfl) dX11_taken_55 ⟨Nat.zero_le _, Nat.zero_le _⟩ (fun r87 σ86 τ86 H locs h86 hP hS => ?_)
                obtain ⟨⟨rfl, rfl⟩, h86⟩ := h86
                rcases h86 with h88 | h89
                · obtain ⟨q91, k90⟩ := h88
                  have q91 := q91.symm
                  subst q91
                  refine lv_if_ne (tgt := 64) hx hb dX11_taken_58 (of_decide_eq_true rfl) (fun _ => ?_) (fun c => absurd c (of_decide_eq_true rfl))
                  refine lv_aload_n hx hb dX11_taken_64 rfl (lv_at hl 1 rfl) ?_
                  refine va_get (D := D) hx hb hts inlX11 hown hK hP 0 (jc_0 cI cL ad σ τ) rfl 7 (of_decide_eq_true rfl) (hts _ kw_2_17) (fun _ h9 => h9) rfl dX11_taken_65 ?_
                  refine lv_iload_n hx hb dX11_taken_68 rfl (lv_at hl 0 rfl) ?_
                  refine jcallV (As := [.int (σ 53 a1.toNatClampNeg)]) (rest := []) ⟨hx, hb, hml, hown, hts⟩ hK hP hA hS hZ (c_X8_kindOf_e l D cI cL ad zz hJ σ τ (σ 53 a1.toNatClampNeg) ((σ 53 a1.toNatClampNeg).toInt) rfl hI38) cw_RX11_183 (jc_38 cI cL ad σ τ) rfl ⟨Nat.le_of_ble_eq_true rfl, Nat.le_of_ble_eq_true rfl⟩ rfl rfl rfl hl.1 rfl (Nat.le_of_ble_eq_true rfl) dX11_taken_69 ⟨Nat.zero_le _, Nat.zero_le _⟩ (fun r93 σ92 τ92 H locs h92 hP hS => ?_)
                  obtain ⟨⟨rfl, rfl⟩, h92⟩ := h92
                  rcases h92 with h94 | h95
                  · obtain ⟨q99, k96, k97, k98⟩ := h94
                    have q100 : r93 = (σ 39 (σ 53 a1.toNatClampNeg).toNatClampNeg) := q99.trans rfl
                    have q100 := q100.symm
                    subst q100
                    exact hret (σ 39 (σ 53 a1.toNatClampNeg).toNatClampNeg) σ τ _ _ _ _ rfl ⟨⟨rfl, rfl⟩, (by unfold jTk; first | ((repeat (first | rw [if_pos (by omega)] | rw [if_neg (by omega)])) <;> omega) | ((repeat' split) <;> omega)), trivial⟩ hP hS dX11_taken_72
                  · obtain ⟨q102, k101⟩ := h95
                    exact absurd (by omega : False) id
                · obtain ⟨q105, k103, k104⟩ := h89
                  have q105 := q105.symm
                  subst q105
                  refine lv_if_ne (tgt := 64) hx hb dX11_taken_58 (of_decide_eq_true rfl) (fun c => absurd (of_decide_eq_true rfl) c) (fun _ => ?_)
                  refine lv_bipush (v := (-12)) hx hb dX11_taken_61 (of_decide_eq_true rfl) ?_
                  exact hret (-12) σ τ _ _ _ _ rfl ⟨⟨rfl, rfl⟩, (by have h9 := jz_m12; unfold jTk; first | ((repeat (first | rw [if_pos (by omega)] | rw [if_neg (by omega)])) <;> omega) | ((repeat' split) <;> omega)), trivial⟩ hP hS dX11_taken_63
              have kc85 := jne c85 (rfl : (σ 39 (σ 53 a1.toNatClampNeg).toNatClampNeg).toInt = (σ 39 (σ 53 a1.toNatClampNeg).toNatClampNeg).toInt) jz_2
              by_cases c106 : (σ 39 (σ 53 a1.toNatClampNeg).toNatClampNeg) = 3
              · have kc106 := jeq c106 (rfl : (σ 39 (σ 53 a1.toNatClampNeg).toNatClampNeg).toInt = (σ 39 (σ 53 a1.toNatClampNeg).toNatClampNeg).toInt) jz_3
                rw [c106]
                refine jcallS (As := [.int 3, .int a2]) (rest := []) ⟨hx, hb, hml, hown, hts⟩ hK hP hA hS hZ (c_X8_isUnder_3 l D cI cL ad zz hJ σ τ a2 (A2) t2) cw_RX11_321 ⟨Nat.le_of_ble_eq_true rfl, Nat.le_of_ble_eq_true rfl⟩ rfl rfl rfl hl.1 rfl (Nat.le_of_ble_eq_true rfl) dX11_taken_55 ⟨Nat.zero_le _, Nat.zero_le _⟩ (fun r108 σ107 τ107 H locs h107 hP hS => ?_)
                obtain ⟨⟨rfl, rfl⟩, h107⟩ := h107
                rcases h107 with h109 | h110
                · obtain ⟨q112, k111⟩ := h109
                  have q112 := q112.symm
                  subst q112
                  refine lv_if_ne (tgt := 64) hx hb dX11_taken_58 (of_decide_eq_true rfl) (fun _ => ?_) (fun c => absurd c (of_decide_eq_true rfl))
                  refine lv_aload_n hx hb dX11_taken_64 rfl (lv_at hl 1 rfl) ?_
                  refine va_get (D := D) hx hb hts inlX11 hown hK hP 0 (jc_0 cI cL ad σ τ) rfl 7 (of_decide_eq_true rfl) (hts _ kw_2_17) (fun _ h9 => h9) rfl dX11_taken_65 ?_
                  refine lv_iload_n hx hb dX11_taken_68 rfl (lv_at hl 0 rfl) ?_
                  refine jcallV (As := [.int (σ 53 a1.toNatClampNeg)]) (rest := []) ⟨hx, hb, hml, hown, hts⟩ hK hP hA hS hZ (c_X8_kindOf_e l D cI cL ad zz hJ σ τ (σ 53 a1.toNatClampNeg) ((σ 53 a1.toNatClampNeg).toInt) rfl hI38) cw_RX11_183 (jc_38 cI cL ad σ τ) rfl ⟨Nat.le_of_ble_eq_true rfl, Nat.le_of_ble_eq_true rfl⟩ rfl rfl rfl hl.1 rfl (Nat.le_of_ble_eq_true rfl) dX11_taken_69 ⟨Nat.zero_le _, Nat.zero_le _⟩ (fun r114 σ113 τ113 H locs h113 hP hS => ?_)
                  obtain ⟨⟨rfl, rfl⟩, h113⟩ := h113
                  rcases h113 with h115 | h116
                  · obtain ⟨q120, k117, k118, k119⟩ := h115
                    have q121 : r114 = (σ 39 (σ 53 a1.toNatClampNeg).toNatClampNeg) := q120.trans rfl
                    have q121 := q121.symm
                    subst q121
                    exact hret (σ 39 (σ 53 a1.toNatClampNeg).toNatClampNeg) σ τ _ _ _ _ rfl ⟨⟨rfl, rfl⟩, (by unfold jTk; first | ((repeat (first | rw [if_pos (by omega)] | rw [if_neg (by omega)])) <;> omega) | ((repeat' split) <;> omega)), trivial⟩ hP hS dX11_taken_72
                  · obtain ⟨q123, k122⟩ := h116
                    exact absurd (by omega : False) id
                · obtain ⟨q127, k124, k125, k126⟩ := h110
                  have q127 := q127.symm
                  subst q127
                  refine lv_if_ne (tgt := 64) hx hb dX11_taken_58 (of_decide_eq_true rfl) (fun c => absurd (of_decide_eq_true rfl) c) (fun _ => ?_)
                  refine lv_bipush (v := (-12)) hx hb dX11_taken_61 (of_decide_eq_true rfl) ?_
                  exact hret (-12) σ τ _ _ _ _ rfl ⟨⟨rfl, rfl⟩, (by have h9 := jz_m12; unfold jTk; first | ((repeat (first | rw [if_pos (by omega)] | rw [if_neg (by omega)])) <;> omega) | ((repeat' split) <;> omega)), trivial⟩ hP hS dX11_taken_63
              have kc106 := jne c106 (rfl : (σ 39 (σ 53 a1.toNatClampNeg).toNatClampNeg).toInt = (σ 39 (σ 53 a1.toNatClampNeg).toNatClampNeg).toInt) jz_3
              by_cases c128 : (σ 39 (σ 53 a1.toNatClampNeg).toNatClampNeg) = 4
              · have kc128 := jeq c128 (rfl : (σ 39 (σ 53 a1.toNatClampNeg).toNatClampNeg).toInt = (σ 39 (σ 53 a1.toNatClampNeg).toNatClampNeg).toInt) jz_4
                rw [c128]
                refine jcallS (As := [.int 4, .int a2]) (rest := []) ⟨hx, hb, hml, hown, hts⟩ hK hP hA hS hZ (c_X8_isUnder_4 l D cI cL ad zz hJ σ τ a2 (A2) t2) cw_RX11_321 ⟨Nat.le_of_ble_eq_true rfl, Nat.le_of_ble_eq_true rfl⟩ rfl rfl rfl hl.1 rfl (Nat.le_of_ble_eq_true rfl) dX11_taken_55 ⟨Nat.zero_le _, Nat.zero_le _⟩ (fun r130 σ129 τ129 H locs h129 hP hS => ?_)
                obtain ⟨⟨rfl, rfl⟩, h129⟩ := h129
                rcases h129 with h131 | h132
                · obtain ⟨q134, k133⟩ := h131
                  have q134 := q134.symm
                  subst q134
                  refine lv_if_ne (tgt := 64) hx hb dX11_taken_58 (of_decide_eq_true rfl) (fun _ => ?_) (fun c => absurd c (of_decide_eq_true rfl))
                  refine lv_aload_n hx hb dX11_taken_64 rfl (lv_at hl 1 rfl) ?_
                  refine va_get (D := D) hx hb hts inlX11 hown hK hP 0 (jc_0 cI cL ad σ τ) rfl 7 (of_decide_eq_true rfl) (hts _ kw_2_17) (fun _ h9 => h9) rfl dX11_taken_65 ?_
                  refine lv_iload_n hx hb dX11_taken_68 rfl (lv_at hl 0 rfl) ?_
                  refine jcallV (As := [.int (σ 53 a1.toNatClampNeg)]) (rest := []) ⟨hx, hb, hml, hown, hts⟩ hK hP hA hS hZ (c_X8_kindOf_e l D cI cL ad zz hJ σ τ (σ 53 a1.toNatClampNeg) ((σ 53 a1.toNatClampNeg).toInt) rfl hI38) cw_RX11_183 (jc_38 cI cL ad σ τ) rfl ⟨Nat.le_of_ble_eq_true rfl, Nat.le_of_ble_eq_true rfl⟩ rfl rfl rfl hl.1 rfl (Nat.le_of_ble_eq_true rfl) dX11_taken_69 ⟨Nat.zero_le _, Nat.zero_le _⟩ (fun r136 σ135 τ135 H locs h135 hP hS => ?_)
                  obtain ⟨⟨rfl, rfl⟩, h135⟩ := h135
                  rcases h135 with h137 | h138
                  · obtain ⟨q142, k139, k140, k141⟩ := h137
                    have q143 : r136 = (σ 39 (σ 53 a1.toNatClampNeg).toNatClampNeg) := q142.trans rfl
                    have q143 := q143.symm
                    subst q143
                    exact hret (σ 39 (σ 53 a1.toNatClampNeg).toNatClampNeg) σ τ _ _ _ _ rfl ⟨⟨rfl, rfl⟩, (by unfold jTk; first | ((repeat (first | rw [if_pos (by omega)] | rw [if_neg (by omega)])) <;> omega) | ((repeat' split) <;> omega)), trivial⟩ hP hS dX11_taken_72
                  · obtain ⟨q145, k144⟩ := h138
                    exact absurd (by omega : False) id
                · obtain ⟨q149, k146, k147, k148⟩ := h132
                  have q149 := q149.symm
                  subst q149
                  refine lv_if_ne (tgt := 64) hx hb dX11_taken_58 (of_decide_eq_true rfl) (fun c => absurd (of_decide_eq_true rfl) c) (fun _ => ?_)
                  refine lv_bipush (v := (-12)) hx hb dX11_taken_61 (of_decide_eq_true rfl) ?_
                  exact hret (-12) σ τ _ _ _ _ rfl ⟨⟨rfl, rfl⟩, (by have h9 := jz_m12; unfold jTk; first | ((repeat (first | rw [if_pos (by omega)] | rw [if_neg (by omega)])) <;> omega) | ((repeat' split) <;> omega)), trivial⟩ hP hS dX11_taken_63
              have kc128 := jne c128 (rfl : (σ 39 (σ 53 a1.toNatClampNeg).toNatClampNeg).toInt = (σ 39 (σ 53 a1.toNatClampNeg).toNatClampNeg).toInt) jz_4
              by_cases c150 : (σ 39 (σ 53 a1.toNatClampNeg).toNatClampNeg) = 5
              · have kc150 := jeq c150 (rfl : (σ 39 (σ 53 a1.toNatClampNeg).toNatClampNeg).toInt = (σ 39 (σ 53 a1.toNatClampNeg).toNatClampNeg).toInt) jz_5
                rw [c150]
                refine jcallS (As := [.int 5, .int a2]) (rest := []) ⟨hx, hb, hml, hown, hts⟩ hK hP hA hS hZ (c_X8_isUnder_5 l D cI cL ad zz hJ σ τ a2 (A2) t2) cw_RX11_321 ⟨Nat.le_of_ble_eq_true rfl, Nat.le_of_ble_eq_true rfl⟩ rfl rfl rfl hl.1 rfl (Nat.le_of_ble_eq_true rfl) dX11_taken_55 ⟨Nat.zero_le _, Nat.zero_le _⟩ (fun r152 σ151 τ151 H locs h151 hP hS => ?_)
                obtain ⟨⟨rfl, rfl⟩, h151⟩ := h151
                rcases h151 with h153 | h154
                · obtain ⟨q156, k155⟩ := h153
                  have q156 := q156.symm
                  subst q156
                  refine lv_if_ne (tgt := 64) hx hb dX11_taken_58 (of_decide_eq_true rfl) (fun _ => ?_) (fun c => absurd c (of_decide_eq_true rfl))
                  refine lv_aload_n hx hb dX11_taken_64 rfl (lv_at hl 1 rfl) ?_
                  refine va_get (D := D) hx hb hts inlX11 hown hK hP 0 (jc_0 cI cL ad σ τ) rfl 7 (of_decide_eq_true rfl) (hts _ kw_2_17) (fun _ h9 => h9) rfl dX11_taken_65 ?_
                  refine lv_iload_n hx hb dX11_taken_68 rfl (lv_at hl 0 rfl) ?_
                  refine jcallV (As := [.int (σ 53 a1.toNatClampNeg)]) (rest := []) ⟨hx, hb, hml, hown, hts⟩ hK hP hA hS hZ (c_X8_kindOf_e l D cI cL ad zz hJ σ τ (σ 53 a1.toNatClampNeg) ((σ 53 a1.toNatClampNeg).toInt) rfl hI38) cw_RX11_183 (jc_38 cI cL ad σ τ) rfl ⟨Nat.le_of_ble_eq_true rfl, Nat.le_of_ble_eq_true rfl⟩ rfl rfl rfl hl.1 rfl (Nat.le_of_ble_eq_true rfl) dX11_taken_69 ⟨Nat.zero_le _, Nat.zero_le _⟩ (fun r158 σ157 τ157 H locs h157 hP hS => ?_)
                  obtain ⟨⟨rfl, rfl⟩, h157⟩ := h157
                  rcases h157 with h159 | h160
                  · obtain ⟨q164, k161, k162, k163⟩ := h159
                    have q165 : r158 = (σ 39 (σ 53 a1.toNatClampNeg).toNatClampNeg) := q164.trans rfl
                    have q165 := q165.symm
                    subst q165
                    exact hret (σ 39 (σ 53 a1.toNatClampNeg).toNatClampNeg) σ τ _ _ _ _ rfl ⟨⟨rfl, rfl⟩, (by unfold jTk; first | ((repeat (first | rw [if_pos (by omega)] | rw [if_neg (by omega)])) <;> omega) | ((repeat' split) <;> omega)), trivial⟩ hP hS dX11_taken_72
                  · obtain ⟨q167, k166⟩ := h160
                    exact absurd (by omega : False) id
                · obtain ⟨q172, k168, k169, k170, k171⟩ := h154
                  have q172 := q172.symm
                  subst q172
                  refine lv_if_ne (tgt := 64) hx hb dX11_taken_58 (of_decide_eq_true rfl) (fun c => absurd (of_decide_eq_true rfl) c) (fun _ => ?_)
                  refine lv_bipush (v := (-12)) hx hb dX11_taken_61 (of_decide_eq_true rfl) ?_
                  exact hret (-12) σ τ _ _ _ _ rfl ⟨⟨rfl, rfl⟩, (by have h9 := jz_m12; unfold jTk; first | ((repeat (first | rw [if_pos (by omega)] | rw [if_neg (by omega)])) <;> omega) | ((repeat' split) <;> omega)), trivial⟩ hP hS dX11_taken_63
              have kc150 := jne c150 (rfl : (σ 39 (σ 53 a1.toNatClampNeg).toNatClampNeg).toInt = (σ 39 (σ 53 a1.toNatClampNeg).toNatClampNeg).toInt) jz_5
              by_cases c173 : (σ 39 (σ 53 a1.toNatClampNeg).toNatClampNeg) = 6
              · have kc173 := jeq c173 (rfl : (σ 39 (σ 53 a1.toNatClampNeg).toNatClampNeg).toInt = (σ 39 (σ 53 a1.toNatClampNeg).toNatClampNeg).toInt) jz_6
                rw [c173]
                refine jcallS (As := [.int 6, .int a2]) (rest := []) ⟨hx, hb, hml, hown, hts⟩ hK hP hA hS hZ (c_X8_isUnder_6 l D cI cL ad zz hJ σ τ a2 (A2) t2) cw_RX11_321 ⟨Nat.le_of_ble_eq_true rfl, Nat.le_of_ble_eq_true rfl⟩ rfl rfl rfl hl.1 rfl (Nat.le_of_ble_eq_true rfl) dX11_taken_55 ⟨Nat.zero_le _, Nat.zero_le _⟩ (fun r175 σ174 τ174 H locs h174 hP hS => ?_)
                obtain ⟨⟨rfl, rfl⟩, h174⟩ := h174
                rcases h174 with h176 | h177
                · obtain ⟨q179, k178⟩ := h176
                  have q179 := q179.symm
                  subst q179
                  refine lv_if_ne (tgt := 64) hx hb dX11_taken_58 (of_decide_eq_true rfl) (fun _ => ?_) (fun c => absurd c (of_decide_eq_true rfl))
                  refine lv_aload_n hx hb dX11_taken_64 rfl (lv_at hl 1 rfl) ?_
                  refine va_get (D := D) hx hb hts inlX11 hown hK hP 0 (jc_0 cI cL ad σ τ) rfl 7 (of_decide_eq_true rfl) (hts _ kw_2_17) (fun _ h9 => h9) rfl dX11_taken_65 ?_
                  refine lv_iload_n hx hb dX11_taken_68 rfl (lv_at hl 0 rfl) ?_
                  refine jcallV (As := [.int (σ 53 a1.toNatClampNeg)]) (rest := []) ⟨hx, hb, hml, hown, hts⟩ hK hP hA hS hZ (c_X8_kindOf_e l D cI cL ad zz hJ σ τ (σ 53 a1.toNatClampNeg) ((σ 53 a1.toNatClampNeg).toInt) rfl hI38) cw_RX11_183 (jc_38 cI cL ad σ τ) rfl ⟨Nat.le_of_ble_eq_true rfl, Nat.le_of_ble_eq_true rfl⟩ rfl rfl rfl hl.1 rfl (Nat.le_of_ble_eq_true rfl) dX11_taken_69 ⟨Nat.zero_le _, Nat.zero_le _⟩ (fun r181 σ180 τ180 H locs h180 hP hS => ?_)
                  obtain ⟨⟨rfl, rfl⟩, h180⟩ := h180
                  rcases h180 with h182 | h183
                  · obtain ⟨q187, k184, k185, k186⟩ := h182
                    have q188 : r181 = (σ 39 (σ 53 a1.toNatClampNeg).toNatClampNeg) := q187.trans rfl
                    have q188 := q188.symm
                    subst q188
                    exact hret (σ 39 (σ 53 a1.toNatClampNeg).toNatClampNeg) σ τ _ _ _ _ rfl ⟨⟨rfl, rfl⟩, (by unfold jTk; first | ((repeat (first | rw [if_pos (by omega)] | rw [if_neg (by omega)])) <;> omega) | ((repeat' split) <;> omega)), trivial⟩ hP hS dX11_taken_72
                  · obtain ⟨q190, k189⟩ := h183
                    exact absurd (by omega : False) id
                · obtain ⟨q193, k191, k192⟩ := h177
                  have q193 := q193.symm
                  subst q193
                  refine lv_if_ne (tgt := 64) hx hb dX11_taken_58 (of_decide_eq_true rfl) (fun c => absurd (of_decide_eq_true rfl) c) (fun _ => ?_)
                  refine lv_bipush (v := (-12)) hx hb dX11_taken_61 (of_decide_eq_true rfl) ?_
                  exact hret (-12) σ τ _ _ _ _ rfl ⟨⟨rfl, rfl⟩, (by have h9 := jz_m12; unfold jTk; first | ((repeat (first | rw [if_pos (by omega)] | rw [if_neg (by omega)])) <;> omega) | ((repeat' split) <;> omega)), trivial⟩ hP hS dX11_taken_63
              have kc173 := jne c173 (rfl : (σ 39 (σ 53 a1.toNatClampNeg).toNatClampNeg).toInt = (σ 39 (σ 53 a1.toNatClampNeg).toNatClampNeg).toInt) jz_6
              exact absurd (by omega : False) id
            · obtain ⟨q195, k194⟩ := h38
              have q195 := q195.symm
              subst q195
              refine lv_iload_n hx hb dX11_taken_54 rfl (lv_at hl 3 rfl) ?_
              refine jcallS (As := [.int 0, .int a2]) (rest := []) ⟨hx, hb, hml, hown, hts⟩ hK hP hA hS hZ (c_X8_isUnder_0 l D cI cL ad zz hJ σ τ a2 (A2) t2) cw_RX11_321 ⟨Nat.le_of_ble_eq_true rfl, Nat.le_of_ble_eq_true rfl⟩ rfl rfl rfl hl.1 rfl (Nat.le_of_ble_eq_true rfl) dX11_taken_55 ⟨Nat.zero_le _, Nat.zero_le _⟩ (fun r197 σ196 τ196 H locs h196 hP hS => ?_)
              obtain ⟨⟨rfl, rfl⟩, h196⟩ := h196
              rcases h196 with h198 | h199
              · obtain ⟨q201, k200⟩ := h198
                have q201 := q201.symm
                subst q201
                refine lv_if_ne (tgt := 64) hx hb dX11_taken_58 (of_decide_eq_true rfl) (fun _ => ?_) (fun c => absurd c (of_decide_eq_true rfl))
                refine lv_aload_n hx hb dX11_taken_64 rfl (lv_at hl 1 rfl) ?_
                refine va_get (D := D) hx hb hts inlX11 hown hK hP 0 (jc_0 cI cL ad σ τ) rfl 7 (of_decide_eq_true rfl) (hts _ kw_2_17) (fun _ h9 => h9) rfl dX11_taken_65 ?_
                refine lv_iload_n hx hb dX11_taken_68 rfl (lv_at hl 0 rfl) ?_
                refine jcallV (As := [.int (σ 53 a1.toNatClampNeg)]) (rest := []) ⟨hx, hb, hml, hown, hts⟩ hK hP hA hS hZ (c_X8_kindOf_e l D cI cL ad zz hJ σ τ (σ 53 a1.toNatClampNeg) ((σ 53 a1.toNatClampNeg).toInt) rfl hI38) cw_RX11_183 (jc_38 cI cL ad σ τ) rfl ⟨Nat.le_of_ble_eq_true rfl, Nat.le_of_ble_eq_true rfl⟩ rfl rfl rfl hl.1 rfl (Nat.le_of_ble_eq_true rfl) dX11_taken_69 ⟨Nat.zero_le _, Nat.zero_le _⟩ (fun r203 σ202 τ202 H locs h202 hP hS => ?_)
                obtain ⟨⟨rfl, rfl⟩, h202⟩ := h202
                rcases h202 with h204 | h205
                · obtain ⟨q209, k206, k207, k208⟩ := h204
                  exact absurd (by omega : False) id
                · obtain ⟨q211, k210⟩ := h205
                  have q211 := q211.symm
                  subst q211
                  exact hret 0 σ τ _ _ _ _ rfl ⟨⟨rfl, rfl⟩, (by have h9 := jz_0; unfold jTk; first | ((repeat (first | rw [if_pos (by omega)] | rw [if_neg (by omega)])) <;> omega) | ((repeat' split) <;> omega)), trivial⟩ hP hS dX11_taken_72
              · obtain ⟨q213, k212⟩ := h199
                have q213 := q213.symm
                subst q213
                refine lv_if_ne (tgt := 64) hx hb dX11_taken_58 (of_decide_eq_true rfl) (fun c => absurd (of_decide_eq_true rfl) c) (fun _ => ?_)
                refine lv_bipush (v := (-12)) hx hb dX11_taken_61 (of_decide_eq_true rfl) ?_
                exact hret (-12) σ τ _ _ _ _ rfl ⟨⟨rfl, rfl⟩, (by have h9 := jz_m12; unfold jTk; first | ((repeat (first | rw [if_pos (by omega)] | rw [if_neg (by omega)])) <;> omega) | ((repeat' split) <;> omega)), trivial⟩ hP hS dX11_taken_63
        · obtain ⟨q215, k214⟩ := h30
          exact absurd (by omega : False) id
      · obtain ⟨q217, k216⟩ := h23
        have q217 := q217.symm
        subst q217
        refine lv_if_eq (tgt := 33) hx hb dX11_taken_27 (of_decide_eq_true rfl) (fun c => absurd c (of_decide_eq_true rfl)) (fun _ => ?_)
        refine lv_bipush (v := (-11)) hx hb dX11_taken_30 (of_decide_eq_true rfl) ?_
        exact hret (-11) σ τ _ _ _ _ rfl ⟨⟨rfl, rfl⟩, (by have h9 := jz_m11; unfold jTk; first | ((repeat (first | rw [if_pos (by omega)] | rw [if_neg (by omega)])) <;> omega) | ((repeat' split) <;> omega)), trivial⟩ hP hS dX11_taken_32
set_option maxHeartbeats 4000000 in
set_option maxRecDepth 100000 in
theorem c_X11_count (l : Launch) (D : va_G) (cI cL : ClassId) (ad zz : Nat → Nat) (hJ : jD ad) (σ : Nat → Nat → Int32) (τ : Nat → Nat → Int64) (a1 : Int32) (A1 : Int) (t1 : a1.toInt = A1) (hI2 : jI2 σ) (hI9 : jI9 σ) (hI38 : jI38 σ) (hI47 : jI47 σ) : jM l yX11_count cX11_count 2 (some .int) ({ frames := 0, cells := 0, slots := 0, locals := 0 }) D cI cL ad zz [.ref (ad 0), .int a1] σ τ (fun r σ' τ' => (σ = σ' ∧ τ = τ') ∧ ((True ∧ (A1 = 0) ∧ (r.toInt = (σ 2 0).toInt)) ∨ (True ∧ (A1 = 1) ∧ (r.toInt = (σ 38 0).toInt)) ∨ (True ∧ (A1 = 2) ∧ (r.toInt = (σ 9 0).toInt)) ∨ (True ∧ (A1 = 3) ∧ (r.toInt = (σ 47 0).toInt)) ∨ (True ∧ (A1 = 4) ∧ (r.toInt = (σ 2 2).toInt)) ∨ (True ∧ (A1 = 5) ∧ (r.toInt = (σ 38 1).toInt)) ∨ (r = (-1) ∧ ((A1 < 0) ∨ (5 < A1))))) := by
  refine jM.of hJ (by decide +kernel) (nt := .int) rfl (Nat.le_of_ble_eq_true rfl) ?_
  intro p e s m args below meth c Q ls hC hret hl hP
  obtain ⟨hx, hb, hr, hml, hown, hts, hK, -, hlocks, hZ⟩ := hC
  have hown : s.vm.findClass RX11 = some m.cls := hown
  have hS : va_S (jA ad) s.heap s.heap [] := va_S.rf
  have hA : ∀ q, jA ad q → jA ad q := fun _ h => h
  have hl : lv_has ls 2 [(0, .ref (ad 0)), (1, .int a1)] := hl
  have g1 := jrg t1
  obtain ⟨i1, i2, i3, i4, i5, w6⟩ : (0 ≤ (σ 2 0).toInt ∧ (σ 2 0).toInt ≤ 4) ∧ (0 ≤ (σ 2 1).toInt ∧ (σ 2 1).toInt ≤ 3) ∧ (0 ≤ (σ 2 2).toInt) ∧ (0 ≤ (σ 2 3).toInt) ∧ ((σ 2 2).toInt + (σ 2 3).toInt ≤ 40) ∧ (∀ k : Nat, k < 40 → 0 ≤ (σ 6 k).toInt ∧ (σ 6 k).toInt ≤ 67) := id hI2
  obtain ⟨i7, w8, w9⟩ : (0 ≤ (σ 9 0).toInt ∧ (σ 9 0).toInt ≤ 80) ∧ (∀ k : Nat, k < 80 → 0 ≤ (σ 10 k).toInt ∧ (σ 10 k).toInt ≤ 255) ∧ (∀ k : Nat, k < 8 → 0 ≤ (σ 11 k).toInt ∧ (σ 11 k).toInt ≤ 3) := id hI9
  obtain ⟨i10, i11, w12⟩ : (0 ≤ (σ 38 0).toInt ∧ (σ 38 0).toInt ≤ 20) ∧ (0 ≤ (σ 38 1).toInt ∧ (σ 38 1).toInt ≤ 1000) ∧ (∀ k : Nat, k < 20 → 0 ≤ (σ 39 k).toInt ∧ (σ 39 k).toInt ≤ 6) := id hI38
  obtain ⟨i13, w14, w15⟩ : (0 ≤ (σ 47 0).toInt ∧ (σ 47 0).toInt ≤ 12) ∧ (∀ k : Nat, k < 12 → 0 ≤ (σ 48 k).toInt ∧ (σ 48 k).toInt ≤ 3) ∧ (∀ k : Nat, k < 12 → 0 ≤ (σ 49 k).toInt ∧ (σ 49 k).toInt ≤ 1) := id hI47
  refine lv_iload_n hx hb dX11_count_0 rfl (lv_at hl 1 rfl) ?_
  by_cases c16 : a1 = 0
  · have kc16 := jeq c16 t1 jz_0
    refine jtopr c16 ?_
    refine lv_tableIn (off := 39) (tgt := 40) hx hb dX11_count_1 (of_decide_eq_true rfl) (of_decide_eq_true rfl) (of_decide_eq_true rfl) (of_decide_eq_true rfl) ?_
    refine lv_aload_n hx hb dX11_count_40 rfl (lv_at hl 0 rfl) ?_
    refine va_get (D := D) hx hb hts inlX11 hown hK hP 0 (jc_0 cI cL ad σ τ) rfl 0 (of_decide_eq_true rfl) (hts _ kw_1_16) (fun _ h9 => h9) rfl dX11_count_41 ?_
    refine va_get (D := D) hx hb hts inlX4 hown hK hP 2 (jc_2 cI cL ad σ τ) rfl 0 (of_decide_eq_true rfl) (hts _ kw_8_21) (fun _ h9 => h9) rfl dX11_count_44 ?_
    exact by exact hret (σ 2 0) σ τ _ _ _ _ rfl ⟨⟨rfl, rfl⟩, Or.inl ⟨trivial, (by omega), (by omega)⟩⟩ hP hS dX11_count_47
  have kc16 := jne c16 t1 jz_0
  by_cases c17 : a1 = 1
  · have kc17 := jeq c17 t1 jz_1
    refine jtopr c17 ?_
    refine lv_tableIn (off := 47) (tgt := 48) hx hb dX11_count_1 (of_decide_eq_true rfl) (of_decide_eq_true rfl) (of_decide_eq_true rfl) (of_decide_eq_true rfl) ?_
    refine lv_aload_n hx hb dX11_count_48 rfl (lv_at hl 0 rfl) ?_
    refine va_get (D := D) hx hb hts inlX11 hown hK hP 0 (jc_0 cI cL ad σ τ) rfl 7 (of_decide_eq_true rfl) (hts _ kw_2_17) (fun _ h9 => h9) rfl dX11_count_49 ?_
    refine va_get (D := D) hx hb hts inlX8 hown hK hP 38 (jc_38 cI cL ad σ τ) rfl 0 (of_decide_eq_true rfl) (hts _ kw_24_8) (fun _ h9 => h9) rfl dX11_count_52 ?_
    exact by exact hret (σ 38 0) σ τ _ _ _ _ rfl ⟨⟨rfl, rfl⟩, Or.inr (Or.inl ⟨trivial, (by omega), (by omega)⟩)⟩ hP hS dX11_count_55
  have kc17 := jne c17 t1 jz_1
  by_cases c18 : a1 = 2
  · have kc18 := jeq c18 t1 jz_2
    refine jtopr c18 ?_
    refine lv_tableIn (off := 55) (tgt := 56) hx hb dX11_count_1 (of_decide_eq_true rfl) (of_decide_eq_true rfl) (of_decide_eq_true rfl) (of_decide_eq_true rfl) ?_
    refine lv_aload_n hx hb dX11_count_56 rfl (lv_at hl 0 rfl) ?_
    refine va_get (D := D) hx hb hts inlX11 hown hK hP 0 (jc_0 cI cL ad σ τ) rfl 1 (of_decide_eq_true rfl) (hts _ kw_1_20) (fun _ h9 => h9) rfl dX11_count_57 ?_
    refine va_get (D := D) hx hb hts inlX7 hown hK hP 9 (jc_9 cI cL ad σ τ) rfl 0 (of_decide_eq_true rfl) (hts _ kw_12_19) (fun _ h9 => h9) rfl dX11_count_60 ?_
    exact by exact hret (σ 9 0) σ τ _ _ _ _ rfl ⟨⟨rfl, rfl⟩, Or.inr (Or.inr (Or.inl ⟨trivial, (by omega), (by omega)⟩))⟩ hP hS dX11_count_63
  have kc18 := jne c18 t1 jz_2
  by_cases c19 : a1 = 3
  · have kc19 := jeq c19 t1 jz_3
    refine jtopr c19 ?_
    refine lv_tableIn (off := 63) (tgt := 64) hx hb dX11_count_1 (of_decide_eq_true rfl) (of_decide_eq_true rfl) (of_decide_eq_true rfl) (of_decide_eq_true rfl) ?_
    refine lv_aload_n hx hb dX11_count_64 rfl (lv_at hl 0 rfl) ?_
    refine va_get (D := D) hx hb hts inlX11 hown hK hP 0 (jc_0 cI cL ad σ τ) rfl 9 (of_decide_eq_true rfl) (hts _ kw_3_1) (fun _ h9 => h9) rfl dX11_count_65 ?_
    refine va_get (D := D) hx hb hts inlX2 hown hK hP 47 (jc_47 cI cL ad σ τ) rfl 0 (of_decide_eq_true rfl) (hts _ kw_13_11) (fun _ h9 => h9) rfl dX11_count_68 ?_
    exact by exact hret (σ 47 0) σ τ _ _ _ _ rfl ⟨⟨rfl, rfl⟩, Or.inr (Or.inr (Or.inr (Or.inl ⟨trivial, (by omega), (by omega)⟩)))⟩ hP hS dX11_count_71
  have kc19 := jne c19 t1 jz_3
  by_cases c20 : a1 = 4
  · have kc20 := jeq c20 t1 jz_4
    refine jtopr c20 ?_
    refine lv_tableIn (off := 71) (tgt := 72) hx hb dX11_count_1 (of_decide_eq_true rfl) (of_decide_eq_true rfl) (of_decide_eq_true rfl) (of_decide_eq_true rfl) ?_
    refine lv_aload_n hx hb dX11_count_72 rfl (lv_at hl 0 rfl) ?_
    refine va_get (D := D) hx hb hts inlX11 hown hK hP 0 (jc_0 cI cL ad σ τ) rfl 0 (of_decide_eq_true rfl) (hts _ kw_1_16) (fun _ h9 => h9) rfl dX11_count_73 ?_
    refine va_get (D := D) hx hb hts inlX4 hown hK hP 2 (jc_2 cI cL ad σ τ) rfl 2 (of_decide_eq_true rfl) (hts _ kw_47_8) (fun _ h9 => h9) rfl dX11_count_76 ?_
    exact by exact hret (σ 2 2) σ τ _ _ _ _ rfl ⟨⟨rfl, rfl⟩, Or.inr (Or.inr (Or.inr (Or.inr (Or.inl ⟨trivial, (by omega), (by omega)⟩))))⟩ hP hS dX11_count_79
  have kc20 := jne c20 t1 jz_4
  by_cases c21 : a1 = 5
  · have kc21 := jeq c21 t1 jz_5
    refine jtopr c21 ?_
    refine lv_tableIn (off := 79) (tgt := 80) hx hb dX11_count_1 (of_decide_eq_true rfl) (of_decide_eq_true rfl) (of_decide_eq_true rfl) (of_decide_eq_true rfl) ?_
    refine lv_aload_n hx hb dX11_count_80 rfl (lv_at hl 0 rfl) ?_
    refine va_get (D := D) hx hb hts inlX11 hown hK hP 0 (jc_0 cI cL ad σ τ) rfl 7 (of_decide_eq_true rfl) (hts _ kw_2_17) (fun _ h9 => h9) rfl dX11_count_81 ?_
    refine va_get (D := D) hx hb hts inlX8 hown hK hP 38 (jc_38 cI cL ad σ τ) rfl 1 (of_decide_eq_true rfl) (hts _ kw_48_10) (fun _ h9 => h9) rfl dX11_count_84 ?_
    exact by exact hret (σ 38 1) σ τ _ _ _ _ rfl ⟨⟨rfl, rfl⟩, Or.inr (Or.inr (Or.inr (Or.inr (Or.inr (Or.inl ⟨trivial, (by omega), (by omega)⟩)))))⟩ hP hS dX11_count_87
  have kc21 := jne c21 t1 jz_5
  exact by
   refine lv_tableOut (tgt := 88) hx hb dX11_count_1 (by rw [t1]; omega) (of_decide_eq_true rfl) ?_
   refine lv_iconst (v := (-1)) hx hb dX11_count_88 (of_decide_eq_true rfl) ?_
   exact hret (-1) σ τ _ _ _ _ rfl ⟨⟨rfl, rfl⟩, Or.inr (Or.inr (Or.inr (Or.inr (Or.inr (Or.inr (⟨rfl, (by have h9 := jz_m1; omega)⟩))))))⟩ hP hS dX11_count_89
