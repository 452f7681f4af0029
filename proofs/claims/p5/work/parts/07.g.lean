set_option maxHeartbeats 4000000 in
set_option maxRecDepth 100000 in
theorem c_X11_bowler (l : Launch) (D : va_G) (cI cL : ClassId) (ad zz : Nat → Nat) (hJ : jD ad) (σ : Nat → Nat → Int32) (τ : Nat → Nat → Int64) (a1 : Int32) (A1 : Int) (t1 : a1.toInt = A1) (a2 : Int32) (A2 : Int) (t2 : a2.toInt = A2) (a3 : Int32) (A3 : Int) (t3 : a3.toInt = A3) (hI2 : jI2 σ) : jM l yX11_bowler cX11_bowler 4 (some .int) ({ frames := 1, cells := 0, slots := 0, locals := 25 }) D cI cL ad zz [.ref (ad 0), .int a1, .int a2, .int a3] σ τ (fun r σ' τ' => τ = τ' ∧ (∀ i : Nat, (i < 2 ∨ 5 < i) → σ' i = σ i) ∧ (∀ k : Nat, (k < 0 ∨ 0 < k) → σ' 2 k = σ 2 k) ∧ (jI2 σ') ∧ True) := by
  refine jM.of hJ (by decide +kernel) (nt := .int) rfl (Nat.le_of_ble_eq_true rfl) ?_
  intro p e s m args below meth c Q ls hC hret hl hP
  obtain ⟨hx, hb, hr, hml, hown, hts, hK, -, hlocks, hZ⟩ := hC
  have hown : s.vm.findClass RX11 = some m.cls := hown
  have hS : va_S (jA ad) s.heap s.heap [] := va_S.rf
  have hA : ∀ q, jA ad q → jA ad q := fun _ h => h
  have hl : lv_has ls 4 [(0, .ref (ad 0)), (1, .int a1), (2, .int a2), (3, .int a3)] := hl
  have g1 := jrg t1
  have g2 := jrg t2
  have g3 := jrg t3
  obtain ⟨i1, i2, i3, i4, i5, w6⟩ : (0 ≤ (σ 2 0).toInt ∧ (σ 2 0).toInt ≤ 4) ∧ (0 ≤ (σ 2 1).toInt ∧ (σ 2 1).toInt ≤ 3) ∧ (0 ≤ (σ 2 2).toInt) ∧ (0 ≤ (σ 2 3).toInt) ∧ ((σ 2 2).toInt + (σ 2 3).toInt ≤ 40) ∧ (∀ k : Nat, k < 40 → 0 ≤ (σ 6 k).toInt ∧ (σ 6 k).toInt ≤ 67) := id hI2
  refine lv_iload_n hx hb dX11_bowler_0 rfl (lv_at hl 1 rfl) ?_
  refine lv_iconst (v := 0) hx hb dX11_bowler_1 (by decide) ?_
  refine lv_bipush (v := 8) hx hb dX11_bowler_2 (by decide) ?_
  refine jcallS (As := [.int a1, .int 0, .int 8]) (rest := []) ⟨hx, hb, hml, hown, hts⟩ hK hP hA hS hZ (c_X11_outside l D cI cL ad zz hJ σ τ a1 (A1) t1 0 (0) jz_0 8 (8) jz_8) cw_RX11_94 ⟨Nat.le_of_ble_eq_true rfl, Nat.le_of_ble_eq_true rfl⟩ rfl rfl rfl hl.1 rfl (Nat.le_of_ble_eq_true rfl) dX11_bowler_4 ⟨Nat.zero_le _, Nat.zero_le _⟩ (fun r8 σ7 τ7 H locs h7 hP hS => ?_)
  obtain ⟨⟨rfl, rfl⟩, h7⟩ := h7
  rcases h7 with h9 | h10
  · obtain ⟨q12, k11⟩ := h9
    have q12 := q12.symm
    subst q12
    refine lv_if_ne (tgt := 30) hx hb dX11_bowler_7 (by decide) (fun _ => ?_) (fun c => absurd c (by decide))
    refine lv_iconst (v := (-1)) hx hb dX11_bowler_30 (by decide) ?_
    have I13 : jI2 σ := ⟨(by omega), (by omega), (by omega), (by omega), (by omega), w6⟩
    exact hret (-1) σ τ _ _ _ _ rfl ⟨rfl, (fun _ _ => rfl), (fun _ _ => rfl), I13, trivial⟩ hP hS dX11_bowler_31
  · obtain ⟨q15, k14⟩ := h10
    have q15 := q15.symm
    subst q15
    refine lv_if_ne (tgt := 30) hx hb dX11_bowler_7 (by decide) (fun c => absurd (by decide) c) (fun _ => ?_)
    refine lv_iload_n hx hb dX11_bowler_10 rfl (lv_at hl 2 rfl) ?_
    refine lv_iconst (v := 0) hx hb dX11_bowler_11 (by decide) ?_
    refine lv_bipush (v := 50) hx hb dX11_bowler_12 (by decide) ?_
    refine jcallS (As := [.int a2, .int 0, .int 50]) (rest := []) ⟨hx, hb, hml, hown, hts⟩ hK hP hA hS hZ (c_X11_outside l D cI cL ad zz hJ σ τ a2 (A2) t2 0 (0) jz_0 50 (50) jz_50) cw_RX11_94 ⟨Nat.le_of_ble_eq_true rfl, Nat.le_of_ble_eq_true rfl⟩ rfl rfl rfl hl.1 rfl (Nat.le_of_ble_eq_true rfl) dX11_bowler_14 ⟨Nat.zero_le _, Nat.zero_le _⟩ (fun r17 σ16 τ16 H locs h16 hP hS => ?_)
    obtain ⟨⟨rfl, rfl⟩, h16⟩ := h16
    rcases h16 with h18 | h19
    · obtain ⟨q21, k20⟩ := h18
      have q21 := q21.symm
      subst q21
      refine lv_if_ne (tgt := 30) hx hb dX11_bowler_17 (by decide) (fun _ => ?_) (fun c => absurd c (by decide))
      refine lv_iconst (v := (-1)) hx hb dX11_bowler_30 (by decide) ?_
      have I22 : jI2 σ := ⟨(by omega), (by omega), (by omega), (by omega), (by omega), w6⟩
      exact hret (-1) σ τ _ _ _ _ rfl ⟨rfl, (fun _ _ => rfl), (fun _ _ => rfl), I22, trivial⟩ hP hS dX11_bowler_31
    · obtain ⟨q24, k23⟩ := h19
      have q24 := q24.symm
      subst q24
      refine lv_if_ne (tgt := 30) hx hb dX11_bowler_17 (by decide) (fun c => absurd (by decide) c) (fun _ => ?_)
      refine lv_iload_n hx hb dX11_bowler_20 rfl (lv_at hl 3 rfl) ?_
      refine lv_iconst (v := 0) hx hb dX11_bowler_21 (by decide) ?_
      refine lv_bipush (v := 20) hx hb dX11_bowler_22 (by decide) ?_
      refine jcallS (As := [.int a3, .int 0, .int 20]) (rest := []) ⟨hx, hb, hml, hown, hts⟩ hK hP hA hS hZ (c_X11_outside l D cI cL ad zz hJ σ τ a3 (A3) t3 0 (0) jz_0 20 (20) jz_20) cw_RX11_94 ⟨Nat.le_of_ble_eq_true rfl, Nat.le_of_ble_eq_true rfl⟩ rfl rfl rfl hl.1 rfl (Nat.le_of_ble_eq_true rfl) dX11_bowler_24 ⟨Nat.zero_le _, Nat.zero_le _⟩ (fun r26 σ25 τ25 H locs h25 hP hS => ?_)
      obtain ⟨⟨rfl, rfl⟩, h25⟩ := h25
      rcases h25 with h27 | h28
      · obtain ⟨q30, k29⟩ := h27
        have q30 := q30.symm
        subst q30
        refine lv_if_eq (tgt := 32) hx hb dX11_bowler_27 (by decide) (fun c => absurd c (by decide)) (fun _ => ?_)
        refine lv_iconst (v := (-1)) hx hb dX11_bowler_30 (by decide) ?_
        have I31 : jI2 σ := ⟨(by omega), (by omega), (by omega), (by omega), (by omega), w6⟩
        exact hret (-1) σ τ _ _ _ _ rfl ⟨rfl, (fun _ _ => rfl), (fun _ _ => rfl), I31, trivial⟩ hP hS dX11_bowler_31
      · obtain ⟨q33, k32⟩ := h28
        have q33 := q33.symm
        subst q33
        refine lv_if_eq (tgt := 32) hx hb dX11_bowler_27 (by decide) (fun _ => ?_) (fun c => absurd (by decide) c)
        refine lv_aload_n hx hb dX11_bowler_32 rfl (lv_at hl 0 rfl) ?_
        refine va_get (D := D) hx hb hts inlX11 hown hK hP 0 (jc_0 cI cL ad σ τ) rfl 0 (by decide) (hts _ kw_1_16) (fun _ h9 => h9) rfl dX11_bowler_33 ?_
        refine va_get (D := D) hx hb hts inlX4 hown hK hP 2 (jc_2 cI cL ad σ τ) rfl 0 (by decide) (hts _ kw_8_21) (fun _ h9 => h9) rfl dX11_bowler_36 ?_
        refine lv_iconst (v := 4) hx hb dX11_bowler_39 (by decide) ?_
        refine lv_icmp_lt (tgt := 46) hx hb dX11_bowler_40 (by decide) (fun c34 => ?_) (fun c34 => ?_)
        · have kc34 := jlt c34 rfl jz_4
          refine lv_aload_n hx hb dX11_bowler_46 rfl (lv_at hl 0 rfl) ?_
          refine va_get (D := D) hx hb hts inlX11 hown hK hP 0 (jc_0 cI cL ad σ τ) rfl 0 (by decide) (hts _ kw_1_16) (fun _ h9 => h9) rfl dX11_bowler_47 ?_
          refine lv_iload_n hx hb dX11_bowler_50 rfl (lv_at hl 1 rfl) ?_
          refine lv_iload_n hx hb dX11_bowler_51 rfl (lv_at hl 2 rfl) ?_
          refine lv_iload_n hx hb dX11_bowler_52 rfl (lv_at hl 3 rfl) ?_
          have I35 : jI2 σ := ⟨(by omega), (by omega), (by omega), (by omega), (by omega), w6⟩
          refine jcallV (As := [.int a1, .int a2, .int a3]) (rest := []) ⟨hx, hb, hml, hown, hts⟩ hK hP hA hS hZ (c_X4_join_2 l D cI cL ad zz hJ σ τ a1 (A1) t1 a2 (A2) t2 a3 (A3) t3 I35) cw_RX11_102 (jc_2 cI cL ad σ τ) rfl ⟨Nat.le_of_ble_eq_true rfl, Nat.le_of_ble_eq_true rfl⟩ rfl rfl rfl hl.1 rfl (Nat.le_of_ble_eq_true rfl) dX11_bowler_53 ⟨Nat.zero_le _, Nat.zero_le _⟩ (fun r37 σ36 τ36 H locs h36 hP hS => ?_)
          obtain ⟨rfl, f38, f39, I40, h36⟩ := h36
          obtain ⟨i41, i42, i43, i44, i45, w46⟩ : (0 ≤ (σ36 2 0).toInt ∧ (σ36 2 0).toInt ≤ 4) ∧ (0 ≤ (σ36 2 1).toInt ∧ (σ36 2 1).toInt ≤ 3) ∧ (0 ≤ (σ36 2 2).toInt) ∧ (0 ≤ (σ36 2 3).toInt) ∧ ((σ36 2 2).toInt + (σ36 2 3).toInt ≤ 40) ∧ (∀ k : Nat, k < 40 → 0 ≤ (σ36 6 k).toInt ∧ (σ36 6 k).toInt ≤ 67) := id I40
          have z47 : (σ36 2 1).toInt = (σ 2 1).toInt := by rw [(show σ36 2 1 = (σ 2 1) from (by rw [f39 1 (by omega)]))]
          have z48 : (σ36 2 2).toInt = (σ 2 2).toInt := by rw [(show σ36 2 2 = (σ 2 2) from (by rw [f39 2 (by omega)]))]
          have z49 : (σ36 2 3).toInt = (σ 2 3).toInt := by rw [(show σ36 2 3 = (σ 2 3) from (by rw [f39 3 (by omega)]))]
          rcases h36 with h50 | h51
          · obtain ⟨q54, k52, k53⟩ := h50
            exact absurd (by omega : False) id
          · obtain ⟨q58, k55, k56, k57⟩ := h51
            exact hret r37 σ36 τ _ _ _ _ rfl ⟨rfl, (fun i hi => by rw [f38 i (by omega)]), (fun k hk => by rw [f39 k (by omega)]), I40, trivial⟩ hP hS dX11_bowler_56
        · have kc34 := jnlt c34 rfl jz_4
          refine lv_bipush (v := (-3)) hx hb dX11_bowler_43 (by decide) ?_
          have I59 : jI2 σ := ⟨(by omega), (by omega), (by omega), (by omega), (by omega), w6⟩
          exact hret (-3) σ τ _ _ _ _ rfl ⟨rfl, (fun _ _ => rfl), (fun _ _ => rfl), I59, trivial⟩ hP hS dX11_bowler_45
set_option maxHeartbeats 4000000 in
set_option maxRecDepth 100000 in
theorem c_X11_edgePlace (l : Launch) (D : va_G) (cI cL : ClassId) (ad zz : Nat → Nat) (hJ : jD ad) (σ : Nat → Nat → Int32) (τ : Nat → Nat → Int64) (a1 : Int32) (A1 : Int) (t1 : a1.toInt = A1) (a2 : Int32) (A2 : Int) (t2 : a2.toInt = A2) (hI2 : jI2 σ) : jM l yX11_edgePlace cX11_edgePlace 3 (some .int) ({ frames := 2, cells := 0, slots := 0, locals := 43 }) D cI cL ad zz [.ref (ad 0), .int a1, .int a2] σ τ (fun r σ' τ' => (σ = σ' ∧ τ = τ') ∧ ((True ∧ ((-1) ≤ r.toInt ∧ r.toInt ≤ 67)))) := by
  refine jM.of hJ (by decide +kernel) (nt := .int) rfl (Nat.le_of_ble_eq_true rfl) ?_
  intro p e s m args below meth c Q ls hC hret hl hP
  obtain ⟨hx, hb, hr, hml, hown, hts, hK, -, hlocks, hZ⟩ := hC
  have hown : s.vm.findClass RX11 = some m.cls := hown
  have hS : va_S (jA ad) s.heap s.heap [] := va_S.rf
  have hA : ∀ q, jA ad q → jA ad q := fun _ h => h
  have hl : lv_has ls 3 [(0, .ref (ad 0)), (1, .int a1), (2, .int a2)] := hl
  have g1 := jrg t1
  have g2 := jrg t2
  obtain ⟨i1, i2, i3, i4, i5, w6⟩ : (0 ≤ (σ 2 0).toInt ∧ (σ 2 0).toInt ≤ 4) ∧ (0 ≤ (σ 2 1).toInt ∧ (σ 2 1).toInt ≤ 3) ∧ (0 ≤ (σ 2 2).toInt) ∧ (0 ≤ (σ 2 3).toInt) ∧ ((σ 2 2).toInt + (σ 2 3).toInt ≤ 40) ∧ (∀ k : Nat, k < 40 → 0 ≤ (σ 6 k).toInt ∧ (σ 6 k).toInt ≤ 67) := id hI2
  refine lv_iload_n hx hb dX11_edgePlace_0 rfl (lv_at hl 1 rfl) ?_
  refine lv_if_lt (tgt := 15) hx hb dX11_edgePlace_1 (by decide) (fun c7 => ?_) (fun c7 => ?_)
  · have kc7 := jlt c7 t1 jz_0
    refine lv_iconst (v := (-1)) hx hb dX11_edgePlace_15 (by decide) ?_
    exact hret (-1) σ τ _ _ _ _ rfl ⟨⟨rfl, rfl⟩, ⟨trivial, (by have h9 := jz_m1; omega)⟩⟩ hP hS dX11_edgePlace_16
  · have kc7 := jnlt c7 t1 jz_0
    refine lv_aload_n hx hb dX11_edgePlace_4 rfl (lv_at hl 0 rfl) ?_
    refine lv_iload_n hx hb dX11_edgePlace_5 rfl (lv_at hl 1 rfl) ?_
    refine lv_bipush (v := 10) hx hb dX11_edgePlace_6 (by decide) ?_
    refine lv_idiv hx hb dX11_edgePlace_8 (by decide) ?_
    refine lv_topi (fun x8 ex8 => ?_)
    have tx8 : x8.toInt = (A1 / 10) := jdiv ex8 t1 jz_10 (by omega) (by omega)
    have I9 : jI2 σ := ⟨(by omega), (by omega), (by omega), (by omega), (by omega), w6⟩
    refine jcallV (As := [.int x8]) (rest := []) ⟨hx, hb, hml, hown, hts⟩ hK hP hA hS hZ (c_X11_noBowler l D cI cL ad zz hJ σ τ x8 ((A1 / 10)) tx8 I9) cw_RX11_152 (jc_0 cI cL ad σ τ) rfl ⟨Nat.le_of_ble_eq_true rfl, Nat.le_of_ble_eq_true rfl⟩ rfl rfl rfl hl.1 rfl (Nat.le_of_ble_eq_true rfl) dX11_edgePlace_9 ⟨Nat.zero_le _, Nat.zero_le _⟩ (fun r11 σ10 τ10 H locs h10 hP hS => ?_)
    obtain ⟨⟨rfl, rfl⟩, h10⟩ := h10
    rcases h10 with h12 | h13
    · obtain ⟨q15, k14⟩ := h12
      have q15 := q15.symm
      subst q15
      refine lv_if_eq (tgt := 17) hx hb dX11_edgePlace_12 (by decide) (fun c => absurd c (by decide)) (fun _ => ?_)
      refine lv_iconst (v := (-1)) hx hb dX11_edgePlace_15 (by decide) ?_
      exact hret (-1) σ τ _ _ _ _ rfl ⟨⟨rfl, rfl⟩, ⟨trivial, (by have h9 := jz_m1; omega)⟩⟩ hP hS dX11_edgePlace_16
    · obtain ⟨q17, k16⟩ := h13
      have q17 := q17.symm
      subst q17
      refine lv_if_eq (tgt := 17) hx hb dX11_edgePlace_12 (by decide) (fun _ => ?_) (fun c => absurd (by decide) c)
      refine lv_iload_n hx hb dX11_edgePlace_17 rfl (lv_at hl 2 rfl) ?_
      refine lv_iconst (v := 2) hx hb dX11_edgePlace_18 (by decide) ?_
      refine lv_icmp_ne (tgt := 30) hx hb dX11_edgePlace_19 (by decide) (fun c18 => ?_) (fun c18 => ?_)
      · have kc18 := jne c18 t2 jz_2
        refine lv_iload_n hx hb dX11_edgePlace_30 rfl (lv_at hl 2 rfl) ?_
        refine lv_iconst (v := 0) hx hb dX11_edgePlace_31 (by decide) ?_
        refine lv_iconst (v := 1) hx hb dX11_edgePlace_32 (by decide) ?_
        refine jcallS (As := [.int a2, .int 0, .int 1]) (rest := []) ⟨hx, hb, hml, hown, hts⟩ hK hP hA hS hZ (c_X11_outside l D cI cL ad zz hJ σ τ a2 (A2) t2 0 (0) jz_0 1 (1) jz_1) cw_RX11_94 ⟨Nat.le_of_ble_eq_true rfl, Nat.le_of_ble_eq_true rfl⟩ rfl rfl rfl hl.1 rfl (Nat.le_of_ble_eq_true rfl) dX11_edgePlace_33 ⟨Nat.zero_le _, Nat.zero_le _⟩ (fun r20 σ19 τ19 H locs h19 hP hS => ?_)
        obtain ⟨⟨rfl, rfl⟩, h19⟩ := h19
        rcases h19 with h21 | h22
        · obtain ⟨q24, k23⟩ := h21
          have q24 := q24.symm
          subst q24
          refine lv_if_ne (tgt := 51) hx hb dX11_edgePlace_36 (by decide) (fun _ => ?_) (fun c => absurd c (by decide))
          refine lv_iconst (v := (-1)) hx hb dX11_edgePlace_51 (by decide) ?_
          exact hret (-1) σ τ _ _ _ _ rfl ⟨⟨rfl, rfl⟩, ⟨trivial, (by have h9 := jz_m1; omega)⟩⟩ hP hS dX11_edgePlace_52
        · obtain ⟨q26, k25⟩ := h22
          have q26 := q26.symm
          subst q26
          refine lv_if_ne (tgt := 51) hx hb dX11_edgePlace_36 (by decide) (fun c => absurd (by decide) c) (fun _ => ?_)
          refine lv_iload_n hx hb dX11_edgePlace_39 rfl (lv_at hl 1 rfl) ?_
          refine lv_bipush (v := 10) hx hb dX11_edgePlace_40 (by decide) ?_
          refine lv_irem hx hb dX11_edgePlace_42 (by decide) ?_
          refine lv_topi (fun x27 ex27 => ?_)
          have tx27 : x27.toInt = (A1 % 10) := jrem ex27 t1 jz_10 (by omega)
          refine lv_iconst (v := 0) hx hb dX11_edgePlace_43 (by decide) ?_
          refine lv_iconst (v := 3) hx hb dX11_edgePlace_44 (by decide) ?_
          refine jcallS (As := [.int x27, .int 0, .int 3]) (rest := []) ⟨hx, hb, hml, hown, hts⟩ hK hP hA hS hZ (c_X11_outside l D cI cL ad zz hJ σ τ x27 ((A1 % 10)) tx27 0 (0) jz_0 3 (3) jz_3) cw_RX11_94 ⟨Nat.le_of_ble_eq_true rfl, Nat.le_of_ble_eq_true rfl⟩ rfl rfl rfl hl.1 rfl (Nat.le_of_ble_eq_true rfl) dX11_edgePlace_45 ⟨Nat.zero_le _, Nat.zero_le _⟩ (fun r29 σ28 τ28 H locs h28 hP hS => ?_)
          obtain ⟨⟨rfl, rfl⟩, h28⟩ := h28
          rcases h28 with h30 | h31
          · obtain ⟨q33, k32⟩ := h30
            have q33 := q33.symm
            subst q33
            refine lv_if_eq (tgt := 53) hx hb dX11_edgePlace_48 (by decide) (fun c => absurd c (by decide)) (fun _ => ?_)
            refine lv_iconst (v := (-1)) hx hb dX11_edgePlace_51 (by decide) ?_
            exact hret (-1) σ τ _ _ _ _ rfl ⟨⟨rfl, rfl⟩, ⟨trivial, (by have h9 := jz_m1; omega)⟩⟩ hP hS dX11_edgePlace_52
          · obtain ⟨q35, k34⟩ := h31
            have q35 := q35.symm
            subst q35
            refine lv_if_eq (tgt := 53) hx hb dX11_edgePlace_48 (by decide) (fun _ => ?_) (fun c => absurd (by decide) c)
            refine lv_iload_n hx hb dX11_edgePlace_53 rfl (lv_at hl 2 rfl) ?_
            refine lv_if_ne (tgt := 61) hx hb dX11_edgePlace_54 (by decide) (fun c36 => ?_) (fun c36 => ?_)
            · have kc36 := jne c36 t2 jz_0
              refine lv_bipush (v := 16) hx hb dX11_edgePlace_61 (by decide) ?_
              refine lv_iload_n hx hb dX11_edgePlace_63 rfl (lv_at hl 1 rfl) ?_
              refine lv_bipush (v := 10) hx hb dX11_edgePlace_64 (by decide) ?_
              refine lv_idiv hx hb dX11_edgePlace_66 (by decide) ?_
              refine lv_topi (fun x37 ex37 => ?_)
              have tx37 : x37.toInt = (A1 / 10) := jdiv ex37 t1 jz_10 (by omega) (by omega)
              refine lv_iconst (v := 4) hx hb dX11_edgePlace_67 (by decide) ?_
              refine lv_imul hx hb dX11_edgePlace_68 ?_
              refine lv_topi (fun x38 ex38 => ?_)
              have tx38 : x38.toInt = 4 * (A1 / 10) := (jmul ex38 tx37 jz_4 (by omega) (by omega)).trans (by omega)
              refine lv_iadd hx hb dX11_edgePlace_69 ?_
              refine lv_topi (fun x39 ex39 => ?_)
              have tx39 : x39.toInt = 4 * (A1 / 10) + 16 := (jadd ex39 jz_16 tx38 (by omega) (by omega)).trans (by omega)
              refine lv_iload_n hx hb dX11_edgePlace_70 rfl (lv_at hl 1 rfl) ?_
              refine lv_bipush (v := 10) hx hb dX11_edgePlace_71 (by decide) ?_
              refine lv_irem hx hb dX11_edgePlace_73 (by decide) ?_
              refine lv_topi (fun x40 ex40 => ?_)
              have tx40 : x40.toInt = (A1 % 10) := jrem ex40 t1 jz_10 (by omega)
              refine lv_iadd hx hb dX11_edgePlace_74 ?_
              refine lv_topi (fun x41 ex41 => ?_)
              have tx41 : x41.toInt = 4 * (A1 / 10) + (A1 % 10) + 16 := (jadd ex41 tx39 tx40 (by omega) (by omega)).trans (by omega)
              exact hret x41 σ τ _ _ _ _ rfl ⟨⟨rfl, rfl⟩, ⟨trivial, (by have h9 := tx41; omega)⟩⟩ hP hS dX11_edgePlace_75
            · have kc36 := jeq c36 t2 jz_0
              refine lv_iconst (v := 0) hx hb dX11_edgePlace_57 (by decide) ?_
              refine lv_goto (tgt := 63) hx hb dX11_edgePlace_58 (by decide) ?_
              refine lv_iload_n hx hb dX11_edgePlace_63 rfl (lv_at hl 1 rfl) ?_
              refine lv_bipush (v := 10) hx hb dX11_edgePlace_64 (by decide) ?_
              refine lv_idiv hx hb dX11_edgePlace_66 (by decide) ?_
              refine lv_topi (fun x42 ex42 => ?_)
              have tx42 : x42.toInt = (A1 / 10) := jdiv ex42 t1 jz_10 (by omega) (by omega)
              refine lv_iconst (v := 4) hx hb dX11_edgePlace_67 (by decide) ?_
              refine lv_imul hx hb dX11_edgePlace_68 ?_
              refine lv_topi (fun x43 ex43 => ?_)
              have tx43 : x43.toInt = 4 * (A1 / 10) := (jmul ex43 tx42 jz_4 (by omega) (by omega)).trans (by omega)
              refine lv_iadd hx hb dX11_edgePlace_69 ?_
              refine jtopr (y := x43) (by rw [Int32.zero_add]) ?_
              refine lv_iload_n hx hb dX11_edgePlace_70 rfl (lv_at hl 1 rfl) ?_
              refine lv_bipush (v := 10) hx hb dX11_edgePlace_71 (by decide) ?_
              refine lv_irem hx hb dX11_edgePlace_73 (by decide) ?_
              refine lv_topi (fun x44 ex44 => ?_)
              have tx44 : x44.toInt = (A1 % 10) := jrem ex44 t1 jz_10 (by omega)
              refine lv_iadd hx hb dX11_edgePlace_74 ?_
              refine lv_topi (fun x45 ex45 => ?_)
              have tx45 : x45.toInt = 4 * (A1 / 10) + (A1 % 10) := (jadd ex45 tx43 tx44 (by omega) (by omega)).trans (by omega)
              exact hret x45 σ τ _ _ _ _ rfl ⟨⟨rfl, rfl⟩, ⟨trivial, (by have h9 := tx45; omega)⟩⟩ hP hS dX11_edgePlace_75
      · have kc18 := jeq c18 t2 jz_2
        refine lv_bipush (v := 32) hx hb dX11_edgePlace_22 (by decide) ?_
        refine lv_iload_n hx hb dX11_edgePlace_24 rfl (lv_at hl 1 rfl) ?_
        refine lv_bipush (v := 10) hx hb dX11_edgePlace_25 (by decide) ?_
        refine lv_idiv hx hb dX11_edgePlace_27 (by decide) ?_
        refine lv_topi (fun x46 ex46 => ?_)
        have tx46 : x46.toInt = (A1 / 10) := jdiv ex46 t1 jz_10 (by omega) (by omega)
        refine lv_iadd hx hb dX11_edgePlace_28 ?_
        refine lv_topi (fun x47 ex47 => ?_)
        have tx47 : x47.toInt = (A1 / 10) + 32 := (jadd ex47 jz_32 tx46 (by omega) (by omega)).trans (by omega)
        exact hret x47 σ τ _ _ _ _ rfl ⟨⟨rfl, rfl⟩, ⟨trivial, (by have h9 := tx47; omega)⟩⟩ hP hS dX11_edgePlace_29
set_option maxHeartbeats 4000000 in
set_option maxRecDepth 100000 in
theorem c_X11_edge (l : Launch) (D : va_G) (cI cL : ClassId) (ad zz : Nat → Nat) (hJ : jD ad) (σ : Nat → Nat → Int32) (τ : Nat → Nat → Int64) (a1 : Int32) (A1 : Int) (t1 : a1.toInt = A1) (a2 : Int32) (A2 : Int) (t2 : a2.toInt = A2) (a3 : Int32) (A3 : Int) (t3 : a3.toInt = A3) (hI2 : jI2 σ) : jM l yX11_edge cX11_edge 5 (some .int) ({ frames := 3, cells := 0, slots := 0, locals := 65 }) D cI cL ad zz [.ref (ad 0), .int a1, .int a2, .int a3] σ τ (fun r σ' τ' => τ = τ' ∧ (∀ i : Nat, (i < 2 ∨ 3 < i) ∧ (i < 6 ∨ 8 < i) → σ' i = σ i) ∧ (∀ k : Nat, (k < 2 ∨ 2 < k) ∧ (k < 3 ∨ 3 < k) → σ' 2 k = σ 2 k) ∧ (jI2 σ') ∧ True) := by
  refine jM.of hJ (by decide +kernel) (nt := .int) rfl (Nat.le_of_ble_eq_true rfl) ?_
  intro p e s m args below meth c Q ls hC hret hl hP
  obtain ⟨hx, hb, hr, hml, hown, hts, hK, -, hlocks, hZ⟩ := hC
  have hown : s.vm.findClass RX11 = some m.cls := hown
  have hS : va_S (jA ad) s.heap s.heap [] := va_S.rf
  have hA : ∀ q, jA ad q → jA ad q := fun _ h => h
  have hl : lv_has ls 5 [(0, .ref (ad 0)), (1, .int a1), (2, .int a2), (3, .int a3)] := hl
  have g1 := jrg t1
  have g2 := jrg t2
  have g3 := jrg t3
  obtain ⟨i1, i2, i3, i4, i5, w6⟩ : (0 ≤ (σ 2 0).toInt ∧ (σ 2 0).toInt ≤ 4) ∧ (0 ≤ (σ 2 1).toInt ∧ (σ 2 1).toInt ≤ 3) ∧ (0 ≤ (σ 2 2).toInt) ∧ (0 ≤ (σ 2 3).toInt) ∧ ((σ 2 2).toInt + (σ 2 3).toInt ≤ 40) ∧ (∀ k : Nat, k < 40 → 0 ≤ (σ 6 k).toInt ∧ (σ 6 k).toInt ≤ 67) := id hI2
  refine lv_aload_n hx hb dX11_edge_0 rfl (lv_at hl 0 rfl) ?_
  refine lv_iload_n hx hb dX11_edge_1 rfl (lv_at hl 1 rfl) ?_
  refine lv_iload_n hx hb dX11_edge_2 rfl (lv_at hl 2 rfl) ?_
  have I7 : jI2 σ := ⟨(by omega), (by omega), (by omega), (by omega), (by omega), w6⟩
  refine jcallV (As := [.int a1, .int a2]) (rest := []) ⟨hx, hb, hml, hown, hts⟩ hK hP hA hS hZ (c_X11_edgePlace l D cI cL ad zz hJ σ τ a1 (A1) t1 a2 (A2) t2 I7) cw_RX11_106 (jc_0 cI cL ad σ τ) rfl ⟨Nat.le_of_ble_eq_true rfl, Nat.le_of_ble_eq_true rfl⟩ rfl rfl rfl hl.1 rfl (Nat.le_of_ble_eq_true rfl) dX11_edge_3 ⟨Nat.zero_le _, Nat.zero_le _⟩ (fun r9 σ8 τ8 H locs h8 hP hS => ?_)
  obtain ⟨⟨rfl, rfl⟩, h8⟩ := h8
  have h10 := h8
  obtain ⟨q12, k11⟩ := h10
  refine lv_istore (lv' := [(4, .int r9), (0, .ref (ad 0)), (1, .int a1), (2, .int a2), (3, .int a3)]) hx hb dX11_edge_6 hl (by decide) rfl (fun ls hl => ?_)
  refine lv_iload hx hb dX11_edge_8 (lv_at hl 0 rfl) ?_
  refine lv_if_lt (tgt := 30) hx hb dX11_edge_10 (by decide) (fun c13 => ?_) (fun c13 => ?_)
  · have kc13 := jlt c13 rfl jz_0
    refine lv_ldc (v := (-2000000000)) hx hb hown (hts _ kw_9_21) dX11_edge_30 ?_
    exact hret (-2000000000) σ τ _ _ _ _ rfl ⟨rfl, (fun _ _ => rfl), (fun _ _ => rfl), I7, trivial⟩ hP hS dX11_edge_32
  · have kc13 := jnlt c13 rfl jz_0
    refine lv_iload_n hx hb dX11_edge_13 rfl (lv_at hl 4 rfl) ?_
    refine lv_iload hx hb dX11_edge_14 (lv_at hl 0 rfl) ?_
    refine jcallS (As := [.int r9]) (rest := [.int a3]) ⟨hx, hb, hml, hown, hts⟩ hK hP hA hS hZ (c_X4_lowest l D cI cL ad zz hJ σ τ r9 (r9.toInt) rfl) cw_RX11_110 ⟨Nat.le_of_ble_eq_true rfl, Nat.le_of_ble_eq_true rfl⟩ rfl rfl rfl hl.1 rfl (Nat.le_of_ble_eq_true rfl) dX11_edge_16 ⟨Nat.zero_le _, Nat.zero_le _⟩ (fun r15 σ14 τ14 H locs h14 hP hS => ?_)
    obtain ⟨⟨rfl, rfl⟩, h14⟩ := h14
    rcases h14 with h16 | h17 | h18
    · obtain ⟨q20, k19⟩ := h16
      have q20 := q20.symm
      subst q20
      refine lv_iload hx hb dX11_edge_19 (lv_at hl 0 rfl) ?_
      refine jcallS (As := [.int r9]) (rest := [.int 0, .int a3]) ⟨hx, hb, hml, hown, hts⟩ hK hP hA hS hZ (c_X4_highest l D cI cL ad zz hJ σ τ r9 (r9.toInt) rfl) cw_RX11_114 ⟨Nat.le_of_ble_eq_true rfl, Nat.le_of_ble_eq_true rfl⟩ rfl rfl rfl hl.1 rfl (Nat.le_of_ble_eq_true rfl) dX11_edge_21 ⟨Nat.zero_le _, Nat.zero_le _⟩ (fun r22 σ21 τ21 H locs h21 hP hS => ?_)
      obtain ⟨⟨rfl, rfl⟩, h21⟩ := h21
      rcases h21 with h23 | h24 | h25 | h26
      · obtain ⟨q28, k27⟩ := h23
        have q28 := q28.symm
        subst q28
        refine jcallS (As := [.int a3, .int 0, .int 500]) (rest := []) ⟨hx, hb, hml, hown, hts⟩ hK hP hA hS hZ (c_X11_outside l D cI cL ad zz hJ σ τ a3 (A3) t3 0 (0) jz_0 500 (500) jz_500) cw_RX11_94 ⟨Nat.le_of_ble_eq_true rfl, Nat.le_of_ble_eq_true rfl⟩ rfl rfl rfl hl.1 rfl (Nat.le_of_ble_eq_true rfl) dX11_edge_24 ⟨Nat.zero_le _, Nat.zero_le _⟩ (fun r30 σ29 τ29 H locs h29 hP hS => ?_)
        obtain ⟨⟨rfl, rfl⟩, h29⟩ := h29
        rcases h29 with h31 | h32
        · obtain ⟨q34, k33⟩ := h31
          have q34 := q34.symm
          subst q34
          refine lv_if_eq (tgt := 33) hx hb dX11_edge_27 (by decide) (fun c => absurd c (by decide)) (fun _ => ?_)
          refine lv_ldc (v := (-2000000000)) hx hb hown (hts _ kw_9_21) dX11_edge_30 ?_
          exact hret (-2000000000) σ τ _ _ _ _ rfl ⟨rfl, (fun _ _ => rfl), (fun _ _ => rfl), I7, trivial⟩ hP hS dX11_edge_32
        · obtain ⟨q36, k35⟩ := h32
          have q36 := q36.symm
          subst q36
          refine lv_if_eq (tgt := 33) hx hb dX11_edge_27 (by decide) (fun _ => ?_) (fun c => absurd (by decide) c)
          refine lv_aload_n hx hb dX11_edge_33 rfl (lv_at hl 1 rfl) ?_
          refine va_get (D := D) hx hb hts inlX11 hown hK hP 0 (jc_0 cI cL ad σ τ) rfl 0 (by decide) (hts _ kw_1_16) (fun _ h9 => h9) rfl dX11_edge_34 ?_
          refine lv_iload hx hb dX11_edge_37 (lv_at hl 0 rfl) ?_
          refine lv_iload_n hx hb dX11_edge_39 rfl (lv_at hl 4 rfl) ?_
          refine jcallV (As := [.int r9, .int a3]) (rest := []) ⟨hx, hb, hml, hown, hts⟩ hK hP hA hS hZ (c_X4_change_2 l D cI cL ad zz hJ σ τ r9 (r9.toInt) rfl a3 (A3) t3 I7 (by omega)) cw_RX11_118 (jc_2 cI cL ad σ τ) rfl ⟨Nat.le_of_ble_eq_true rfl, Nat.le_of_ble_eq_true rfl⟩ rfl rfl rfl hl.1 rfl (Nat.le_of_ble_eq_true rfl) dX11_edge_40 ⟨Nat.zero_le _, Nat.zero_le _⟩ (fun r38 σ37 τ37 H locs h37 hP hS => ?_)
          obtain ⟨rfl, f39, f40, I41, h37⟩ := h37
          obtain ⟨i42, i43, i44, i45, i46, w47⟩ : (0 ≤ (σ37 2 0).toInt ∧ (σ37 2 0).toInt ≤ 4) ∧ (0 ≤ (σ37 2 1).toInt ∧ (σ37 2 1).toInt ≤ 3) ∧ (0 ≤ (σ37 2 2).toInt) ∧ (0 ≤ (σ37 2 3).toInt) ∧ ((σ37 2 2).toInt + (σ37 2 3).toInt ≤ 40) ∧ (∀ k : Nat, k < 40 → 0 ≤ (σ37 6 k).toInt ∧ (σ37 6 k).toInt ≤ 67) := id I41
          have z48 : (σ37 2 0).toInt = (σ 2 0).toInt := by rw [(show σ37 2 0 = (σ 2 0) from (by rw [f40 0 (by omega)]))]
          have z49 : (σ37 2 1).toInt = (σ 2 1).toInt := by rw [(show σ37 2 1 = (σ 2 1) from (by rw [f40 1 (by omega)]))]
          exact hret r38 σ37 τ _ _ _ _ rfl ⟨rfl, (fun i hi => by rw [f39 i (by omega)]), (fun k hk => by rw [f40 k (by omega)]), I41, trivial⟩ hP hS dX11_edge_43
      · obtain ⟨q51, k50⟩ := h24
        exact absurd (by omega : False) id
      · obtain ⟨q53, k52⟩ := h25
        have q53 := q53.symm
        subst q53
        refine jcallS (As := [.int a3, .int 0, .int 8]) (rest := []) ⟨hx, hb, hml, hown, hts⟩ hK hP hA hS hZ (c_X11_outside l D cI cL ad zz hJ σ τ a3 (A3) t3 0 (0) jz_0 8 (8) jz_8) cw_RX11_94 ⟨Nat.le_of_ble_eq_true rfl, Nat.le_of_ble_eq_true rfl⟩ rfl rfl rfl hl.1 rfl (Nat.le_of_ble_eq_true rfl) dX11_edge_24 ⟨Nat.zero_le _, Nat.zero_le _⟩ (fun r55 σ54 τ54 H locs h54 hP hS => ?_)
        obtain ⟨⟨rfl, rfl⟩, h54⟩ := h54
        rcases h54 with h56 | h57
        · obtain ⟨q59, k58⟩ := h56
          have q59 := q59.symm
          subst q59
          refine lv_if_eq (tgt := 33) hx hb dX11_edge_27 (by decide) (fun c => absurd c (by decide)) (fun _ => ?_)
          refine lv_ldc (v := (-2000000000)) hx hb hown (hts _ kw_9_21) dX11_edge_30 ?_
          exact hret (-2000000000) σ τ _ _ _ _ rfl ⟨rfl, (fun _ _ => rfl), (fun _ _ => rfl), I7, trivial⟩ hP hS dX11_edge_32
        · obtain ⟨q61, k60⟩ := h57
          have q61 := q61.symm
          subst q61
          refine lv_if_eq (tgt := 33) hx hb dX11_edge_27 (by decide) (fun _ => ?_) (fun c => absurd (by decide) c)
          refine lv_aload_n hx hb dX11_edge_33 rfl (lv_at hl 1 rfl) ?_
          refine va_get (D := D) hx hb hts inlX11 hown hK hP 0 (jc_0 cI cL ad σ τ) rfl 0 (by decide) (hts _ kw_1_16) (fun _ h9 => h9) rfl dX11_edge_34 ?_
          refine lv_iload hx hb dX11_edge_37 (lv_at hl 0 rfl) ?_
          refine lv_iload_n hx hb dX11_edge_39 rfl (lv_at hl 4 rfl) ?_
          refine jcallV (As := [.int r9, .int a3]) (rest := []) ⟨hx, hb, hml, hown, hts⟩ hK hP hA hS hZ (c_X4_change_2 l D cI cL ad zz hJ σ τ r9 (r9.toInt) rfl a3 (A3) t3 I7 (by omega)) cw_RX11_118 (jc_2 cI cL ad σ τ) rfl ⟨Nat.le_of_ble_eq_true rfl, Nat.le_of_ble_eq_true rfl⟩ rfl rfl rfl hl.1 rfl (Nat.le_of_ble_eq_true rfl) dX11_edge_40 ⟨Nat.zero_le _, Nat.zero_le _⟩ (fun r63 σ62 τ62 H locs h62 hP hS => ?_)
          obtain ⟨rfl, f64, f65, I66, h62⟩ := h62
          obtain ⟨i67, i68, i69, i70, i71, w72⟩ : (0 ≤ (σ62 2 0).toInt ∧ (σ62 2 0).toInt ≤ 4) ∧ (0 ≤ (σ62 2 1).toInt ∧ (σ62 2 1).toInt ≤ 3) ∧ (0 ≤ (σ62 2 2).toInt) ∧ (0 ≤ (σ62 2 3).toInt) ∧ ((σ62 2 2).toInt + (σ62 2 3).toInt ≤ 40) ∧ (∀ k : Nat, k < 40 → 0 ≤ (σ62 6 k).toInt ∧ (σ62 6 k).toInt ≤ 67) := id I66
          have z73 : (σ62 2 0).toInt = (σ 2 0).toInt := by rw [(show σ62 2 0 = (σ 2 0) from (by rw [f65 0 (by omega)]))]
          have z74 : (σ62 2 1).toInt = (σ 2 1).toInt := by rw [(show σ62 2 1 = (σ 2 1) from (by rw [f65 1 (by omega)]))]
          exact hret r63 σ62 τ _ _ _ _ rfl ⟨rfl, (fun i hi => by rw [f64 i (by omega)]), (fun k hk => by rw [f65 k (by omega)]), I66, trivial⟩ hP hS dX11_edge_43
      · obtain ⟨q76, k75⟩ := h26
        exact absurd (by omega : False) id
    · obtain ⟨q78, k77⟩ := h17
      have q78 := q78.symm
      subst q78
      refine lv_iload hx hb dX11_edge_19 (lv_at hl 0 rfl) ?_
      refine jcallS (As := [.int r9]) (rest := [.int (-200), .int a3]) ⟨hx, hb, hml, hown, hts⟩ hK hP hA hS hZ (c_X4_highest l D cI cL ad zz hJ σ τ r9 (r9.toInt) rfl) cw_RX11_114 ⟨Nat.le_of_ble_eq_true rfl, Nat.le_of_ble_eq_true rfl⟩ rfl rfl rfl hl.1 rfl (Nat.le_of_ble_eq_true rfl) dX11_edge_21 ⟨Nat.zero_le _, Nat.zero_le _⟩ (fun r80 σ79 τ79 H locs h79 hP hS => ?_)
      obtain ⟨⟨rfl, rfl⟩, h79⟩ := h79
      rcases h79 with h81 | h82 | h83 | h84
      · obtain ⟨q86, k85⟩ := h81
        exact absurd (by omega : False) id
      · obtain ⟨q88, k87⟩ := h82
        exact absurd (by omega : False) id
      · obtain ⟨q90, k89⟩ := h83
        exact absurd (by omega : False) id
      · obtain ⟨q92, k91⟩ := h84
        have q92 := q92.symm
        subst q92
        refine jcallS (As := [.int a3, .int (-200), .int 200]) (rest := []) ⟨hx, hb, hml, hown, hts⟩ hK hP hA hS hZ (c_X11_outside l D cI cL ad zz hJ σ τ a3 (A3) t3 (-200) ((-200)) jz_m200 200 (200) jz_200) cw_RX11_94 ⟨Nat.le_of_ble_eq_true rfl, Nat.le_of_ble_eq_true rfl⟩ rfl rfl rfl hl.1 rfl (Nat.le_of_ble_eq_true rfl) dX11_edge_24 ⟨Nat.zero_le _, Nat.zero_le _⟩ (fun r94 σ93 τ93 H locs h93 hP hS => ?_)
        obtain ⟨⟨rfl, rfl⟩, h93⟩ := h93
        rcases h93 with h95 | h96
        · obtain ⟨q98, k97⟩ := h95
          have q98 := q98.symm
          subst q98
          refine lv_if_eq (tgt := 33) hx hb dX11_edge_27 (by decide) (fun c => absurd c (by decide)) (fun _ => ?_)
          refine lv_ldc (v := (-2000000000)) hx hb hown (hts _ kw_9_21) dX11_edge_30 ?_
          exact hret (-2000000000) σ τ _ _ _ _ rfl ⟨rfl, (fun _ _ => rfl), (fun _ _ => rfl), I7, trivial⟩ hP hS dX11_edge_32
        · obtain ⟨q100, k99⟩ := h96
          have q100 := q100.symm
          subst q100
          refine lv_if_eq (tgt := 33) hx hb dX11_edge_27 (by decide) (fun _ => ?_) (fun c => absurd (by decide) c)
          refine lv_aload_n hx hb dX11_edge_33 rfl (lv_at hl 1 rfl) ?_
          refine va_get (D := D) hx hb hts inlX11 hown hK hP 0 (jc_0 cI cL ad σ τ) rfl 0 (by decide) (hts _ kw_1_16) (fun _ h9 => h9) rfl dX11_edge_34 ?_
          refine lv_iload hx hb dX11_edge_37 (lv_at hl 0 rfl) ?_
          refine lv_iload_n hx hb dX11_edge_39 rfl (lv_at hl 4 rfl) ?_
          refine jcallV (As := [.int r9, .int a3]) (rest := []) ⟨hx, hb, hml, hown, hts⟩ hK hP hA hS hZ (c_X4_change_2 l D cI cL ad zz hJ σ τ r9 (r9.toInt) rfl a3 (A3) t3 I7 (by omega)) cw_RX11_118 (jc_2 cI cL ad σ τ) rfl ⟨Nat.le_of_ble_eq_true rfl, Nat.le_of_ble_eq_true rfl⟩ rfl rfl rfl hl.1 rfl (Nat.le_of_ble_eq_true rfl) dX11_edge_40 ⟨Nat.zero_le _, Nat.zero_le _⟩ (fun r102 σ101 τ101 H locs h101 hP hS => ?_)
          obtain ⟨rfl, f103, f104, I105, h101⟩ := h101
          obtain ⟨i106, i107, i108, i109, i110, w111⟩ : (0 ≤ (σ101 2 0).toInt ∧ (σ101 2 0).toInt ≤ 4) ∧ (0 ≤ (σ101 2 1).toInt ∧ (σ101 2 1).toInt ≤ 3) ∧ (0 ≤ (σ101 2 2).toInt) ∧ (0 ≤ (σ101 2 3).toInt) ∧ ((σ101 2 2).toInt + (σ101 2 3).toInt ≤ 40) ∧ (∀ k : Nat, k < 40 → 0 ≤ (σ101 6 k).toInt ∧ (σ101 6 k).toInt ≤ 67) := id I105
          have z112 : (σ101 2 0).toInt = (σ 2 0).toInt := by rw [(show σ101 2 0 = (σ 2 0) from (by rw [f104 0 (by omega)]))]
          have z113 : (σ101 2 1).toInt = (σ 2 1).toInt := by rw [(show σ101 2 1 = (σ 2 1) from (by rw [f104 1 (by omega)]))]
          exact hret r102 σ101 τ _ _ _ _ rfl ⟨rfl, (fun i hi => by rw [f103 i (by omega)]), (fun k hk => by rw [f104 k (by omega)]), I105, trivial⟩ hP hS dX11_edge_43
    · obtain ⟨q115, k114⟩ := h18
      have q115 := q115.symm
      subst q115
      refine lv_iload hx hb dX11_edge_19 (lv_at hl 0 rfl) ?_
      refine jcallS (As := [.int r9]) (rest := [.int (-9), .int a3]) ⟨hx, hb, hml, hown, hts⟩ hK hP hA hS hZ (c_X4_highest l D cI cL ad zz hJ σ τ r9 (r9.toInt) rfl) cw_RX11_114 ⟨Nat.le_of_ble_eq_true rfl, Nat.le_of_ble_eq_true rfl⟩ rfl rfl rfl hl.1 rfl (Nat.le_of_ble_eq_true rfl) dX11_edge_21 ⟨Nat.zero_le _, Nat.zero_le _⟩ (fun r117 σ116 τ116 H locs h116 hP hS => ?_)
      obtain ⟨⟨rfl, rfl⟩, h116⟩ := h116
      rcases h116 with h118 | h119 | h120 | h121
      · obtain ⟨q123, k122⟩ := h118
        exact absurd (by omega : False) id
      · obtain ⟨q125, k124⟩ := h119
        have q125 := q125.symm
        subst q125
        refine jcallS (As := [.int a3, .int (-9), .int 9]) (rest := []) ⟨hx, hb, hml, hown, hts⟩ hK hP hA hS hZ (c_X11_outside l D cI cL ad zz hJ σ τ a3 (A3) t3 (-9) ((-9)) jz_m9 9 (9) jz_9) cw_RX11_94 ⟨Nat.le_of_ble_eq_true rfl, Nat.le_of_ble_eq_true rfl⟩ rfl rfl rfl hl.1 rfl (Nat.le_of_ble_eq_true rfl) dX11_edge_24 ⟨Nat.zero_le _, Nat.zero_le _⟩ (fun r127 σ126 τ126 H locs h126 hP hS => ?_)
        obtain ⟨⟨rfl, rfl⟩, h126⟩ := h126
        rcases h126 with h128 | h129
        · obtain ⟨q131, k130⟩ := h128
          have q131 := q131.symm
          subst q131
          refine lv_if_eq (tgt := 33) hx hb dX11_edge_27 (by decide) (fun c => absurd c (by decide)) (fun _ => ?_)
          refine lv_ldc (v := (-2000000000)) hx hb hown (hts _ kw_9_21) dX11_edge_30 ?_
          exact hret (-2000000000) σ τ _ _ _ _ rfl ⟨rfl, (fun _ _ => rfl), (fun _ _ => rfl), I7, trivial⟩ hP hS dX11_edge_32
        · obtain ⟨q133, k132⟩ := h129
          have q133 := q133.symm
          subst q133
          refine lv_if_eq (tgt := 33) hx hb dX11_edge_27 (by decide) (fun _ => ?_) (fun c => absurd (by decide) c)
          refine lv_aload_n hx hb dX11_edge_33 rfl (lv_at hl 1 rfl) ?_
          refine va_get (D := D) hx hb hts inlX11 hown hK hP 0 (jc_0 cI cL ad σ τ) rfl 0 (by decide) (hts _ kw_1_16) (fun _ h9 => h9) rfl dX11_edge_34 ?_
          refine lv_iload hx hb dX11_edge_37 (lv_at hl 0 rfl) ?_
          refine lv_iload_n hx hb dX11_edge_39 rfl (lv_at hl 4 rfl) ?_
          refine jcallV (As := [.int r9, .int a3]) (rest := []) ⟨hx, hb, hml, hown, hts⟩ hK hP hA hS hZ (c_X4_change_2 l D cI cL ad zz hJ σ τ r9 (r9.toInt) rfl a3 (A3) t3 I7 (by omega)) cw_RX11_118 (jc_2 cI cL ad σ τ) rfl ⟨Nat.le_of_ble_eq_true rfl, Nat.le_of_ble_eq_true rfl⟩ rfl rfl rfl hl.1 rfl (Nat.le_of_ble_eq_true rfl) dX11_edge_40 ⟨Nat.zero_le _, Nat.zero_le _⟩ (fun r135 σ134 τ134 H locs h134 hP hS => ?_)
          obtain ⟨rfl, f136, f137, I138, h134⟩ := h134
          obtain ⟨i139, i140, i141, i142, i143, w144⟩ : (0 ≤ (σ134 2 0).toInt ∧ (σ134 2 0).toInt ≤ 4) ∧ (0 ≤ (σ134 2 1).toInt ∧ (σ134 2 1).toInt ≤ 3) ∧ (0 ≤ (σ134 2 2).toInt) ∧ (0 ≤ (σ134 2 3).toInt) ∧ ((σ134 2 2).toInt + (σ134 2 3).toInt ≤ 40) ∧ (∀ k : Nat, k < 40 → 0 ≤ (σ134 6 k).toInt ∧ (σ134 6 k).toInt ≤ 67) := id I138
          have z145 : (σ134 2 0).toInt = (σ 2 0).toInt := by rw [(show σ134 2 0 = (σ 2 0) from (by rw [f137 0 (by omega)]))]
          have z146 : (σ134 2 1).toInt = (σ 2 1).toInt := by rw [(show σ134 2 1 = (σ 2 1) from (by rw [f137 1 (by omega)]))]
          exact hret r135 σ134 τ _ _ _ _ rfl ⟨rfl, (fun i hi => by rw [f136 i (by omega)]), (fun k hk => by rw [f137 k (by omega)]), I138, trivial⟩ hP hS dX11_edge_43
      · obtain ⟨q148, k147⟩ := h120
        exact absurd (by omega : False) id
      · obtain ⟨q150, k149⟩ := h121
        exact absurd (by omega : False) id
set_option maxHeartbeats 4000000 in
set_option maxRecDepth 100000 in
theorem c_X11_field (l : Launch) (D : va_G) (cI cL : ClassId) (ad zz : Nat → Nat) (hJ : jD ad) (σ : Nat → Nat → Int32) (τ : Nat → Nat → Int64) (a1 : Int32) (A1 : Int) (t1 : a1.toInt = A1) (a2 : Int32) (A2 : Int) (t2 : a2.toInt = A2) (a3 : Int32) (A3 : Int) (t3 : a3.toInt = A3) (hI2 : jI2 σ) : jM l yX11_field cX11_field 5 (some .int) ({ frames := 2, cells := 0, slots := 0, locals := 44 }) D cI cL ad zz [.ref (ad 0), .int a1, .int a2, .int a3] σ τ (fun r σ' τ' => τ = τ' ∧ (∀ i : Nat, (i < 2 ∨ 3 < i) ∧ (i < 6 ∨ 8 < i) → σ' i = σ i) ∧ (∀ k : Nat, (k < 2 ∨ 2 < k) ∧ (k < 3 ∨ 3 < k) → σ' 2 k = σ 2 k) ∧ (jI2 σ') ∧ True) := by
  refine jM.of hJ (by decide +kernel) (nt := .int) rfl (Nat.le_of_ble_eq_true rfl) ?_
  intro p e s m args below meth c Q ls hC hret hl hP
  obtain ⟨hx, hb, hr, hml, hown, hts, hK, -, hlocks, hZ⟩ := hC
  have hown : s.vm.findClass RX11 = some m.cls := hown
  have hS : va_S (jA ad) s.heap s.heap [] := va_S.rf
  have hA : ∀ q, jA ad q → jA ad q := fun _ h => h
  have hl : lv_has ls 5 [(0, .ref (ad 0)), (1, .int a1), (2, .int a2), (3, .int a3)] := hl
  have g1 := jrg t1
  have g2 := jrg t2
  have g3 := jrg t3
  obtain ⟨i1, i2, i3, i4, i5, w6⟩ : (0 ≤ (σ 2 0).toInt ∧ (σ 2 0).toInt ≤ 4) ∧ (0 ≤ (σ 2 1).toInt ∧ (σ 2 1).toInt ≤ 3) ∧ (0 ≤ (σ 2 2).toInt) ∧ (0 ≤ (σ 2 3).toInt) ∧ ((σ 2 2).toInt + (σ 2 3).toInt ≤ 40) ∧ (∀ k : Nat, k < 40 → 0 ≤ (σ 6 k).toInt ∧ (σ 6 k).toInt ≤ 67) := id hI2
  refine lv_iload_n hx hb dX11_field_0 rfl (lv_at hl 1 rfl) ?_
  refine lv_if_lt (tgt := 37) hx hb dX11_field_1 (by decide) (fun c7 => ?_) (fun c7 => ?_)
  · have kc7 := jlt c7 t1 jz_0
    refine lv_ldc (v := (-2000000000)) hx hb hown (hts _ kw_9_21) dX11_field_37 ?_
    have I8 : jI2 σ := ⟨(by omega), (by omega), (by omega), (by omega), (by omega), w6⟩
    exact hret (-2000000000) σ τ _ _ _ _ rfl ⟨rfl, (fun _ _ => rfl), (fun _ _ => rfl), I8, trivial⟩ hP hS dX11_field_39
  · have kc7 := jnlt c7 t1 jz_0
    refine lv_iload_n hx hb dX11_field_4 rfl (lv_at hl 1 rfl) ?_
    refine lv_bipush (v := 10) hx hb dX11_field_5 (by decide) ?_
    refine lv_idiv hx hb dX11_field_7 (by decide) ?_
    refine lv_topi (fun x9 ex9 => ?_)
    have tx9 : x9.toInt = (A1 / 10) := jdiv ex9 t1 jz_10 (by omega) (by omega)
    refine lv_iconst (v := 0) hx hb dX11_field_8 (by decide) ?_
    refine lv_iconst (v := 3) hx hb dX11_field_9 (by decide) ?_
    refine jcallS (As := [.int x9, .int 0, .int 3]) (rest := []) ⟨hx, hb, hml, hown, hts⟩ hK hP hA hS hZ (c_X11_outside l D cI cL ad zz hJ σ τ x9 ((A1 / 10)) tx9 0 (0) jz_0 3 (3) jz_3) cw_RX11_94 ⟨Nat.le_of_ble_eq_true rfl, Nat.le_of_ble_eq_true rfl⟩ rfl rfl rfl hl.1 rfl (Nat.le_of_ble_eq_true rfl) dX11_field_10 ⟨Nat.zero_le _, Nat.zero_le _⟩ (fun r11 σ10 τ10 H locs h10 hP hS => ?_)
    obtain ⟨⟨rfl, rfl⟩, h10⟩ := h10
    rcases h10 with h12 | h13
    · obtain ⟨q15, k14⟩ := h12
      have q15 := q15.symm
      subst q15
      refine lv_if_ne (tgt := 37) hx hb dX11_field_13 (by decide) (fun _ => ?_) (fun c => absurd c (by decide))
      refine lv_ldc (v := (-2000000000)) hx hb hown (hts _ kw_9_21) dX11_field_37 ?_
      have I16 : jI2 σ := ⟨(by omega), (by omega), (by omega), (by omega), (by omega), w6⟩
      exact hret (-2000000000) σ τ _ _ _ _ rfl ⟨rfl, (fun _ _ => rfl), (fun _ _ => rfl), I16, trivial⟩ hP hS dX11_field_39
    · obtain ⟨q18, k17⟩ := h13
      have q18 := q18.symm
      subst q18
      refine lv_if_ne (tgt := 37) hx hb dX11_field_13 (by decide) (fun c => absurd (by decide) c) (fun _ => ?_)
      refine lv_iload_n hx hb dX11_field_16 rfl (lv_at hl 1 rfl) ?_
      refine lv_bipush (v := 10) hx hb dX11_field_17 (by decide) ?_
      refine lv_irem hx hb dX11_field_19 (by decide) ?_
      refine lv_topi (fun x19 ex19 => ?_)
      have tx19 : x19.toInt = (A1 % 10) := jrem ex19 t1 jz_10 (by omega)
      refine lv_iconst (v := 0) hx hb dX11_field_20 (by decide) ?_
      refine lv_iconst (v := 3) hx hb dX11_field_21 (by decide) ?_
      refine jcallS (As := [.int x19, .int 0, .int 3]) (rest := []) ⟨hx, hb, hml, hown, hts⟩ hK hP hA hS hZ (c_X11_outside l D cI cL ad zz hJ σ τ x19 ((A1 % 10)) tx19 0 (0) jz_0 3 (3) jz_3) cw_RX11_94 ⟨Nat.le_of_ble_eq_true rfl, Nat.le_of_ble_eq_true rfl⟩ rfl rfl rfl hl.1 rfl (Nat.le_of_ble_eq_true rfl) dX11_field_22 ⟨Nat.zero_le _, Nat.zero_le _⟩ (fun r21 σ20 τ20 H locs h20 hP hS => ?_)
      obtain ⟨⟨rfl, rfl⟩, h20⟩ := h20
      rcases h20 with h22 | h23
      · obtain ⟨q25, k24⟩ := h22
        have q25 := q25.symm
        subst q25
        refine lv_if_ne (tgt := 37) hx hb dX11_field_25 (by decide) (fun _ => ?_) (fun c => absurd c (by decide))
        refine lv_ldc (v := (-2000000000)) hx hb hown (hts _ kw_9_21) dX11_field_37 ?_
        have I26 : jI2 σ := ⟨(by omega), (by omega), (by omega), (by omega), (by omega), w6⟩
        exact hret (-2000000000) σ τ _ _ _ _ rfl ⟨rfl, (fun _ _ => rfl), (fun _ _ => rfl), I26, trivial⟩ hP hS dX11_field_39
      · obtain ⟨q28, k27⟩ := h23
        have q28 := q28.symm
        subst q28
        refine lv_if_ne (tgt := 37) hx hb dX11_field_25 (by decide) (fun c => absurd (by decide) c) (fun _ => ?_)
        refine lv_iload_n hx hb dX11_field_28 rfl (lv_at hl 2 rfl) ?_
        refine lv_iconst (v := 0) hx hb dX11_field_29 (by decide) ?_
        refine lv_iconst (v := 1) hx hb dX11_field_30 (by decide) ?_
        refine jcallS (As := [.int a2, .int 0, .int 1]) (rest := []) ⟨hx, hb, hml, hown, hts⟩ hK hP hA hS hZ (c_X11_outside l D cI cL ad zz hJ σ τ a2 (A2) t2 0 (0) jz_0 1 (1) jz_1) cw_RX11_94 ⟨Nat.le_of_ble_eq_true rfl, Nat.le_of_ble_eq_true rfl⟩ rfl rfl rfl hl.1 rfl (Nat.le_of_ble_eq_true rfl) dX11_field_31 ⟨Nat.zero_le _, Nat.zero_le _⟩ (fun r30 σ29 τ29 H locs h29 hP hS => ?_)
        obtain ⟨⟨rfl, rfl⟩, h29⟩ := h29
        rcases h29 with h31 | h32
        · obtain ⟨q34, k33⟩ := h31
          have q34 := q34.symm
          subst q34
          refine lv_if_eq (tgt := 40) hx hb dX11_field_34 (by decide) (fun c => absurd c (by decide)) (fun _ => ?_)
          refine lv_ldc (v := (-2000000000)) hx hb hown (hts _ kw_9_21) dX11_field_37 ?_
          have I35 : jI2 σ := ⟨(by omega), (by omega), (by omega), (by omega), (by omega), w6⟩
          exact hret (-2000000000) σ τ _ _ _ _ rfl ⟨rfl, (fun _ _ => rfl), (fun _ _ => rfl), I35, trivial⟩ hP hS dX11_field_39
        · obtain ⟨q37, k36⟩ := h32
          have q37 := q37.symm
          subst q37
          refine lv_if_eq (tgt := 40) hx hb dX11_field_34 (by decide) (fun _ => ?_) (fun c => absurd (by decide) c)
          refine lv_iload_n hx hb dX11_field_40 rfl (lv_at hl 2 rfl) ?_
          refine lv_if_ne (tgt := 49) hx hb dX11_field_41 (by decide) (fun c38 => ?_) (fun c38 => ?_)
          · have kc38 := jne c38 t2 jz_0
            refine lv_bipush (v := 52) hx hb dX11_field_49 (by decide) ?_
            refine lv_iload_n hx hb dX11_field_51 rfl (lv_at hl 1 rfl) ?_
            refine lv_bipush (v := 10) hx hb dX11_field_52 (by decide) ?_
            refine lv_idiv hx hb dX11_field_54 (by decide) ?_
            refine lv_topi (fun x39 ex39 => ?_)
            have tx39 : x39.toInt = (A1 / 10) := jdiv ex39 t1 jz_10 (by omega) (by omega)
            refine lv_iconst (v := 4) hx hb dX11_field_55 (by decide) ?_
            refine lv_imul hx hb dX11_field_56 ?_
            refine lv_topi (fun x40 ex40 => ?_)
            have tx40 : x40.toInt = 4 * (A1 / 10) := (jmul ex40 tx39 jz_4 (by omega) (by omega)).trans (by omega)
            refine lv_iadd hx hb dX11_field_57 ?_
            refine lv_topi (fun x41 ex41 => ?_)
            have tx41 : x41.toInt = 4 * (A1 / 10) + 52 := (jadd ex41 jz_52 tx40 (by omega) (by omega)).trans (by omega)
            refine lv_iload_n hx hb dX11_field_58 rfl (lv_at hl 1 rfl) ?_
            refine lv_bipush (v := 10) hx hb dX11_field_59 (by decide) ?_
            refine lv_irem hx hb dX11_field_61 (by decide) ?_
            refine lv_topi (fun x42 ex42 => ?_)
            have tx42 : x42.toInt = (A1 % 10) := jrem ex42 t1 jz_10 (by omega)
            refine lv_iadd hx hb dX11_field_62 ?_
            refine lv_topi (fun x43 ex43 => ?_)
            have tx43 : x43.toInt = 4 * (A1 / 10) + (A1 % 10) + 52 := (jadd ex43 tx41 tx42 (by omega) (by omega)).trans (by omega)
            refine lv_istore (lv' := [(4, .int x43), (0, .ref (ad 0)), (1, .int a1), (2, .int a2), (3, .int a3)]) hx hb dX11_field_63 hl (by decide) rfl (fun ls hl => ?_)
            refine lv_iload_n hx hb dX11_field_65 rfl (lv_at hl 4 rfl) ?_
            refine lv_iload hx hb dX11_field_66 (lv_at hl 0 rfl) ?_
            refine jcallS (As := [.int x43]) (rest := [.int a3]) ⟨hx, hb, hml, hown, hts⟩ hK hP hA hS hZ (c_X4_lowest l D cI cL ad zz hJ σ τ x43 (4 * (A1 / 10) + (A1 % 10) + 52) tx43) cw_RX11_110 ⟨Nat.le_of_ble_eq_true rfl, Nat.le_of_ble_eq_true rfl⟩ rfl rfl rfl hl.1 rfl (Nat.le_of_ble_eq_true rfl) dX11_field_68 ⟨Nat.zero_le _, Nat.zero_le _⟩ (fun r45 σ44 τ44 H locs h44 hP hS => ?_)
            obtain ⟨⟨rfl, rfl⟩, h44⟩ := h44
            rcases h44 with h46 | h47 | h48
            · obtain ⟨q50, k49⟩ := h46
              exact absurd (by omega : False) id
            · obtain ⟨q52, k51⟩ := h47
              exact absurd (by omega : False) id
            · obtain ⟨q54, k53⟩ := h48
              have q54 := q54.symm
              subst q54
              refine lv_iload hx hb dX11_field_71 (lv_at hl 0 rfl) ?_
              refine jcallS (As := [.int x43]) (rest := [.int (-9), .int a3]) ⟨hx, hb, hml, hown, hts⟩ hK hP hA hS hZ (c_X4_highest l D cI cL ad zz hJ σ τ x43 (4 * (A1 / 10) + (A1 % 10) + 52) tx43) cw_RX11_114 ⟨Nat.le_of_ble_eq_true rfl, Nat.le_of_ble_eq_true rfl⟩ rfl rfl rfl hl.1 rfl (Nat.le_of_ble_eq_true rfl) dX11_field_73 ⟨Nat.zero_le _, Nat.zero_le _⟩ (fun r56 σ55 τ55 H locs h55 hP hS => ?_)
              obtain ⟨⟨rfl, rfl⟩, h55⟩ := h55
              rcases h55 with h57 | h58 | h59 | h60
              · obtain ⟨q62, k61⟩ := h57
                exact absurd (by omega : False) id
              · obtain ⟨q64, k63⟩ := h58
                have q64 := q64.symm
                subst q64
                refine jcallS (As := [.int a3, .int (-9), .int 9]) (rest := []) ⟨hx, hb, hml, hown, hts⟩ hK hP hA hS hZ (c_X11_outside l D cI cL ad zz hJ σ τ a3 (A3) t3 (-9) ((-9)) jz_m9 9 (9) jz_9) cw_RX11_94 ⟨Nat.le_of_ble_eq_true rfl, Nat.le_of_ble_eq_true rfl⟩ rfl rfl rfl hl.1 rfl (Nat.le_of_ble_eq_true rfl) dX11_field_76 ⟨Nat.zero_le _, Nat.zero_le _⟩ (fun r66 σ65 τ65 H locs h65 hP hS => ?_)
                obtain ⟨⟨rfl, rfl⟩, h65⟩ := h65
                rcases h65 with h67 | h68
                · obtain ⟨q70, k69⟩ := h67
                  have q70 := q70.symm
                  subst q70
                  refine lv_if_eq (tgt := 85) hx hb dX11_field_79 (by decide) (fun c => absurd c (by decide)) (fun _ => ?_)
                  refine lv_ldc (v := (-2000000000)) hx hb hown (hts _ kw_9_21) dX11_field_82 ?_
                  have I71 : jI2 σ := ⟨(by omega), (by omega), (by omega), (by omega), (by omega), w6⟩
                  exact hret (-2000000000) σ τ _ _ _ _ rfl ⟨rfl, (fun _ _ => rfl), (fun _ _ => rfl), I71, trivial⟩ hP hS dX11_field_84
                · obtain ⟨q73, k72⟩ := h68
                  have q73 := q73.symm
                  subst q73
                  refine lv_if_eq (tgt := 85) hx hb dX11_field_79 (by decide) (fun _ => ?_) (fun c => absurd (by decide) c)
                  refine lv_aload_n hx hb dX11_field_85 rfl (lv_at hl 1 rfl) ?_
                  refine va_get (D := D) hx hb hts inlX11 hown hK hP 0 (jc_0 cI cL ad σ τ) rfl 0 (by decide) (hts _ kw_1_16) (fun _ h9 => h9) rfl dX11_field_86 ?_
                  refine lv_iload hx hb dX11_field_89 (lv_at hl 0 rfl) ?_
                  refine lv_iload_n hx hb dX11_field_91 rfl (lv_at hl 4 rfl) ?_
                  have I74 : jI2 σ := ⟨(by omega), (by omega), (by omega), (by omega), (by omega), w6⟩
                  refine jcallV (As := [.int x43, .int a3]) (rest := []) ⟨hx, hb, hml, hown, hts⟩ hK hP hA hS hZ (c_X4_change_2 l D cI cL ad zz hJ σ τ x43 (4 * (A1 / 10) + (A1 % 10) + 52) tx43 a3 (A3) t3 I74 (by omega)) cw_RX11_118 (jc_2 cI cL ad σ τ) rfl ⟨Nat.le_of_ble_eq_true rfl, Nat.le_of_ble_eq_true rfl⟩ rfl rfl rfl hl.1 rfl (Nat.le_of_ble_eq_true rfl) dX11_field_92 ⟨Nat.zero_le _, Nat.zero_le _⟩ (fun r76 σ75 τ75 H locs h75 hP hS => ?_)
                  obtain ⟨rfl, f77, f78, I79, h75⟩ := h75
                  obtain ⟨i80, i81, i82, i83, i84, w85⟩ : (0 ≤ (σ75 2 0).toInt ∧ (σ75 2 0).toInt ≤ 4) ∧ (0 ≤ (σ75 2 1).toInt ∧ (σ75 2 1).toInt ≤ 3) ∧ (0 ≤ (σ75 2 2).toInt) ∧ (0 ≤ (σ75 2 3).toInt) ∧ ((σ75 2 2).toInt + (σ75 2 3).toInt ≤ 40) ∧ (∀ k : Nat, k < 40 → 0 ≤ (σ75 6 k).toInt ∧ (σ75 6 k).toInt ≤ 67) := id I79
                  have z86 : (σ75 2 0).toInt = (σ 2 0).toInt := by rw [(show σ75 2 0 = (σ 2 0) from (by rw [f78 0 (by omega)]))]
                  have z87 : (σ75 2 1).toInt = (σ 2 1).toInt := by rw [(show σ75 2 1 = (σ 2 1) from (by rw [f78 1 (by omega)]))]
                  exact hret r76 σ75 τ _ _ _ _ rfl ⟨rfl, (fun i hi => by rw [f77 i (by omega)]), (fun k hk => by rw [f78 k (by omega)]), I79, trivial⟩ hP hS dX11_field_95
              · obtain ⟨q89, k88⟩ := h59
                exact absurd (by omega : False) id
              · obtain ⟨q91, k90⟩ := h60
                exact absurd (by omega : False) id
          · have kc38 := jeq c38 t2 jz_0
            refine lv_bipush (v := 36) hx hb dX11_field_44 (by decide) ?_
            refine lv_goto (tgt := 51) hx hb dX11_field_46 (by decide) ?_
            refine lv_iload_n hx hb dX11_field_51 rfl (lv_at hl 1 rfl) ?_
            refine lv_bipush (v := 10) hx hb dX11_field_52 (by decide) ?_
            refine lv_idiv hx hb dX11_field_54 (by decide) ?_
            refine lv_topi (fun x92 ex92 => ?_)
            have tx92 : x92.toInt = (A1 / 10) := jdiv ex92 t1 jz_10 (by omega) (by omega)
            refine lv_iconst (v := 4) hx hb dX11_field_55 (by decide) ?_
            refine lv_imul hx hb dX11_field_56 ?_
            refine lv_topi (fun x93 ex93 => ?_)
            have tx93 : x93.toInt = 4 * (A1 / 10) := (jmul ex93 tx92 jz_4 (by omega) (by omega)).trans (by omega)
            refine lv_iadd hx hb dX11_field_57 ?_
            refine lv_topi (fun x94 ex94 => ?_)
            have tx94 : x94.toInt = 4 * (A1 / 10) + 36 := (jadd ex94 jz_36 tx93 (by omega) (by omega)).trans (by omega)
            refine lv_iload_n hx hb dX11_field_58 rfl (lv_at hl 1 rfl) ?_
            refine lv_bipush (v := 10) hx hb dX11_field_59 (by decide) ?_
            refine lv_irem hx hb dX11_field_61 (by decide) ?_
            refine lv_topi (fun x95 ex95 => ?_)
            have tx95 : x95.toInt = (A1 % 10) := jrem ex95 t1 jz_10 (by omega)
            refine lv_iadd hx hb dX11_field_62 ?_
            refine lv_topi (fun x96 ex96 => ?_)
            have tx96 : x96.toInt = 4 * (A1 / 10) + (A1 % 10) + 36 := (jadd ex96 tx94 tx95 (by omega) (by omega)).trans (by omega)
            refine lv_istore (lv' := [(4, .int x96), (0, .ref (ad 0)), (1, .int a1), (2, .int a2), (3, .int a3)]) hx hb dX11_field_63 hl (by decide) rfl (fun ls hl => ?_)
            refine lv_iload_n hx hb dX11_field_65 rfl (lv_at hl 4 rfl) ?_
            refine lv_iload hx hb dX11_field_66 (lv_at hl 0 rfl) ?_
            refine jcallS (As := [.int x96]) (rest := [.int a3]) ⟨hx, hb, hml, hown, hts⟩ hK hP hA hS hZ (c_X4_lowest l D cI cL ad zz hJ σ τ x96 (4 * (A1 / 10) + (A1 % 10) + 36) tx96) cw_RX11_110 ⟨Nat.le_of_ble_eq_true rfl, Nat.le_of_ble_eq_true rfl⟩ rfl rfl rfl hl.1 rfl (Nat.le_of_ble_eq_true rfl) dX11_field_68 ⟨Nat.zero_le _, Nat.zero_le _⟩ (fun r98 σ97 τ97 H locs h97 hP hS => ?_)
            obtain ⟨⟨rfl, rfl⟩, h97⟩ := h97
            rcases h97 with h99 | h100 | h101
            · obtain ⟨q103, k102⟩ := h99
              exact absurd (by omega : False) id
            · obtain ⟨q105, k104⟩ := h100
              have q105 := q105.symm
              subst q105
              refine lv_iload hx hb dX11_field_71 (lv_at hl 0 rfl) ?_
              refine jcallS (As := [.int x96]) (rest := [.int (-200), .int a3]) ⟨hx, hb, hml, hown, hts⟩ hK hP hA hS hZ (c_X4_highest l D cI cL ad zz hJ σ τ x96 (4 * (A1 / 10) + (A1 % 10) + 36) tx96) cw_RX11_114 ⟨Nat.le_of_ble_eq_true rfl, Nat.le_of_ble_eq_true rfl⟩ rfl rfl rfl hl.1 rfl (Nat.le_of_ble_eq_true rfl) dX11_field_73 ⟨Nat.zero_le _, Nat.zero_le _⟩ (fun r107 σ106 τ106 H locs h106 hP hS => ?_)
              obtain ⟨⟨rfl, rfl⟩, h106⟩ := h106
              rcases h106 with h108 | h109 | h110 | h111
              · obtain ⟨q113, k112⟩ := h108
                exact absurd (by omega : False) id
              · obtain ⟨q115, k114⟩ := h109
                exact absurd (by omega : False) id
              · obtain ⟨q117, k116⟩ := h110
                exact absurd (by omega : False) id
              · obtain ⟨q119, k118⟩ := h111
                have q119 := q119.symm
                subst q119
                refine jcallS (As := [.int a3, .int (-200), .int 200]) (rest := []) ⟨hx, hb, hml, hown, hts⟩ hK hP hA hS hZ (c_X11_outside l D cI cL ad zz hJ σ τ a3 (A3) t3 (-200) ((-200)) jz_m200 200 (200) jz_200) cw_RX11_94 ⟨Nat.le_of_ble_eq_true rfl, Nat.le_of_ble_eq_true rfl⟩ rfl rfl rfl hl.1 rfl (Nat.le_of_ble_eq_true rfl) dX11_field_76 ⟨Nat.zero_le _, Nat.zero_le _⟩ (fun r121 σ120 τ120 H locs h120 hP hS => ?_)
                obtain ⟨⟨rfl, rfl⟩, h120⟩ := h120
                rcases h120 with h122 | h123
                · obtain ⟨q125, k124⟩ := h122
                  have q125 := q125.symm
                  subst q125
                  refine lv_if_eq (tgt := 85) hx hb dX11_field_79 (by decide) (fun c => absurd c (by decide)) (fun _ => ?_)
                  refine lv_ldc (v := (-2000000000)) hx hb hown (hts _ kw_9_21) dX11_field_82 ?_
                  have I126 : jI2 σ := ⟨(by omega), (by omega), (by omega), (by omega), (by omega), w6⟩
                  exact hret (-2000000000) σ τ _ _ _ _ rfl ⟨rfl, (fun _ _ => rfl), (fun _ _ => rfl), I126, trivial⟩ hP hS dX11_field_84
                · obtain ⟨q128, k127⟩ := h123
                  have q128 := q128.symm
                  subst q128
                  refine lv_if_eq (tgt := 85) hx hb dX11_field_79 (by decide) (fun _ => ?_) (fun c => absurd (by decide) c)
                  refine lv_aload_n hx hb dX11_field_85 rfl (lv_at hl 1 rfl) ?_
                  refine va_get (D := D) hx hb hts inlX11 hown hK hP 0 (jc_0 cI cL ad σ τ) rfl 0 (by decide) (hts _ kw_1_16) (fun _ h9 => h9) rfl dX11_field_86 ?_
                  refine lv_iload hx hb dX11_field_89 (lv_at hl 0 rfl) ?_
                  refine lv_iload_n hx hb dX11_field_91 rfl (lv_at hl 4 rfl) ?_
                  have I129 : jI2 σ := ⟨(by omega), (by omega), (by omega), (by omega), (by omega), w6⟩
                  refine jcallV (As := [.int x96, .int a3]) (rest := []) ⟨hx, hb, hml, hown, hts⟩ hK hP hA hS hZ (c_X4_change_2 l D cI cL ad zz hJ σ τ x96 (4 * (A1 / 10) + (A1 % 10) + 36) tx96 a3 (A3) t3 I129 (by omega)) cw_RX11_118 (jc_2 cI cL ad σ τ) rfl ⟨Nat.le_of_ble_eq_true rfl, Nat.le_of_ble_eq_true rfl⟩ rfl rfl rfl hl.1 rfl (Nat.le_of_ble_eq_true rfl) dX11_field_92 ⟨Nat.zero_le _, Nat.zero_le _⟩ (fun r131 σ130 τ130 H locs h130 hP hS => ?_)
                  obtain ⟨rfl, f132, f133, I134, h130⟩ := h130
                  obtain ⟨i135, i136, i137, i138, i139, w140⟩ : (0 ≤ (σ130 2 0).toInt ∧ (σ130 2 0).toInt ≤ 4) ∧ (0 ≤ (σ130 2 1).toInt ∧ (σ130 2 1).toInt ≤ 3) ∧ (0 ≤ (σ130 2 2).toInt) ∧ (0 ≤ (σ130 2 3).toInt) ∧ ((σ130 2 2).toInt + (σ130 2 3).toInt ≤ 40) ∧ (∀ k : Nat, k < 40 → 0 ≤ (σ130 6 k).toInt ∧ (σ130 6 k).toInt ≤ 67) := id I134
                  have z141 : (σ130 2 0).toInt = (σ 2 0).toInt := by rw [(show σ130 2 0 = (σ 2 0) from (by rw [f133 0 (by omega)]))]
                  have z142 : (σ130 2 1).toInt = (σ 2 1).toInt := by rw [(show σ130 2 1 = (σ 2 1) from (by rw [f133 1 (by omega)]))]
                  exact hret r131 σ130 τ _ _ _ _ rfl ⟨rfl, (fun i hi => by rw [f132 i (by omega)]), (fun k hk => by rw [f133 k (by omega)]), I134, trivial⟩ hP hS dX11_field_95
            · obtain ⟨q144, k143⟩ := h101
              exact absurd (by omega : False) id
set_option maxHeartbeats 4000000 in
set_option maxRecDepth 100000 in
theorem c_X11_set (l : Launch) (D : va_G) (cI cL : ClassId) (ad zz : Nat → Nat) (hJ : jD ad) (σ : Nat → Nat → Int32) (τ : Nat → Nat → Int64) (a1 : Int32) (A1 : Int) (t1 : a1.toInt = A1) (hI2 : jI2 σ) : jM l yX11_set cX11_set 3 (some .int) ({ frames := 1, cells := 0, slots := 0, locals := 22 }) D cI cL ad zz [.ref (ad 0), .int a1] σ τ (fun r σ' τ' => τ = τ' ∧ (∀ i : Nat, (i < 2 ∨ 2 < i) → σ' i = σ i) ∧ (∀ k : Nat, (k < 1 ∨ 1 < k) → σ' 2 k = σ 2 k) ∧ (jI2 σ') ∧ True) := by
  refine jM.of hJ (by decide +kernel) (nt := .int) rfl (Nat.le_of_ble_eq_true rfl) ?_
  intro p e s m args below meth c Q ls hC hret hl hP
  obtain ⟨hx, hb, hr, hml, hown, hts, hK, -, hlocks, hZ⟩ := hC
  have hown : s.vm.findClass RX11 = some m.cls := hown
  have hS : va_S (jA ad) s.heap s.heap [] := va_S.rf
  have hA : ∀ q, jA ad q → jA ad q := fun _ h => h
  have hl : lv_has ls 3 [(0, .ref (ad 0)), (1, .int a1)] := hl
  have g1 := jrg t1
  obtain ⟨i1, i2, i3, i4, i5, w6⟩ : (0 ≤ (σ 2 0).toInt ∧ (σ 2 0).toInt ≤ 4) ∧ (0 ≤ (σ 2 1).toInt ∧ (σ 2 1).toInt ≤ 3) ∧ (0 ≤ (σ 2 2).toInt) ∧ (0 ≤ (σ 2 3).toInt) ∧ ((σ 2 2).toInt + (σ 2 3).toInt ≤ 40) ∧ (∀ k : Nat, k < 40 → 0 ≤ (σ 6 k).toInt ∧ (σ 6 k).toInt ≤ 67) := id hI2
  refine lv_iload_n hx hb dX11_set_0 rfl (lv_at hl 1 rfl) ?_
  refine lv_iconst (v := 0) hx hb dX11_set_1 (by decide) ?_
  refine lv_iconst (v := 3) hx hb dX11_set_2 (by decide) ?_
  refine jcallS (As := [.int a1, .int 0, .int 3]) (rest := []) ⟨hx, hb, hml, hown, hts⟩ hK hP hA hS hZ (c_X11_outside l D cI cL ad zz hJ σ τ a1 (A1) t1 0 (0) jz_0 3 (3) jz_3) cw_RX11_94 ⟨Nat.le_of_ble_eq_true rfl, Nat.le_of_ble_eq_true rfl⟩ rfl rfl rfl hl.1 rfl (Nat.le_of_ble_eq_true rfl) dX11_set_3 ⟨Nat.zero_le _, Nat.zero_le _⟩ (fun r8 σ7 τ7 H locs h7 hP hS => ?_)
  obtain ⟨⟨rfl, rfl⟩, h7⟩ := h7
  rcases h7 with h9 | h10
  · obtain ⟨q12, k11⟩ := h9
    have q12 := q12.symm
    subst q12
    refine lv_if_eq (tgt := 11) hx hb dX11_set_6 (by decide) (fun c => absurd c (by decide)) (fun _ => ?_)
    refine lv_iconst (v := (-1)) hx hb dX11_set_9 (by decide) ?_
    have I13 : jI2 σ := ⟨(by omega), (by omega), (by omega), (by omega), (by omega), w6⟩
    exact hret (-1) σ τ _ _ _ _ rfl ⟨rfl, (fun _ _ => rfl), (fun _ _ => rfl), I13, trivial⟩ hP hS dX11_set_10
  · obtain ⟨q15, k14⟩ := h10
    have q15 := q15.symm
    subst q15
    refine lv_if_eq (tgt := 11) hx hb dX11_set_6 (by decide) (fun _ => ?_) (fun c => absurd (by decide) c)
    refine lv_aload_n hx hb dX11_set_11 rfl (lv_at hl 0 rfl) ?_
    refine va_get (D := D) hx hb hts inlX11 hown hK hP 0 (jc_0 cI cL ad σ τ) rfl 0 (by decide) (hts _ kw_1_16) (fun _ h9 => h9) rfl dX11_set_12 ?_
    refine va_get (D := D) hx hb hts inlX4 hown hK hP 2 (jc_2 cI cL ad σ τ) rfl 1 (by decide) (hts _ kw_12_8) (fun _ h9 => h9) rfl dX11_set_15 ?_
    refine lv_istore_n (lv' := [(2, .int (σ 2 1)), (0, .ref (ad 0)), (1, .int a1)]) hx hb dX11_set_18 rfl hl (by decide) rfl (fun ls hl => ?_)
    refine lv_aload_n hx hb dX11_set_19 rfl (lv_at hl 1 rfl) ?_
    refine va_get (D := D) hx hb hts inlX11 hown hK hP 0 (jc_0 cI cL ad σ τ) rfl 0 (by decide) (hts _ kw_1_16) (fun _ h9 => h9) rfl dX11_set_20 ?_
    refine lv_iload_n hx hb dX11_set_23 rfl (lv_at hl 2 rfl) ?_
    refine jput (ty := .int) hx hb hts inlX4 tyX4 tyX4_ok nmX4 hown hK hP hJ hA hS (jc_2 cI cL ad σ τ) rfl (k := 1) (by decide) (Nat.le_of_ble_eq_true rfl) (jp_2_1 cI cL ad σ τ a1) (hts _ kw_12_8) (fun _ h9 => h9) rfl (by decide +kernel) rfl rfl dX11_set_24 (fun σ16 H locs eσ16 hP hS => ?_)
    refine lv_iload_n hx hb dX11_set_27 rfl (lv_at hl 0 rfl) ?_
    have z17 : (σ16 2 0).toInt = (σ 2 0).toInt := by rw [(show σ16 2 0 = (σ 2 0) from (by rw [eσ16, jup_k (by decide)]))]
    have z18 : (σ16 2 1).toInt = A1 := by rw [(show σ16 2 1 = a1 from (by rw [eσ16]; exact jup_s))]; exact t1
    have z19 : (σ16 2 2).toInt = (σ 2 2).toInt := by rw [(show σ16 2 2 = (σ 2 2) from (by rw [eσ16, jup_k (by decide)]))]
    have z20 : (σ16 2 3).toInt = (σ 2 3).toInt := by rw [(show σ16 2 3 = (σ 2 3) from (by rw [eσ16, jup_k (by decide)]))]
    have w21 : ∀ k : Nat, k < 40 → 0 ≤ (σ16 6 k).toInt ∧ (σ16 6 k).toInt ≤ 67 := (by rw [eσ16, jup_n (by decide)]; exact w6)
    have I22 : jI2 σ16 := ⟨(by omega), (by omega), (by omega), (by omega), (by omega), w21⟩
    exact hret (σ 2 1) σ16 τ _ _ _ _ rfl ⟨rfl, (fun i hi => by rw [eσ16, jup_n (by omega)]), (fun k hk => by rw [eσ16, jup_k (by omega)]), I22, trivial⟩ hP hS dX11_set_28
set_option maxHeartbeats 4000000 in
set_option maxRecDepth 100000 in
theorem c_X11_learn (l : Launch) (D : va_G) (cI cL : ClassId) (ad zz : Nat → Nat) (hJ : jD ad) (σ : Nat → Nat → Int32) (τ : Nat → Nat → Int64) (a1 : Int32) (A1 : Int) (t1 : a1.toInt = A1) (a2 : Int32) (A2 : Int) (t2 : a2.toInt = A2) (hI2 : jI2 σ) : jM l yX11_learn cX11_learn 5 (some .int) ({ frames := 3, cells := 0, slots := 0, locals := 65 }) D cI cL ad zz [.ref (ad 0), .int a1, .int a2] σ τ (fun r σ' τ' => τ = τ' ∧ (∀ i : Nat, (i < 2 ∨ 3 < i) ∧ (i < 6 ∨ 8 < i) → σ' i = σ i) ∧ (∀ k : Nat, (k < 2 ∨ 2 < k) ∧ (k < 3 ∨ 3 < k) → σ' 2 k = σ 2 k) ∧ (jI2 σ') ∧ True) := by
  refine jM.of hJ (by decide +kernel) (nt := .int) rfl (Nat.le_of_ble_eq_true rfl) ?_
  intro p e s m args below meth c Q ls hC hret hl hP
  obtain ⟨hx, hb, hr, hml, hown, hts, hK, -, hlocks, hZ⟩ := hC
  have hown : s.vm.findClass RX11 = some m.cls := hown
  have hS : va_S (jA ad) s.heap s.heap [] := va_S.rf
  have hA : ∀ q, jA ad q → jA ad q := fun _ h => h
  have hl : lv_has ls 5 [(0, .ref (ad 0)), (1, .int a1), (2, .int a2)] := hl
  have g1 := jrg t1
  have g2 := jrg t2
  obtain ⟨i1, i2, i3, i4, i5, w6⟩ : (0 ≤ (σ 2 0).toInt ∧ (σ 2 0).toInt ≤ 4) ∧ (0 ≤ (σ 2 1).toInt ∧ (σ 2 1).toInt ≤ 3) ∧ (0 ≤ (σ 2 2).toInt) ∧ (0 ≤ (σ 2 3).toInt) ∧ ((σ 2 2).toInt + (σ 2 3).toInt ≤ 40) ∧ (∀ k : Nat, k < 40 → 0 ≤ (σ 6 k).toInt ∧ (σ 6 k).toInt ≤ 67) := id hI2
  refine lv_aload_n hx hb dX11_learn_0 rfl (lv_at hl 0 rfl) ?_
  refine lv_iload_n hx hb dX11_learn_1 rfl (lv_at hl 1 rfl) ?_
  refine lv_iconst (v := 0) hx hb dX11_learn_2 (by decide) ?_
  have I7 : jI2 σ := ⟨(by omega), (by omega), (by omega), (by omega), (by omega), w6⟩
  refine jcallV (As := [.int a1, .int 0]) (rest := []) ⟨hx, hb, hml, hown, hts⟩ hK hP hA hS hZ (c_X11_edgePlace l D cI cL ad zz hJ σ τ a1 (A1) t1 0 (0) jz_0 I7) cw_RX11_106 (jc_0 cI cL ad σ τ) rfl ⟨Nat.le_of_ble_eq_true rfl, Nat.le_of_ble_eq_true rfl⟩ rfl rfl rfl hl.1 rfl (Nat.le_of_ble_eq_true rfl) dX11_learn_3 ⟨Nat.zero_le _, Nat.zero_le _⟩ (fun r9 σ8 τ8 H locs h8 hP hS => ?_)
  obtain ⟨⟨rfl, rfl⟩, h8⟩ := h8
  have h10 := h8
  obtain ⟨q12, k11⟩ := h10
  refine lv_istore_n (lv' := [(3, .int r9), (0, .ref (ad 0)), (1, .int a1), (2, .int a2)]) hx hb dX11_learn_6 rfl hl (by decide) rfl (fun ls hl => ?_)
  refine lv_iload_n hx hb dX11_learn_7 rfl (lv_at hl 0 rfl) ?_
  refine lv_if_lt (tgt := 33) hx hb dX11_learn_8 (by decide) (fun c13 => ?_) (fun c13 => ?_)
  · have kc13 := jlt c13 rfl jz_0
    refine lv_iconst (v := (-1)) hx hb dX11_learn_33 (by decide) ?_
    exact hret (-1) σ τ _ _ _ _ rfl ⟨rfl, (fun _ _ => rfl), (fun _ _ => rfl), I7, trivial⟩ hP hS dX11_learn_34
  · have kc13 := jnlt c13 rfl jz_0
    refine lv_iload_n hx hb dX11_learn_11 rfl (lv_at hl 3 rfl) ?_
    refine lv_iconst (v := 0) hx hb dX11_learn_12 (by decide) ?_
    refine lv_sipush (v := 9999) hx hb dX11_learn_13 (by decide) ?_
    refine jcallS (As := [.int a2, .int 0, .int 9999]) (rest := []) ⟨hx, hb, hml, hown, hts⟩ hK hP hA hS hZ (c_X11_outside l D cI cL ad zz hJ σ τ a2 (A2) t2 0 (0) jz_0 9999 (9999) jz_9999) cw_RX11_94 ⟨Nat.le_of_ble_eq_true rfl, Nat.le_of_ble_eq_true rfl⟩ rfl rfl rfl hl.1 rfl (Nat.le_of_ble_eq_true rfl) dX11_learn_16 ⟨Nat.zero_le _, Nat.zero_le _⟩ (fun r15 σ14 τ14 H locs h14 hP hS => ?_)
    obtain ⟨⟨rfl, rfl⟩, h14⟩ := h14
    rcases h14 with h16 | h17
    · obtain ⟨q19, k18⟩ := h16
      have q19 := q19.symm
      subst q19
      refine lv_if_ne (tgt := 33) hx hb dX11_learn_19 (by decide) (fun _ => ?_) (fun c => absurd c (by decide))
      refine lv_iconst (v := (-1)) hx hb dX11_learn_33 (by decide) ?_
      exact hret (-1) σ τ _ _ _ _ rfl ⟨rfl, (fun _ _ => rfl), (fun _ _ => rfl), I7, trivial⟩ hP hS dX11_learn_34
    · obtain ⟨q21, k20⟩ := h17
      have q21 := q21.symm
      subst q21
      refine lv_if_ne (tgt := 33) hx hb dX11_learn_19 (by decide) (fun c => absurd (by decide) c) (fun _ => ?_)
      refine lv_iload_n hx hb dX11_learn_22 rfl (lv_at hl 3 rfl) ?_
      refine lv_bipush (v := 100) hx hb dX11_learn_23 (by decide) ?_
      refine lv_irem hx hb dX11_learn_25 (by decide) ?_
      refine lv_topi (fun x22 ex22 => ?_)
      have tx22 : x22.toInt = (A2 % 100) := jrem ex22 t2 jz_100 (by omega)
      refine lv_iload_n hx hb dX11_learn_26 rfl (lv_at hl 3 rfl) ?_
      refine lv_bipush (v := 100) hx hb dX11_learn_27 (by decide) ?_
      refine lv_idiv hx hb dX11_learn_29 (by decide) ?_
      refine lv_topi (fun x23 ex23 => ?_)
      have tx23 : x23.toInt = (A2 / 100) := jdiv ex23 t2 jz_100 (by omega) (by omega)
      refine lv_icmp_le (tgt := 35) hx hb dX11_learn_30 (by decide) (fun c24 => ?_) (fun c24 => ?_)
      · have kc24 := jle c24 tx22 tx23
        refine lv_sipush (v := 500) hx hb dX11_learn_35 (by decide) ?_
        refine lv_sipush (v := 1000) hx hb dX11_learn_38 (by decide) ?_
        refine lv_iload_n hx hb dX11_learn_41 rfl (lv_at hl 3 rfl) ?_
        refine lv_bipush (v := 100) hx hb dX11_learn_42 (by decide) ?_
        refine lv_irem hx hb dX11_learn_44 (by decide) ?_
        refine lv_topi (fun x25 ex25 => ?_)
        have tx25 : x25.toInt = (A2 % 100) := jrem ex25 t2 jz_100 (by omega)
        refine lv_iconst (v := 1) hx hb dX11_learn_45 (by decide) ?_
        refine lv_iadd hx hb dX11_learn_46 ?_
        refine lv_topi (fun x26 ex26 => ?_)
        have tx26 : x26.toInt = (A2 % 100) + 1 := (jadd ex26 tx25 jz_1 (by omega) (by omega)).trans (by omega)
        refine lv_imul hx hb dX11_learn_47 ?_
        refine lv_topi (fun x27 ex27 => ?_)
        have tx27 : x27.toInt = 1000 * (A2 % 100) + 1000 := (jmul ex27 jz_1000 tx26 (by omega) (by omega)).trans (by omega)
        refine lv_iload_n hx hb dX11_learn_48 rfl (lv_at hl 3 rfl) ?_
        refine lv_bipush (v := 100) hx hb dX11_learn_49 (by decide) ?_
        refine lv_idiv hx hb dX11_learn_51 (by decide) ?_
        refine lv_topi (fun x28 ex28 => ?_)
        have tx28 : x28.toInt = (A2 / 100) := jdiv ex28 t2 jz_100 (by omega) (by omega)
        refine lv_iconst (v := 2) hx hb dX11_learn_52 (by decide) ?_
        refine lv_iadd hx hb dX11_learn_53 ?_
        refine lv_topi (fun x29 ex29 => ?_)
        have tx29 : x29.toInt = (A2 / 100) + 2 := (jadd ex29 tx28 jz_2 (by omega) (by omega)).trans (by omega)
        refine lv_idiv hx hb dX11_learn_54 (fun h => absurd (jeq h tx29 jz_0) (by omega)) ?_
        have g30 := jdivv (a := x27) (b := x29) tx27 tx29 (by omega) (by omega)
        refine lv_topi (fun x31 ex31 => ?_)
        have tx31 : x31.toInt = ((1000 * (A2 % 100) + 1000) / ((A2 / 100) + 2)) := jdiv ex31 tx27 tx29 (by omega) (by omega)
        refine va_mmin hx hb (hml.trans hl.1.symm) hown (hts _ kw_41_3) (hts _ kw_22_11) (hts _ kw_21_1) (hts _ kw_22_12) (Nat.le_of_ble_eq_true rfl) (Nat.le_of_ble_eq_true rfl) (Nat.le_of_ble_eq_true rfl) (Nat.le_of_ble_eq_true rfl) dX11_learn_55 ?_
        refine lv_topi (fun x32 ex32 => ?_)
        have g33 := jmin ex32 jz_500 tx31
        refine lv_istore (lv' := [(4, .int x32), (3, .int r9), (0, .ref (ad 0)), (1, .int a1), (2, .int a2)]) hx hb dX11_learn_58 hl (by decide) rfl (fun ls hl => ?_)
        refine lv_aload_n hx hb dX11_learn_60 rfl (lv_at hl 2 rfl) ?_
        refine va_get (D := D) hx hb hts inlX11 hown hK hP 0 (jc_0 cI cL ad σ τ) rfl 0 (by decide) (hts _ kw_1_16) (fun _ h9 => h9) rfl dX11_learn_61 ?_
        refine lv_iload_n hx hb dX11_learn_64 rfl (lv_at hl 1 rfl) ?_
        refine lv_iload hx hb dX11_learn_65 (lv_at hl 0 rfl) ?_
        refine jcallV (As := [.int r9, .int x32]) (rest := []) ⟨hx, hb, hml, hown, hts⟩ hK hP hA hS hZ (c_X4_change_2 l D cI cL ad zz hJ σ τ r9 (r9.toInt) rfl x32 (x32.toInt) rfl I7 (by omega)) cw_RX11_118 (jc_2 cI cL ad σ τ) rfl ⟨Nat.le_of_ble_eq_true rfl, Nat.le_of_ble_eq_true rfl⟩ rfl rfl rfl hl.1 rfl (Nat.le_of_ble_eq_true rfl) dX11_learn_67 ⟨Nat.zero_le _, Nat.zero_le _⟩ (fun r35 σ34 τ34 H locs h34 hP hS => ?_)
        obtain ⟨rfl, f36, f37, I38, h34⟩ := h34
        obtain ⟨i39, i40, i41, i42, i43, w44⟩ : (0 ≤ (σ34 2 0).toInt ∧ (σ34 2 0).toInt ≤ 4) ∧ (0 ≤ (σ34 2 1).toInt ∧ (σ34 2 1).toInt ≤ 3) ∧ (0 ≤ (σ34 2 2).toInt) ∧ (0 ≤ (σ34 2 3).toInt) ∧ ((σ34 2 2).toInt + (σ34 2 3).toInt ≤ 40) ∧ (∀ k : Nat, k < 40 → 0 ≤ (σ34 6 k).toInt ∧ (σ34 6 k).toInt ≤ 67) := id I38
        have z45 : (σ34 2 0).toInt = (σ 2 0).toInt := by rw [(show σ34 2 0 = (σ 2 0) from (by rw [f37 0 (by omega)]))]
        have z46 : (σ34 2 1).toInt = (σ 2 1).toInt := by rw [(show σ34 2 1 = (σ 2 1) from (by rw [f37 1 (by omega)]))]
        refine lv_pop hx hb dX11_learn_70 rfl ?_
        refine lv_iload hx hb dX11_learn_71 (lv_at hl 0 rfl) ?_
        exact hret x32 σ34 τ _ _ _ _ rfl ⟨rfl, (fun i hi => by rw [f36 i (by omega)]), (fun k hk => by rw [f37 k (by omega)]), I38, trivial⟩ hP hS dX11_learn_73
      · have kc24 := jnle c24 tx22 tx23
        refine lv_iconst (v := (-1)) hx hb dX11_learn_33 (by decide) ?_
        exact hret (-1) σ τ _ _ _ _ rfl ⟨rfl, (fun _ _ => rfl), (fun _ _ => rfl), I7, trivial⟩ hP hS dX11_learn_34
set_option maxHeartbeats 4000000 in
set_option maxRecDepth 100000 in
theorem c_X11_feed (l : Launch) (D : va_G) (cI cL : ClassId) (ad zz : Nat → Nat) (hJ : jD ad) (σ : Nat → Nat → Int32) (τ : Nat → Nat → Int64) (a1 : Int32) (A1 : Int) (t1 : a1.toInt = A1) (a2 : Int32) (A2 : Int) (t2 : a2.toInt = A2) (hI9 : jI9 σ) : jM l yX11_feed cX11_feed 3 (some .int) ({ frames := 1, cells := 0, slots := 0, locals := 23 }) D cI cL ad zz [.ref (ad 0), .int a1, .int a2] σ τ (fun r σ' τ' => τ = τ' ∧ (∀ i : Nat, (i < 9 ∨ 10 < i) → σ' i = σ i) ∧ (∀ k : Nat, (k < 0 ∨ 0 < k) → σ' 9 k = σ 9 k) ∧ (jI9 σ') ∧ True) := by
  refine jM.of hJ (by decide +kernel) (nt := .int) rfl (Nat.le_of_ble_eq_true rfl) ?_
  intro p e s m args below meth c Q ls hC hret hl hP
  obtain ⟨hx, hb, hr, hml, hown, hts, hK, -, hlocks, hZ⟩ := hC
  have hown : s.vm.findClass RX11 = some m.cls := hown
  have hS : va_S (jA ad) s.heap s.heap [] := va_S.rf
  have hA : ∀ q, jA ad q → jA ad q := fun _ h => h
  have hl : lv_has ls 3 [(0, .ref (ad 0)), (1, .int a1), (2, .int a2)] := hl
  have g1 := jrg t1
  have g2 := jrg t2
  obtain ⟨i1, w2, w3⟩ : (0 ≤ (σ 9 0).toInt ∧ (σ 9 0).toInt ≤ 80) ∧ (∀ k : Nat, k < 80 → 0 ≤ (σ 10 k).toInt ∧ (σ 10 k).toInt ≤ 255) ∧ (∀ k : Nat, k < 8 → 0 ≤ (σ 11 k).toInt ∧ (σ 11 k).toInt ≤ 3) := id hI9
  refine lv_iload_n hx hb dX11_feed_0 rfl (lv_at hl 1 rfl) ?_
  refine lv_iconst (v := 1) hx hb dX11_feed_1 (by decide) ?_
  refine lv_iconst (v := 4) hx hb dX11_feed_2 (by decide) ?_
  refine jcallS (As := [.int a1, .int 1, .int 4]) (rest := []) ⟨hx, hb, hml, hown, hts⟩ hK hP hA hS hZ (c_X11_outside l D cI cL ad zz hJ σ τ a1 (A1) t1 1 (1) jz_1 4 (4) jz_4) cw_RX11_94 ⟨Nat.le_of_ble_eq_true rfl, Nat.le_of_ble_eq_true rfl⟩ rfl rfl rfl hl.1 rfl (Nat.le_of_ble_eq_true rfl) dX11_feed_3 ⟨Nat.zero_le _, Nat.zero_le _⟩ (fun r5 σ4 τ4 H locs h4 hP hS => ?_)
  obtain ⟨⟨rfl, rfl⟩, h4⟩ := h4
  rcases h4 with h6 | h7
  · obtain ⟨q9, k8⟩ := h6
    have q9 := q9.symm
    subst q9
    refine lv_if_eq (tgt := 11) hx hb dX11_feed_6 (by decide) (fun c => absurd c (by decide)) (fun _ => ?_)
    refine lv_iconst (v := (-1)) hx hb dX11_feed_9 (by decide) ?_
    have I10 : jI9 σ := ⟨(by omega), w2, w3⟩
    exact hret (-1) σ τ _ _ _ _ rfl ⟨rfl, (fun _ _ => rfl), (fun _ _ => rfl), I10, trivial⟩ hP hS dX11_feed_10
  · obtain ⟨q12, k11⟩ := h7
    have q12 := q12.symm
    subst q12
    refine lv_if_eq (tgt := 11) hx hb dX11_feed_6 (by decide) (fun _ => ?_) (fun c => absurd (by decide) c)
    refine lv_aload_n hx hb dX11_feed_11 rfl (lv_at hl 0 rfl) ?_
    refine va_get (D := D) hx hb hts inlX11 hown hK hP 0 (jc_0 cI cL ad σ τ) rfl 1 (by decide) (hts _ kw_1_20) (fun _ h9 => h9) rfl dX11_feed_12 ?_
    refine va_get (D := D) hx hb hts inlX7 hown hK hP 9 (jc_9 cI cL ad σ τ) rfl 0 (by decide) (hts _ kw_12_19) (fun _ h9 => h9) rfl dX11_feed_15 ?_
    refine lv_iload_n hx hb dX11_feed_18 rfl (lv_at hl 1 rfl) ?_
    have g13 := jrg (rfl : (σ 9 0).toInt = (σ 9 0).toInt)
    refine lv_iadd hx hb dX11_feed_19 ?_
    refine lv_topi (fun x14 ex14 => ?_)
    have tx14 : x14.toInt = (σ 9 0).toInt + A1 := (jadd ex14 rfl t1 (by omega) (by omega)).trans (by omega)
    refine lv_bipush (v := 80) hx hb dX11_feed_20 (by decide) ?_
    refine lv_icmp_le (tgt := 28) hx hb dX11_feed_22 (by decide) (fun c15 => ?_) (fun c15 => ?_)
    · have kc15 := jle c15 tx14 jz_80
      refine lv_aload_n hx hb dX11_feed_28 rfl (lv_at hl 0 rfl) ?_
      refine va_get (D := D) hx hb hts inlX11 hown hK hP 0 (jc_0 cI cL ad σ τ) rfl 1 (by decide) (hts _ kw_1_20) (fun _ h9 => h9) rfl dX11_feed_29 ?_
      refine lv_iload_n hx hb dX11_feed_32 rfl (lv_at hl 1 rfl) ?_
      refine lv_iload_n hx hb dX11_feed_33 rfl (lv_at hl 2 rfl) ?_
      have I16 : jI9 σ := ⟨(by omega), w2, w3⟩
      refine jcallV (As := [.int a1, .int a2]) (rest := []) ⟨hx, hb, hml, hown, hts⟩ hK hP hA hS hZ (c_X7_take_9 l D cI cL ad zz hJ σ τ a1 (A1) t1 a2 (A2) t2 I16 (by omega)) cw_RX11_127 (jc_9 cI cL ad σ τ) rfl ⟨Nat.le_of_ble_eq_true rfl, Nat.le_of_ble_eq_true rfl⟩ rfl rfl rfl hl.1 rfl (Nat.le_of_ble_eq_true rfl) dX11_feed_34 ⟨Nat.zero_le _, Nat.zero_le _⟩ (fun r18 σ17 τ17 H locs h17 hP hS => ?_)
      obtain ⟨rfl, f19, f20, I21, h17⟩ := h17
      obtain ⟨i22, w23, w24⟩ : (0 ≤ (σ17 9 0).toInt ∧ (σ17 9 0).toInt ≤ 80) ∧ (∀ k : Nat, k < 80 → 0 ≤ (σ17 10 k).toInt ∧ (σ17 10 k).toInt ≤ 255) ∧ (∀ k : Nat, k < 8 → 0 ≤ (σ17 11 k).toInt ∧ (σ17 11 k).toInt ≤ 3) := id I21
      exact hret r18 σ17 τ _ _ _ _ rfl ⟨rfl, (fun i hi => by rw [f19 i (by omega)]), (fun k hk => by rw [f20 k (by omega)]), I21, trivial⟩ hP hS dX11_feed_37
    · have kc15 := jnle c15 tx14 jz_80
      refine lv_bipush (v := (-3)) hx hb dX11_feed_25 (by decide) ?_
      have I25 : jI9 σ := ⟨(by omega), w2, w3⟩
      exact hret (-3) σ τ _ _ _ _ rfl ⟨rfl, (fun _ _ => rfl), (fun _ _ => rfl), I25, trivial⟩ hP hS dX11_feed_27
set_option maxHeartbeats 4000000 in
set_option maxRecDepth 100000 in
theorem c_X11_undo (l : Launch) (D : va_G) (cI cL : ClassId) (ad zz : Nat → Nat) (hJ : jD ad) (σ : Nat → Nat → Int32) (τ : Nat → Nat → Int64) (hI2 : jI2 σ) : jM l yX11_undo cX11_undo 1 (some .int) ({ frames := 1, cells := 0, slots := 0, locals := 20 }) D cI cL ad zz [.ref (ad 0)] σ τ (fun r σ' τ' => τ = τ' ∧ (∀ i : Nat, (i < 2 ∨ 3 < i) → σ' i = σ i) ∧ (∀ k : Nat, (k < 2 ∨ 2 < k) ∧ (k < 3 ∨ 3 < k) → σ' 2 k = σ 2 k) ∧ (jI2 σ') ∧ True) := by
  refine jM.of hJ (by decide +kernel) (nt := .int) rfl (Nat.le_of_ble_eq_true rfl) ?_
  intro p e s m args below meth c Q ls hC hret hl hP
  obtain ⟨hx, hb, hr, hml, hown, hts, hK, -, hlocks, hZ⟩ := hC
  have hown : s.vm.findClass RX11 = some m.cls := hown
  have hS : va_S (jA ad) s.heap s.heap [] := va_S.rf
  have hA : ∀ q, jA ad q → jA ad q := fun _ h => h
  have hl : lv_has ls 1 [(0, .ref (ad 0))] := hl
  obtain ⟨i1, i2, i3, i4, i5, w6⟩ : (0 ≤ (σ 2 0).toInt ∧ (σ 2 0).toInt ≤ 4) ∧ (0 ≤ (σ 2 1).toInt ∧ (σ 2 1).toInt ≤ 3) ∧ (0 ≤ (σ 2 2).toInt) ∧ (0 ≤ (σ 2 3).toInt) ∧ ((σ 2 2).toInt + (σ 2 3).toInt ≤ 40) ∧ (∀ k : Nat, k < 40 → 0 ≤ (σ 6 k).toInt ∧ (σ 6 k).toInt ≤ 67) := id hI2
  refine lv_aload_n hx hb dX11_undo_0 rfl (lv_at hl 0 rfl) ?_
  refine va_get (D := D) hx hb hts inlX11 hown hK hP 0 (jc_0 cI cL ad σ τ) rfl 0 (by decide) (hts _ kw_1_16) (fun _ h9 => h9) rfl dX11_undo_1 ?_
  refine va_get (D := D) hx hb hts inlX4 hown hK hP 2 (jc_2 cI cL ad σ τ) rfl 2 (by decide) (hts _ kw_47_8) (fun _ h9 => h9) rfl dX11_undo_4 ?_
  refine lv_if_ne (tgt := 15) hx hb dX11_undo_7 (by decide) (fun c7 => ?_) (fun c7 => ?_)
  · have kc7 := jne c7 rfl jz_0
    refine lv_aload_n hx hb dX11_undo_15 rfl (lv_at hl 0 rfl) ?_
    refine va_get (D := D) hx hb hts inlX11 hown hK hP 0 (jc_0 cI cL ad σ τ) rfl 0 (by decide) (hts _ kw_1_16) (fun _ h9 => h9) rfl dX11_undo_16 ?_
    have I8 : jI2 σ := ⟨(by omega), (by omega), (by omega), (by omega), (by omega), w6⟩
    refine jcallV (As := []) (rest := []) ⟨hx, hb, hml, hown, hts⟩ hK hP hA hS hZ (c_X4_stepBack_2 l D cI cL ad zz hJ σ τ I8) cw_RX11_280 (jc_2 cI cL ad σ τ) rfl ⟨Nat.le_of_ble_eq_true rfl, Nat.le_of_ble_eq_true rfl⟩ rfl rfl rfl hl.1 rfl (Nat.le_of_ble_eq_true rfl) dX11_undo_19 ⟨Nat.zero_le _, Nat.zero_le _⟩ (fun r10 σ9 τ9 H locs h9 hP hS => ?_)
    obtain ⟨rfl, f11, f12, I13, h9⟩ := h9
    obtain ⟨i14, i15, i16, i17, i18, w19⟩ : (0 ≤ (σ9 2 0).toInt ∧ (σ9 2 0).toInt ≤ 4) ∧ (0 ≤ (σ9 2 1).toInt ∧ (σ9 2 1).toInt ≤ 3) ∧ (0 ≤ (σ9 2 2).toInt) ∧ (0 ≤ (σ9 2 3).toInt) ∧ ((σ9 2 2).toInt + (σ9 2 3).toInt ≤ 40) ∧ (∀ k : Nat, k < 40 → 0 ≤ (σ9 6 k).toInt ∧ (σ9 6 k).toInt ≤ 67) := id I13
    have z20 : (σ9 2 0).toInt = (σ 2 0).toInt := by rw [(show σ9 2 0 = (σ 2 0) from (by rw [f12 0 (by omega)]))]
    have z21 : (σ9 2 1).toInt = (σ 2 1).toInt := by rw [(show σ9 2 1 = (σ 2 1) from (by rw [f12 1 (by omega)]))]
    exact hret r10 σ9 τ _ _ _ _ rfl ⟨rfl, (fun i hi => by rw [f11 i (by omega)]), (fun k hk => by rw [f12 k (by omega)]), I13, trivial⟩ hP hS dX11_undo_22
  · have kc7 := jeq c7 rfl jz_0
    refine lv_bipush (v := (-5)) hx hb dX11_undo_10 (by decide) ?_
    refine lv_goto (tgt := 22) hx hb dX11_undo_12 (by decide) ?_
    have I22 : jI2 σ := ⟨(by omega), (by omega), (by omega), (by omega), (by omega), w6⟩
    exact hret (-5) σ τ _ _ _ _ rfl ⟨rfl, (fun _ _ => rfl), (fun _ _ => rfl), I22, trivial⟩ hP hS dX11_undo_22
set_option maxHeartbeats 4000000 in
set_option maxRecDepth 100000 in
theorem c_X11_redo (l : Launch) (D : va_G) (cI cL : ClassId) (ad zz : Nat → Nat) (hJ : jD ad) (σ : Nat → Nat → Int32) (τ : Nat → Nat → Int64) (hI2 : jI2 σ) : jM l yX11_redo cX11_redo 1 (some .int) ({ frames := 1, cells := 0, slots := 0, locals := 20 }) D cI cL ad zz [.ref (ad 0)] σ τ (fun r σ' τ' => τ = τ' ∧ (∀ i : Nat, (i < 2 ∨ 3 < i) → σ' i = σ i) ∧ (∀ k : Nat, (k < 2 ∨ 2 < k) ∧ (k < 3 ∨ 3 < k) → σ' 2 k = σ 2 k) ∧ (jI2 σ') ∧ True) := by
  refine jM.of hJ (by decide +kernel) (nt := .int) rfl (Nat.le_of_ble_eq_true rfl) ?_
  intro p e s m args below meth c Q ls hC hret hl hP
  obtain ⟨hx, hb, hr, hml, hown, hts, hK, -, hlocks, hZ⟩ := hC
  have hown : s.vm.findClass RX11 = some m.cls := hown
  have hS : va_S (jA ad) s.heap s.heap [] := va_S.rf
  have hA : ∀ q, jA ad q → jA ad q := fun _ h => h
  have hl : lv_has ls 1 [(0, .ref (ad 0))] := hl
  obtain ⟨i1, i2, i3, i4, i5, w6⟩ : (0 ≤ (σ 2 0).toInt ∧ (σ 2 0).toInt ≤ 4) ∧ (0 ≤ (σ 2 1).toInt ∧ (σ 2 1).toInt ≤ 3) ∧ (0 ≤ (σ 2 2).toInt) ∧ (0 ≤ (σ 2 3).toInt) ∧ ((σ 2 2).toInt + (σ 2 3).toInt ≤ 40) ∧ (∀ k : Nat, k < 40 → 0 ≤ (σ 6 k).toInt ∧ (σ 6 k).toInt ≤ 67) := id hI2
  refine lv_aload_n hx hb dX11_redo_0 rfl (lv_at hl 0 rfl) ?_
  refine va_get (D := D) hx hb hts inlX11 hown hK hP 0 (jc_0 cI cL ad σ τ) rfl 0 (by decide) (hts _ kw_1_16) (fun _ h9 => h9) rfl dX11_redo_1 ?_
  refine va_get (D := D) hx hb hts inlX4 hown hK hP 2 (jc_2 cI cL ad σ τ) rfl 3 (by decide) (hts _ kw_47_21) (fun _ h9 => h9) rfl dX11_redo_4 ?_
  refine lv_if_ne (tgt := 15) hx hb dX11_redo_7 (by decide) (fun c7 => ?_) (fun c7 => ?_)
  · have kc7 := jne c7 rfl jz_0
    refine lv_aload_n hx hb dX11_redo_15 rfl (lv_at hl 0 rfl) ?_
    refine va_get (D := D) hx hb hts inlX11 hown hK hP 0 (jc_0 cI cL ad σ τ) rfl 0 (by decide) (hts _ kw_1_16) (fun _ h9 => h9) rfl dX11_redo_16 ?_
    have I8 : jI2 σ := ⟨(by omega), (by omega), (by omega), (by omega), (by omega), w6⟩
    refine jcallV (As := []) (rest := []) ⟨hx, hb, hml, hown, hts⟩ hK hP hA hS hZ (c_X4_stepAgain_2 l D cI cL ad zz hJ σ τ I8) cw_RX11_286 (jc_2 cI cL ad σ τ) rfl ⟨Nat.le_of_ble_eq_true rfl, Nat.le_of_ble_eq_true rfl⟩ rfl rfl rfl hl.1 rfl (Nat.le_of_ble_eq_true rfl) dX11_redo_19 ⟨Nat.zero_le _, Nat.zero_le _⟩ (fun r10 σ9 τ9 H locs h9 hP hS => ?_)
    obtain ⟨rfl, f11, f12, I13, h9⟩ := h9
    obtain ⟨i14, i15, i16, i17, i18, w19⟩ : (0 ≤ (σ9 2 0).toInt ∧ (σ9 2 0).toInt ≤ 4) ∧ (0 ≤ (σ9 2 1).toInt ∧ (σ9 2 1).toInt ≤ 3) ∧ (0 ≤ (σ9 2 2).toInt) ∧ (0 ≤ (σ9 2 3).toInt) ∧ ((σ9 2 2).toInt + (σ9 2 3).toInt ≤ 40) ∧ (∀ k : Nat, k < 40 → 0 ≤ (σ9 6 k).toInt ∧ (σ9 6 k).toInt ≤ 67) := id I13
    have z20 : (σ9 2 0).toInt = (σ 2 0).toInt := by rw [(show σ9 2 0 = (σ 2 0) from (by rw [f12 0 (by omega)]))]
    have z21 : (σ9 2 1).toInt = (σ 2 1).toInt := by rw [(show σ9 2 1 = (σ 2 1) from (by rw [f12 1 (by omega)]))]
    exact hret r10 σ9 τ _ _ _ _ rfl ⟨rfl, (fun i hi => by rw [f11 i (by omega)]), (fun k hk => by rw [f12 k (by omega)]), I13, trivial⟩ hP hS dX11_redo_22
  · have kc7 := jeq c7 rfl jz_0
    refine lv_bipush (v := (-5)) hx hb dX11_redo_10 (by decide) ?_
    refine lv_goto (tgt := 22) hx hb dX11_redo_12 (by decide) ?_
    have I22 : jI2 σ := ⟨(by omega), (by omega), (by omega), (by omega), (by omega), w6⟩
    exact hret (-5) σ τ _ _ _ _ rfl ⟨rfl, (fun _ _ => rfl), (fun _ _ => rfl), I22, trivial⟩ hP hS dX11_redo_22
set_option maxHeartbeats 4000000 in
set_option maxRecDepth 100000 in
theorem c_X11_order (l : Launch) (D : va_G) (cI cL : ClassId) (ad zz : Nat → Nat) (hJ : jD ad) (σ : Nat → Nat → Int32) (τ : Nat → Nat → Int64) (hI9 : jI9 σ) (hI16 : jI16 σ) (hI47 : jI47 σ) : jM l yX11_order cX11_order 2 (some .int) ({ frames := 3, cells := 0, slots := 0, locals := 69 }) D cI cL ad zz [.ref (ad 0)] σ τ (fun r σ' τ' => τ = τ' ∧ (∀ i : Nat, (i < 9 ∨ 9 < i) ∧ (i < 11 ∨ 11 < i) ∧ (i < 16 ∨ 17 < i) ∧ (i < 47 ∨ 47 < i) → σ' i = σ i) ∧ (∀ k : Nat, (k < 0 ∨ 0 < k) ∧ (k < 1 ∨ 1 < k) ∧ (k < 2 ∨ 2 < k) → σ' 9 k = σ 9 k) ∧ (∀ k : Nat, (k < 0 ∨ 0 < k) ∧ (k < 1 ∨ 1 < k) ∧ (k < 2 ∨ 2 < k) → σ' 16 k = σ 16 k) ∧ (∀ k : Nat, (k < 0 ∨ 0 < k) → σ' 47 k = σ 47 k) ∧ (jI9 σ') ∧ (jI16 σ') ∧ (jI47 σ') ∧ True) := by
  refine jM.of hJ (by decide +kernel) (nt := .int) rfl (Nat.le_of_ble_eq_true rfl) ?_
  intro p e s m args below meth c Q ls hC hret hl hP
  obtain ⟨hx, hb, hr, hml, hown, hts, hK, -, hlocks, hZ⟩ := hC
  have hown : s.vm.findClass RX11 = some m.cls := hown
  have hS : va_S (jA ad) s.heap s.heap [] := va_S.rf
  have hA : ∀ q, jA ad q → jA ad q := fun _ h => h
  have hl : lv_has ls 2 [(0, .ref (ad 0))] := hl
  obtain ⟨i1, w2, w3⟩ : (0 ≤ (σ 9 0).toInt ∧ (σ 9 0).toInt ≤ 80) ∧ (∀ k : Nat, k < 80 → 0 ≤ (σ 10 k).toInt ∧ (σ 10 k).toInt ≤ 255) ∧ (∀ k : Nat, k < 8 → 0 ≤ (σ 11 k).toInt ∧ (σ 11 k).toInt ≤ 3) := id hI9
  obtain ⟨i4, i5, i6, w7⟩ : (1 ≤ (σ 16 0).toInt ∧ (σ 16 0).toInt ≤ 8) ∧ (1 ≤ (σ 16 1).toInt ∧ (σ 16 1).toInt ≤ 12) ∧ (0 ≤ (σ 16 2).toInt ∧ (σ 16 2).toInt ≤ 999) ∧ (∀ k : Nat, k < 8 → 0 ≤ (σ 17 k).toInt ∧ (σ 17 k).toInt ≤ 3) := id hI16
  obtain ⟨i8, w9⟩ : (0 ≤ (σ 47 0).toInt ∧ (σ 47 0).toInt ≤ 12) ∧ (∀ k : Nat, k < 12 → 0 ≤ (σ 49 k).toInt ∧ (σ 49 k).toInt ≤ 1) := id hI47
  refine lv_aload_n hx hb dX11_order_0 rfl (lv_at hl 0 rfl) ?_
  refine va_get (D := D) hx hb hts inlX11 hown hK hP 0 (jc_0 cI cL ad σ τ) rfl 1 (by decide) (hts _ kw_1_20) (fun _ h9 => h9) rfl dX11_order_1 ?_
  refine lv_aload_n hx hb dX11_order_4 rfl (lv_at hl 0 rfl) ?_
  refine va_get (D := D) hx hb hts inlX11 hown hK hP 0 (jc_0 cI cL ad σ τ) rfl 2 (by decide) (hts _ kw_2_0) (fun _ h9 => h9) rfl dX11_order_5 ?_
  have I10 : jI9 σ := ⟨(by omega), w2, w3⟩
  have I11 : jI16 σ := ⟨(by omega), (by omega), (by omega), w7⟩
  refine jcallV (As := [.ref (ad 16)]) (rest := []) ⟨hx, hb, hml, hown, hts⟩ hK hP hA hS hZ (c_X7_readOrder_9 l D cI cL ad zz hJ σ τ I10 I11) cw_RX11_130 (jc_9 cI cL ad σ τ) rfl ⟨Nat.le_of_ble_eq_true rfl, Nat.le_of_ble_eq_true rfl⟩ rfl rfl rfl hl.1 rfl (Nat.le_of_ble_eq_true rfl) dX11_order_8 ⟨Nat.zero_le _, Nat.zero_le _⟩ (fun r13 σ12 τ12 H locs h12 hP hS => ?_)
  obtain ⟨rfl, f14, f15, f16, I17, I18, h12⟩ := h12
  obtain ⟨i19, w20, w21⟩ : (0 ≤ (σ12 9 0).toInt ∧ (σ12 9 0).toInt ≤ 80) ∧ (∀ k : Nat, k < 80 → 0 ≤ (σ12 10 k).toInt ∧ (σ12 10 k).toInt ≤ 255) ∧ (∀ k : Nat, k < 8 → 0 ≤ (σ12 11 k).toInt ∧ (σ12 11 k).toInt ≤ 3) := id I17
  obtain ⟨i22, i23, i24, w25⟩ : (1 ≤ (σ12 16 0).toInt ∧ (σ12 16 0).toInt ≤ 8) ∧ (1 ≤ (σ12 16 1).toInt ∧ (σ12 16 1).toInt ≤ 12) ∧ (0 ≤ (σ12 16 2).toInt ∧ (σ12 16 2).toInt ≤ 999) ∧ (∀ k : Nat, k < 8 → 0 ≤ (σ12 17 k).toInt ∧ (σ12 17 k).toInt ≤ 3) := id I18
  refine lv_istore_n (lv' := [(1, .int r13), (0, .ref (ad 0))]) hx hb dX11_order_11 rfl hl (by decide) rfl (fun ls hl => ?_)
  refine lv_iload_n hx hb dX11_order_12 rfl (lv_at hl 0 rfl) ?_
  refine lv_if_lt (tgt := 21) hx hb dX11_order_13 (by decide) (fun c26 => ?_) (fun c26 => ?_)
  · have kc26 := jlt c26 rfl jz_0
    refine lv_aload_n hx hb dX11_order_21 rfl (lv_at hl 1 rfl) ?_
    refine va_get (D := D) hx hb hts inlX11 hown hK hP 0 (jc_0 cI cL ad σ12 τ) rfl 9 (by decide) (hts _ kw_3_1) (fun _ h9 => h9) rfl dX11_order_22 ?_
    refine lv_iconst (v := 0) hx hb dX11_order_25 (by decide) ?_
    refine jput (ty := .int) hx hb hts inlX2 tyX2 tyX2_ok nmX2 hown hK hP hJ hA hS (jc_47 cI cL ad σ12 τ) rfl (k := 0) (by decide) (Nat.le_of_ble_eq_true rfl) (jp_47_0 cI cL ad σ12 τ 0) (hts _ kw_13_11) (fun _ h9 => h9) rfl (by decide +kernel) rfl rfl dX11_order_26 (fun σ27 H locs eσ27 hP hS => ?_)
    refine lv_aload_n hx hb dX11_order_29 rfl (lv_at hl 1 rfl) ?_
    refine va_get (D := D) hx hb hts inlX11 hown hK hP 0 (jc_0 cI cL ad σ27 τ) rfl 2 (by decide) (hts _ kw_2_0) (fun _ h9 => h9) rfl dX11_order_30 ?_
    refine va_get (D := D) hx hb hts inlX6 hown hK hP 16 (jc_16 cI cL ad σ27 τ) rfl 0 (by decide) (hts _ kw_13_12) (fun _ h9 => h9) rfl dX11_order_33 ?_
    have m28 : σ27 16 0 = (σ12 16 0) := (by rw [eσ27, jup_n (by decide)])
    refine jtopr m28 ?_
    have z29 : (σ27 9 0).toInt = (σ12 9 0).toInt := by rw [(show σ27 9 0 = (σ12 9 0) from (by rw [eσ27, jup_n (by decide)]))]
    have w30 : ∀ k : Nat, k < 80 → 0 ≤ (σ27 10 k).toInt ∧ (σ27 10 k).toInt ≤ 255 := (by rw [eσ27, jup_n (by decide)]; exact w20)
    have w31 : ∀ k : Nat, k < 8 → 0 ≤ (σ27 11 k).toInt ∧ (σ27 11 k).toInt ≤ 3 := (by rw [eσ27, jup_n (by decide)]; exact w21)
    have I32 : jI9 σ27 := ⟨(by omega), w30, w31⟩
    have z33 : (σ27 16 0).toInt = (σ12 16 0).toInt := by rw [(show σ27 16 0 = (σ12 16 0) from m28)]
    have z34 : (σ27 16 1).toInt = (σ12 16 1).toInt := by rw [(show σ27 16 1 = (σ12 16 1) from (by rw [eσ27, jup_n (by decide)]))]
    have z35 : (σ27 16 2).toInt = (σ12 16 2).toInt := by rw [(show σ27 16 2 = (σ12 16 2) from (by rw [eσ27, jup_n (by decide)]))]
    have w36 : ∀ k : Nat, k < 8 → 0 ≤ (σ27 17 k).toInt ∧ (σ27 17 k).toInt ≤ 3 := (by rw [eσ27, jup_n (by decide)]; exact w25)
    have I37 : jI16 σ27 := ⟨(by omega), (by omega), (by omega), w36⟩
    have z38 : (σ27 47 0).toInt = 0 := by rw [(show σ27 47 0 = 0 from (by rw [eσ27]; exact jup_s))]; exact jz_0
    have w39 : ∀ k : Nat, k < 12 → 0 ≤ (σ27 49 k).toInt ∧ (σ27 49 k).toInt ≤ 1 := (by rw [eσ27, jup_n (by decide)]; exact (by rw [f14 49 (by omega)]; exact w9))
    have I40 : jI47 σ27 := ⟨(by omega), w39⟩
    exact hret (σ12 16 0) σ27 τ _ _ _ _ rfl ⟨rfl, (fun i hi => by rw [eσ27, jup_n (by omega), f14 i (by omega)]), (fun k hk => by rw [eσ27, jup_n (by decide), f15 k (by omega)]), (fun k hk => by rw [eσ27, jup_n (by decide), f16 k (by omega)]), (fun k hk => by rw [eσ27, jup_k (by omega), f14 47 (by omega)]), I32, I37, I40, trivial⟩ hP hS dX11_order_36
  · have kc26 := jnlt c26 rfl jz_0
    refine lv_bipush (v := (-100)) hx hb dX11_order_16 (by decide) ?_
    refine lv_iload_n hx hb dX11_order_18 rfl (lv_at hl 0 rfl) ?_
    have g41 := jrg (rfl : r13.toInt = r13.toInt)
    refine lv_isub hx hb dX11_order_19 ?_
    refine lv_topi (fun x42 ex42 => ?_)
    have gx42 := jrg (rfl : x42.toInt = x42.toInt)
    have z43 : (σ12 47 0).toInt = (σ 47 0).toInt := by rw [(show σ12 47 0 = (σ 47 0) from (by rw [f14 47 (by omega)]))]
    have w44 : ∀ k : Nat, k < 12 → 0 ≤ (σ12 49 k).toInt ∧ (σ12 49 k).toInt ≤ 1 := (by rw [f14 49 (by omega)]; exact w9)
    have I45 : jI47 σ12 := ⟨(by omega), w44⟩
    exact hret x42 σ12 τ _ _ _ _ rfl ⟨rfl, (fun i hi => by rw [f14 i (by omega)]), (fun k hk => by rw [f15 k (by omega)]), (fun k hk => by rw [f16 k (by omega)]), (fun k hk => by rw [f14 47 (by omega)]), I17, I18, I45, trivial⟩ hP hS dX11_order_20
set_option maxHeartbeats 4000000 in
set_option maxRecDepth 100000 in
theorem c_X11_text (l : Launch) (D : va_G) (cI cL : ClassId) (ad zz : Nat → Nat) (hJ : jD ad) (σ : Nat → Nat → Int32) (τ : Nat → Nat → Int64) (a1 : Int32) (A1 : Int) (t1 : a1.toInt = A1) (hI9 : jI9 σ) (hI12 : jI12 σ) (hI18 : jI18 σ) (hI22 : jI22 σ) : jM l yX11_text cX11_text 3 (some .int) ({ frames := 53, cells := 0, slots := 0, locals := 1249 }) D cI cL ad zz [.ref (ad 0), .int a1] σ τ (fun r σ' τ' => τ = τ' ∧ (∀ i : Nat, (i < 9 ∨ 9 < i) ∧ (i < 12 ∨ 13 < i) ∧ (i < 18 ∨ 19 < i) ∧ (i < 22 ∨ 23 < i) ∧ (i < 26 ∨ 26 < i) → σ' i = σ i) ∧ (∀ k : Nat, (k < 0 ∨ 0 < k) ∧ (k < 1 ∨ 1 < k) ∧ (k < 2 ∨ 2 < k) → σ' 9 k = σ 9 k) ∧ (∀ k : Nat, (k < 0 ∨ 0 < k) ∧ (k < 1 ∨ 1 < k) → σ' 12 k = σ 12 k) ∧ (∀ k : Nat, (k < 0 ∨ 0 < k) ∧ (k < 1 ∨ 1 < k) → σ' 18 k = σ 18 k) ∧ (∀ k : Nat, (k < 0 ∨ 0 < k) ∧ (k < 1 ∨ 1 < k) → σ' 22 k = σ 22 k) ∧ (∀ k : Nat, (k < 6 ∨ 6 < k) ∧ (k < 7 ∨ 7 < k) → σ' 26 k = σ 26 k) ∧ (jI9 σ') ∧ (jI12 σ') ∧ (jI18 σ') ∧ (jI22 σ') ∧ True) := by
  refine jM.of hJ (by decide +kernel) (nt := .int) rfl (Nat.le_of_ble_eq_true rfl) ?_
  intro p e s m args below meth c Q ls hC hret hl hP
  obtain ⟨hx, hb, hr, hml, hown, hts, hK, -, hlocks, hZ⟩ := hC
  have hown : s.vm.findClass RX11 = some m.cls := hown
  have hS : va_S (jA ad) s.heap s.heap [] := va_S.rf
  have hA : ∀ q, jA ad q → jA ad q := fun _ h => h
  have hl : lv_has ls 3 [(0, .ref (ad 0)), (1, .int a1)] := hl
  have g1 := jrg t1
  obtain ⟨i1, w2, w3⟩ : (0 ≤ (σ 9 0).toInt ∧ (σ 9 0).toInt ≤ 80) ∧ (∀ k : Nat, k < 80 → 0 ≤ (σ 10 k).toInt ∧ (σ 10 k).toInt ≤ 255) ∧ (∀ k : Nat, k < 8 → 0 ≤ (σ 11 k).toInt ∧ (σ 11 k).toInt ≤ 3) := id hI9
  obtain ⟨i4, w5⟩ : (0 ≤ (σ 12 0).toInt ∧ (σ 12 0).toInt ≤ 160) ∧ (∀ k : Nat, k < 160 → 0 ≤ (σ 13 k).toInt ∧ (σ 13 k).toInt ≤ 30000) := id hI12
  obtain ⟨i6, w7⟩ : (0 ≤ (σ 18 0).toInt ∧ (σ 18 0).toInt ≤ 160) ∧ (∀ k : Nat, k < 160 → 0 ≤ (σ 19 k).toInt ∧ (σ 19 k).toInt ≤ 30000) := id hI18
  obtain ⟨i8, w9⟩ : (0 ≤ (σ 22 0).toInt ∧ (σ 22 0).toInt ≤ 160) ∧ (∀ k : Nat, k < 160 → 0 ≤ (σ 23 k).toInt ∧ (σ 23 k).toInt ≤ 30000) := id hI22
  refine lv_iload_n hx hb dX11_text_0 rfl (lv_at hl 1 rfl) ?_
  refine lv_iconst (v := 0) hx hb dX11_text_1 (by decide) ?_
  refine lv_iconst (v := 1) hx hb dX11_text_2 (by decide) ?_
  refine jcallS (As := [.int a1, .int 0, .int 1]) (rest := []) ⟨hx, hb, hml, hown, hts⟩ hK hP hA hS hZ (c_X11_outside l D cI cL ad zz hJ σ τ a1 (A1) t1 0 (0) jz_0 1 (1) jz_1) cw_RX11_94 ⟨Nat.le_of_ble_eq_true rfl, Nat.le_of_ble_eq_true rfl⟩ rfl rfl rfl hl.1 rfl (Nat.le_of_ble_eq_true rfl) dX11_text_3 ⟨Nat.zero_le _, Nat.zero_le _⟩ (fun r11 σ10 τ10 H locs h10 hP hS => ?_)
  obtain ⟨⟨rfl, rfl⟩, h10⟩ := h10
  rcases h10 with h12 | h13
  · obtain ⟨q15, k14⟩ := h12
    have q15 := q15.symm
    subst q15
    refine lv_if_eq (tgt := 11) hx hb dX11_text_6 (by decide) (fun c => absurd c (by decide)) (fun _ => ?_)
    refine lv_iconst (v := (-1)) hx hb dX11_text_9 (by decide) ?_
    have I16 : jI9 σ := ⟨(by omega), w2, w3⟩
    have I17 : jI12 σ := ⟨(by omega), w5⟩
    have I18 : jI18 σ := ⟨(by omega), w7⟩
    have I19 : jI22 σ := ⟨(by omega), w9⟩
    exact hret (-1) σ τ _ _ _ _ rfl ⟨rfl, (fun _ _ => rfl), (fun _ _ => rfl), (fun _ _ => rfl), (fun _ _ => rfl), (fun _ _ => rfl), (fun _ _ => rfl), I16, I17, I18, I19, trivial⟩ hP hS dX11_text_10
  · obtain ⟨q21, k20⟩ := h13
    have q21 := q21.symm
    subst q21
    refine lv_if_eq (tgt := 11) hx hb dX11_text_6 (by decide) (fun _ => ?_) (fun c => absurd (by decide) c)
    refine lv_aload_n hx hb dX11_text_11 rfl (lv_at hl 0 rfl) ?_
    refine va_get (D := D) hx hb hts inlX11 hown hK hP 0 (jc_0 cI cL ad σ τ) rfl 1 (by decide) (hts _ kw_1_20) (fun _ h9 => h9) rfl dX11_text_12 ?_
    refine lv_iload_n hx hb dX11_text_15 rfl (lv_at hl 1 rfl) ?_
    refine lv_if_ne (tgt := 26) hx hb dX11_text_16 (by decide) (fun c22 => ?_) (fun c22 => ?_)
    · have kc22 := jne c22 t1 jz_0
      refine lv_aload_n hx hb dX11_text_26 rfl (lv_at hl 0 rfl) ?_
      refine va_get (D := D) hx hb hts inlX11 hown hK hP 0 (jc_0 cI cL ad σ τ) rfl 4 (by decide) (hts _ kw_2_5) (fun _ h9 => h9) rfl dX11_text_27 ?_
      have I23 : jI9 σ := ⟨(by omega), w2, w3⟩
      have I24 : jI12 σ := ⟨(by omega), w5⟩
      have I25 : jI22 σ := ⟨(by omega), w9⟩
      refine jcallV (As := [.ref (ad 22)]) (rest := []) ⟨hx, hb, hml, hown, hts⟩ hK hP hA hS hZ (c_X7_readText_9_v1 l D cI cL ad zz hJ σ τ I23 I24 I25) cw_RX11_136 (jc_9 cI cL ad σ τ) rfl ⟨Nat.le_of_ble_eq_true rfl, Nat.le_of_ble_eq_true rfl⟩ rfl rfl rfl hl.1 rfl (Nat.le_of_ble_eq_true rfl) dX11_text_30 ⟨Nat.zero_le _, Nat.zero_le _⟩ (fun r27 σ26 τ26 H locs h26 hP hS => ?_)
      obtain ⟨rfl, f28, f29, f30, f31, I32, I33, I34, h26⟩ := h26
      obtain ⟨i35, w36, w37⟩ : (0 ≤ (σ26 9 0).toInt ∧ (σ26 9 0).toInt ≤ 80) ∧ (∀ k : Nat, k < 80 → 0 ≤ (σ26 10 k).toInt ∧ (σ26 10 k).toInt ≤ 255) ∧ (∀ k : Nat, k < 8 → 0 ≤ (σ26 11 k).toInt ∧ (σ26 11 k).toInt ≤ 3) := id I32
      obtain ⟨i38, w39⟩ : (0 ≤ (σ26 12 0).toInt ∧ (σ26 12 0).toInt ≤ 160) ∧ (∀ k : Nat, k < 160 → 0 ≤ (σ26 13 k).toInt ∧ (σ26 13 k).toInt ≤ 30000) := id I33
      obtain ⟨i40, w41⟩ : (0 ≤ (σ26 22 0).toInt ∧ (σ26 22 0).toInt ≤ 160) ∧ (∀ k : Nat, k < 160 → 0 ≤ (σ26 23 k).toInt ∧ (σ26 23 k).toInt ≤ 30000) := id I34
      refine lv_istore_n (lv' := [(2, .int r27), (0, .ref (ad 0)), (1, .int a1)]) hx hb dX11_text_33 rfl hl (by decide) rfl (fun ls hl => ?_)
      refine lv_iload_n hx hb dX11_text_34 rfl (lv_at hl 0 rfl) ?_
      refine lv_if_lt (tgt := 43) hx hb dX11_text_35 (by decide) (fun c42 => ?_) (fun c42 => ?_)
      · have kc42 := jlt c42 rfl jz_0
        refine lv_iload_n hx hb dX11_text_43 rfl (lv_at hl 2 rfl) ?_
        refine lv_iconst (v := 1) hx hb dX11_text_44 (by decide) ?_
        refine lv_icmp_ne (tgt := 55) hx hb dX11_text_45 (by decide) (fun c => absurd (jne c t1 jz_1) (by omega)) (fun c43 => ?_)
        have kc43 := jeq c43 t1 jz_1
        refine lv_aload_n hx hb dX11_text_48 rfl (lv_at hl 1 rfl) ?_
        refine va_get (D := D) hx hb hts inlX11 hown hK hP 0 (jc_0 cI cL ad σ26 τ) rfl 5 (by decide) (hts _ kw_2_9) (fun _ h9 => h9) rfl dX11_text_49 ?_
        refine jcallVv (As := []) (rest := []) ⟨hx, hb, hml, hown, hts⟩ hK hP hA hS hZ (c_X5_forget_26 l D cI cL ad zz hJ σ26 τ) cw_RX11_140 (jc_26 cI cL ad σ26 τ) rfl ⟨Nat.le_of_ble_eq_true rfl, Nat.le_of_ble_eq_true rfl⟩ rfl rfl rfl hl.1 rfl (Nat.le_of_ble_eq_true rfl) dX11_text_52 ⟨Nat.zero_le _, Nat.zero_le _⟩ (fun σ44 τ44 H locs h44 hP hS => ?_)
        obtain ⟨rfl, f46, f47, h44⟩ := h44
        refine lv_iconst (v := 1) hx hb dX11_text_55 (by decide) ?_
        have z48 : (σ44 9 0).toInt = (σ26 9 0).toInt := by rw [(show σ44 9 0 = (σ26 9 0) from (by rw [f46 9 (by omega)]))]
        have w49 : ∀ k : Nat, k < 80 → 0 ≤ (σ44 10 k).toInt ∧ (σ44 10 k).toInt ≤ 255 := (by rw [f46 10 (by omega)]; exact w36)
        have w50 : ∀ k : Nat, k < 8 → 0 ≤ (σ44 11 k).toInt ∧ (σ44 11 k).toInt ≤ 3 := (by rw [f46 11 (by omega)]; exact w37)
        have I51 : jI9 σ44 := ⟨(by omega), w49, w50⟩
        have z52 : (σ44 12 0).toInt = (σ26 12 0).toInt := by rw [(show σ44 12 0 = (σ26 12 0) from (by rw [f46 12 (by omega)]))]
        have w53 : ∀ k : Nat, k < 160 → 0 ≤ (σ44 13 k).toInt ∧ (σ44 13 k).toInt ≤ 30000 := (by rw [f46 13 (by omega)]; exact w39)
        have I54 : jI12 σ44 := ⟨(by omega), w53⟩
        have z55 : (σ44 18 0).toInt = (σ 18 0).toInt := by rw [(show σ44 18 0 = (σ 18 0) from (by rw [f46 18 (by omega)]; exact (by rw [f28 18 (by omega)])))]
        have w56 : ∀ k : Nat, k < 160 → 0 ≤ (σ44 19 k).toInt ∧ (σ44 19 k).toInt ≤ 30000 := (by rw [f46 19 (by omega)]; exact (by rw [f28 19 (by omega)]; exact w7))
        have I57 : jI18 σ44 := ⟨(by omega), w56⟩
        have z58 : (σ44 22 0).toInt = (σ26 22 0).toInt := by rw [(show σ44 22 0 = (σ26 22 0) from (by rw [f46 22 (by omega)]))]
        have w59 : ∀ k : Nat, k < 160 → 0 ≤ (σ44 23 k).toInt ∧ (σ44 23 k).toInt ≤ 30000 := (by rw [f46 23 (by omega)]; exact w41)
        have I60 : jI22 σ44 := ⟨(by omega), w59⟩
        exact hret 1 σ44 τ _ _ _ _ rfl ⟨rfl, (fun i hi => by rw [f46 i (by omega), f28 i (by omega)]), (fun k hk => by rw [f46 9 (by omega), f29 k (by omega)]), (fun k hk => by rw [f46 12 (by omega), f30 k (by omega)]), (fun k hk => by rw [f46 18 (by omega), f28 18 (by omega)]), (fun k hk => by rw [f46 22 (by omega), f31 k (by omega)]), (fun k hk => by rw [f47 k (by omega), f28 26 (by omega)]), I51, I54, I57, I60, trivial⟩ hP hS dX11_text_56
      · have kc42 := jnlt c42 rfl jz_0
        refine lv_bipush (v := (-100)) hx hb dX11_text_38 (by decide) ?_
        refine lv_iload_n hx hb dX11_text_40 rfl (lv_at hl 0 rfl) ?_
        have g61 := jrg (rfl : r27.toInt = r27.toInt)
        refine lv_isub hx hb dX11_text_41 ?_
        refine lv_topi (fun x62 ex62 => ?_)
        have gx62 := jrg (rfl : x62.toInt = x62.toInt)
        have z63 : (σ26 18 0).toInt = (σ 18 0).toInt := by rw [(show σ26 18 0 = (σ 18 0) from (by rw [f28 18 (by omega)]))]
        have w64 : ∀ k : Nat, k < 160 → 0 ≤ (σ26 19 k).toInt ∧ (σ26 19 k).toInt ≤ 30000 := (by rw [f28 19 (by omega)]; exact w7)
        have I65 : jI18 σ26 := ⟨(by omega), w64⟩
        exact hret x62 σ26 τ _ _ _ _ rfl ⟨rfl, (fun i hi => by rw [f28 i (by omega)]), (fun k hk => by rw [f29 k (by omega)]), (fun k hk => by rw [f30 k (by omega)]), (fun k hk => by rw [f28 18 (by omega)]), (fun k hk => by rw [f31 k (by omega)]), (fun k hk => by rw [f28 26 (by omega)]), I32, I33, I65, I34, trivial⟩ hP hS dX11_text_42
    · have kc22 := jeq c22 t1 jz_0
      refine lv_aload_n hx hb dX11_text_19 rfl (lv_at hl 0 rfl) ?_
      refine va_get (D := D) hx hb hts inlX11 hown hK hP 0 (jc_0 cI cL ad σ τ) rfl 3 (by decide) (hts _ kw_2_4) (fun _ h9 => h9) rfl dX11_text_20 ?_
      refine lv_goto (tgt := 30) hx hb dX11_text_23 (by decide) ?_
      have I66 : jI9 σ := ⟨(by omega), w2, w3⟩
      have I67 : jI12 σ := ⟨(by omega), w5⟩
      have I68 : jI18 σ := ⟨(by omega), w7⟩
      refine jcallV (As := [.ref (ad 18)]) (rest := []) ⟨hx, hb, hml, hown, hts⟩ hK hP hA hS hZ (c_X7_readText_9 l D cI cL ad zz hJ σ τ I66 I67 I68) cw_RX11_136 (jc_9 cI cL ad σ τ) rfl ⟨Nat.le_of_ble_eq_true rfl, Nat.le_of_ble_eq_true rfl⟩ rfl rfl rfl hl.1 rfl (Nat.le_of_ble_eq_true rfl) dX11_text_30 ⟨Nat.zero_le _, Nat.zero_le _⟩ (fun r70 σ69 τ69 H locs h69 hP hS => ?_)
      obtain ⟨rfl, f71, f72, f73, f74, I75, I76, I77, h69⟩ := h69
      obtain ⟨i78, w79, w80⟩ : (0 ≤ (σ69 9 0).toInt ∧ (σ69 9 0).toInt ≤ 80) ∧ (∀ k : Nat, k < 80 → 0 ≤ (σ69 10 k).toInt ∧ (σ69 10 k).toInt ≤ 255) ∧ (∀ k : Nat, k < 8 → 0 ≤ (σ69 11 k).toInt ∧ (σ69 11 k).toInt ≤ 3) := id I75
      obtain ⟨i81, w82⟩ : (0 ≤ (σ69 12 0).toInt ∧ (σ69 12 0).toInt ≤ 160) ∧ (∀ k : Nat, k < 160 → 0 ≤ (σ69 13 k).toInt ∧ (σ69 13 k).toInt ≤ 30000) := id I76
      obtain ⟨i83, w84⟩ : (0 ≤ (σ69 18 0).toInt ∧ (σ69 18 0).toInt ≤ 160) ∧ (∀ k : Nat, k < 160 → 0 ≤ (σ69 19 k).toInt ∧ (σ69 19 k).toInt ≤ 30000) := id I77
      refine lv_istore_n (lv' := [(2, .int r70), (0, .ref (ad 0)), (1, .int a1)]) hx hb dX11_text_33 rfl hl (by decide) rfl (fun ls hl => ?_)
      refine lv_iload_n hx hb dX11_text_34 rfl (lv_at hl 0 rfl) ?_
      refine lv_if_lt (tgt := 43) hx hb dX11_text_35 (by decide) (fun c85 => ?_) (fun c85 => ?_)
      · have kc85 := jlt c85 rfl jz_0
        refine lv_iload_n hx hb dX11_text_43 rfl (lv_at hl 2 rfl) ?_
        refine lv_iconst (v := 1) hx hb dX11_text_44 (by decide) ?_
        refine lv_icmp_ne (tgt := 55) hx hb dX11_text_45 (by decide) (fun c86 => ?_) (fun c => absurd (jeq c t1 jz_1) (by omega))
        have kc86 := jne c86 t1 jz_1
        refine lv_iconst (v := 1) hx hb dX11_text_55 (by decide) ?_
        have z87 : (σ69 22 0).toInt = (σ 22 0).toInt := by rw [(show σ69 22 0 = (σ 22 0) from (by rw [f71 22 (by omega)]))]
        have w88 : ∀ k : Nat, k < 160 → 0 ≤ (σ69 23 k).toInt ∧ (σ69 23 k).toInt ≤ 30000 := (by rw [f71 23 (by omega)]; exact w9)
        have I89 : jI22 σ69 := ⟨(by omega), w88⟩
        exact hret 1 σ69 τ _ _ _ _ rfl ⟨rfl, (fun i hi => by rw [f71 i (by omega)]), (fun k hk => by rw [f72 k (by omega)]), (fun k hk => by rw [f73 k (by omega)]), (fun k hk => by rw [f74 k (by omega)]), (fun k hk => by rw [f71 22 (by omega)]), (fun k hk => by rw [f71 26 (by omega)]), I75, I76, I77, I89, trivial⟩ hP hS dX11_text_56
      · have kc85 := jnlt c85 rfl jz_0
        refine lv_bipush (v := (-100)) hx hb dX11_text_38 (by decide) ?_
        refine lv_iload_n hx hb dX11_text_40 rfl (lv_at hl 0 rfl) ?_
        have g90 := jrg (rfl : r70.toInt = r70.toInt)
        refine lv_isub hx hb dX11_text_41 ?_
        refine lv_topi (fun x91 ex91 => ?_)
        have gx91 := jrg (rfl : x91.toInt = x91.toInt)
        have z92 : (σ69 22 0).toInt = (σ 22 0).toInt := by rw [(show σ69 22 0 = (σ 22 0) from (by rw [f71 22 (by omega)]))]
        have w93 : ∀ k : Nat, k < 160 → 0 ≤ (σ69 23 k).toInt ∧ (σ69 23 k).toInt ≤ 30000 := (by rw [f71 23 (by omega)]; exact w9)
        have I94 : jI22 σ69 := ⟨(by omega), w93⟩
        exact hret x91 σ69 τ _ _ _ _ rfl ⟨rfl, (fun i hi => by rw [f71 i (by omega)]), (fun k hk => by rw [f72 k (by omega)]), (fun k hk => by rw [f73 k (by omega)]), (fun k hk => by rw [f74 k (by omega)]), (fun k hk => by rw [f71 22 (by omega)]), (fun k hk => by rw [f71 26 (by omega)]), I75, I76, I77, I94, trivial⟩ hP hS dX11_text_42
set_option maxHeartbeats 4000000 in
set_option maxRecDepth 100000 in
theorem c_X11_of (l : Launch) (D : va_G) (cI cL : ClassId) (ad zz : Nat → Nat) (hJ : jD ad) (σ : Nat → Nat → Int32) (τ : Nat → Nat → Int64) (a1 : Int32) (A1 : Int) (t1 : a1.toInt = A1) (hI16 : jI16 σ) : jM l yX11_of cX11_of 2 (some .int) ({ frames := 1, cells := 0, slots := 0, locals := 21 }) D cI cL ad zz [.ref (ad 0), .int a1] σ τ (fun r σ' τ' => (σ = σ' ∧ τ = τ') ∧ True) := by
  refine jM.of hJ (by decide +kernel) (nt := .int) rfl (Nat.le_of_ble_eq_true rfl) ?_
  intro p e s m args below meth c Q ls hC hret hl hP
  obtain ⟨hx, hb, hr, hml, hown, hts, hK, -, hlocks, hZ⟩ := hC
  have hown : s.vm.findClass RX11 = some m.cls := hown
  have hS : va_S (jA ad) s.heap s.heap [] := va_S.rf
  have hA : ∀ q, jA ad q → jA ad q := fun _ h => h
  have hl : lv_has ls 2 [(0, .ref (ad 0)), (1, .int a1)] := hl
  have g1 := jrg t1
  obtain ⟨i1, i2, i3, w4⟩ : (1 ≤ (σ 16 0).toInt ∧ (σ 16 0).toInt ≤ 8) ∧ (1 ≤ (σ 16 1).toInt ∧ (σ 16 1).toInt ≤ 12) ∧ (0 ≤ (σ 16 2).toInt ∧ (σ 16 2).toInt ≤ 999) ∧ (∀ k : Nat, k < 8 → 0 ≤ (σ 17 k).toInt ∧ (σ 17 k).toInt ≤ 3) := id hI16
  refine lv_iload_n hx hb dX11_of_0 rfl (lv_at hl 1 rfl) ?_
  refine lv_if_ne (tgt := 12) hx hb dX11_of_1 (by decide) (fun c5 => ?_) (fun c5 => ?_)
  · have kc5 := jne c5 t1 jz_0
    refine lv_iload_n hx hb dX11_of_12 rfl (lv_at hl 1 rfl) ?_
    refine lv_iconst (v := 1) hx hb dX11_of_13 (by decide) ?_
    refine lv_icmp_ne (tgt := 25) hx hb dX11_of_14 (by decide) (fun c6 => ?_) (fun c6 => ?_)
    · have kc6 := jne c6 t1 jz_1
      refine lv_iload_n hx hb dX11_of_25 rfl (lv_at hl 1 rfl) ?_
      refine lv_iconst (v := 2) hx hb dX11_of_26 (by decide) ?_
      refine lv_icmp_ne (tgt := 38) hx hb dX11_of_27 (by decide) (fun c7 => ?_) (fun c7 => ?_)
      · have kc7 := jne c7 t1 jz_2
        refine lv_iload_n hx hb dX11_of_38 rfl (lv_at hl 1 rfl) ?_
        refine lv_bipush (v := 10) hx hb dX11_of_39 (by decide) ?_
        refine lv_icmp_lt (tgt := 58) hx hb dX11_of_41 (by decide) (fun c8 => ?_) (fun c8 => ?_)
        · have kc8 := jlt c8 t1 jz_10
          refine lv_iconst (v := (-1)) hx hb dX11_of_58 (by decide) ?_
          exact hret (-1) σ τ _ _ _ _ rfl ⟨⟨rfl, rfl⟩, trivial⟩ hP hS dX11_of_59
        · have kc8 := jnlt c8 t1 jz_10
          refine lv_iload_n hx hb dX11_of_44 rfl (lv_at hl 1 rfl) ?_
          refine lv_bipush (v := 10) hx hb dX11_of_45 (by decide) ?_
          refine lv_isub hx hb dX11_of_47 ?_
          refine lv_topi (fun x9 ex9 => ?_)
          have tx9 : x9.toInt = A1 - 10 := (jsub ex9 t1 jz_10 (by omega) (by omega)).trans (by omega)
          refine lv_aload_n hx hb dX11_of_48 rfl (lv_at hl 0 rfl) ?_
          refine va_get (D := D) hx hb hts inlX11 hown hK hP 0 (jc_0 cI cL ad σ τ) rfl 2 (by decide) (hts _ kw_2_0) (fun _ h9 => h9) rfl dX11_of_49 ?_
          refine va_get (D := D) hx hb hts inlX6 hown hK hP 16 (jc_16 cI cL ad σ τ) rfl 0 (by decide) (hts _ kw_13_12) (fun _ h9 => h9) rfl dX11_of_52 ?_
          refine lv_icmp_lt (tgt := 60) hx hb dX11_of_55 (by decide) (fun c10 => ?_) (fun c10 => ?_)
          · have kc10 := jlt c10 tx9 rfl
            refine lv_aload_n hx hb dX11_of_60 rfl (lv_at hl 0 rfl) ?_
            refine va_get (D := D) hx hb hts inlX11 hown hK hP 0 (jc_0 cI cL ad σ τ) rfl 2 (by decide) (hts _ kw_2_0) (fun _ h9 => h9) rfl dX11_of_61 ?_
            refine lv_iload_n hx hb dX11_of_64 rfl (lv_at hl 1 rfl) ?_
            refine lv_bipush (v := 10) hx hb dX11_of_65 (by decide) ?_
            refine lv_isub hx hb dX11_of_67 ?_
            refine lv_topi (fun x11 ex11 => ?_)
            have tx11 : x11.toInt = A1 - 10 := (jsub ex11 t1 jz_10 (by omega) (by omega)).trans (by omega)
            refine jcallV (As := [.int x11]) (rest := []) ⟨hx, hb, hml, hown, hts⟩ hK hP hA hS hZ (c_X6_sortAt_16 l D cI cL ad zz hJ σ τ x11 (A1 - 10) tx11) cw_RX11_149 (jc_16 cI cL ad σ τ) rfl ⟨Nat.le_of_ble_eq_true rfl, Nat.le_of_ble_eq_true rfl⟩ rfl rfl rfl hl.1 rfl (Nat.le_of_ble_eq_true rfl) dX11_of_68 ⟨Nat.zero_le _, Nat.zero_le _⟩ (fun r13 σ12 τ12 H locs h12 hP hS => ?_)
            obtain ⟨⟨rfl, rfl⟩, h12⟩ := h12
            exact hret r13 σ τ _ _ _ _ rfl ⟨⟨rfl, rfl⟩, trivial⟩ hP hS dX11_of_71
          · have kc10 := jnlt c10 tx9 rfl
            refine lv_iconst (v := (-1)) hx hb dX11_of_58 (by decide) ?_
            exact hret (-1) σ τ _ _ _ _ rfl ⟨⟨rfl, rfl⟩, trivial⟩ hP hS dX11_of_59
      · have kc7 := jeq c7 t1 jz_2
        refine lv_aload_n hx hb dX11_of_30 rfl (lv_at hl 0 rfl) ?_
        refine va_get (D := D) hx hb hts inlX11 hown hK hP 0 (jc_0 cI cL ad σ τ) rfl 2 (by decide) (hts _ kw_2_0) (fun _ h9 => h9) rfl dX11_of_31 ?_
        refine va_get (D := D) hx hb hts inlX6 hown hK hP 16 (jc_16 cI cL ad σ τ) rfl 2 (by decide) (hts _ kw_20_6) (fun _ h9 => h9) rfl dX11_of_34 ?_
        exact hret (σ 16 2) σ τ _ _ _ _ rfl ⟨⟨rfl, rfl⟩, trivial⟩ hP hS dX11_of_37
    · have kc6 := jeq c6 t1 jz_1
      refine lv_aload_n hx hb dX11_of_17 rfl (lv_at hl 0 rfl) ?_
      refine va_get (D := D) hx hb hts inlX11 hown hK hP 0 (jc_0 cI cL ad σ τ) rfl 2 (by decide) (hts _ kw_2_0) (fun _ h9 => h9) rfl dX11_of_18 ?_
      refine va_get (D := D) hx hb hts inlX6 hown hK hP 16 (jc_16 cI cL ad σ τ) rfl 1 (by decide) (hts _ kw_20_5) (fun _ h9 => h9) rfl dX11_of_21 ?_
      exact hret (σ 16 1) σ τ _ _ _ _ rfl ⟨⟨rfl, rfl⟩, trivial⟩ hP hS dX11_of_24
  · have kc5 := jeq c5 t1 jz_0
    refine lv_aload_n hx hb dX11_of_4 rfl (lv_at hl 0 rfl) ?_
    refine va_get (D := D) hx hb hts inlX11 hown hK hP 0 (jc_0 cI cL ad σ τ) rfl 2 (by decide) (hts _ kw_2_0) (fun _ h9 => h9) rfl dX11_of_5 ?_
    refine va_get (D := D) hx hb hts inlX6 hown hK hP 16 (jc_16 cI cL ad σ τ) rfl 0 (by decide) (hts _ kw_13_12) (fun _ h9 => h9) rfl dX11_of_8 ?_
    exact hret (σ 16 0) σ τ _ _ _ _ rfl ⟨⟨rfl, rfl⟩, trivial⟩ hP hS dX11_of_11
set_option maxHeartbeats 4000000 in
set_option maxRecDepth 100000 in
theorem c_X11_over (l : Launch) (D : va_G) (cI cL : ClassId) (ad zz : Nat → Nat) (hJ : jD ad) (σ : Nat → Nat → Int32) (τ : Nat → Nat → Int64) (a1 : Int32) (A1 : Int) (t1 : a1.toInt = A1) (a2 : Int32) (A2 : Int) (t2 : a2.toInt = A2) (a3 : Int32) (A3 : Int) (t3 : a3.toInt = A3) (hI2 : jI2 σ) (hI22 : jI22 σ) : jM l yX11_over cX11_over 7 (some .int) ({ frames := 3, cells := 0, slots := 0, locals := 76 }) D cI cL ad zz [.ref (ad 0), .int a1, .int a2, .int a3] σ τ (fun r σ' τ' => τ = τ' ∧ (∀ i : Nat, (i < 24 ∨ 25 < i) ∧ (i < 27 ∨ 30 < i) → σ' i = σ i) ∧ True) := by
  refine jM.of hJ (by decide +kernel) (nt := .int) rfl (Nat.le_of_ble_eq_true rfl) ?_
  intro p e s m args below meth c Q ls hC hret hl hP
  obtain ⟨hx, hb, hr, hml, hown, hts, hK, -, hlocks, hZ⟩ := hC
  have hown : s.vm.findClass RX11 = some m.cls := hown
  have hS : va_S (jA ad) s.heap s.heap [] := va_S.rf
  have hA : ∀ q, jA ad q → jA ad q := fun _ h => h
  have hl : lv_has ls 7 [(0, .ref (ad 0)), (1, .int a1), (2, .int a2), (3, .int a3)] := hl
  have g1 := jrg t1
  have g2 := jrg t2
  have g3 := jrg t3
  obtain ⟨i1, i2, i3, i4, i5, w6⟩ : (0 ≤ (σ 2 0).toInt ∧ (σ 2 0).toInt ≤ 4) ∧ (0 ≤ (σ 2 1).toInt ∧ (σ 2 1).toInt ≤ 3) ∧ (0 ≤ (σ 2 2).toInt) ∧ (0 ≤ (σ 2 3).toInt) ∧ ((σ 2 2).toInt + (σ 2 3).toInt ≤ 40) ∧ (∀ k : Nat, k < 40 → 0 ≤ (σ 6 k).toInt ∧ (σ 6 k).toInt ≤ 67) := id hI2
  obtain ⟨i7, w8⟩ : (0 ≤ (σ 22 0).toInt ∧ (σ 22 0).toInt ≤ 160) ∧ (∀ k : Nat, k < 160 → 0 ≤ (σ 23 k).toInt ∧ (σ 23 k).toInt ≤ 30000) := id hI22
  refine lv_iload_n hx hb dX11_over_0 rfl (lv_at hl 1 rfl) ?_
  refine lv_if_lt (tgt := 17) hx hb dX11_over_1 (by decide) (fun c9 => ?_) (fun c9 => ?_)
  · have kc9 := jlt c9 t1 jz_0
    refine lv_iconst (v := (-1)) hx hb dX11_over_17 (by decide) ?_
    exact hret (-1) σ τ _ _ _ _ rfl ⟨rfl, (fun _ _ => rfl), trivial⟩ hP hS dX11_over_18
  · have kc9 := jnlt c9 t1 jz_0
    refine lv_iload_n hx hb dX11_over_4 rfl (lv_at hl 2 rfl) ?_
    refine lv_if_lt (tgt := 17) hx hb dX11_over_5 (by decide) (fun c10 => ?_) (fun c10 => ?_)
    · have kc10 := jlt c10 t2 jz_0
      refine lv_iconst (v := (-1)) hx hb dX11_over_17 (by decide) ?_
      exact hret (-1) σ τ _ _ _ _ rfl ⟨rfl, (fun _ _ => rfl), trivial⟩ hP hS dX11_over_18
    · have kc10 := jnlt c10 t2 jz_0
      refine lv_iload_n hx hb dX11_over_8 rfl (lv_at hl 3 rfl) ?_
      refine lv_iconst (v := 0) hx hb dX11_over_9 (by decide) ?_
      refine lv_iconst (v := 1) hx hb dX11_over_10 (by decide) ?_
      refine jcallS (As := [.int a3, .int 0, .int 1]) (rest := []) ⟨hx, hb, hml, hown, hts⟩ hK hP hA hS hZ (c_X11_outside l D cI cL ad zz hJ σ τ a3 (A3) t3 0 (0) jz_0 1 (1) jz_1) cw_RX11_94 ⟨Nat.le_of_ble_eq_true rfl, Nat.le_of_ble_eq_true rfl⟩ rfl rfl rfl hl.1 rfl (Nat.le_of_ble_eq_true rfl) dX11_over_11 ⟨Nat.zero_le _, Nat.zero_le _⟩ (fun r12 σ11 τ11 H locs h11 hP hS => ?_)
      obtain ⟨⟨rfl, rfl⟩, h11⟩ := h11
      rcases h11 with h13 | h14
      · obtain ⟨q16, k15⟩ := h13
        have q16 := q16.symm
        subst q16
        refine lv_if_eq (tgt := 19) hx hb dX11_over_14 (by decide) (fun c => absurd c (by decide)) (fun _ => ?_)
        refine lv_iconst (v := (-1)) hx hb dX11_over_17 (by decide) ?_
        exact hret (-1) σ τ _ _ _ _ rfl ⟨rfl, (fun _ _ => rfl), trivial⟩ hP hS dX11_over_18
      · obtain ⟨q18, k17⟩ := h14
        have q18 := q18.symm
        subst q18
        refine lv_if_eq (tgt := 19) hx hb dX11_over_14 (by decide) (fun _ => ?_) (fun c => absurd (by decide) c)
        refine lv_iload_n hx hb dX11_over_19 rfl (lv_at hl 1 rfl) ?_
        refine lv_bipush (v := 100) hx hb dX11_over_20 (by decide) ?_
        refine lv_idiv hx hb dX11_over_22 (by decide) ?_
        refine lv_topi (fun x19 ex19 => ?_)
        have tx19 : x19.toInt = (A1 / 100) := jdiv ex19 t1 jz_100 (by omega) (by omega)
        refine lv_istore (lv' := [(4, .int x19), (0, .ref (ad 0)), (1, .int a1), (2, .int a2), (3, .int a3)]) hx hb dX11_over_23 hl (by decide) rfl (fun ls hl => ?_)
        refine lv_iload_n hx hb dX11_over_25 rfl (lv_at hl 2 rfl) ?_
        refine lv_bipush (v := 10) hx hb dX11_over_26 (by decide) ?_
        refine lv_idiv hx hb dX11_over_28 (by decide) ?_
        refine lv_topi (fun x20 ex20 => ?_)
        have tx20 : x20.toInt = (A1 / 10) := jdiv ex20 t1 jz_10 (by omega) (by omega)
        refine lv_bipush (v := 10) hx hb dX11_over_29 (by decide) ?_
        refine lv_irem hx hb dX11_over_31 (by decide) ?_
        refine lv_topi (fun x21 ex21 => ?_)
        have tx21 : x21.toInt = (((A1 / 10)) % 10) := jrem ex21 tx20 jz_10 (by omega)
        refine lv_istore (lv' := [(5, .int x21), (4, .int x19), (0, .ref (ad 0)), (1, .int a1), (2, .int a2), (3, .int a3)]) hx hb dX11_over_32 hl (by decide) rfl (fun ls hl => ?_)
        refine lv_iload_n hx hb dX11_over_34 rfl (lv_at hl 3 rfl) ?_
        refine lv_bipush (v := 10) hx hb dX11_over_35 (by decide) ?_
        refine lv_irem hx hb dX11_over_37 (by decide) ?_
        refine lv_topi (fun x22 ex22 => ?_)
        have tx22 : x22.toInt = (A1 % 10) := jrem ex22 t1 jz_10 (by omega)
        refine lv_istore (lv' := [(6, .int x22), (5, .int x21), (4, .int x19), (0, .ref (ad 0)), (1, .int a1), (2, .int a2), (3, .int a3)]) hx hb dX11_over_38 hl (by decide) rfl (fun ls hl => ?_)
        refine lv_aload_n hx hb dX11_over_40 rfl (lv_at hl 3 rfl) ?_
        refine lv_iload hx hb dX11_over_41 (lv_at hl 2 rfl) ?_
        have I23 : jI2 σ := ⟨(by omega), (by omega), (by omega), (by omega), (by omega), w6⟩
        refine jcallV (As := [.int x19]) (rest := []) ⟨hx, hb, hml, hown, hts⟩ hK hP hA hS hZ (c_X11_noBowler l D cI cL ad zz hJ σ τ x19 ((A1 / 100)) tx19 I23) cw_RX11_152 (jc_0 cI cL ad σ τ) rfl ⟨Nat.le_of_ble_eq_true rfl, Nat.le_of_ble_eq_true rfl⟩ rfl rfl rfl hl.1 rfl (Nat.le_of_ble_eq_true rfl) dX11_over_43 ⟨Nat.zero_le _, Nat.zero_le _⟩ (fun r25 σ24 τ24 H locs h24 hP hS => ?_)
        obtain ⟨⟨rfl, rfl⟩, h24⟩ := h24
        rcases h24 with h26 | h27
        · obtain ⟨q29, k28⟩ := h26
          have q29 := q29.symm
          subst q29
          refine lv_if_ne (tgt := 61) hx hb dX11_over_46 (by decide) (fun _ => ?_) (fun c => absurd c (by decide))
          refine lv_iconst (v := (-1)) hx hb dX11_over_61 (by decide) ?_
          exact hret (-1) σ τ _ _ _ _ rfl ⟨rfl, (fun _ _ => rfl), trivial⟩ hP hS dX11_over_62
        · obtain ⟨q31, k30⟩ := h27
          have q31 := q31.symm
          subst q31
          refine lv_if_ne (tgt := 61) hx hb dX11_over_46 (by decide) (fun c => absurd (by decide) c) (fun _ => ?_)
          refine lv_iload hx hb dX11_over_49 (lv_at hl 1 rfl) ?_
          refine lv_iconst (v := 4) hx hb dX11_over_51 (by decide) ?_
          refine lv_icmp_ge (tgt := 61) hx hb dX11_over_52 (by decide) (fun c32 => ?_) (fun c32 => ?_)
          · have kc32 := jle c32 jz_4 tx21
            refine lv_iconst (v := (-1)) hx hb dX11_over_61 (by decide) ?_
            exact hret (-1) σ τ _ _ _ _ rfl ⟨rfl, (fun _ _ => rfl), trivial⟩ hP hS dX11_over_62
          · have kc32 := jnle c32 jz_4 tx21
            refine lv_iload hx hb dX11_over_55 (lv_at hl 0 rfl) ?_
            refine lv_iconst (v := 3) hx hb dX11_over_57 (by decide) ?_
            refine lv_icmp_le (tgt := 63) hx hb dX11_over_58 (by decide) (fun c33 => ?_) (fun c33 => ?_)
            · have kc33 := jle c33 tx22 jz_3
              refine lv_iload_n hx hb dX11_over_63 rfl (lv_at hl 5 rfl) ?_
              refine lv_bipush (v := 10) hx hb dX11_over_64 (by decide) ?_
              refine lv_idiv hx hb dX11_over_66 (by decide) ?_
              refine lv_topi (fun x34 ex34 => ?_)
              have tx34 : x34.toInt = (A2 / 10) := jdiv ex34 t2 jz_10 (by omega) (by omega)
              refine lv_bipush (v := 12) hx hb dX11_over_67 (by decide) ?_
              refine lv_icmp_gt (tgt := 81) hx hb dX11_over_69 (by decide) (fun c35 => ?_) (fun c35 => ?_)
              · have kc35 := jlt c35 jz_12 tx34
                refine lv_iconst (v := (-1)) hx hb dX11_over_81 (by decide) ?_
                exact hret (-1) σ τ _ _ _ _ rfl ⟨rfl, (fun _ _ => rfl), trivial⟩ hP hS dX11_over_82
              · have kc35 := jnlt c35 jz_12 tx34
                refine lv_iload_n hx hb dX11_over_72 rfl (lv_at hl 5 rfl) ?_
                refine lv_bipush (v := 10) hx hb dX11_over_73 (by decide) ?_
                refine lv_irem hx hb dX11_over_75 (by decide) ?_
                refine lv_topi (fun x36 ex36 => ?_)
                have tx36 : x36.toInt = (A2 % 10) := jrem ex36 t2 jz_10 (by omega)
                refine lv_bipush (v := 8) hx hb dX11_over_76 (by decide) ?_
                refine lv_icmp_le (tgt := 83) hx hb dX11_over_78 (by decide) (fun c37 => ?_) (fun c37 => ?_)
                · have kc37 := jle c37 tx36 jz_8
                  refine lv_aload_n hx hb dX11_over_83 rfl (lv_at hl 3 rfl) ?_
                  refine va_get (D := D) hx hb hts inlX11 hown hK hP 0 (jc_0 cI cL ad σ τ) rfl 5 (by decide) (hts _ kw_2_9) (fun _ h9 => h9) rfl dX11_over_84 ?_
                  refine lv_aload_n hx hb dX11_over_87 rfl (lv_at hl 3 rfl) ?_
                  refine va_get (D := D) hx hb hts inlX11 hown hK hP 0 (jc_0 cI cL ad σ τ) rfl 0 (by decide) (hts _ kw_1_16) (fun _ h9 => h9) rfl dX11_over_88 ?_
                  refine va_get (D := D) hx hb hts inlX4 hown hK hP 2 (jc_2 cI cL ad σ τ) rfl 1 (by decide) (hts _ kw_12_8) (fun _ h9 => h9) rfl dX11_over_91 ?_
                  refine jcallVv (As := [.int (σ 2 1)]) (rest := []) ⟨hx, hb, hml, hown, hts⟩ hK hP hA hS hZ (c_X5_lay_26 l D cI cL ad zz hJ σ τ (σ 2 1) ((σ 2 1).toInt) rfl) cw_RX11_156 (jc_26 cI cL ad σ τ) rfl ⟨Nat.le_of_ble_eq_true rfl, Nat.le_of_ble_eq_true rfl⟩ rfl rfl rfl hl.1 rfl (Nat.le_of_ble_eq_true rfl) dX11_over_94 ⟨Nat.zero_le _, Nat.zero_le _⟩ (fun σ38 τ38 H locs h38 hP hS => ?_)
                  obtain ⟨rfl, f40, h38⟩ := h38
                  refine lv_iload_n hx hb dX11_over_97 rfl (lv_at hl 6 rfl) ?_
                  refine lv_iconst (v := 1) hx hb dX11_over_98 (by decide) ?_
                  refine lv_icmp_ne (tgt := 116) hx hb dX11_over_99 (by decide) (fun c41 => ?_) (fun c41 => ?_)
                  · have kc41 := jne c41 t3 jz_1
                    refine lv_aload_n hx hb dX11_over_116 rfl (lv_at hl 3 rfl) ?_
                    refine va_get (D := D) hx hb hts inlX11 hown hK hP 0 (jc_0 cI cL ad σ38 τ) rfl 5 (by decide) (hts _ kw_2_9) (fun _ h9 => h9) rfl dX11_over_117 ?_
                    refine lv_iload hx hb dX11_over_120 (lv_at hl 2 rfl) ?_
                    refine lv_iload hx hb dX11_over_122 (lv_at hl 1 rfl) ?_
                    refine lv_iload hx hb dX11_over_124 (lv_at hl 0 rfl) ?_
                    refine lv_aload_n hx hb dX11_over_126 rfl (lv_at hl 3 rfl) ?_
                    refine va_get (D := D) hx hb hts inlX11 hown hK hP 0 (jc_0 cI cL ad σ38 τ) rfl 0 (by decide) (hts _ kw_1_16) (fun _ h9 => h9) rfl dX11_over_127 ?_
                    refine lv_iload hx hb dX11_over_130 (lv_at hl 2 rfl) ?_
                    refine jcallV (As := [.int x19]) (rest := [.int x22, .int x21, .int x19, .ref (ad 26)]) ⟨hx, hb, hml, hown, hts⟩ hK hP hA hS hZ (c_X4_oversOf_2 l D cI cL ad zz hJ σ38 τ x19 ((A1 / 100)) tx19) cw_RX11_163 (jc_2 cI cL ad σ38 τ) rfl ⟨Nat.le_of_ble_eq_true rfl, Nat.le_of_ble_eq_true rfl⟩ rfl rfl rfl hl.1 rfl (Nat.le_of_ble_eq_true rfl) dX11_over_132 ⟨Nat.zero_le _, Nat.zero_le _⟩ (fun r43 σ42 τ42 H locs h42 hP hS => ?_)
                    obtain ⟨⟨rfl, rfl⟩, h42⟩ := h42
                    refine lv_iload_n hx hb dX11_over_135 rfl (lv_at hl 5 rfl) ?_
                    refine lv_bipush (v := 10) hx hb dX11_over_136 (by decide) ?_
                    refine lv_idiv hx hb dX11_over_138 (by decide) ?_
                    refine lv_topi (fun x44 ex44 => ?_)
                    have tx44 : x44.toInt = (A2 / 10) := jdiv ex44 t2 jz_10 (by omega) (by omega)
                    refine lv_iload_n hx hb dX11_over_139 rfl (lv_at hl 5 rfl) ?_
                    refine lv_bipush (v := 10) hx hb dX11_over_140 (by decide) ?_
                    refine lv_irem hx hb dX11_over_142 (by decide) ?_
                    refine lv_topi (fun x45 ex45 => ?_)
                    have tx45 : x45.toInt = (A2 % 10) := jrem ex45 t2 jz_10 (by omega)
                    have z46 : (σ38 22 0).toInt = (σ 22 0).toInt := by rw [(show σ38 22 0 = (σ 22 0) from (by rw [f40 22 (by omega)]))]
                    have w47 : ∀ k : Nat, k < 160 → 0 ≤ (σ38 23 k).toInt ∧ (σ38 23 k).toInt ≤ 30000 := (by rw [f40 23 (by omega)]; exact w8)
                    have I48 : jI22 σ38 := ⟨(by omega), w47⟩
                    refine jcallV (As := [.int x19, .int x21, .int x22, .int r43, .int x44, .int x45]) (rest := []) ⟨hx, hb, hml, hown, hts⟩ hK hP hA hS hZ (c_X5_outOf_26 l D cI cL ad zz hJ σ38 τ x19 ((A1 / 100)) tx19 x21 ((((A1 / 10)) % 10)) tx21 x22 ((A1 % 10)) tx22 r43 (r43.toInt) rfl x44 ((A2 / 10)) tx44 x45 ((A2 % 10)) tx45 I48) cw_RX11_166 (jc_26 cI cL ad σ38 τ) rfl ⟨Nat.le_of_ble_eq_true rfl, Nat.le_of_ble_eq_true rfl⟩ rfl rfl rfl hl.1 rfl (Nat.le_of_ble_eq_true rfl) dX11_over_143 ⟨Nat.zero_le _, Nat.zero_le _⟩ (fun r50 σ49 τ49 H locs h49 hP hS => ?_)
                    obtain ⟨rfl, f51, h49⟩ := h49
                    exact hret r50 σ49 τ _ _ _ _ rfl ⟨rfl, (fun i hi => by rw [f51 i (by omega), f40 i (by omega)]), trivial⟩ hP hS dX11_over_146
                  · have kc41 := jeq c41 t3 jz_1
                    refine lv_aload_n hx hb dX11_over_102 rfl (lv_at hl 3 rfl) ?_
                    refine va_get (D := D) hx hb hts inlX11 hown hK hP 0 (jc_0 cI cL ad σ38 τ) rfl 5 (by decide) (hts _ kw_2_9) (fun _ h9 => h9) rfl dX11_over_103 ?_
                    refine lv_iload hx hb dX11_over_106 (lv_at hl 2 rfl) ?_
                    refine lv_iload hx hb dX11_over_108 (lv_at hl 1 rfl) ?_
                    refine lv_iload hx hb dX11_over_110 (lv_at hl 0 rfl) ?_
                    refine jcallV (As := [.int x19, .int x21, .int x22]) (rest := []) ⟨hx, hb, hml, hown, hts⟩ hK hP hA hS hZ (c_X5_runsOf_26 l D cI cL ad zz hJ σ38 τ x19 ((A1 / 100)) tx19 x21 ((((A1 / 10)) % 10)) tx21 x22 ((A1 % 10)) tx22) cw_RX11_160 (jc_26 cI cL ad σ38 τ) rfl ⟨Nat.le_of_ble_eq_true rfl, Nat.le_of_ble_eq_true rfl⟩ rfl rfl rfl hl.1 rfl (Nat.le_of_ble_eq_true rfl) dX11_over_112 ⟨Nat.zero_le _, Nat.zero_le _⟩ (fun r53 σ52 τ52 H locs h52 hP hS => ?_)
                    obtain ⟨⟨rfl, rfl⟩, h52⟩ := h52
                    exact hret r53 σ38 τ _ _ _ _ rfl ⟨rfl, (fun i hi => by rw [f40 i (by omega)]), trivial⟩ hP hS dX11_over_115
                · have kc37 := jnle c37 tx36 jz_8
                  refine lv_iconst (v := (-1)) hx hb dX11_over_81 (by decide) ?_
                  exact hret (-1) σ τ _ _ _ _ rfl ⟨rfl, (fun _ _ => rfl), trivial⟩ hP hS dX11_over_82
            · have kc33 := jnle c33 tx22 jz_3
              refine lv_iconst (v := (-1)) hx hb dX11_over_61 (by decide) ?_
              exact hret (-1) σ τ _ _ _ _ rfl ⟨rfl, (fun _ _ => rfl), trivial⟩ hP hS dX11_over_62
set_option maxHeartbeats 4000000 in
set_option maxRecDepth 100000 in
theorem c_X11_rule (l : Launch) (D : va_G) (cI cL : ClassId) (ad zz : Nat → Nat) (hJ : jD ad) (σ : Nat → Nat → Int32) (τ : Nat → Nat → Int64) (a1 : Int32) (A1 : Int) (t1 : a1.toInt = A1) (a2 : Int32) (A2 : Int) (t2 : a2.toInt = A2) (a3 : Int32) (A3 : Int) (t3 : a3.toInt = A3) (hI38 : jI38 σ) : jM l yX11_rule cX11_rule 4 (some .int) ({ frames := 1, cells := 0, slots := 0, locals := 23 }) D cI cL ad zz [.ref (ad 0), .int a1, .int a2, .int a3] σ τ (fun r σ' τ' => τ = τ' ∧ (∀ i : Nat, (i < 38 ∨ 41 < i) → σ' i = σ i) ∧ (∀ k : Nat, (k < 0 ∨ 0 < k) → σ' 38 k = σ 38 k) ∧ (jI38 σ') ∧ True) := by
  refine jM.of hJ (by decide +kernel) (nt := .int) rfl (Nat.le_of_ble_eq_true rfl) ?_
  intro p e s m args below meth c Q ls hC hret hl hP
  obtain ⟨hx, hb, hr, hml, hown, hts, hK, -, hlocks, hZ⟩ := hC
  have hown : s.vm.findClass RX11 = some m.cls := hown
  have hS : va_S (jA ad) s.heap s.heap [] := va_S.rf
  have hA : ∀ q, jA ad q → jA ad q := fun _ h => h
  have hl : lv_has ls 4 [(0, .ref (ad 0)), (1, .int a1), (2, .int a2), (3, .int a3)] := hl
  have g1 := jrg t1
  have g2 := jrg t2
  have g3 := jrg t3
  obtain ⟨i1, i2, w3⟩ : (0 ≤ (σ 38 0).toInt ∧ (σ 38 0).toInt ≤ 20) ∧ (0 ≤ (σ 38 1).toInt ∧ (σ 38 1).toInt ≤ 1000) ∧ (∀ k : Nat, k < 20 → 0 ≤ (σ 39 k).toInt ∧ (σ 39 k).toInt ≤ 6) := id hI38
  refine lv_iload_n hx hb dX11_rule_0 rfl (lv_at hl 1 rfl) ?_
  refine lv_iconst (v := 0) hx hb dX11_rule_1 (by decide) ?_
  refine lv_bipush (v := 6) hx hb dX11_rule_2 (by decide) ?_
  refine jcallS (As := [.int a1, .int 0, .int 6]) (rest := []) ⟨hx, hb, hml, hown, hts⟩ hK hP hA hS hZ (c_X11_outside l D cI cL ad zz hJ σ τ a1 (A1) t1 0 (0) jz_0 6 (6) jz_6) cw_RX11_94 ⟨Nat.le_of_ble_eq_true rfl, Nat.le_of_ble_eq_true rfl⟩ rfl rfl rfl hl.1 rfl (Nat.le_of_ble_eq_true rfl) dX11_rule_4 ⟨Nat.zero_le _, Nat.zero_le _⟩ (fun r5 σ4 τ4 H locs h4 hP hS => ?_)
  obtain ⟨⟨rfl, rfl⟩, h4⟩ := h4
  rcases h4 with h6 | h7
  · obtain ⟨q9, k8⟩ := h6
    have q9 := q9.symm
    subst q9
    refine lv_if_ne (tgt := 27) hx hb dX11_rule_7 (by decide) (fun _ => ?_) (fun c => absurd c (by decide))
    refine lv_iconst (v := (-1)) hx hb dX11_rule_27 (by decide) ?_
    have I10 : jI38 σ := ⟨(by omega), (by omega), w3⟩
    exact hret (-1) σ τ _ _ _ _ rfl ⟨rfl, (fun _ _ => rfl), (fun _ _ => rfl), I10, trivial⟩ hP hS dX11_rule_28
  · obtain ⟨q12, k11⟩ := h7
    have q12 := q12.symm
    subst q12
    refine lv_if_ne (tgt := 27) hx hb dX11_rule_7 (by decide) (fun c => absurd (by decide) c) (fun _ => ?_)
    refine lv_iload_n hx hb dX11_rule_10 rfl (lv_at hl 2 rfl) ?_
    refine jcallS (As := [.int a2]) (rest := []) ⟨hx, hb, hml, hown, hts⟩ hK hP hA hS hZ (c_X8_rowIsRight l D cI cL ad zz hJ σ τ a2 (A2) t2) cw_RX11_170 ⟨Nat.le_of_ble_eq_true rfl, Nat.le_of_ble_eq_true rfl⟩ rfl rfl rfl hl.1 rfl (Nat.le_of_ble_eq_true rfl) dX11_rule_11 ⟨Nat.zero_le _, Nat.zero_le _⟩ (fun r14 σ13 τ13 H locs h13 hP hS => ?_)
    obtain ⟨⟨rfl, rfl⟩, h13⟩ := h13
    refine lv_if_eq (tgt := 27) hx hb dX11_rule_14 (by decide) (fun c15 => ?_) (fun c15 => ?_)
    · have kc15 := jeq c15 rfl jz_0
      refine lv_iconst (v := (-1)) hx hb dX11_rule_27 (by decide) ?_
      have I16 : jI38 σ := ⟨(by omega), (by omega), w3⟩
      exact hret (-1) σ τ _ _ _ _ rfl ⟨rfl, (fun _ _ => rfl), (fun _ _ => rfl), I16, trivial⟩ hP hS dX11_rule_28
    · have kc15 := jne c15 rfl jz_0
      refine lv_iload_n hx hb dX11_rule_17 rfl (lv_at hl 3 rfl) ?_
      refine lv_iconst (v := 0) hx hb dX11_rule_18 (by decide) ?_
      refine lv_bipush (v := 12) hx hb dX11_rule_19 (by decide) ?_
      refine jcallS (As := [.int a3, .int 0, .int 12]) (rest := []) ⟨hx, hb, hml, hown, hts⟩ hK hP hA hS hZ (c_X11_outside l D cI cL ad zz hJ σ τ a3 (A3) t3 0 (0) jz_0 12 (12) jz_12) cw_RX11_94 ⟨Nat.le_of_ble_eq_true rfl, Nat.le_of_ble_eq_true rfl⟩ rfl rfl rfl hl.1 rfl (Nat.le_of_ble_eq_true rfl) dX11_rule_21 ⟨Nat.zero_le _, Nat.zero_le _⟩ (fun r18 σ17 τ17 H locs h17 hP hS => ?_)
      obtain ⟨⟨rfl, rfl⟩, h17⟩ := h17
      rcases h17 with h19 | h20
      · obtain ⟨q22, k21⟩ := h19
        have q22 := q22.symm
        subst q22
        refine lv_if_eq (tgt := 29) hx hb dX11_rule_24 (by decide) (fun c => absurd c (by decide)) (fun _ => ?_)
        refine lv_iconst (v := (-1)) hx hb dX11_rule_27 (by decide) ?_
        have I23 : jI38 σ := ⟨(by omega), (by omega), w3⟩
        exact hret (-1) σ τ _ _ _ _ rfl ⟨rfl, (fun _ _ => rfl), (fun _ _ => rfl), I23, trivial⟩ hP hS dX11_rule_28
      · obtain ⟨q25, k24⟩ := h20
        have q25 := q25.symm
        subst q25
        refine lv_if_eq (tgt := 29) hx hb dX11_rule_24 (by decide) (fun _ => ?_) (fun c => absurd (by decide) c)
        refine lv_aload_n hx hb dX11_rule_29 rfl (lv_at hl 0 rfl) ?_
        refine va_get (D := D) hx hb hts inlX11 hown hK hP 0 (jc_0 cI cL ad σ τ) rfl 7 (by decide) (hts _ kw_2_17) (fun _ h9 => h9) rfl dX11_rule_30 ?_
        refine va_get (D := D) hx hb hts inlX8 hown hK hP 38 (jc_38 cI cL ad σ τ) rfl 0 (by decide) (hts _ kw_24_8) (fun _ h9 => h9) rfl dX11_rule_33 ?_
        refine lv_bipush (v := 20) hx hb dX11_rule_36 (by decide) ?_
        refine lv_icmp_lt (tgt := 44) hx hb dX11_rule_38 (by decide) (fun c26 => ?_) (fun c26 => ?_)
        · have kc26 := jlt c26 rfl jz_20
          refine lv_aload_n hx hb dX11_rule_44 rfl (lv_at hl 0 rfl) ?_
          refine va_get (D := D) hx hb hts inlX11 hown hK hP 0 (jc_0 cI cL ad σ τ) rfl 7 (by decide) (hts _ kw_2_17) (fun _ h9 => h9) rfl dX11_rule_45 ?_
          refine lv_iload_n hx hb dX11_rule_48 rfl (lv_at hl 1 rfl) ?_
          refine lv_iload_n hx hb dX11_rule_49 rfl (lv_at hl 2 rfl) ?_
          refine lv_iload_n hx hb dX11_rule_50 rfl (lv_at hl 3 rfl) ?_
          have I27 : jI38 σ := ⟨(by omega), (by omega), w3⟩
          refine jcallV (As := [.int a1, .int a2, .int a3]) (rest := []) ⟨hx, hb, hml, hown, hts⟩ hK hP hA hS hZ (c_X8_make_38 l D cI cL ad zz hJ σ τ a1 (A1) t1 a2 (A2) t2 a3 (A3) t3 I27 (by omega)) cw_RX11_174 (jc_38 cI cL ad σ τ) rfl ⟨Nat.le_of_ble_eq_true rfl, Nat.le_of_ble_eq_true rfl⟩ rfl rfl rfl hl.1 rfl (Nat.le_of_ble_eq_true rfl) dX11_rule_51 ⟨Nat.zero_le _, Nat.zero_le _⟩ (fun r29 σ28 τ28 H locs h28 hP hS => ?_)
          obtain ⟨rfl, f30, f31, I32, h28⟩ := h28
          obtain ⟨i33, i34, w35⟩ : (0 ≤ (σ28 38 0).toInt ∧ (σ28 38 0).toInt ≤ 20) ∧ (0 ≤ (σ28 38 1).toInt ∧ (σ28 38 1).toInt ≤ 1000) ∧ (∀ k : Nat, k < 20 → 0 ≤ (σ28 39 k).toInt ∧ (σ28 39 k).toInt ≤ 6) := id I32
          have z36 : (σ28 38 1).toInt = (σ 38 1).toInt := by rw [(show σ28 38 1 = (σ 38 1) from (by rw [f31 1 (by omega)]))]
          exact hret r29 σ28 τ _ _ _ _ rfl ⟨rfl, (fun i hi => by rw [f30 i (by omega)]), (fun k hk => by rw [f31 k (by omega)]), I32, trivial⟩ hP hS dX11_rule_54
        · have kc26 := jnlt c26 rfl jz_20
          refine lv_bipush (v := (-3)) hx hb dX11_rule_41 (by decide) ?_
          have I37 : jI38 σ := ⟨(by omega), (by omega), w3⟩
          exact hret (-3) σ τ _ _ _ _ rfl ⟨rfl, (fun _ _ => rfl), (fun _ _ => rfl), I37, trivial⟩ hP hS dX11_rule_43
set_option maxHeartbeats 4000000 in
set_option maxRecDepth 100000 in
theorem c_X11_makeReady (l : Launch) (D : va_G) (cI cL : ClassId) (ad zz : Nat → Nat) (hJ : jD ad) (σ : Nat → Nat → Int32) (τ : Nat → Nat → Int64) (a1 : Int32) (A1 : Int) (t1 : a1.toInt = A1) (hI2 : jI2 σ) (hI16 : jI16 σ) (hI22 : jI22 σ) (hI31 : jI31 σ) (hI38 : jI38 σ) : jMv l yX11_makeReady cX11_makeReady 2 none ({ frames := 6, cells := 0, slots := 0, locals := 162 }) D cI cL ad zz [.ref (ad 0), .int a1] σ τ (fun σ' τ' => τ = τ' ∧ (∀ i : Nat, (i < 24 ∨ 25 < i) ∧ (i < 27 ∨ 37 < i) → σ' i = σ i) ∧ (∀ k : Nat, (k < 8 ∨ 8 < k) ∧ (k < 9 ∨ 9 < k) ∧ (k < 10 ∨ 10 < k) ∧ (k < 11 ∨ 11 < k) ∧ (k < 12 ∨ 12 < k) → σ' 31 k = σ 31 k) ∧ (jI31 σ') ∧ True) := by
  refine jMv.of hJ (by decide +kernel) rfl (Nat.le_of_ble_eq_true rfl) ?_
  intro p e s m args below meth c Q ls hC hret hl hP
  obtain ⟨hx, hb, hr, hml, hown, hts, hK, -, hlocks, hZ⟩ := hC
  have hown : s.vm.findClass RX11 = some m.cls := hown
  have hS : va_S (jA ad) s.heap s.heap [] := va_S.rf
  have hA : ∀ q, jA ad q → jA ad q := fun _ h => h
  have hl : lv_has ls 2 [(0, .ref (ad 0)), (1, .int a1)] := hl
  have g1 := jrg t1
  obtain ⟨i1, i2, i3, i4, i5, w6⟩ : (0 ≤ (σ 2 0).toInt ∧ (σ 2 0).toInt ≤ 4) ∧ (0 ≤ (σ 2 1).toInt ∧ (σ 2 1).toInt ≤ 3) ∧ (0 ≤ (σ 2 2).toInt) ∧ (0 ≤ (σ 2 3).toInt) ∧ ((σ 2 2).toInt + (σ 2 3).toInt ≤ 40) ∧ (∀ k : Nat, k < 40 → 0 ≤ (σ 6 k).toInt ∧ (σ 6 k).toInt ≤ 67) := id hI2
  obtain ⟨i7, i8, i9, w10⟩ : (1 ≤ (σ 16 0).toInt ∧ (σ 16 0).toInt ≤ 8) ∧ (1 ≤ (σ 16 1).toInt ∧ (σ 16 1).toInt ≤ 12) ∧ (0 ≤ (σ 16 2).toInt ∧ (σ 16 2).toInt ≤ 999) ∧ (∀ k : Nat, k < 8 → 0 ≤ (σ 17 k).toInt ∧ (σ 17 k).toInt ≤ 3) := id hI16
  obtain ⟨i11, w12⟩ : (0 ≤ (σ 22 0).toInt ∧ (σ 22 0).toInt ≤ 160) ∧ (∀ k : Nat, k < 160 → 0 ≤ (σ 23 k).toInt ∧ (σ 23 k).toInt ≤ 30000) := id hI22
  obtain ⟨i13, w14, w15⟩ : (0 ≤ (σ 31 8).toInt ∧ (σ 31 8).toInt ≤ 350) ∧ (∀ k : Nat, k < 1400 → (-1) ≤ (σ 33 k).toInt ∧ (σ 33 k).toInt ≤ 350) ∧ (∀ k : Nat, k < 1024 → 0 ≤ (σ 36 k).toInt ∧ (σ 36 k).toInt ≤ 349) := id hI31
  obtain ⟨i16, i17, w18⟩ : (0 ≤ (σ 38 0).toInt ∧ (σ 38 0).toInt ≤ 20) ∧ (0 ≤ (σ 38 1).toInt ∧ (σ 38 1).toInt ≤ 1000) ∧ (∀ k : Nat, k < 20 → 0 ≤ (σ 39 k).toInt ∧ (σ 39 k).toInt ≤ 6) := id hI38
  refine lv_aload_n hx hb dX11_makeReady_0 rfl (lv_at hl 0 rfl) ?_
  refine va_get (D := D) hx hb hts inlX11 hown hK hP 0 (jc_0 cI cL ad σ τ) rfl 5 (by decide) (hts _ kw_2_9) (fun _ h9 => h9) rfl dX11_makeReady_1 ?_
  refine lv_aload_n hx hb dX11_makeReady_4 rfl (lv_at hl 0 rfl) ?_
  refine va_get (D := D) hx hb hts inlX11 hown hK hP 0 (jc_0 cI cL ad σ τ) rfl 0 (by decide) (hts _ kw_1_16) (fun _ h9 => h9) rfl dX11_makeReady_5 ?_
  refine va_get (D := D) hx hb hts inlX4 hown hK hP 2 (jc_2 cI cL ad σ τ) rfl 1 (by decide) (hts _ kw_12_8) (fun _ h9 => h9) rfl dX11_makeReady_8 ?_
  refine jcallVv (As := [.int (σ 2 1)]) (rest := []) ⟨hx, hb, hml, hown, hts⟩ hK hP hA hS hZ (c_X5_lay_26 l D cI cL ad zz hJ σ τ (σ 2 1) ((σ 2 1).toInt) rfl) cw_RX11_156 (jc_26 cI cL ad σ τ) rfl ⟨Nat.le_of_ble_eq_true rfl, Nat.le_of_ble_eq_true rfl⟩ rfl rfl rfl hl.1 rfl (Nat.le_of_ble_eq_true rfl) dX11_makeReady_11 ⟨Nat.zero_le _, Nat.zero_le _⟩ (fun σ19 τ19 H locs h19 hP hS => ?_)
  obtain ⟨rfl, f21, h19⟩ := h19
  refine lv_aload_n hx hb dX11_makeReady_14 rfl (lv_at hl 0 rfl) ?_
  refine va_get (D := D) hx hb hts inlX11 hown hK hP 0 (jc_0 cI cL ad σ19 τ) rfl 7 (by decide) (hts _ kw_2_17) (fun _ h9 => h9) rfl dX11_makeReady_15 ?_
  refine lv_iload_n hx hb dX11_makeReady_18 rfl (lv_at hl 1 rfl) ?_
  have z22 : (σ19 38 0).toInt = (σ 38 0).toInt := by rw [(show σ19 38 0 = (σ 38 0) from (by rw [f21 38 (by omega)]))]
  have z23 : (σ19 38 1).toInt = (σ 38 1).toInt := by rw [(show σ19 38 1 = (σ 38 1) from (by rw [f21 38 (by omega)]))]
  have w24 : ∀ k : Nat, k < 20 → 0 ≤ (σ19 39 k).toInt ∧ (σ19 39 k).toInt ≤ 6 := (by rw [f21 39 (by omega)]; exact w18)
  have I25 : jI38 σ19 := ⟨(by omega), (by omega), w24⟩
  refine jcallV (As := [.int a1]) (rest := []) ⟨hx, hb, hml, hown, hts⟩ hK hP hA hS hZ (c_X8_kindOf_38 l D cI cL ad zz hJ σ19 τ a1 (A1) t1 I25) cw_RX11_183 (jc_38 cI cL ad σ19 τ) rfl ⟨Nat.le_of_ble_eq_true rfl, Nat.le_of_ble_eq_true rfl⟩ rfl rfl rfl hl.1 rfl (Nat.le_of_ble_eq_true rfl) dX11_makeReady_19 ⟨Nat.zero_le _, Nat.zero_le _⟩ (fun r27 σ26 τ26 H locs h26 hP hS => ?_)
  obtain ⟨⟨rfl, rfl⟩, h26⟩ := h26
  have h28 := h26
  obtain ⟨q30, k29⟩ := h28
  refine lv_iconst (v := 2) hx hb dX11_makeReady_22 (by decide) ?_
  refine lv_icmp_ne (tgt := 42) hx hb dX11_makeReady_23 (by decide) (fun c31 => ?_) (fun c31 => ?_)
  · have kc31 := jne c31 rfl jz_2
    have z32 : (σ19 31 8).toInt = (σ 31 8).toInt := by rw [(show σ19 31 8 = (σ 31 8) from (by rw [f21 31 (by omega)]))]
    have w33 : ∀ k : Nat, k < 1400 → (-1) ≤ (σ19 33 k).toInt ∧ (σ19 33 k).toInt ≤ 350 := (by rw [f21 33 (by omega)]; exact w14)
    have w34 : ∀ k : Nat, k < 1024 → 0 ≤ (σ19 36 k).toInt ∧ (σ19 36 k).toInt ≤ 349 := (by rw [f21 36 (by omega)]; exact w15)
    have I35 : jI31 σ19 := ⟨(by omega), w33, w34⟩
    exact hret σ19 τ _ _ _ _ ⟨rfl, (fun i hi => by rw [f21 i (by omega)]), (fun k hk => by rw [f21 31 (by omega)]), I35, trivial⟩ hP hS dX11_makeReady_42
  · have kc31 := jeq c31 rfl jz_2
    refine lv_aload_n hx hb dX11_makeReady_26 rfl (lv_at hl 0 rfl) ?_
    refine va_get (D := D) hx hb hts inlX11 hown hK hP 0 (jc_0 cI cL ad σ19 τ) rfl 6 (by decide) (hts _ kw_2_13) (fun _ h9 => h9) rfl dX11_makeReady_27 ?_
    refine lv_aload_n hx hb dX11_makeReady_30 rfl (lv_at hl 0 rfl) ?_
    refine va_get (D := D) hx hb hts inlX11 hown hK hP 0 (jc_0 cI cL ad σ19 τ) rfl 0 (by decide) (hts _ kw_1_16) (fun _ h9 => h9) rfl dX11_makeReady_31 ?_
    have z36 : (σ19 2 0).toInt = (σ 2 0).toInt := by rw [(show σ19 2 0 = (σ 2 0) from (by rw [f21 2 (by omega)]))]
    have z37 : (σ19 2 1).toInt = (σ 2 1).toInt := by rw [(show σ19 2 1 = (σ 2 1) from (by rw [f21 2 (by omega)]))]
    have z38 : (σ19 2 2).toInt = (σ 2 2).toInt := by rw [(show σ19 2 2 = (σ 2 2) from (by rw [f21 2 (by omega)]))]
    have z39 : (σ19 2 3).toInt = (σ 2 3).toInt := by rw [(show σ19 2 3 = (σ 2 3) from (by rw [f21 2 (by omega)]))]
    have w40 : ∀ k : Nat, k < 40 → 0 ≤ (σ19 6 k).toInt ∧ (σ19 6 k).toInt ≤ 67 := (by rw [f21 6 (by omega)]; exact w6)
    have I41 : jI2 σ19 := ⟨(by omega), (by omega), (by omega), (by omega), (by omega), w40⟩
    refine jcallV (As := []) (rest := [.ref (ad 31)]) ⟨hx, hb, hml, hown, hts⟩ hK hP hA hS hZ (c_X4_freshAttack_2 l D cI cL ad zz hJ σ19 τ I41) cw_RX11_204 (jc_2 cI cL ad σ19 τ) rfl ⟨Nat.le_of_ble_eq_true rfl, Nat.le_of_ble_eq_true rfl⟩ rfl rfl rfl hl.1 rfl (Nat.le_of_ble_eq_true rfl) dX11_makeReady_34 ⟨Nat.zero_le _, Nat.zero_le _⟩ (fun r43 σ42 τ42 H locs h42 hP hS => ?_)
    obtain ⟨⟨rfl, rfl⟩, h42⟩ := h42
    refine lv_iconst (v := 0) hx hb dX11_makeReady_37 (by decide) ?_
    refine lv_iconst (v := 0) hx hb dX11_makeReady_38 (by decide) ?_
    have z44 : (σ19 16 0).toInt = (σ 16 0).toInt := by rw [(show σ19 16 0 = (σ 16 0) from (by rw [f21 16 (by omega)]))]
    have z45 : (σ19 16 1).toInt = (σ 16 1).toInt := by rw [(show σ19 16 1 = (σ 16 1) from (by rw [f21 16 (by omega)]))]
    have z46 : (σ19 16 2).toInt = (σ 16 2).toInt := by rw [(show σ19 16 2 = (σ 16 2) from (by rw [f21 16 (by omega)]))]
    have w47 : ∀ k : Nat, k < 8 → 0 ≤ (σ19 17 k).toInt ∧ (σ19 17 k).toInt ≤ 3 := (by rw [f21 17 (by omega)]; exact w10)
    have I48 : jI16 σ19 := ⟨(by omega), (by omega), (by omega), w47⟩
    have z49 : (σ19 22 0).toInt = (σ 22 0).toInt := by rw [(show σ19 22 0 = (σ 22 0) from (by rw [f21 22 (by omega)]))]
    have w50 : ∀ k : Nat, k < 160 → 0 ≤ (σ19 23 k).toInt ∧ (σ19 23 k).toInt ≤ 30000 := (by rw [f21 23 (by omega)]; exact w12)
    have I51 : jI22 σ19 := ⟨(by omega), w50⟩
    have z52 : (σ19 31 8).toInt = (σ 31 8).toInt := by rw [(show σ19 31 8 = (σ 31 8) from (by rw [f21 31 (by omega)]))]
    have w53 : ∀ k : Nat, k < 1400 → (-1) ≤ (σ19 33 k).toInt ∧ (σ19 33 k).toInt ≤ 350 := (by rw [f21 33 (by omega)]; exact w14)
    have w54 : ∀ k : Nat, k < 1024 → 0 ≤ (σ19 36 k).toInt ∧ (σ19 36 k).toInt ≤ 349 := (by rw [f21 36 (by omega)]; exact w15)
    have I55 : jI31 σ19 := ⟨(by omega), w53, w54⟩
    refine jcallVv (As := [.int r43, .int 0, .int 0]) (rest := []) ⟨hx, hb, hml, hown, hts⟩ hK hP hA hS hZ (c_X1_seek_31 l D cI cL ad zz hJ σ19 τ r43 (r43.toInt) rfl 0 (0) jz_0 0 (0) jz_0 I48 I51 I55) cw_RX11_193 (jc_31 cI cL ad σ19 τ) rfl ⟨Nat.le_of_ble_eq_true rfl, Nat.le_of_ble_eq_true rfl⟩ rfl rfl rfl hl.1 rfl (Nat.le_of_ble_eq_true rfl) dX11_makeReady_39 ⟨Nat.zero_le _, Nat.zero_le _⟩ (fun σ56 τ56 H locs h56 hP hS => ?_)
    obtain ⟨rfl, f58, f59, I60, h56⟩ := h56
    obtain ⟨i61, w62, w63⟩ : (0 ≤ (σ56 31 8).toInt ∧ (σ56 31 8).toInt ≤ 350) ∧ (∀ k : Nat, k < 1400 → (-1) ≤ (σ56 33 k).toInt ∧ (σ56 33 k).toInt ≤ 350) ∧ (∀ k : Nat, k < 1024 → 0 ≤ (σ56 36 k).toInt ∧ (σ56 36 k).toInt ≤ 349) := id I60
    exact hret σ56 τ _ _ _ _ ⟨rfl, (fun i hi => by rw [f58 i (by omega), f21 i (by omega)]), (fun k hk => by rw [f59 k (by omega), f21 31 (by omega)]), I60, trivial⟩ hP hS dX11_makeReady_42
set_option maxHeartbeats 4000000 in
set_option maxRecDepth 100000 in
theorem c_X11_bestOf (l : Launch) (D : va_G) (cI cL : ClassId) (ad zz : Nat → Nat) (hJ : jD ad) (σ : Nat → Nat → Int32) (τ : Nat → Nat → Int64) (a1 : Int32) (A1 : Int) (t1 : a1.toInt = A1) (a2 : Int32) (A2 : Int) (t2 : a2.toInt = A2) (hI16 : jI16 σ) (hI22 : jI22 σ) (hI31 : jI31 σ) : jM l yX11_bestOf cX11_bestOf 3 (some .int) ({ frames := 6, cells := 0, slots := 0, locals := 162 }) D cI cL ad zz [.ref (ad 0), .int a1, .int a2] σ τ (fun r σ' τ' => τ = τ' ∧ (∀ i : Nat, (i < 24 ∨ 25 < i) ∧ (i < 27 ∨ 37 < i) → σ' i = σ i) ∧ (∀ k : Nat, (k < 8 ∨ 8 < k) ∧ (k < 9 ∨ 9 < k) ∧ (k < 10 ∨ 10 < k) ∧ (k < 11 ∨ 11 < k) ∧ (k < 12 ∨ 12 < k) → σ' 31 k = σ 31 k) ∧ (jI31 σ') ∧ True) := by
  refine jM.of hJ (by decide +kernel) (nt := .int) rfl (Nat.le_of_ble_eq_true rfl) ?_
  intro p e s m args below meth c Q ls hC hret hl hP
  obtain ⟨hx, hb, hr, hml, hown, hts, hK, -, hlocks, hZ⟩ := hC
  have hown : s.vm.findClass RX11 = some m.cls := hown
  have hS : va_S (jA ad) s.heap s.heap [] := va_S.rf
  have hA : ∀ q, jA ad q → jA ad q := fun _ h => h
  have hl : lv_has ls 3 [(0, .ref (ad 0)), (1, .int a1), (2, .int a2)] := hl
  have g1 := jrg t1
  have g2 := jrg t2
  obtain ⟨i1, i2, i3, w4⟩ : (1 ≤ (σ 16 0).toInt ∧ (σ 16 0).toInt ≤ 8) ∧ (1 ≤ (σ 16 1).toInt ∧ (σ 16 1).toInt ≤ 12) ∧ (0 ≤ (σ 16 2).toInt ∧ (σ 16 2).toInt ≤ 999) ∧ (∀ k : Nat, k < 8 → 0 ≤ (σ 17 k).toInt ∧ (σ 17 k).toInt ≤ 3) := id hI16
  obtain ⟨i5, w6⟩ : (0 ≤ (σ 22 0).toInt ∧ (σ 22 0).toInt ≤ 160) ∧ (∀ k : Nat, k < 160 → 0 ≤ (σ 23 k).toInt ∧ (σ 23 k).toInt ≤ 30000) := id hI22
  obtain ⟨i7, w8, w9⟩ : (0 ≤ (σ 31 8).toInt ∧ (σ 31 8).toInt ≤ 350) ∧ (∀ k : Nat, k < 1400 → (-1) ≤ (σ 33 k).toInt ∧ (σ 33 k).toInt ≤ 350) ∧ (∀ k : Nat, k < 1024 → 0 ≤ (σ 36 k).toInt ∧ (σ 36 k).toInt ≤ 349) := id hI31
  refine lv_aload_n hx hb dX11_bestOf_0 rfl (lv_at hl 0 rfl) ?_
  refine va_get (D := D) hx hb hts inlX11 hown hK hP 0 (jc_0 cI cL ad σ τ) rfl 5 (by decide) (hts _ kw_2_9) (fun _ h9 => h9) rfl dX11_bestOf_1 ?_
  refine lv_iload_n hx hb dX11_bestOf_4 rfl (lv_at hl 2 rfl) ?_
  refine jcallVv (As := [.int a2]) (rest := []) ⟨hx, hb, hml, hown, hts⟩ hK hP hA hS hZ (c_X5_lay_26 l D cI cL ad zz hJ σ τ a2 (A2) t2) cw_RX11_156 (jc_26 cI cL ad σ τ) rfl ⟨Nat.le_of_ble_eq_true rfl, Nat.le_of_ble_eq_true rfl⟩ rfl rfl rfl hl.1 rfl (Nat.le_of_ble_eq_true rfl) dX11_bestOf_5 ⟨Nat.zero_le _, Nat.zero_le _⟩ (fun σ10 τ10 H locs h10 hP hS => ?_)
  obtain ⟨rfl, f12, h10⟩ := h10
  refine lv_aload_n hx hb dX11_bestOf_8 rfl (lv_at hl 0 rfl) ?_
  refine va_get (D := D) hx hb hts inlX11 hown hK hP 0 (jc_0 cI cL ad σ10 τ) rfl 6 (by decide) (hts _ kw_2_13) (fun _ h9 => h9) rfl dX11_bestOf_9 ?_
  refine lv_iload_n hx hb dX11_bestOf_12 rfl (lv_at hl 1 rfl) ?_
  refine lv_iconst (v := 0) hx hb dX11_bestOf_13 (by decide) ?_
  refine lv_iconst (v := 0) hx hb dX11_bestOf_14 (by decide) ?_
  have z13 : (σ10 16 0).toInt = (σ 16 0).toInt := by rw [(show σ10 16 0 = (σ 16 0) from (by rw [f12 16 (by omega)]))]
  have z14 : (σ10 16 1).toInt = (σ 16 1).toInt := by rw [(show σ10 16 1 = (σ 16 1) from (by rw [f12 16 (by omega)]))]
  have z15 : (σ10 16 2).toInt = (σ 16 2).toInt := by rw [(show σ10 16 2 = (σ 16 2) from (by rw [f12 16 (by omega)]))]
  have w16 : ∀ k : Nat, k < 8 → 0 ≤ (σ10 17 k).toInt ∧ (σ10 17 k).toInt ≤ 3 := (by rw [f12 17 (by omega)]; exact w4)
  have I17 : jI16 σ10 := ⟨(by omega), (by omega), (by omega), w16⟩
  have z18 : (σ10 22 0).toInt = (σ 22 0).toInt := by rw [(show σ10 22 0 = (σ 22 0) from (by rw [f12 22 (by omega)]))]
  have w19 : ∀ k : Nat, k < 160 → 0 ≤ (σ10 23 k).toInt ∧ (σ10 23 k).toInt ≤ 30000 := (by rw [f12 23 (by omega)]; exact w6)
  have I20 : jI22 σ10 := ⟨(by omega), w19⟩
  have z21 : (σ10 31 8).toInt = (σ 31 8).toInt := by rw [(show σ10 31 8 = (σ 31 8) from (by rw [f12 31 (by omega)]))]
  have w22 : ∀ k : Nat, k < 1400 → (-1) ≤ (σ10 33 k).toInt ∧ (σ10 33 k).toInt ≤ 350 := (by rw [f12 33 (by omega)]; exact w8)
  have w23 : ∀ k : Nat, k < 1024 → 0 ≤ (σ10 36 k).toInt ∧ (σ10 36 k).toInt ≤ 349 := (by rw [f12 36 (by omega)]; exact w9)
  have I24 : jI31 σ10 := ⟨(by omega), w22, w23⟩
  refine jcallVv (As := [.int a1, .int 0, .int 0]) (rest := []) ⟨hx, hb, hml, hown, hts⟩ hK hP hA hS hZ (c_X1_seek_31 l D cI cL ad zz hJ σ10 τ a1 (A1) t1 0 (0) jz_0 0 (0) jz_0 I17 I20 I24) cw_RX11_193 (jc_31 cI cL ad σ10 τ) rfl ⟨Nat.le_of_ble_eq_true rfl, Nat.le_of_ble_eq_true rfl⟩ rfl rfl rfl hl.1 rfl (Nat.le_of_ble_eq_true rfl) dX11_bestOf_15 ⟨Nat.zero_le _, Nat.zero_le _⟩ (fun σ25 τ25 H locs h25 hP hS => ?_)
  obtain ⟨rfl, f27, f28, I29, h25⟩ := h25
  obtain ⟨i30, w31, w32⟩ : (0 ≤ (σ25 31 8).toInt ∧ (σ25 31 8).toInt ≤ 350) ∧ (∀ k : Nat, k < 1400 → (-1) ≤ (σ25 33 k).toInt ∧ (σ25 33 k).toInt ≤ 350) ∧ (∀ k : Nat, k < 1024 → 0 ≤ (σ25 36 k).toInt ∧ (σ25 36 k).toInt ≤ 349) := id I29
  refine lv_aload_n hx hb dX11_bestOf_18 rfl (lv_at hl 0 rfl) ?_
  refine va_get (D := D) hx hb hts inlX11 hown hK hP 0 (jc_0 cI cL ad σ25 τ) rfl 6 (by decide) (hts _ kw_2_13) (fun _ h9 => h9) rfl dX11_bestOf_19 ?_
  refine lv_iconst (v := 0) hx hb dX11_bestOf_22 (by decide) ?_
  refine lv_iconst (v := 0) hx hb dX11_bestOf_23 (by decide) ?_
  have z33 : (σ25 16 0).toInt = (σ 16 0).toInt := by rw [(show σ25 16 0 = (σ 16 0) from (by rw [f27 16 (by omega)]; exact (by rw [f12 16 (by omega)])))]
  have z34 : (σ25 16 1).toInt = (σ 16 1).toInt := by rw [(show σ25 16 1 = (σ 16 1) from (by rw [f27 16 (by omega)]; exact (by rw [f12 16 (by omega)])))]
  have z35 : (σ25 16 2).toInt = (σ 16 2).toInt := by rw [(show σ25 16 2 = (σ 16 2) from (by rw [f27 16 (by omega)]; exact (by rw [f12 16 (by omega)])))]
  have w36 : ∀ k : Nat, k < 8 → 0 ≤ (σ25 17 k).toInt ∧ (σ25 17 k).toInt ≤ 3 := (by rw [f27 17 (by omega)]; exact w16)
  have I37 : jI16 σ25 := ⟨(by omega), (by omega), (by omega), w36⟩
  refine jcallV (As := [.int 0, .int 0]) (rest := []) ⟨hx, hb, hml, hown, hts⟩ hK hP hA hS hZ (c_X1_valueAt_31 l D cI cL ad zz hJ σ25 τ 0 (0) jz_0 0 (0) jz_0 I37 I29) cw_RX11_215 (jc_31 cI cL ad σ25 τ) rfl ⟨Nat.le_of_ble_eq_true rfl, Nat.le_of_ble_eq_true rfl⟩ rfl rfl rfl hl.1 rfl (Nat.le_of_ble_eq_true rfl) dX11_bestOf_24 ⟨Nat.zero_le _, Nat.zero_le _⟩ (fun r39 σ38 τ38 H locs h38 hP hS => ?_)
  obtain ⟨⟨rfl, rfl⟩, h38⟩ := h38
  exact hret r39 σ25 τ _ _ _ _ rfl ⟨rfl, (fun i hi => by rw [f27 i (by omega), f12 i (by omega)]), (fun k hk => by rw [f28 k (by omega), f12 31 (by omega)]), I29, trivial⟩ hP hS dX11_bestOf_27
set_option maxHeartbeats 4000000 in
set_option maxRecDepth 100000 in
theorem c_X11_puts (l : Launch) (D : va_G) (cI cL : ClassId) (ad zz : Nat → Nat) (hJ : jD ad) (σ : Nat → Nat → Int32) (τ : Nat → Nat → Int64) (a1 : Int32) (A1 : Int) (t1 : a1.toInt = A1) (hI2 : jI2 σ) (hI16 : jI16 σ) (hI18 : jI18 σ) (hI22 : jI22 σ) (hI31 : jI31 σ) (hI38 : jI38 σ) (hI47 : jI47 σ) : jM l yX11_puts cX11_puts 6 (some .int) ({ frames := 6, cells := 0, slots := 0, locals := 162 }) D cI cL ad zz [.ref (ad 0), .int a1] σ τ (fun r σ' τ' => τ = τ' ∧ (∀ i : Nat, (i < 20 ∨ 21 < i) ∧ (i < 24 ∨ 25 < i) ∧ (i < 27 ∨ 37 < i) → σ' i = σ i) ∧ (∀ k : Nat, (k < 8 ∨ 8 < k) ∧ (k < 9 ∨ 9 < k) ∧ (k < 10 ∨ 10 < k) ∧ (k < 11 ∨ 11 < k) ∧ (k < 12 ∨ 12 < k) → σ' 31 k = σ 31 k) ∧ (jI31 σ') ∧ True) := by
  refine jM.of hJ (by decide +kernel) (nt := .int) rfl (Nat.le_of_ble_eq_true rfl) ?_
  intro p e s m args below meth c Q ls hC hret hl hP
  obtain ⟨hx, hb, hr, hml, hown, hts, hK, -, hlocks, hZ⟩ := hC
  have hown : s.vm.findClass RX11 = some m.cls := hown
  have hS : va_S (jA ad) s.heap s.heap [] := va_S.rf
  have hA : ∀ q, jA ad q → jA ad q := fun _ h => h
  have hl : lv_has ls 6 [(0, .ref (ad 0)), (1, .int a1)] := hl
  have g1 := jrg t1
  obtain ⟨i1, i2, i3, i4, i5, w6⟩ : (0 ≤ (σ 2 0).toInt ∧ (σ 2 0).toInt ≤ 4) ∧ (0 ≤ (σ 2 1).toInt ∧ (σ 2 1).toInt ≤ 3) ∧ (0 ≤ (σ 2 2).toInt) ∧ (0 ≤ (σ 2 3).toInt) ∧ ((σ 2 2).toInt + (σ 2 3).toInt ≤ 40) ∧ (∀ k : Nat, k < 40 → 0 ≤ (σ 6 k).toInt ∧ (σ 6 k).toInt ≤ 67) := id hI2
  obtain ⟨i7, i8, i9, w10⟩ : (1 ≤ (σ 16 0).toInt ∧ (σ 16 0).toInt ≤ 8) ∧ (1 ≤ (σ 16 1).toInt ∧ (σ 16 1).toInt ≤ 12) ∧ (0 ≤ (σ 16 2).toInt ∧ (σ 16 2).toInt ≤ 999) ∧ (∀ k : Nat, k < 8 → 0 ≤ (σ 17 k).toInt ∧ (σ 17 k).toInt ≤ 3) := id hI16
  obtain ⟨i11, w12⟩ : (0 ≤ (σ 18 0).toInt ∧ (σ 18 0).toInt ≤ 160) ∧ (∀ k : Nat, k < 160 → 0 ≤ (σ 19 k).toInt ∧ (σ 19 k).toInt ≤ 30000) := id hI18
  obtain ⟨i13, w14⟩ : (0 ≤ (σ 22 0).toInt ∧ (σ 22 0).toInt ≤ 160) ∧ (∀ k : Nat, k < 160 → 0 ≤ (σ 23 k).toInt ∧ (σ 23 k).toInt ≤ 30000) := id hI22
  obtain ⟨i15, w16, w17⟩ : (0 ≤ (σ 31 8).toInt ∧ (σ 31 8).toInt ≤ 350) ∧ (∀ k : Nat, k < 1400 → (-1) ≤ (σ 33 k).toInt ∧ (σ 33 k).toInt ≤ 350) ∧ (∀ k : Nat, k < 1024 → 0 ≤ (σ 36 k).toInt ∧ (σ 36 k).toInt ≤ 349) := id hI31
  obtain ⟨i18, i19, w20⟩ : (0 ≤ (σ 38 0).toInt ∧ (σ 38 0).toInt ≤ 20) ∧ (0 ≤ (σ 38 1).toInt ∧ (σ 38 1).toInt ≤ 1000) ∧ (∀ k : Nat, k < 20 → 0 ≤ (σ 39 k).toInt ∧ (σ 39 k).toInt ≤ 6) := id hI38
  obtain ⟨i21, w22⟩ : (0 ≤ (σ 47 0).toInt ∧ (σ 47 0).toInt ≤ 12) ∧ (∀ k : Nat, k < 12 → 0 ≤ (σ 49 k).toInt ∧ (σ 49 k).toInt ≤ 1) := id hI47
  refine lv_aload_n hx hb dX11_puts_0 rfl (lv_at hl 0 rfl) ?_
  refine lv_iload_n hx hb dX11_puts_1 rfl (lv_at hl 1 rfl) ?_
  have I23 : jI38 σ := ⟨(by omega), (by omega), w20⟩
  refine jcallV (As := [.int a1]) (rest := []) ⟨hx, hb, hml, hown, hts⟩ hK hP hA hS hZ (c_X11_noRule l D cI cL ad zz hJ σ τ a1 (A1) t1 I23) cw_RX11_177 (jc_0 cI cL ad σ τ) rfl ⟨Nat.le_of_ble_eq_true rfl, Nat.le_of_ble_eq_true rfl⟩ rfl rfl rfl hl.1 rfl (Nat.le_of_ble_eq_true rfl) dX11_puts_2 ⟨Nat.zero_le _, Nat.zero_le _⟩ (fun r25 σ24 τ24 H locs h24 hP hS => ?_)
  obtain ⟨⟨rfl, rfl⟩, h24⟩ := h24
  rcases h24 with h26 | h27
  · obtain ⟨q29, k28⟩ := h26
    have q29 := q29.symm
    subst q29
    refine lv_if_eq (tgt := 10) hx hb dX11_puts_5 (by decide) (fun c => absurd c (by decide)) (fun _ => ?_)
    refine lv_iconst (v := (-1)) hx hb dX11_puts_8 (by decide) ?_
    have I30 : jI31 σ := ⟨(by omega), w16, w17⟩
    exact hret (-1) σ τ _ _ _ _ rfl ⟨rfl, (fun _ _ => rfl), (fun _ _ => rfl), I30, trivial⟩ hP hS dX11_puts_9
  · obtain ⟨q32, k31⟩ := h27
    have q32 := q32.symm
    subst q32
    refine lv_if_eq (tgt := 10) hx hb dX11_puts_5 (by decide) (fun _ => ?_) (fun c => absurd (by decide) c)
    refine lv_aload_n hx hb dX11_puts_10 rfl (lv_at hl 0 rfl) ?_
    refine va_get (D := D) hx hb hts inlX11 hown hK hP 0 (jc_0 cI cL ad σ τ) rfl 9 (by decide) (hts _ kw_3_1) (fun _ h9 => h9) rfl dX11_puts_11 ?_
    refine va_get (D := D) hx hb hts inlX2 hown hK hP 47 (jc_47 cI cL ad σ τ) rfl 0 (by decide) (hts _ kw_13_11) (fun _ h9 => h9) rfl dX11_puts_14 ?_
    refine lv_istore_n (lv' := [(2, .int (σ 47 0)), (0, .ref (ad 0)), (1, .int a1)]) hx hb dX11_puts_17 rfl hl (by decide) rfl (fun ls hl => ?_)
    refine lv_aload_n hx hb dX11_puts_18 rfl (lv_at hl 1 rfl) ?_
    refine va_get (D := D) hx hb hts inlX11 hown hK hP 0 (jc_0 cI cL ad σ τ) rfl 9 (by decide) (hts _ kw_3_1) (fun _ h9 => h9) rfl dX11_puts_19 ?_
    refine lv_aload_n hx hb dX11_puts_22 rfl (lv_at hl 1 rfl) ?_
    refine va_get (D := D) hx hb hts inlX11 hown hK hP 0 (jc_0 cI cL ad σ τ) rfl 9 (by decide) (hts _ kw_3_1) (fun _ h9 => h9) rfl dX11_puts_23 ?_
    refine va_get (D := D) hx hb hts inlX2 hown hK hP 47 (jc_47 cI cL ad σ τ) rfl 0 (by decide) (hts _ kw_13_11) (fun _ h9 => h9) rfl dX11_puts_26 ?_
    have I33 : jI47 σ := ⟨(by omega), w22⟩
    refine jcallV (As := [.int (σ 47 0)]) (rest := []) ⟨hx, hb, hml, hown, hts⟩ hK hP hA hS hZ (c_X2_outs_47 l D cI cL ad zz hJ σ τ (σ 47 0) ((σ 47 0).toInt) rfl I33) cw_RX11_180 (jc_47 cI cL ad σ τ) rfl ⟨Nat.le_of_ble_eq_true rfl, Nat.le_of_ble_eq_true rfl⟩ rfl rfl rfl hl.1 rfl (Nat.le_of_ble_eq_true rfl) dX11_puts_29 ⟨Nat.zero_le _, Nat.zero_le _⟩ (fun r35 σ34 τ34 H locs h34 hP hS => ?_)
    obtain ⟨⟨rfl, rfl⟩, h34⟩ := h34
    refine lv_istore_n (lv' := [(3, .int r35), (2, .int (σ 47 0)), (0, .ref (ad 0)), (1, .int a1)]) hx hb dX11_puts_32 rfl hl (by decide) rfl (fun ls hl => ?_)
    refine lv_aload_n hx hb dX11_puts_33 rfl (lv_at hl 2 rfl) ?_
    refine va_get (D := D) hx hb hts inlX11 hown hK hP 0 (jc_0 cI cL ad σ τ) rfl 7 (by decide) (hts _ kw_2_17) (fun _ h9 => h9) rfl dX11_puts_34 ?_
    refine lv_iload_n hx hb dX11_puts_37 rfl (lv_at hl 3 rfl) ?_
    refine jcallV (As := [.int a1]) (rest := []) ⟨hx, hb, hml, hown, hts⟩ hK hP hA hS hZ (c_X8_kindOf_38 l D cI cL ad zz hJ σ τ a1 (A1) t1 I23) cw_RX11_183 (jc_38 cI cL ad σ τ) rfl ⟨Nat.le_of_ble_eq_true rfl, Nat.le_of_ble_eq_true rfl⟩ rfl rfl rfl hl.1 rfl (Nat.le_of_ble_eq_true rfl) dX11_puts_38 ⟨Nat.zero_le _, Nat.zero_le _⟩ (fun r37 σ36 τ36 H locs h36 hP hS => ?_)
    obtain ⟨⟨rfl, rfl⟩, h36⟩ := h36
    have h38 := h36
    obtain ⟨q40, k39⟩ := h38
    refine lv_iconst (v := 2) hx hb dX11_puts_41 (by decide) ?_
    refine lv_icmp_ne (tgt := 49) hx hb dX11_puts_42 (by decide) (fun c41 => ?_) (fun c41 => ?_)
    · have kc41 := jne c41 rfl jz_2
      refine lv_iconst (v := 0) hx hb dX11_puts_49 (by decide) ?_
      refine lv_istore (lv' := [(4, .int 0), (3, .int r35), (2, .int (σ 47 0)), (0, .ref (ad 0)), (1, .int a1)]) hx hb dX11_puts_50 hl (by decide) rfl (fun ls hl => ?_)
      refine lv_iload hx hb dX11_puts_52 (lv_at hl 0 rfl) ?_
      refine lv_if_eq (tgt := 74) hx hb dX11_puts_54 (by decide) (fun _ => ?_) (fun c => absurd (by decide) c)
      refine lv_aload_n hx hb dX11_puts_74 rfl (lv_at hl 3 rfl) ?_
      refine va_get (D := D) hx hb hts inlX11 hown hK hP 0 (jc_0 cI cL ad σ τ) rfl 9 (by decide) (hts _ kw_3_1) (fun _ h9 => h9) rfl dX11_puts_75 ?_
      refine lv_iload_n hx hb dX11_puts_78 rfl (lv_at hl 2 rfl) ?_
      refine lv_aload_n hx hb dX11_puts_79 rfl (lv_at hl 3 rfl) ?_
      refine va_get (D := D) hx hb hts inlX11 hown hK hP 0 (jc_0 cI cL ad σ τ) rfl 0 (by decide) (hts _ kw_1_16) (fun _ h9 => h9) rfl dX11_puts_80 ?_
      have I42 : jI2 σ := ⟨(by omega), (by omega), (by omega), (by omega), (by omega), w6⟩
      refine jcallV (As := [.int (σ 47 0), .ref (ad 2)]) (rest := []) ⟨hx, hb, hml, hown, hts⟩ hK hP hA hS hZ (c_X2_attackAhead_47 l D cI cL ad zz hJ σ τ (σ 47 0) ((σ 47 0).toInt) rfl I42 I33) cw_RX11_186 (jc_47 cI cL ad σ τ) rfl ⟨Nat.le_of_ble_eq_true rfl, Nat.le_of_ble_eq_true rfl⟩ rfl rfl rfl hl.1 rfl (Nat.le_of_ble_eq_true rfl) dX11_puts_83 ⟨Nat.zero_le _, Nat.zero_le _⟩ (fun r44 σ43 τ43 H locs h43 hP hS => ?_)
      obtain ⟨⟨rfl, rfl⟩, h43⟩ := h43
      refine lv_istore (lv' := [(5, .int r44), (4, .int 0), (3, .int r35), (2, .int (σ 47 0)), (0, .ref (ad 0)), (1, .int a1)]) hx hb dX11_puts_86 hl (by decide) rfl (fun ls hl => ?_)
      refine lv_aload_n hx hb dX11_puts_88 rfl (lv_at hl 4 rfl) ?_
      refine va_get (D := D) hx hb hts inlX11 hown hK hP 0 (jc_0 cI cL ad σ τ) rfl 2 (by decide) (hts _ kw_2_0) (fun _ h9 => h9) rfl dX11_puts_89 ?_
      refine lv_iload_n hx hb dX11_puts_92 rfl (lv_at hl 3 rfl) ?_
      refine lv_iload_n hx hb dX11_puts_93 rfl (lv_at hl 2 rfl) ?_
      refine lv_iload hx hb dX11_puts_94 (lv_at hl 0 rfl) ?_
      refine jcallV (As := [.int (σ 47 0), .int r35, .int r44]) (rest := []) ⟨hx, hb, hml, hown, hts⟩ hK hP hA hS hZ (c_X6_ended_16 l D cI cL ad zz hJ σ τ (σ 47 0) ((σ 47 0).toInt) rfl r35 (r35.toInt) rfl r44 (r44.toInt) rfl) cw_RX11_190 (jc_16 cI cL ad σ τ) rfl ⟨Nat.le_of_ble_eq_true rfl, Nat.le_of_ble_eq_true rfl⟩ rfl rfl rfl hl.1 rfl (Nat.le_of_ble_eq_true rfl) dX11_puts_96 ⟨Nat.zero_le _, Nat.zero_le _⟩ (fun r46 σ45 τ45 H locs h45 hP hS => ?_)
      obtain ⟨⟨rfl, rfl⟩, h45⟩ := h45
      refine lv_if_eq (tgt := 105) hx hb dX11_puts_99 (by decide) (fun c47 => ?_) (fun c47 => ?_)
      · have kc47 := jeq c47 rfl jz_0
        refine lv_aload_n hx hb dX11_puts_105 rfl (lv_at hl 4 rfl) ?_
        refine va_get (D := D) hx hb hts inlX11 hown hK hP 0 (jc_0 cI cL ad σ τ) rfl 5 (by decide) (hts _ kw_2_9) (fun _ h9 => h9) rfl dX11_puts_106 ?_
        refine lv_aload_n hx hb dX11_puts_109 rfl (lv_at hl 4 rfl) ?_
        refine va_get (D := D) hx hb hts inlX11 hown hK hP 0 (jc_0 cI cL ad σ τ) rfl 0 (by decide) (hts _ kw_1_16) (fun _ h9 => h9) rfl dX11_puts_110 ?_
        refine va_get (D := D) hx hb hts inlX4 hown hK hP 2 (jc_2 cI cL ad σ τ) rfl 1 (by decide) (hts _ kw_12_8) (fun _ h9 => h9) rfl dX11_puts_113 ?_
        refine jcallVv (As := [.int (σ 2 1)]) (rest := []) ⟨hx, hb, hml, hown, hts⟩ hK hP hA hS hZ (c_X5_lay_26 l D cI cL ad zz hJ σ τ (σ 2 1) ((σ 2 1).toInt) rfl) cw_RX11_156 (jc_26 cI cL ad σ τ) rfl ⟨Nat.le_of_ble_eq_true rfl, Nat.le_of_ble_eq_true rfl⟩ rfl rfl rfl hl.1 rfl (Nat.le_of_ble_eq_true rfl) dX11_puts_116 ⟨Nat.zero_le _, Nat.zero_le _⟩ (fun σ48 τ48 H locs h48 hP hS => ?_)
        obtain ⟨rfl, f50, h48⟩ := h48
        refine lv_iload hx hb dX11_puts_119 (lv_at hl 1 rfl) ?_
        refine lv_if_eq (tgt := 135) hx hb dX11_puts_121 (by decide) (fun _ => ?_) (fun c => absurd (by decide) c)
        refine lv_aload_n hx hb dX11_puts_135 rfl (lv_at hl 4 rfl) ?_
        refine va_get (D := D) hx hb hts inlX11 hown hK hP 0 (jc_0 cI cL ad σ48 τ) rfl 8 (by decide) (hts _ kw_2_21) (fun _ h9 => h9) rfl dX11_puts_136 ?_
        refine lv_iload_n hx hb dX11_puts_139 rfl (lv_at hl 5 rfl) ?_
        refine lv_iload_n hx hb dX11_puts_140 rfl (lv_at hl 3 rfl) ?_
        refine lv_iload_n hx hb dX11_puts_141 rfl (lv_at hl 2 rfl) ?_
        refine lv_iload hx hb dX11_puts_142 (lv_at hl 0 rfl) ?_
        have z51 : (σ48 16 0).toInt = (σ 16 0).toInt := by rw [(show σ48 16 0 = (σ 16 0) from (by rw [f50 16 (by omega)]))]
        have z52 : (σ48 16 1).toInt = (σ 16 1).toInt := by rw [(show σ48 16 1 = (σ 16 1) from (by rw [f50 16 (by omega)]))]
        have z53 : (σ48 16 2).toInt = (σ 16 2).toInt := by rw [(show σ48 16 2 = (σ 16 2) from (by rw [f50 16 (by omega)]))]
        have w54 : ∀ k : Nat, k < 8 → 0 ≤ (σ48 17 k).toInt ∧ (σ48 17 k).toInt ≤ 3 := (by rw [f50 17 (by omega)]; exact w10)
        have I55 : jI16 σ48 := ⟨(by omega), (by omega), (by omega), w54⟩
        have z56 : (σ48 18 0).toInt = (σ 18 0).toInt := by rw [(show σ48 18 0 = (σ 18 0) from (by rw [f50 18 (by omega)]))]
        have w57 : ∀ k : Nat, k < 160 → 0 ≤ (σ48 19 k).toInt ∧ (σ48 19 k).toInt ≤ 30000 := (by rw [f50 19 (by omega)]; exact w12)
        have I58 : jI18 σ48 := ⟨(by omega), w57⟩
        have z59 : (σ48 22 0).toInt = (σ 22 0).toInt := by rw [(show σ48 22 0 = (σ 22 0) from (by rw [f50 22 (by omega)]))]
        have w60 : ∀ k : Nat, k < 160 → 0 ≤ (σ48 23 k).toInt ∧ (σ48 23 k).toInt ≤ 30000 := (by rw [f50 23 (by omega)]; exact w14)
        have I61 : jI22 σ48 := ⟨(by omega), w60⟩
        have z62 : (σ48 31 8).toInt = (σ 31 8).toInt := by rw [(show σ48 31 8 = (σ 31 8) from (by rw [f50 31 (by omega)]))]
        have w63 : ∀ k : Nat, k < 1400 → (-1) ≤ (σ48 33 k).toInt ∧ (σ48 33 k).toInt ≤ 350 := (by rw [f50 33 (by omega)]; exact w16)
        have w64 : ∀ k : Nat, k < 1024 → 0 ≤ (σ48 36 k).toInt ∧ (σ48 36 k).toInt ≤ 349 := (by rw [f50 36 (by omega)]; exact w17)
        have I65 : jI31 σ48 := ⟨(by omega), w63, w64⟩
        have z66 : (σ48 38 0).toInt = (σ 38 0).toInt := by rw [(show σ48 38 0 = (σ 38 0) from (by rw [f50 38 (by omega)]))]
        have z67 : (σ48 38 1).toInt = (σ 38 1).toInt := by rw [(show σ48 38 1 = (σ 38 1) from (by rw [f50 38 (by omega)]))]
        have w68 : ∀ k : Nat, k < 20 → 0 ≤ (σ48 39 k).toInt ∧ (σ48 39 k).toInt ≤ 6 := (by rw [f50 39 (by omega)]; exact w20)
        have I69 : jI38 σ48 := ⟨(by omega), (by omega), w68⟩
        refine jcallV (As := [.int a1, .int (σ 47 0), .int r35, .int r44]) (rest := []) ⟨hx, hb, hml, hown, hts⟩ hK hP hA hS hZ (c_X3_putOn_43 l D cI cL ad zz hJ σ48 τ a1 (A1) t1 (σ 47 0) ((σ 47 0).toInt) rfl r35 (r35.toInt) rfl r44 (r44.toInt) rfl I55 I58 I61 I65 I69) cw_RX11_197 (jc_43 cI cL ad σ48 τ) rfl ⟨Nat.le_of_ble_eq_true rfl, Nat.le_of_ble_eq_true rfl⟩ rfl rfl rfl hl.1 rfl (Nat.le_of_ble_eq_true rfl) dX11_puts_144 ⟨Nat.zero_le _, Nat.zero_le _⟩ (fun r71 σ70 τ70 H locs h70 hP hS => ?_)
        obtain ⟨rfl, f72, h70⟩ := h70
        have z73 : (σ70 31 8).toInt = (σ 31 8).toInt := by rw [(show σ70 31 8 = (σ 31 8) from (by rw [f72 31 (by omega)]; exact (by rw [f50 31 (by omega)])))]
        have w74 : ∀ k : Nat, k < 1400 → (-1) ≤ (σ70 33 k).toInt ∧ (σ70 33 k).toInt ≤ 350 := (by rw [f72 33 (by omega)]; exact w63)
        have w75 : ∀ k : Nat, k < 1024 → 0 ≤ (σ70 36 k).toInt ∧ (σ70 36 k).toInt ≤ 349 := (by rw [f72 36 (by omega)]; exact w64)
        have I76 : jI31 σ70 := ⟨(by omega), w74, w75⟩
        exact hret r71 σ70 τ _ _ _ _ rfl ⟨rfl, (fun i hi => by rw [f72 i (by omega), f50 i (by omega)]), (fun k hk => by rw [f72 31 (by omega), f50 31 (by omega)]), I76, trivial⟩ hP hS dX11_puts_147
      · have kc47 := jne c47 rfl jz_0
        refine lv_bipush (v := (-2)) hx hb dX11_puts_102 (by decide) ?_
        have I77 : jI31 σ := ⟨(by omega), w16, w17⟩
        exact hret (-2) σ τ _ _ _ _ rfl ⟨rfl, (fun _ _ => rfl), (fun _ _ => rfl), I77, trivial⟩ hP hS dX11_puts_104
    · have kc41 := jeq c41 rfl jz_2
      refine lv_iconst (v := 1) hx hb dX11_puts_45 (by decide) ?_
      refine lv_goto (tgt := 50) hx hb dX11_puts_46 (by decide) ?_
      refine lv_istore (lv' := [(4, .int 1), (3, .int r35), (2, .int (σ 47 0)), (0, .ref (ad 0)), (1, .int a1)]) hx hb dX11_puts_50 hl (by decide) rfl (fun ls hl => ?_)
      refine lv_iload hx hb dX11_puts_52 (lv_at hl 0 rfl) ?_
      refine lv_if_eq (tgt := 74) hx hb dX11_puts_54 (by decide) (fun c => absurd c (by decide)) (fun _ => ?_)
      refine lv_aload_n hx hb dX11_puts_57 rfl (lv_at hl 3 rfl) ?_
      refine va_get (D := D) hx hb hts inlX11 hown hK hP 0 (jc_0 cI cL ad σ τ) rfl 2 (by decide) (hts _ kw_2_0) (fun _ h9 => h9) rfl dX11_puts_58 ?_
      refine va_get (D := D) hx hb hts inlX6 hown hK hP 16 (jc_16 cI cL ad σ τ) rfl 1 (by decide) (hts _ kw_20_5) (fun _ h9 => h9) rfl dX11_puts_61 ?_
      refine lv_iload_n hx hb dX11_puts_64 rfl (lv_at hl 2 rfl) ?_
      have g78 := jrg (rfl : (σ 16 1).toInt = (σ 16 1).toInt)
      have g79 := jrg (rfl : (σ 47 0).toInt = (σ 47 0).toInt)
      refine lv_isub hx hb dX11_puts_65 ?_
      refine lv_topi (fun x80 ex80 => ?_)
      have tx80 : x80.toInt = (σ 16 1).toInt - (σ 47 0).toInt := (jsub ex80 rfl rfl (by omega) (by omega)).trans (by omega)
      refine lv_bipush (v := 8) hx hb dX11_puts_66 (by decide) ?_
      refine lv_icmp_le (tgt := 74) hx hb dX11_puts_68 (by decide) (fun c81 => ?_) (fun c81 => ?_)
      · have kc81 := jle c81 tx80 jz_8
        refine lv_aload_n hx hb dX11_puts_74 rfl (lv_at hl 3 rfl) ?_
        refine va_get (D := D) hx hb hts inlX11 hown hK hP 0 (jc_0 cI cL ad σ τ) rfl 9 (by decide) (hts _ kw_3_1) (fun _ h9 => h9) rfl dX11_puts_75 ?_
        refine lv_iload_n hx hb dX11_puts_78 rfl (lv_at hl 2 rfl) ?_
        refine lv_aload_n hx hb dX11_puts_79 rfl (lv_at hl 3 rfl) ?_
        refine va_get (D := D) hx hb hts inlX11 hown hK hP 0 (jc_0 cI cL ad σ τ) rfl 0 (by decide) (hts _ kw_1_16) (fun _ h9 => h9) rfl dX11_puts_80 ?_
        have I82 : jI2 σ := ⟨(by omega), (by omega), (by omega), (by omega), (by omega), w6⟩
        refine jcallV (As := [.int (σ 47 0), .ref (ad 2)]) (rest := []) ⟨hx, hb, hml, hown, hts⟩ hK hP hA hS hZ (c_X2_attackAhead_47 l D cI cL ad zz hJ σ τ (σ 47 0) ((σ 47 0).toInt) rfl I82 I33) cw_RX11_186 (jc_47 cI cL ad σ τ) rfl ⟨Nat.le_of_ble_eq_true rfl, Nat.le_of_ble_eq_true rfl⟩ rfl rfl rfl hl.1 rfl (Nat.le_of_ble_eq_true rfl) dX11_puts_83 ⟨Nat.zero_le _, Nat.zero_le _⟩ (fun r84 σ83 τ83 H locs h83 hP hS => ?_)
        obtain ⟨⟨rfl, rfl⟩, h83⟩ := h83
        refine lv_istore (lv' := [(5, .int r84), (4, .int 1), (3, .int r35), (2, .int (σ 47 0)), (0, .ref (ad 0)), (1, .int a1)]) hx hb dX11_puts_86 hl (by decide) rfl (fun ls hl => ?_)
        refine lv_aload_n hx hb dX11_puts_88 rfl (lv_at hl 4 rfl) ?_
        refine va_get (D := D) hx hb hts inlX11 hown hK hP 0 (jc_0 cI cL ad σ τ) rfl 2 (by decide) (hts _ kw_2_0) (fun _ h9 => h9) rfl dX11_puts_89 ?_
        refine lv_iload_n hx hb dX11_puts_92 rfl (lv_at hl 3 rfl) ?_
        refine lv_iload_n hx hb dX11_puts_93 rfl (lv_at hl 2 rfl) ?_
        refine lv_iload hx hb dX11_puts_94 (lv_at hl 0 rfl) ?_
        refine jcallV (As := [.int (σ 47 0), .int r35, .int r84]) (rest := []) ⟨hx, hb, hml, hown, hts⟩ hK hP hA hS hZ (c_X6_ended_16 l D cI cL ad zz hJ σ τ (σ 47 0) ((σ 47 0).toInt) rfl r35 (r35.toInt) rfl r84 (r84.toInt) rfl) cw_RX11_190 (jc_16 cI cL ad σ τ) rfl ⟨Nat.le_of_ble_eq_true rfl, Nat.le_of_ble_eq_true rfl⟩ rfl rfl rfl hl.1 rfl (Nat.le_of_ble_eq_true rfl) dX11_puts_96 ⟨Nat.zero_le _, Nat.zero_le _⟩ (fun r86 σ85 τ85 H locs h85 hP hS => ?_)
        obtain ⟨⟨rfl, rfl⟩, h85⟩ := h85
        refine lv_if_eq (tgt := 105) hx hb dX11_puts_99 (by decide) (fun c87 => ?_) (fun c87 => ?_)
        · have kc87 := jeq c87 rfl jz_0
          refine lv_aload_n hx hb dX11_puts_105 rfl (lv_at hl 4 rfl) ?_
          refine va_get (D := D) hx hb hts inlX11 hown hK hP 0 (jc_0 cI cL ad σ τ) rfl 5 (by decide) (hts _ kw_2_9) (fun _ h9 => h9) rfl dX11_puts_106 ?_
          refine lv_aload_n hx hb dX11_puts_109 rfl (lv_at hl 4 rfl) ?_
          refine va_get (D := D) hx hb hts inlX11 hown hK hP 0 (jc_0 cI cL ad σ τ) rfl 0 (by decide) (hts _ kw_1_16) (fun _ h9 => h9) rfl dX11_puts_110 ?_
          refine va_get (D := D) hx hb hts inlX4 hown hK hP 2 (jc_2 cI cL ad σ τ) rfl 1 (by decide) (hts _ kw_12_8) (fun _ h9 => h9) rfl dX11_puts_113 ?_
          refine jcallVv (As := [.int (σ 2 1)]) (rest := []) ⟨hx, hb, hml, hown, hts⟩ hK hP hA hS hZ (c_X5_lay_26 l D cI cL ad zz hJ σ τ (σ 2 1) ((σ 2 1).toInt) rfl) cw_RX11_156 (jc_26 cI cL ad σ τ) rfl ⟨Nat.le_of_ble_eq_true rfl, Nat.le_of_ble_eq_true rfl⟩ rfl rfl rfl hl.1 rfl (Nat.le_of_ble_eq_true rfl) dX11_puts_116 ⟨Nat.zero_le _, Nat.zero_le _⟩ (fun σ88 τ88 H locs h88 hP hS => ?_)
          obtain ⟨rfl, f90, h88⟩ := h88
          refine lv_iload hx hb dX11_puts_119 (lv_at hl 1 rfl) ?_
          refine lv_if_eq (tgt := 135) hx hb dX11_puts_121 (by decide) (fun c => absurd c (by decide)) (fun _ => ?_)
          refine lv_aload_n hx hb dX11_puts_124 rfl (lv_at hl 4 rfl) ?_
          refine va_get (D := D) hx hb hts inlX11 hown hK hP 0 (jc_0 cI cL ad σ88 τ) rfl 6 (by decide) (hts _ kw_2_13) (fun _ h9 => h9) rfl dX11_puts_125 ?_
          refine lv_iload hx hb dX11_puts_128 (lv_at hl 0 rfl) ?_
          refine lv_iload_n hx hb dX11_puts_130 rfl (lv_at hl 3 rfl) ?_
          refine lv_iload_n hx hb dX11_puts_131 rfl (lv_at hl 2 rfl) ?_
          have z91 : (σ88 16 0).toInt = (σ 16 0).toInt := by rw [(show σ88 16 0 = (σ 16 0) from (by rw [f90 16 (by omega)]))]
          have z92 : (σ88 16 1).toInt = (σ 16 1).toInt := by rw [(show σ88 16 1 = (σ 16 1) from (by rw [f90 16 (by omega)]))]
          have z93 : (σ88 16 2).toInt = (σ 16 2).toInt := by rw [(show σ88 16 2 = (σ 16 2) from (by rw [f90 16 (by omega)]))]
          have w94 : ∀ k : Nat, k < 8 → 0 ≤ (σ88 17 k).toInt ∧ (σ88 17 k).toInt ≤ 3 := (by rw [f90 17 (by omega)]; exact w10)
          have I95 : jI16 σ88 := ⟨(by omega), (by omega), (by omega), w94⟩
          have z96 : (σ88 22 0).toInt = (σ 22 0).toInt := by rw [(show σ88 22 0 = (σ 22 0) from (by rw [f90 22 (by omega)]))]
          have w97 : ∀ k : Nat, k < 160 → 0 ≤ (σ88 23 k).toInt ∧ (σ88 23 k).toInt ≤ 30000 := (by rw [f90 23 (by omega)]; exact w14)
          have I98 : jI22 σ88 := ⟨(by omega), w97⟩
          have z99 : (σ88 31 8).toInt = (σ 31 8).toInt := by rw [(show σ88 31 8 = (σ 31 8) from (by rw [f90 31 (by omega)]))]
          have w100 : ∀ k : Nat, k < 1400 → (-1) ≤ (σ88 33 k).toInt ∧ (σ88 33 k).toInt ≤ 350 := (by rw [f90 33 (by omega)]; exact w16)
          have w101 : ∀ k : Nat, k < 1024 → 0 ≤ (σ88 36 k).toInt ∧ (σ88 36 k).toInt ≤ 349 := (by rw [f90 36 (by omega)]; exact w17)
          have I102 : jI31 σ88 := ⟨(by omega), w100, w101⟩
          refine jcallVv (As := [.int r84, .int (σ 47 0), .int r35]) (rest := []) ⟨hx, hb, hml, hown, hts⟩ hK hP hA hS hZ (c_X1_seek_31 l D cI cL ad zz hJ σ88 τ r84 (r84.toInt) rfl (σ 47 0) ((σ 47 0).toInt) rfl r35 (r35.toInt) rfl I95 I98 I102) cw_RX11_193 (jc_31 cI cL ad σ88 τ) rfl ⟨Nat.le_of_ble_eq_true rfl, Nat.le_of_ble_eq_true rfl⟩ rfl rfl rfl hl.1 rfl (Nat.le_of_ble_eq_true rfl) dX11_puts_132 ⟨Nat.zero_le _, Nat.zero_le _⟩ (fun σ103 τ103 H locs h103 hP hS => ?_)
          obtain ⟨rfl, f105, f106, I107, h103⟩ := h103
          obtain ⟨i108, w109, w110⟩ : (0 ≤ (σ103 31 8).toInt ∧ (σ103 31 8).toInt ≤ 350) ∧ (∀ k : Nat, k < 1400 → (-1) ≤ (σ103 33 k).toInt ∧ (σ103 33 k).toInt ≤ 350) ∧ (∀ k : Nat, k < 1024 → 0 ≤ (σ103 36 k).toInt ∧ (σ103 36 k).toInt ≤ 349) := id I107
          refine lv_aload_n hx hb dX11_puts_135 rfl (lv_at hl 4 rfl) ?_
          refine va_get (D := D) hx hb hts inlX11 hown hK hP 0 (jc_0 cI cL ad σ103 τ) rfl 8 (by decide) (hts _ kw_2_21) (fun _ h9 => h9) rfl dX11_puts_136 ?_
          refine lv_iload_n hx hb dX11_puts_139 rfl (lv_at hl 5 rfl) ?_
          refine lv_iload_n hx hb dX11_puts_140 rfl (lv_at hl 3 rfl) ?_
          refine lv_iload_n hx hb dX11_puts_141 rfl (lv_at hl 2 rfl) ?_
          refine lv_iload hx hb dX11_puts_142 (lv_at hl 0 rfl) ?_
          have z111 : (σ103 16 0).toInt = (σ 16 0).toInt := by rw [(show σ103 16 0 = (σ 16 0) from (by rw [f105 16 (by omega)]; exact (by rw [f90 16 (by omega)])))]
          have z112 : (σ103 16 1).toInt = (σ 16 1).toInt := by rw [(show σ103 16 1 = (σ 16 1) from (by rw [f105 16 (by omega)]; exact (by rw [f90 16 (by omega)])))]
          have z113 : (σ103 16 2).toInt = (σ 16 2).toInt := by rw [(show σ103 16 2 = (σ 16 2) from (by rw [f105 16 (by omega)]; exact (by rw [f90 16 (by omega)])))]
          have w114 : ∀ k : Nat, k < 8 → 0 ≤ (σ103 17 k).toInt ∧ (σ103 17 k).toInt ≤ 3 := (by rw [f105 17 (by omega)]; exact w94)
          have I115 : jI16 σ103 := ⟨(by omega), (by omega), (by omega), w114⟩
          have z116 : (σ103 18 0).toInt = (σ 18 0).toInt := by rw [(show σ103 18 0 = (σ 18 0) from (by rw [f105 18 (by omega)]; exact (by rw [f90 18 (by omega)])))]
          have w117 : ∀ k : Nat, k < 160 → 0 ≤ (σ103 19 k).toInt ∧ (σ103 19 k).toInt ≤ 30000 := (by rw [f105 19 (by omega)]; exact (by rw [f90 19 (by omega)]; exact w12))
          have I118 : jI18 σ103 := ⟨(by omega), w117⟩
          have z119 : (σ103 22 0).toInt = (σ 22 0).toInt := by rw [(show σ103 22 0 = (σ 22 0) from (by rw [f105 22 (by omega)]; exact (by rw [f90 22 (by omega)])))]
          have w120 : ∀ k : Nat, k < 160 → 0 ≤ (σ103 23 k).toInt ∧ (σ103 23 k).toInt ≤ 30000 := (by rw [f105 23 (by omega)]; exact w97)
          have I121 : jI22 σ103 := ⟨(by omega), w120⟩
          have z122 : (σ103 38 0).toInt = (σ 38 0).toInt := by rw [(show σ103 38 0 = (σ 38 0) from (by rw [f105 38 (by omega)]; exact (by rw [f90 38 (by omega)])))]
          have z123 : (σ103 38 1).toInt = (σ 38 1).toInt := by rw [(show σ103 38 1 = (σ 38 1) from (by rw [f105 38 (by omega)]; exact (by rw [f90 38 (by omega)])))]
          have w124 : ∀ k : Nat, k < 20 → 0 ≤ (σ103 39 k).toInt ∧ (σ103 39 k).toInt ≤ 6 := (by rw [f105 39 (by omega)]; exact (by rw [f90 39 (by omega)]; exact w20))
          have I125 : jI38 σ103 := ⟨(by omega), (by omega), w124⟩
          refine jcallV (As := [.int a1, .int (σ 47 0), .int r35, .int r84]) (rest := []) ⟨hx, hb, hml, hown, hts⟩ hK hP hA hS hZ (c_X3_putOn_43 l D cI cL ad zz hJ σ103 τ a1 (A1) t1 (σ 47 0) ((σ 47 0).toInt) rfl r35 (r35.toInt) rfl r84 (r84.toInt) rfl I115 I118 I121 I107 I125) cw_RX11_197 (jc_43 cI cL ad σ103 τ) rfl ⟨Nat.le_of_ble_eq_true rfl, Nat.le_of_ble_eq_true rfl⟩ rfl rfl rfl hl.1 rfl (Nat.le_of_ble_eq_true rfl) dX11_puts_144 ⟨Nat.zero_le _, Nat.zero_le _⟩ (fun r127 σ126 τ126 H locs h126 hP hS => ?_)
          obtain ⟨rfl, f128, h126⟩ := h126
          have z129 : (σ126 31 8).toInt = (σ103 31 8).toInt := by rw [(show σ126 31 8 = (σ103 31 8) from (by rw [f128 31 (by omega)]))]
          have w130 : ∀ k : Nat, k < 1400 → (-1) ≤ (σ126 33 k).toInt ∧ (σ126 33 k).toInt ≤ 350 := (by rw [f128 33 (by omega)]; exact w109)
          have w131 : ∀ k : Nat, k < 1024 → 0 ≤ (σ126 36 k).toInt ∧ (σ126 36 k).toInt ≤ 349 := (by rw [f128 36 (by omega)]; exact w110)
          have I132 : jI31 σ126 := ⟨(by omega), w130, w131⟩
          exact hret r127 σ126 τ _ _ _ _ rfl ⟨rfl, (fun i hi => by rw [f128 i (by omega), f105 i (by omega), f90 i (by omega)]), (fun k hk => by rw [f128 31 (by omega), f106 k (by omega), f90 31 (by omega)]), I132, trivial⟩ hP hS dX11_puts_147
        · have kc87 := jne c87 rfl jz_0
          refine lv_bipush (v := (-2)) hx hb dX11_puts_102 (by decide) ?_
          have I133 : jI31 σ := ⟨(by omega), w16, w17⟩
          exact hret (-2) σ τ _ _ _ _ rfl ⟨rfl, (fun _ _ => rfl), (fun _ _ => rfl), I133, trivial⟩ hP hS dX11_puts_104
      · have kc81 := jnle c81 tx80 jz_8
        refine lv_bipush (v := (-4)) hx hb dX11_puts_71 (by decide) ?_
        have I134 : jI31 σ := ⟨(by omega), w16, w17⟩
        exact hret (-4) σ τ _ _ _ _ rfl ⟨rfl, (fun _ _ => rfl), (fun _ _ => rfl), I134, trivial⟩ hP hS dX11_puts_73
set_option maxHeartbeats 4000000 in
set_option maxRecDepth 100000 in
theorem c_X11_mean (l : Launch) (D : va_G) (cI cL : ClassId) (ad zz : Nat → Nat) (hJ : jD ad) (σ : Nat → Nat → Int32) (τ : Nat → Nat → Int64) (a1 : Int32) (A1 : Int) (t1 : a1.toInt = A1) (hI2 : jI2 σ) (hI16 : jI16 σ) (hI18 : jI18 σ) (hI22 : jI22 σ) (hI31 : jI31 σ) (hI38 : jI38 σ) : jM l yX11_mean cX11_mean 2 (some .int) ({ frames := 14, cells := 0, slots := 0, locals := 381 }) D cI cL ad zz [.ref (ad 0), .int a1] σ τ (fun r σ' τ' => τ = τ' ∧ (∀ i : Nat, (i < 20 ∨ 21 < i) ∧ (i < 24 ∨ 25 < i) ∧ (i < 27 ∨ 37 < i) → σ' i = σ i) ∧ (∀ k : Nat, (k < 8 ∨ 8 < k) ∧ (k < 9 ∨ 9 < k) ∧ (k < 10 ∨ 10 < k) ∧ (k < 11 ∨ 11 < k) ∧ (k < 12 ∨ 12 < k) → σ' 31 k = σ 31 k) ∧ (jI31 σ') ∧ True) := by
  refine jM.of hJ (by decide +kernel) (nt := .int) rfl (Nat.le_of_ble_eq_true rfl) ?_
  intro p e s m args below meth c Q ls hC hret hl hP
  obtain ⟨hx, hb, hr, hml, hown, hts, hK, -, hlocks, hZ⟩ := hC
  have hown : s.vm.findClass RX11 = some m.cls := hown
  have hS : va_S (jA ad) s.heap s.heap [] := va_S.rf
  have hA : ∀ q, jA ad q → jA ad q := fun _ h => h
  have hl : lv_has ls 2 [(0, .ref (ad 0)), (1, .int a1)] := hl
  have g1 := jrg t1
  obtain ⟨i1, i2, i3, i4, i5, w6⟩ : (0 ≤ (σ 2 0).toInt ∧ (σ 2 0).toInt ≤ 4) ∧ (0 ≤ (σ 2 1).toInt ∧ (σ 2 1).toInt ≤ 3) ∧ (0 ≤ (σ 2 2).toInt) ∧ (0 ≤ (σ 2 3).toInt) ∧ ((σ 2 2).toInt + (σ 2 3).toInt ≤ 40) ∧ (∀ k : Nat, k < 40 → 0 ≤ (σ 6 k).toInt ∧ (σ 6 k).toInt ≤ 67) := id hI2
  obtain ⟨i7, i8, i9, w10⟩ : (1 ≤ (σ 16 0).toInt ∧ (σ 16 0).toInt ≤ 8) ∧ (1 ≤ (σ 16 1).toInt ∧ (σ 16 1).toInt ≤ 12) ∧ (0 ≤ (σ 16 2).toInt ∧ (σ 16 2).toInt ≤ 999) ∧ (∀ k : Nat, k < 8 → 0 ≤ (σ 17 k).toInt ∧ (σ 17 k).toInt ≤ 3) := id hI16
  obtain ⟨i11, w12⟩ : (0 ≤ (σ 18 0).toInt ∧ (σ 18 0).toInt ≤ 160) ∧ (∀ k : Nat, k < 160 → 0 ≤ (σ 19 k).toInt ∧ (σ 19 k).toInt ≤ 30000) := id hI18
  obtain ⟨i13, w14⟩ : (0 ≤ (σ 22 0).toInt ∧ (σ 22 0).toInt ≤ 160) ∧ (∀ k : Nat, k < 160 → 0 ≤ (σ 23 k).toInt ∧ (σ 23 k).toInt ≤ 30000) := id hI22
  obtain ⟨i15, w16, w17⟩ : (0 ≤ (σ 31 8).toInt ∧ (σ 31 8).toInt ≤ 350) ∧ (∀ k : Nat, k < 1400 → (-1) ≤ (σ 33 k).toInt ∧ (σ 33 k).toInt ≤ 350) ∧ (∀ k : Nat, k < 1024 → 0 ≤ (σ 36 k).toInt ∧ (σ 36 k).toInt ≤ 349) := id hI31
  obtain ⟨i18, i19, w20⟩ : (0 ≤ (σ 38 0).toInt ∧ (σ 38 0).toInt ≤ 20) ∧ (0 ≤ (σ 38 1).toInt ∧ (σ 38 1).toInt ≤ 1000) ∧ (∀ k : Nat, k < 20 → 0 ≤ (σ 39 k).toInt ∧ (σ 39 k).toInt ≤ 6) := id hI38
  refine lv_aload_n hx hb dX11_mean_0 rfl (lv_at hl 0 rfl) ?_
  refine lv_iload_n hx hb dX11_mean_1 rfl (lv_at hl 1 rfl) ?_
  have I21 : jI38 σ := ⟨(by omega), (by omega), w20⟩
  refine jcallV (As := [.int a1]) (rest := []) ⟨hx, hb, hml, hown, hts⟩ hK hP hA hS hZ (c_X11_noRule l D cI cL ad zz hJ σ τ a1 (A1) t1 I21) cw_RX11_177 (jc_0 cI cL ad σ τ) rfl ⟨Nat.le_of_ble_eq_true rfl, Nat.le_of_ble_eq_true rfl⟩ rfl rfl rfl hl.1 rfl (Nat.le_of_ble_eq_true rfl) dX11_mean_2 ⟨Nat.zero_le _, Nat.zero_le _⟩ (fun r23 σ22 τ22 H locs h22 hP hS => ?_)
  obtain ⟨⟨rfl, rfl⟩, h22⟩ := h22
  rcases h22 with h24 | h25
  · obtain ⟨q27, k26⟩ := h24
    have q27 := q27.symm
    subst q27
    refine lv_if_eq (tgt := 10) hx hb dX11_mean_5 (by decide) (fun c => absurd c (by decide)) (fun _ => ?_)
    refine lv_iconst (v := (-1)) hx hb dX11_mean_8 (by decide) ?_
    have I28 : jI31 σ := ⟨(by omega), w16, w17⟩
    exact hret (-1) σ τ _ _ _ _ rfl ⟨rfl, (fun _ _ => rfl), (fun _ _ => rfl), I28, trivial⟩ hP hS dX11_mean_9
  · obtain ⟨q30, k29⟩ := h25
    have q30 := q30.symm
    subst q30
    refine lv_if_eq (tgt := 10) hx hb dX11_mean_5 (by decide) (fun _ => ?_) (fun c => absurd (by decide) c)
    refine lv_aload_n hx hb dX11_mean_10 rfl (lv_at hl 0 rfl) ?_
    refine va_get (D := D) hx hb hts inlX11 hown hK hP 0 (jc_0 cI cL ad σ τ) rfl 2 (by decide) (hts _ kw_2_0) (fun _ h9 => h9) rfl dX11_mean_11 ?_
    refine va_get (D := D) hx hb hts inlX6 hown hK hP 16 (jc_16 cI cL ad σ τ) rfl 1 (by decide) (hts _ kw_20_5) (fun _ h9 => h9) rfl dX11_mean_14 ?_
    refine lv_bipush (v := 8) hx hb dX11_mean_17 (by decide) ?_
    refine lv_icmp_le (tgt := 25) hx hb dX11_mean_19 (by decide) (fun c31 => ?_) (fun c31 => ?_)
    · have kc31 := jle c31 rfl jz_8
      refine lv_aload_n hx hb dX11_mean_25 rfl (lv_at hl 0 rfl) ?_
      refine lv_iload_n hx hb dX11_mean_26 rfl (lv_at hl 1 rfl) ?_
      have I32 : jI2 σ := ⟨(by omega), (by omega), (by omega), (by omega), (by omega), w6⟩
      have I33 : jI16 σ := ⟨(by omega), (by omega), (by omega), w10⟩
      have I34 : jI22 σ := ⟨(by omega), w14⟩
      have I35 : jI31 σ := ⟨(by omega), w16, w17⟩
      refine jcallVv (As := [.int a1]) (rest := []) ⟨hx, hb, hml, hown, hts⟩ hK hP hA hS hZ (c_X11_makeReady l D cI cL ad zz hJ σ τ a1 (A1) t1 I32 I33 I34 I35 I21) cw_RX11_201 (jc_0 cI cL ad σ τ) rfl ⟨Nat.le_of_ble_eq_true rfl, Nat.le_of_ble_eq_true rfl⟩ rfl rfl rfl hl.1 rfl (Nat.le_of_ble_eq_true rfl) dX11_mean_27 ⟨Nat.zero_le _, Nat.zero_le _⟩ (fun σ36 τ36 H locs h36 hP hS => ?_)
      obtain ⟨rfl, f38, f39, I40, h36⟩ := h36
      obtain ⟨i41, w42, w43⟩ : (0 ≤ (σ36 31 8).toInt ∧ (σ36 31 8).toInt ≤ 350) ∧ (∀ k : Nat, k < 1400 → (-1) ≤ (σ36 33 k).toInt ∧ (σ36 33 k).toInt ≤ 350) ∧ (∀ k : Nat, k < 1024 → 0 ≤ (σ36 36 k).toInt ∧ (σ36 36 k).toInt ≤ 349) := id I40
      refine lv_aload_n hx hb dX11_mean_30 rfl (lv_at hl 0 rfl) ?_
      refine va_get (D := D) hx hb hts inlX11 hown hK hP 0 (jc_0 cI cL ad σ36 τ) rfl 8 (by decide) (hts _ kw_2_21) (fun _ h9 => h9) rfl dX11_mean_31 ?_
      refine lv_iload_n hx hb dX11_mean_34 rfl (lv_at hl 1 rfl) ?_
      refine lv_iconst (v := 0) hx hb dX11_mean_35 (by decide) ?_
      refine lv_iconst (v := 0) hx hb dX11_mean_36 (by decide) ?_
      refine lv_aload_n hx hb dX11_mean_37 rfl (lv_at hl 0 rfl) ?_
      refine va_get (D := D) hx hb hts inlX11 hown hK hP 0 (jc_0 cI cL ad σ36 τ) rfl 0 (by decide) (hts _ kw_1_16) (fun _ h9 => h9) rfl dX11_mean_38 ?_
      have z44 : (σ36 2 0).toInt = (σ 2 0).toInt := by rw [(show σ36 2 0 = (σ 2 0) from (by rw [f38 2 (by omega)]))]
      have z45 : (σ36 2 1).toInt = (σ 2 1).toInt := by rw [(show σ36 2 1 = (σ 2 1) from (by rw [f38 2 (by omega)]))]
      have z46 : (σ36 2 2).toInt = (σ 2 2).toInt := by rw [(show σ36 2 2 = (σ 2 2) from (by rw [f38 2 (by omega)]))]
      have z47 : (σ36 2 3).toInt = (σ 2 3).toInt := by rw [(show σ36 2 3 = (σ 2 3) from (by rw [f38 2 (by omega)]))]
      have w48 : ∀ k : Nat, k < 40 → 0 ≤ (σ36 6 k).toInt ∧ (σ36 6 k).toInt ≤ 67 := (by rw [f38 6 (by omega)]; exact w6)
      have I49 : jI2 σ36 := ⟨(by omega), (by omega), (by omega), (by omega), (by omega), w48⟩
      refine jcallV (As := []) (rest := [.int 0, .int 0, .int a1, .ref (ad 43)]) ⟨hx, hb, hml, hown, hts⟩ hK hP hA hS hZ (c_X4_freshAttack_2 l D cI cL ad zz hJ σ36 τ I49) cw_RX11_204 (jc_2 cI cL ad σ36 τ) rfl ⟨Nat.le_of_ble_eq_true rfl, Nat.le_of_ble_eq_true rfl⟩ rfl rfl rfl hl.1 rfl (Nat.le_of_ble_eq_true rfl) dX11_mean_41 ⟨Nat.zero_le _, Nat.zero_le _⟩ (fun r51 σ50 τ50 H locs h50 hP hS => ?_)
      obtain ⟨⟨rfl, rfl⟩, h50⟩ := h50
      have z52 : (σ36 16 0).toInt = (σ 16 0).toInt := by rw [(show σ36 16 0 = (σ 16 0) from (by rw [f38 16 (by omega)]))]
      have z53 : (σ36 16 1).toInt = (σ 16 1).toInt := by rw [(show σ36 16 1 = (σ 16 1) from (by rw [f38 16 (by omega)]))]
      have z54 : (σ36 16 2).toInt = (σ 16 2).toInt := by rw [(show σ36 16 2 = (σ 16 2) from (by rw [f38 16 (by omega)]))]
      have w55 : ∀ k : Nat, k < 8 → 0 ≤ (σ36 17 k).toInt ∧ (σ36 17 k).toInt ≤ 3 := (by rw [f38 17 (by omega)]; exact w10)
      have I56 : jI16 σ36 := ⟨(by omega), (by omega), (by omega), w55⟩
      have z57 : (σ36 18 0).toInt = (σ 18 0).toInt := by rw [(show σ36 18 0 = (σ 18 0) from (by rw [f38 18 (by omega)]))]
      have w58 : ∀ k : Nat, k < 160 → 0 ≤ (σ36 19 k).toInt ∧ (σ36 19 k).toInt ≤ 30000 := (by rw [f38 19 (by omega)]; exact w12)
      have I59 : jI18 σ36 := ⟨(by omega), w58⟩
      have z60 : (σ36 22 0).toInt = (σ 22 0).toInt := by rw [(show σ36 22 0 = (σ 22 0) from (by rw [f38 22 (by omega)]))]
      have w61 : ∀ k : Nat, k < 160 → 0 ≤ (σ36 23 k).toInt ∧ (σ36 23 k).toInt ≤ 30000 := (by rw [f38 23 (by omega)]; exact w14)
      have I62 : jI22 σ36 := ⟨(by omega), w61⟩
      have z63 : (σ36 38 0).toInt = (σ 38 0).toInt := by rw [(show σ36 38 0 = (σ 38 0) from (by rw [f38 38 (by omega)]))]
      have z64 : (σ36 38 1).toInt = (σ 38 1).toInt := by rw [(show σ36 38 1 = (σ 38 1) from (by rw [f38 38 (by omega)]))]
      have w65 : ∀ k : Nat, k < 20 → 0 ≤ (σ36 39 k).toInt ∧ (σ36 39 k).toInt ≤ 6 := (by rw [f38 39 (by omega)]; exact w20)
      have I66 : jI38 σ36 := ⟨(by omega), (by omega), w65⟩
      refine jcallV (As := [.int a1, .int 0, .int 0, .int r51]) (rest := []) ⟨hx, hb, hml, hown, hts⟩ hK hP hA hS hZ (c_X3_meanFrom_0 l D cI cL ad zz hJ σ36 τ a1 (A1) t1 0 (0) jz_0 r51 (r51.toInt) rfl I56 I59 I62 I40 I66) cw_RX11_208 (jc_43 cI cL ad σ36 τ) rfl ⟨Nat.le_of_ble_eq_true rfl, Nat.le_of_ble_eq_true rfl⟩ rfl rfl rfl hl.1 rfl (Nat.le_of_ble_eq_true rfl) dX11_mean_44 ⟨Nat.zero_le _, Nat.zero_le _⟩ (fun r68 σ67 τ67 H locs h67 hP hS => ?_)
      obtain ⟨rfl, f69, h67⟩ := h67
      have z70 : (σ67 31 8).toInt = (σ36 31 8).toInt := by rw [(show σ67 31 8 = (σ36 31 8) from (by rw [f69 31 (by omega)]))]
      have w71 : ∀ k : Nat, k < 1400 → (-1) ≤ (σ67 33 k).toInt ∧ (σ67 33 k).toInt ≤ 350 := (by rw [f69 33 (by omega)]; exact w42)
      have w72 : ∀ k : Nat, k < 1024 → 0 ≤ (σ67 36 k).toInt ∧ (σ67 36 k).toInt ≤ 349 := (by rw [f69 36 (by omega)]; exact w43)
      have I73 : jI31 σ67 := ⟨(by omega), w71, w72⟩
      exact hret r68 σ67 τ _ _ _ _ rfl ⟨rfl, (fun i hi => by rw [f69 i (by omega), f38 i (by omega)]), (fun k hk => by rw [f69 31 (by omega), f39 k (by omega)]), I73, trivial⟩ hP hS dX11_mean_47
    · have kc31 := jnle c31 rfl jz_8
      refine lv_bipush (v := (-4)) hx hb dX11_mean_22 (by decide) ?_
      have I74 : jI31 σ := ⟨(by omega), w16, w17⟩
      exact hret (-4) σ τ _ _ _ _ rfl ⟨rfl, (fun _ _ => rfl), (fun _ _ => rfl), I74, trivial⟩ hP hS dX11_mean_24
set_option maxHeartbeats 4000000 in
set_option maxRecDepth 100000 in
theorem c_X11_likely (l : Launch) (D : va_G) (cI cL : ClassId) (ad zz : Nat → Nat) (hJ : jD ad) (σ : Nat → Nat → Int32) (τ : Nat → Nat → Int64) (a1 : Int32) (A1 : Int) (t1 : a1.toInt = A1) (a2 : Int32) (A2 : Int) (t2 : a2.toInt = A2) (hI2 : jI2 σ) (hI16 : jI16 σ) (hI18 : jI18 σ) (hI22 : jI22 σ) (hI31 : jI31 σ) (hI38 : jI38 σ) : jM l yX11_likely cX11_likely 3 (some .int) ({ frames := 14, cells := 0, slots := 0, locals := 421 }) D cI cL ad zz [.ref (ad 0), .int a1, .int a2] σ τ (fun r σ' τ' => τ = τ' ∧ (∀ i : Nat, (i < 20 ∨ 21 < i) ∧ (i < 24 ∨ 25 < i) ∧ (i < 27 ∨ 37 < i) → σ' i = σ i) ∧ (∀ k : Nat, (k < 8 ∨ 8 < k) ∧ (k < 9 ∨ 9 < k) ∧ (k < 10 ∨ 10 < k) ∧ (k < 11 ∨ 11 < k) ∧ (k < 12 ∨ 12 < k) → σ' 31 k = σ 31 k) ∧ (jI31 σ') ∧ True) := by
  refine jM.of hJ (by decide +kernel) (nt := .int) rfl (Nat.le_of_ble_eq_true rfl) ?_
  intro p e s m args below meth c Q ls hC hret hl hP
  obtain ⟨hx, hb, hr, hml, hown, hts, hK, -, hlocks, hZ⟩ := hC
  have hown : s.vm.findClass RX11 = some m.cls := hown
  have hS : va_S (jA ad) s.heap s.heap [] := va_S.rf
  have hA : ∀ q, jA ad q → jA ad q := fun _ h => h
  have hl : lv_has ls 3 [(0, .ref (ad 0)), (1, .int a1), (2, .int a2)] := hl
  have g1 := jrg t1
  have g2 := jrg t2
  obtain ⟨i1, i2, i3, i4, i5, w6⟩ : (0 ≤ (σ 2 0).toInt ∧ (σ 2 0).toInt ≤ 4) ∧ (0 ≤ (σ 2 1).toInt ∧ (σ 2 1).toInt ≤ 3) ∧ (0 ≤ (σ 2 2).toInt) ∧ (0 ≤ (σ 2 3).toInt) ∧ ((σ 2 2).toInt + (σ 2 3).toInt ≤ 40) ∧ (∀ k : Nat, k < 40 → 0 ≤ (σ 6 k).toInt ∧ (σ 6 k).toInt ≤ 67) := id hI2
  obtain ⟨i7, i8, i9, w10⟩ : (1 ≤ (σ 16 0).toInt ∧ (σ 16 0).toInt ≤ 8) ∧ (1 ≤ (σ 16 1).toInt ∧ (σ 16 1).toInt ≤ 12) ∧ (0 ≤ (σ 16 2).toInt ∧ (σ 16 2).toInt ≤ 999) ∧ (∀ k : Nat, k < 8 → 0 ≤ (σ 17 k).toInt ∧ (σ 17 k).toInt ≤ 3) := id hI16
  obtain ⟨i11, w12⟩ : (0 ≤ (σ 18 0).toInt ∧ (σ 18 0).toInt ≤ 160) ∧ (∀ k : Nat, k < 160 → 0 ≤ (σ 19 k).toInt ∧ (σ 19 k).toInt ≤ 30000) := id hI18
  obtain ⟨i13, w14⟩ : (0 ≤ (σ 22 0).toInt ∧ (σ 22 0).toInt ≤ 160) ∧ (∀ k : Nat, k < 160 → 0 ≤ (σ 23 k).toInt ∧ (σ 23 k).toInt ≤ 30000) := id hI22
  obtain ⟨i15, w16, w17⟩ : (0 ≤ (σ 31 8).toInt ∧ (σ 31 8).toInt ≤ 350) ∧ (∀ k : Nat, k < 1400 → (-1) ≤ (σ 33 k).toInt ∧ (σ 33 k).toInt ≤ 350) ∧ (∀ k : Nat, k < 1024 → 0 ≤ (σ 36 k).toInt ∧ (σ 36 k).toInt ≤ 349) := id hI31
  obtain ⟨i18, i19, w20⟩ : (0 ≤ (σ 38 0).toInt ∧ (σ 38 0).toInt ≤ 20) ∧ (0 ≤ (σ 38 1).toInt ∧ (σ 38 1).toInt ≤ 1000) ∧ (∀ k : Nat, k < 20 → 0 ≤ (σ 39 k).toInt ∧ (σ 39 k).toInt ≤ 6) := id hI38
  refine lv_aload_n hx hb dX11_likely_0 rfl (lv_at hl 0 rfl) ?_
  refine lv_iload_n hx hb dX11_likely_1 rfl (lv_at hl 1 rfl) ?_
  have I21 : jI38 σ := ⟨(by omega), (by omega), w20⟩
  refine jcallV (As := [.int a1]) (rest := []) ⟨hx, hb, hml, hown, hts⟩ hK hP hA hS hZ (c_X11_noRule l D cI cL ad zz hJ σ τ a1 (A1) t1 I21) cw_RX11_177 (jc_0 cI cL ad σ τ) rfl ⟨Nat.le_of_ble_eq_true rfl, Nat.le_of_ble_eq_true rfl⟩ rfl rfl rfl hl.1 rfl (Nat.le_of_ble_eq_true rfl) dX11_likely_2 ⟨Nat.zero_le _, Nat.zero_le _⟩ (fun r23 σ22 τ22 H locs h22 hP hS => ?_)
  obtain ⟨⟨rfl, rfl⟩, h22⟩ := h22
  rcases h22 with h24 | h25
  · obtain ⟨q27, k26⟩ := h24
    have q27 := q27.symm
    subst q27
    refine lv_if_ne (tgt := 19) hx hb dX11_likely_5 (by decide) (fun _ => ?_) (fun c => absurd c (by decide))
    refine lv_iconst (v := (-1)) hx hb dX11_likely_19 (by decide) ?_
    have I28 : jI31 σ := ⟨(by omega), w16, w17⟩
    exact hret (-1) σ τ _ _ _ _ rfl ⟨rfl, (fun _ _ => rfl), (fun _ _ => rfl), I28, trivial⟩ hP hS dX11_likely_20
  · obtain ⟨q30, k29⟩ := h25
    have q30 := q30.symm
    subst q30
    refine lv_if_ne (tgt := 19) hx hb dX11_likely_5 (by decide) (fun c => absurd (by decide) c) (fun _ => ?_)
    refine lv_iload_n hx hb dX11_likely_8 rfl (lv_at hl 2 rfl) ?_
    refine lv_iconst (v := 0) hx hb dX11_likely_9 (by decide) ?_
    refine lv_sipush (v := 999) hx hb dX11_likely_10 (by decide) ?_
    refine jcallS (As := [.int a2, .int 0, .int 999]) (rest := []) ⟨hx, hb, hml, hown, hts⟩ hK hP hA hS hZ (c_X11_outside l D cI cL ad zz hJ σ τ a2 (A2) t2 0 (0) jz_0 999 (999) jz_999) cw_RX11_94 ⟨Nat.le_of_ble_eq_true rfl, Nat.le_of_ble_eq_true rfl⟩ rfl rfl rfl hl.1 rfl (Nat.le_of_ble_eq_true rfl) dX11_likely_13 ⟨Nat.zero_le _, Nat.zero_le _⟩ (fun r32 σ31 τ31 H locs h31 hP hS => ?_)
    obtain ⟨⟨rfl, rfl⟩, h31⟩ := h31
    rcases h31 with h33 | h34
    · obtain ⟨q36, k35⟩ := h33
      have q36 := q36.symm
      subst q36
      refine lv_if_eq (tgt := 21) hx hb dX11_likely_16 (by decide) (fun c => absurd c (by decide)) (fun _ => ?_)
      refine lv_iconst (v := (-1)) hx hb dX11_likely_19 (by decide) ?_
      have I37 : jI31 σ := ⟨(by omega), w16, w17⟩
      exact hret (-1) σ τ _ _ _ _ rfl ⟨rfl, (fun _ _ => rfl), (fun _ _ => rfl), I37, trivial⟩ hP hS dX11_likely_20
    · obtain ⟨q39, k38⟩ := h34
      have q39 := q39.symm
      subst q39
      refine lv_if_eq (tgt := 21) hx hb dX11_likely_16 (by decide) (fun _ => ?_) (fun c => absurd (by decide) c)
      refine lv_aload_n hx hb dX11_likely_21 rfl (lv_at hl 0 rfl) ?_
      refine va_get (D := D) hx hb hts inlX11 hown hK hP 0 (jc_0 cI cL ad σ τ) rfl 2 (by decide) (hts _ kw_2_0) (fun _ h9 => h9) rfl dX11_likely_22 ?_
      refine va_get (D := D) hx hb hts inlX6 hown hK hP 16 (jc_16 cI cL ad σ τ) rfl 1 (by decide) (hts _ kw_20_5) (fun _ h9 => h9) rfl dX11_likely_25 ?_
      refine lv_bipush (v := 8) hx hb dX11_likely_28 (by decide) ?_
      refine lv_icmp_le (tgt := 36) hx hb dX11_likely_30 (by decide) (fun c40 => ?_) (fun c40 => ?_)
      · have kc40 := jle c40 rfl jz_8
        refine lv_aload_n hx hb dX11_likely_36 rfl (lv_at hl 0 rfl) ?_
        refine lv_iload_n hx hb dX11_likely_37 rfl (lv_at hl 1 rfl) ?_
        have I41 : jI2 σ := ⟨(by omega), (by omega), (by omega), (by omega), (by omega), w6⟩
        have I42 : jI16 σ := ⟨(by omega), (by omega), (by omega), w10⟩
        have I43 : jI22 σ := ⟨(by omega), w14⟩
        have I44 : jI31 σ := ⟨(by omega), w16, w17⟩
        refine jcallVv (As := [.int a1]) (rest := []) ⟨hx, hb, hml, hown, hts⟩ hK hP hA hS hZ (c_X11_makeReady l D cI cL ad zz hJ σ τ a1 (A1) t1 I41 I42 I43 I44 I21) cw_RX11_201 (jc_0 cI cL ad σ τ) rfl ⟨Nat.le_of_ble_eq_true rfl, Nat.le_of_ble_eq_true rfl⟩ rfl rfl rfl hl.1 rfl (Nat.le_of_ble_eq_true rfl) dX11_likely_38 ⟨Nat.zero_le _, Nat.zero_le _⟩ (fun σ45 τ45 H locs h45 hP hS => ?_)
        obtain ⟨rfl, f47, f48, I49, h45⟩ := h45
        obtain ⟨i50, w51, w52⟩ : (0 ≤ (σ45 31 8).toInt ∧ (σ45 31 8).toInt ≤ 350) ∧ (∀ k : Nat, k < 1400 → (-1) ≤ (σ45 33 k).toInt ∧ (σ45 33 k).toInt ≤ 350) ∧ (∀ k : Nat, k < 1024 → 0 ≤ (σ45 36 k).toInt ∧ (σ45 36 k).toInt ≤ 349) := id I49
        refine lv_aload_n hx hb dX11_likely_41 rfl (lv_at hl 0 rfl) ?_
        refine va_get (D := D) hx hb hts inlX11 hown hK hP 0 (jc_0 cI cL ad σ45 τ) rfl 8 (by decide) (hts _ kw_2_21) (fun _ h9 => h9) rfl dX11_likely_42 ?_
        refine lv_iload_n hx hb dX11_likely_45 rfl (lv_at hl 1 rfl) ?_
        refine lv_iconst (v := 0) hx hb dX11_likely_46 (by decide) ?_
        refine lv_iconst (v := 0) hx hb dX11_likely_47 (by decide) ?_
        refine lv_aload_n hx hb dX11_likely_48 rfl (lv_at hl 0 rfl) ?_
        refine va_get (D := D) hx hb hts inlX11 hown hK hP 0 (jc_0 cI cL ad σ45 τ) rfl 0 (by decide) (hts _ kw_1_16) (fun _ h9 => h9) rfl dX11_likely_49 ?_
        have z53 : (σ45 2 0).toInt = (σ 2 0).toInt := by rw [(show σ45 2 0 = (σ 2 0) from (by rw [f47 2 (by omega)]))]
        have z54 : (σ45 2 1).toInt = (σ 2 1).toInt := by rw [(show σ45 2 1 = (σ 2 1) from (by rw [f47 2 (by omega)]))]
        have z55 : (σ45 2 2).toInt = (σ 2 2).toInt := by rw [(show σ45 2 2 = (σ 2 2) from (by rw [f47 2 (by omega)]))]
        have z56 : (σ45 2 3).toInt = (σ 2 3).toInt := by rw [(show σ45 2 3 = (σ 2 3) from (by rw [f47 2 (by omega)]))]
        have w57 : ∀ k : Nat, k < 40 → 0 ≤ (σ45 6 k).toInt ∧ (σ45 6 k).toInt ≤ 67 := (by rw [f47 6 (by omega)]; exact w6)
        have I58 : jI2 σ45 := ⟨(by omega), (by omega), (by omega), (by omega), (by omega), w57⟩
        refine jcallV (As := []) (rest := [.int 0, .int 0, .int a1, .ref (ad 43)]) ⟨hx, hb, hml, hown, hts⟩ hK hP hA hS hZ (c_X4_freshAttack_2 l D cI cL ad zz hJ σ45 τ I58) cw_RX11_204 (jc_2 cI cL ad σ45 τ) rfl ⟨Nat.le_of_ble_eq_true rfl, Nat.le_of_ble_eq_true rfl⟩ rfl rfl rfl hl.1 rfl (Nat.le_of_ble_eq_true rfl) dX11_likely_52 ⟨Nat.zero_le _, Nat.zero_le _⟩ (fun r60 σ59 τ59 H locs h59 hP hS => ?_)
        obtain ⟨⟨rfl, rfl⟩, h59⟩ := h59
        refine lv_iload_n hx hb dX11_likely_55 rfl (lv_at hl 2 rfl) ?_
        have z61 : (σ45 16 0).toInt = (σ 16 0).toInt := by rw [(show σ45 16 0 = (σ 16 0) from (by rw [f47 16 (by omega)]))]
        have z62 : (σ45 16 1).toInt = (σ 16 1).toInt := by rw [(show σ45 16 1 = (σ 16 1) from (by rw [f47 16 (by omega)]))]
        have z63 : (σ45 16 2).toInt = (σ 16 2).toInt := by rw [(show σ45 16 2 = (σ 16 2) from (by rw [f47 16 (by omega)]))]
        have w64 : ∀ k : Nat, k < 8 → 0 ≤ (σ45 17 k).toInt ∧ (σ45 17 k).toInt ≤ 3 := (by rw [f47 17 (by omega)]; exact w10)
        have I65 : jI16 σ45 := ⟨(by omega), (by omega), (by omega), w64⟩
        have z66 : (σ45 18 0).toInt = (σ 18 0).toInt := by rw [(show σ45 18 0 = (σ 18 0) from (by rw [f47 18 (by omega)]))]
        have w67 : ∀ k : Nat, k < 160 → 0 ≤ (σ45 19 k).toInt ∧ (σ45 19 k).toInt ≤ 30000 := (by rw [f47 19 (by omega)]; exact w12)
        have I68 : jI18 σ45 := ⟨(by omega), w67⟩
        have z69 : (σ45 22 0).toInt = (σ 22 0).toInt := by rw [(show σ45 22 0 = (σ 22 0) from (by rw [f47 22 (by omega)]))]
        have w70 : ∀ k : Nat, k < 160 → 0 ≤ (σ45 23 k).toInt ∧ (σ45 23 k).toInt ≤ 30000 := (by rw [f47 23 (by omega)]; exact w14)
        have I71 : jI22 σ45 := ⟨(by omega), w70⟩
        have z72 : (σ45 38 0).toInt = (σ 38 0).toInt := by rw [(show σ45 38 0 = (σ 38 0) from (by rw [f47 38 (by omega)]))]
        have z73 : (σ45 38 1).toInt = (σ 38 1).toInt := by rw [(show σ45 38 1 = (σ 38 1) from (by rw [f47 38 (by omega)]))]
        have w74 : ∀ k : Nat, k < 20 → 0 ≤ (σ45 39 k).toInt ∧ (σ45 39 k).toInt ≤ 6 := (by rw [f47 39 (by omega)]; exact w20)
        have I75 : jI38 σ45 := ⟨(by omega), (by omega), w74⟩
        refine jcallV (As := [.int a1, .int 0, .int 0, .int r60, .int a2]) (rest := []) ⟨hx, hb, hml, hown, hts⟩ hK hP hA hS hZ (c_X3_likelyFrom_0 l D cI cL ad zz hJ σ45 τ a1 (A1) t1 0 (0) jz_0 r60 (r60.toInt) rfl a2 (A2) t2 I65 I68 I71 I49 I75) cw_RX11_211 (jc_43 cI cL ad σ45 τ) rfl ⟨Nat.le_of_ble_eq_true rfl, Nat.le_of_ble_eq_true rfl⟩ rfl rfl rfl hl.1 rfl (Nat.le_of_ble_eq_true rfl) dX11_likely_56 ⟨Nat.zero_le _, Nat.zero_le _⟩ (fun r77 σ76 τ76 H locs h76 hP hS => ?_)
        obtain ⟨rfl, f78, h76⟩ := h76
        have z79 : (σ76 31 8).toInt = (σ45 31 8).toInt := by rw [(show σ76 31 8 = (σ45 31 8) from (by rw [f78 31 (by omega)]))]
        have w80 : ∀ k : Nat, k < 1400 → (-1) ≤ (σ76 33 k).toInt ∧ (σ76 33 k).toInt ≤ 350 := (by rw [f78 33 (by omega)]; exact w51)
        have w81 : ∀ k : Nat, k < 1024 → 0 ≤ (σ76 36 k).toInt ∧ (σ76 36 k).toInt ≤ 349 := (by rw [f78 36 (by omega)]; exact w52)
        have I82 : jI31 σ76 := ⟨(by omega), w80, w81⟩
        exact hret r77 σ76 τ _ _ _ _ rfl ⟨rfl, (fun i hi => by rw [f78 i (by omega), f47 i (by omega)]), (fun k hk => by rw [f78 31 (by omega), f48 k (by omega)]), I82, trivial⟩ hP hS dX11_likely_59
      · have kc40 := jnle c40 rfl jz_8
        refine lv_bipush (v := (-4)) hx hb dX11_likely_33 (by decide) ?_
        have I83 : jI31 σ := ⟨(by omega), w16, w17⟩
        exact hret (-4) σ τ _ _ _ _ rfl ⟨rfl, (fun _ _ => rfl), (fun _ _ => rfl), I83, trivial⟩ hP hS dX11_likely_35
set_option maxHeartbeats 4000000 in
set_option maxRecDepth 100000 in
theorem c_X11_best (l : Launch) (D : va_G) (cI cL : ClassId) (ad zz : Nat → Nat) (hJ : jD ad) (σ : Nat → Nat → Int32) (τ : Nat → Nat → Int64) (a1 : Int32) (A1 : Int) (t1 : a1.toInt = A1) (hI2 : jI2 σ) (hI16 : jI16 σ) (hI22 : jI22 σ) (hI31 : jI31 σ) (hI47 : jI47 σ) : jM l yX11_best cX11_best 5 (some .int) ({ frames := 6, cells := 0, slots := 0, locals := 162 }) D cI cL ad zz [.ref (ad 0), .int a1] σ τ (fun r σ' τ' => τ = τ' ∧ (∀ i : Nat, (i < 24 ∨ 25 < i) ∧ (i < 27 ∨ 37 < i) → σ' i = σ i) ∧ (∀ k : Nat, (k < 8 ∨ 8 < k) ∧ (k < 9 ∨ 9 < k) ∧ (k < 10 ∨ 10 < k) ∧ (k < 11 ∨ 11 < k) ∧ (k < 12 ∨ 12 < k) → σ' 31 k = σ 31 k) ∧ (jI31 σ') ∧ True) := by
  refine jM.of hJ (by decide +kernel) (nt := .int) rfl (Nat.le_of_ble_eq_true rfl) ?_
  intro p e s m args below meth c Q ls hC hret hl hP
  obtain ⟨hx, hb, hr, hml, hown, hts, hK, -, hlocks, hZ⟩ := hC
  have hown : s.vm.findClass RX11 = some m.cls := hown
  have hS : va_S (jA ad) s.heap s.heap [] := va_S.rf
  have hA : ∀ q, jA ad q → jA ad q := fun _ h => h
  have hl : lv_has ls 5 [(0, .ref (ad 0)), (1, .int a1)] := hl
  have g1 := jrg t1
  obtain ⟨i1, i2, i3, i4, i5, w6⟩ : (0 ≤ (σ 2 0).toInt ∧ (σ 2 0).toInt ≤ 4) ∧ (0 ≤ (σ 2 1).toInt ∧ (σ 2 1).toInt ≤ 3) ∧ (0 ≤ (σ 2 2).toInt) ∧ (0 ≤ (σ 2 3).toInt) ∧ ((σ 2 2).toInt + (σ 2 3).toInt ≤ 40) ∧ (∀ k : Nat, k < 40 → 0 ≤ (σ 6 k).toInt ∧ (σ 6 k).toInt ≤ 67) := id hI2
  obtain ⟨i7, i8, i9, w10⟩ : (1 ≤ (σ 16 0).toInt ∧ (σ 16 0).toInt ≤ 8) ∧ (1 ≤ (σ 16 1).toInt ∧ (σ 16 1).toInt ≤ 12) ∧ (0 ≤ (σ 16 2).toInt ∧ (σ 16 2).toInt ≤ 999) ∧ (∀ k : Nat, k < 8 → 0 ≤ (σ 17 k).toInt ∧ (σ 17 k).toInt ≤ 3) := id hI16
  obtain ⟨i11, w12⟩ : (0 ≤ (σ 22 0).toInt ∧ (σ 22 0).toInt ≤ 160) ∧ (∀ k : Nat, k < 160 → 0 ≤ (σ 23 k).toInt ∧ (σ 23 k).toInt ≤ 30000) := id hI22
  obtain ⟨i13, w14, w15⟩ : (0 ≤ (σ 31 8).toInt ∧ (σ 31 8).toInt ≤ 350) ∧ (∀ k : Nat, k < 1400 → (-1) ≤ (σ 33 k).toInt ∧ (σ 33 k).toInt ≤ 350) ∧ (∀ k : Nat, k < 1024 → 0 ≤ (σ 36 k).toInt ∧ (σ 36 k).toInt ≤ 349) := id hI31
  obtain ⟨i16, w17⟩ : (0 ≤ (σ 47 0).toInt ∧ (σ 47 0).toInt ≤ 12) ∧ (∀ k : Nat, k < 12 → 0 ≤ (σ 49 k).toInt ∧ (σ 49 k).toInt ≤ 1) := id hI47
  refine lv_iload_n hx hb dX11_best_0 rfl (lv_at hl 1 rfl) ?_
  refine lv_iconst (v := 0) hx hb dX11_best_1 (by decide) ?_
  refine lv_iconst (v := 1) hx hb dX11_best_2 (by decide) ?_
  refine jcallS (As := [.int a1, .int 0, .int 1]) (rest := []) ⟨hx, hb, hml, hown, hts⟩ hK hP hA hS hZ (c_X11_outside l D cI cL ad zz hJ σ τ a1 (A1) t1 0 (0) jz_0 1 (1) jz_1) cw_RX11_94 ⟨Nat.le_of_ble_eq_true rfl, Nat.le_of_ble_eq_true rfl⟩ rfl rfl rfl hl.1 rfl (Nat.le_of_ble_eq_true rfl) dX11_best_3 ⟨Nat.zero_le _, Nat.zero_le _⟩ (fun r19 σ18 τ18 H locs h18 hP hS => ?_)
  obtain ⟨⟨rfl, rfl⟩, h18⟩ := h18
  rcases h18 with h20 | h21
  · obtain ⟨q23, k22⟩ := h20
    have q23 := q23.symm
    subst q23
    refine lv_if_eq (tgt := 11) hx hb dX11_best_6 (by decide) (fun c => absurd c (by decide)) (fun _ => ?_)
    refine lv_iconst (v := (-1)) hx hb dX11_best_9 (by decide) ?_
    have I24 : jI31 σ := ⟨(by omega), w14, w15⟩
    exact hret (-1) σ τ _ _ _ _ rfl ⟨rfl, (fun _ _ => rfl), (fun _ _ => rfl), I24, trivial⟩ hP hS dX11_best_10
  · obtain ⟨q26, k25⟩ := h21
    have q26 := q26.symm
    subst q26
    refine lv_if_eq (tgt := 11) hx hb dX11_best_6 (by decide) (fun _ => ?_) (fun c => absurd (by decide) c)
    refine lv_aload_n hx hb dX11_best_11 rfl (lv_at hl 0 rfl) ?_
    refine va_get (D := D) hx hb hts inlX11 hown hK hP 0 (jc_0 cI cL ad σ τ) rfl 9 (by decide) (hts _ kw_3_1) (fun _ h9 => h9) rfl dX11_best_12 ?_
    refine va_get (D := D) hx hb hts inlX2 hown hK hP 47 (jc_47 cI cL ad σ τ) rfl 0 (by decide) (hts _ kw_13_11) (fun _ h9 => h9) rfl dX11_best_15 ?_
    refine lv_istore_n (lv' := [(2, .int (σ 47 0)), (0, .ref (ad 0)), (1, .int a1)]) hx hb dX11_best_18 rfl hl (by decide) rfl (fun ls hl => ?_)
    refine lv_aload_n hx hb dX11_best_19 rfl (lv_at hl 1 rfl) ?_
    refine va_get (D := D) hx hb hts inlX11 hown hK hP 0 (jc_0 cI cL ad σ τ) rfl 9 (by decide) (hts _ kw_3_1) (fun _ h9 => h9) rfl dX11_best_20 ?_
    refine lv_aload_n hx hb dX11_best_23 rfl (lv_at hl 1 rfl) ?_
    refine va_get (D := D) hx hb hts inlX11 hown hK hP 0 (jc_0 cI cL ad σ τ) rfl 9 (by decide) (hts _ kw_3_1) (fun _ h9 => h9) rfl dX11_best_24 ?_
    refine va_get (D := D) hx hb hts inlX2 hown hK hP 47 (jc_47 cI cL ad σ τ) rfl 0 (by decide) (hts _ kw_13_11) (fun _ h9 => h9) rfl dX11_best_27 ?_
    have I27 : jI47 σ := ⟨(by omega), w17⟩
    refine jcallV (As := [.int (σ 47 0)]) (rest := []) ⟨hx, hb, hml, hown, hts⟩ hK hP hA hS hZ (c_X2_outs_47 l D cI cL ad zz hJ σ τ (σ 47 0) ((σ 47 0).toInt) rfl I27) cw_RX11_180 (jc_47 cI cL ad σ τ) rfl ⟨Nat.le_of_ble_eq_true rfl, Nat.le_of_ble_eq_true rfl⟩ rfl rfl rfl hl.1 rfl (Nat.le_of_ble_eq_true rfl) dX11_best_30 ⟨Nat.zero_le _, Nat.zero_le _⟩ (fun r29 σ28 τ28 H locs h28 hP hS => ?_)
    obtain ⟨⟨rfl, rfl⟩, h28⟩ := h28
    refine lv_istore_n (lv' := [(3, .int r29), (2, .int (σ 47 0)), (0, .ref (ad 0)), (1, .int a1)]) hx hb dX11_best_33 rfl hl (by decide) rfl (fun ls hl => ?_)
    refine lv_aload_n hx hb dX11_best_34 rfl (lv_at hl 2 rfl) ?_
    refine va_get (D := D) hx hb hts inlX11 hown hK hP 0 (jc_0 cI cL ad σ τ) rfl 2 (by decide) (hts _ kw_2_0) (fun _ h9 => h9) rfl dX11_best_35 ?_
    refine va_get (D := D) hx hb hts inlX6 hown hK hP 16 (jc_16 cI cL ad σ τ) rfl 1 (by decide) (hts _ kw_20_5) (fun _ h9 => h9) rfl dX11_best_38 ?_
    refine lv_iload_n hx hb dX11_best_41 rfl (lv_at hl 1 rfl) ?_
    have g30 := jrg (rfl : (σ 16 1).toInt = (σ 16 1).toInt)
    have g31 := jrg (rfl : (σ 47 0).toInt = (σ 47 0).toInt)
    refine lv_isub hx hb dX11_best_42 ?_
    refine lv_topi (fun x32 ex32 => ?_)
    have tx32 : x32.toInt = (σ 16 1).toInt - (σ 47 0).toInt := (jsub ex32 rfl rfl (by omega) (by omega)).trans (by omega)
    refine lv_bipush (v := 8) hx hb dX11_best_43 (by decide) ?_
    refine lv_icmp_le (tgt := 51) hx hb dX11_best_45 (by decide) (fun c33 => ?_) (fun c33 => ?_)
    · have kc33 := jle c33 tx32 jz_8
      refine lv_aload_n hx hb dX11_best_51 rfl (lv_at hl 2 rfl) ?_
      refine va_get (D := D) hx hb hts inlX11 hown hK hP 0 (jc_0 cI cL ad σ τ) rfl 9 (by decide) (hts _ kw_3_1) (fun _ h9 => h9) rfl dX11_best_52 ?_
      refine lv_iload_n hx hb dX11_best_55 rfl (lv_at hl 1 rfl) ?_
      refine lv_aload_n hx hb dX11_best_56 rfl (lv_at hl 2 rfl) ?_
      refine va_get (D := D) hx hb hts inlX11 hown hK hP 0 (jc_0 cI cL ad σ τ) rfl 0 (by decide) (hts _ kw_1_16) (fun _ h9 => h9) rfl dX11_best_57 ?_
      have I34 : jI2 σ := ⟨(by omega), (by omega), (by omega), (by omega), (by omega), w6⟩
      refine jcallV (As := [.int (σ 47 0), .ref (ad 2)]) (rest := []) ⟨hx, hb, hml, hown, hts⟩ hK hP hA hS hZ (c_X2_attackAhead_47 l D cI cL ad zz hJ σ τ (σ 47 0) ((σ 47 0).toInt) rfl I34 I27) cw_RX11_186 (jc_47 cI cL ad σ τ) rfl ⟨Nat.le_of_ble_eq_true rfl, Nat.le_of_ble_eq_true rfl⟩ rfl rfl rfl hl.1 rfl (Nat.le_of_ble_eq_true rfl) dX11_best_60 ⟨Nat.zero_le _, Nat.zero_le _⟩ (fun r36 σ35 τ35 H locs h35 hP hS => ?_)
      obtain ⟨⟨rfl, rfl⟩, h35⟩ := h35
      refine lv_istore (lv' := [(4, .int r36), (3, .int r29), (2, .int (σ 47 0)), (0, .ref (ad 0)), (1, .int a1)]) hx hb dX11_best_63 hl (by decide) rfl (fun ls hl => ?_)
      refine lv_aload_n hx hb dX11_best_65 rfl (lv_at hl 3 rfl) ?_
      refine va_get (D := D) hx hb hts inlX11 hown hK hP 0 (jc_0 cI cL ad σ τ) rfl 2 (by decide) (hts _ kw_2_0) (fun _ h9 => h9) rfl dX11_best_66 ?_
      refine lv_iload_n hx hb dX11_best_69 rfl (lv_at hl 2 rfl) ?_
      refine lv_iload_n hx hb dX11_best_70 rfl (lv_at hl 1 rfl) ?_
      refine lv_iload hx hb dX11_best_71 (lv_at hl 0 rfl) ?_
      refine jcallV (As := [.int (σ 47 0), .int r29, .int r36]) (rest := []) ⟨hx, hb, hml, hown, hts⟩ hK hP hA hS hZ (c_X6_ended_16 l D cI cL ad zz hJ σ τ (σ 47 0) ((σ 47 0).toInt) rfl r29 (r29.toInt) rfl r36 (r36.toInt) rfl) cw_RX11_190 (jc_16 cI cL ad σ τ) rfl ⟨Nat.le_of_ble_eq_true rfl, Nat.le_of_ble_eq_true rfl⟩ rfl rfl rfl hl.1 rfl (Nat.le_of_ble_eq_true rfl) dX11_best_73 ⟨Nat.zero_le _, Nat.zero_le _⟩ (fun r38 σ37 τ37 H locs h37 hP hS => ?_)
      obtain ⟨⟨rfl, rfl⟩, h37⟩ := h37
      refine lv_if_eq (tgt := 90) hx hb dX11_best_76 (by decide) (fun c39 => ?_) (fun c39 => ?_)
      · have kc39 := jeq c39 rfl jz_0
        refine lv_aload_n hx hb dX11_best_90 rfl (lv_at hl 3 rfl) ?_
        refine va_get (D := D) hx hb hts inlX11 hown hK hP 0 (jc_0 cI cL ad σ τ) rfl 5 (by decide) (hts _ kw_2_9) (fun _ h9 => h9) rfl dX11_best_91 ?_
        refine lv_aload_n hx hb dX11_best_94 rfl (lv_at hl 3 rfl) ?_
        refine va_get (D := D) hx hb hts inlX11 hown hK hP 0 (jc_0 cI cL ad σ τ) rfl 0 (by decide) (hts _ kw_1_16) (fun _ h9 => h9) rfl dX11_best_95 ?_
        refine va_get (D := D) hx hb hts inlX4 hown hK hP 2 (jc_2 cI cL ad σ τ) rfl 1 (by decide) (hts _ kw_12_8) (fun _ h9 => h9) rfl dX11_best_98 ?_
        refine jcallVv (As := [.int (σ 2 1)]) (rest := []) ⟨hx, hb, hml, hown, hts⟩ hK hP hA hS hZ (c_X5_lay_26 l D cI cL ad zz hJ σ τ (σ 2 1) ((σ 2 1).toInt) rfl) cw_RX11_156 (jc_26 cI cL ad σ τ) rfl ⟨Nat.le_of_ble_eq_true rfl, Nat.le_of_ble_eq_true rfl⟩ rfl rfl rfl hl.1 rfl (Nat.le_of_ble_eq_true rfl) dX11_best_101 ⟨Nat.zero_le _, Nat.zero_le _⟩ (fun σ40 τ40 H locs h40 hP hS => ?_)
        obtain ⟨rfl, f42, h40⟩ := h40
        refine lv_aload_n hx hb dX11_best_104 rfl (lv_at hl 3 rfl) ?_
        refine va_get (D := D) hx hb hts inlX11 hown hK hP 0 (jc_0 cI cL ad σ40 τ) rfl 6 (by decide) (hts _ kw_2_13) (fun _ h9 => h9) rfl dX11_best_105 ?_
        refine lv_iload hx hb dX11_best_108 (lv_at hl 0 rfl) ?_
        refine lv_iload_n hx hb dX11_best_110 rfl (lv_at hl 2 rfl) ?_
        refine lv_iload_n hx hb dX11_best_111 rfl (lv_at hl 1 rfl) ?_
        have z43 : (σ40 16 0).toInt = (σ 16 0).toInt := by rw [(show σ40 16 0 = (σ 16 0) from (by rw [f42 16 (by omega)]))]
        have z44 : (σ40 16 1).toInt = (σ 16 1).toInt := by rw [(show σ40 16 1 = (σ 16 1) from (by rw [f42 16 (by omega)]))]
        have z45 : (σ40 16 2).toInt = (σ 16 2).toInt := by rw [(show σ40 16 2 = (σ 16 2) from (by rw [f42 16 (by omega)]))]
        have w46 : ∀ k : Nat, k < 8 → 0 ≤ (σ40 17 k).toInt ∧ (σ40 17 k).toInt ≤ 3 := (by rw [f42 17 (by omega)]; exact w10)
        have I47 : jI16 σ40 := ⟨(by omega), (by omega), (by omega), w46⟩
        have z48 : (σ40 22 0).toInt = (σ 22 0).toInt := by rw [(show σ40 22 0 = (σ 22 0) from (by rw [f42 22 (by omega)]))]
        have w49 : ∀ k : Nat, k < 160 → 0 ≤ (σ40 23 k).toInt ∧ (σ40 23 k).toInt ≤ 30000 := (by rw [f42 23 (by omega)]; exact w12)
        have I50 : jI22 σ40 := ⟨(by omega), w49⟩
        have z51 : (σ40 31 8).toInt = (σ 31 8).toInt := by rw [(show σ40 31 8 = (σ 31 8) from (by rw [f42 31 (by omega)]))]
        have w52 : ∀ k : Nat, k < 1400 → (-1) ≤ (σ40 33 k).toInt ∧ (σ40 33 k).toInt ≤ 350 := (by rw [f42 33 (by omega)]; exact w14)
        have w53 : ∀ k : Nat, k < 1024 → 0 ≤ (σ40 36 k).toInt ∧ (σ40 36 k).toInt ≤ 349 := (by rw [f42 36 (by omega)]; exact w15)
        have I54 : jI31 σ40 := ⟨(by omega), w52, w53⟩
        refine jcallVv (As := [.int r36, .int (σ 47 0), .int r29]) (rest := []) ⟨hx, hb, hml, hown, hts⟩ hK hP hA hS hZ (c_X1_seek_31 l D cI cL ad zz hJ σ40 τ r36 (r36.toInt) rfl (σ 47 0) ((σ 47 0).toInt) rfl r29 (r29.toInt) rfl I47 I50 I54) cw_RX11_193 (jc_31 cI cL ad σ40 τ) rfl ⟨Nat.le_of_ble_eq_true rfl, Nat.le_of_ble_eq_true rfl⟩ rfl rfl rfl hl.1 rfl (Nat.le_of_ble_eq_true rfl) dX11_best_112 ⟨Nat.zero_le _, Nat.zero_le _⟩ (fun σ55 τ55 H locs h55 hP hS => ?_)
        obtain ⟨rfl, f57, f58, I59, h55⟩ := h55
        obtain ⟨i60, w61, w62⟩ : (0 ≤ (σ55 31 8).toInt ∧ (σ55 31 8).toInt ≤ 350) ∧ (∀ k : Nat, k < 1400 → (-1) ≤ (σ55 33 k).toInt ∧ (σ55 33 k).toInt ≤ 350) ∧ (∀ k : Nat, k < 1024 → 0 ≤ (σ55 36 k).toInt ∧ (σ55 36 k).toInt ≤ 349) := id I59
        refine lv_iload_n hx hb dX11_best_115 rfl (lv_at hl 4 rfl) ?_
        refine lv_if_ne (tgt := 131) hx hb dX11_best_116 (by decide) (fun c63 => ?_) (fun c63 => ?_)
        · have kc63 := jne c63 t1 jz_0
          refine lv_aload_n hx hb dX11_best_131 rfl (lv_at hl 3 rfl) ?_
          refine va_get (D := D) hx hb hts inlX11 hown hK hP 0 (jc_0 cI cL ad σ55 τ) rfl 6 (by decide) (hts _ kw_2_13) (fun _ h9 => h9) rfl dX11_best_132 ?_
          refine lv_iconst (v := 0) hx hb dX11_best_135 (by decide) ?_
          refine lv_iload_n hx hb dX11_best_136 rfl (lv_at hl 1 rfl) ?_
          have z64 : (σ55 16 0).toInt = (σ 16 0).toInt := by rw [(show σ55 16 0 = (σ 16 0) from (by rw [f57 16 (by omega)]; exact (by rw [f42 16 (by omega)])))]
          have z65 : (σ55 16 1).toInt = (σ 16 1).toInt := by rw [(show σ55 16 1 = (σ 16 1) from (by rw [f57 16 (by omega)]; exact (by rw [f42 16 (by omega)])))]
          have z66 : (σ55 16 2).toInt = (σ 16 2).toInt := by rw [(show σ55 16 2 = (σ 16 2) from (by rw [f57 16 (by omega)]; exact (by rw [f42 16 (by omega)])))]
          have w67 : ∀ k : Nat, k < 8 → 0 ≤ (σ55 17 k).toInt ∧ (σ55 17 k).toInt ≤ 3 := (by rw [f57 17 (by omega)]; exact w46)
          have I68 : jI16 σ55 := ⟨(by omega), (by omega), (by omega), w67⟩
          refine jcallV (As := [.int 0, .int r29]) (rest := []) ⟨hx, hb, hml, hown, hts⟩ hK hP hA hS hZ (c_X1_whomAt_31 l D cI cL ad zz hJ σ55 τ 0 (0) jz_0 r29 (r29.toInt) rfl I68 I59) cw_RX11_218 (jc_31 cI cL ad σ55 τ) rfl ⟨Nat.le_of_ble_eq_true rfl, Nat.le_of_ble_eq_true rfl⟩ rfl rfl rfl hl.1 rfl (Nat.le_of_ble_eq_true rfl) dX11_best_137 ⟨Nat.zero_le _, Nat.zero_le _⟩ (fun r70 σ69 τ69 H locs h69 hP hS => ?_)
          obtain ⟨⟨rfl, rfl⟩, h69⟩ := h69
          exact hret r70 σ55 τ _ _ _ _ rfl ⟨rfl, (fun i hi => by rw [f57 i (by omega), f42 i (by omega)]), (fun k hk => by rw [f58 k (by omega), f42 31 (by omega)]), I59, trivial⟩ hP hS dX11_best_140
        · have kc63 := jeq c63 t1 jz_0
          refine lv_aload_n hx hb dX11_best_119 rfl (lv_at hl 3 rfl) ?_
          refine va_get (D := D) hx hb hts inlX11 hown hK hP 0 (jc_0 cI cL ad σ55 τ) rfl 6 (by decide) (hts _ kw_2_13) (fun _ h9 => h9) rfl dX11_best_120 ?_
          refine lv_iconst (v := 0) hx hb dX11_best_123 (by decide) ?_
          refine lv_iload_n hx hb dX11_best_124 rfl (lv_at hl 1 rfl) ?_
          have z71 : (σ55 16 0).toInt = (σ 16 0).toInt := by rw [(show σ55 16 0 = (σ 16 0) from (by rw [f57 16 (by omega)]; exact (by rw [f42 16 (by omega)])))]
          have z72 : (σ55 16 1).toInt = (σ 16 1).toInt := by rw [(show σ55 16 1 = (σ 16 1) from (by rw [f57 16 (by omega)]; exact (by rw [f42 16 (by omega)])))]
          have z73 : (σ55 16 2).toInt = (σ 16 2).toInt := by rw [(show σ55 16 2 = (σ 16 2) from (by rw [f57 16 (by omega)]; exact (by rw [f42 16 (by omega)])))]
          have w74 : ∀ k : Nat, k < 8 → 0 ≤ (σ55 17 k).toInt ∧ (σ55 17 k).toInt ≤ 3 := (by rw [f57 17 (by omega)]; exact w46)
          have I75 : jI16 σ55 := ⟨(by omega), (by omega), (by omega), w74⟩
          refine jcallV (As := [.int 0, .int r29]) (rest := []) ⟨hx, hb, hml, hown, hts⟩ hK hP hA hS hZ (c_X1_valueAt_31 l D cI cL ad zz hJ σ55 τ 0 (0) jz_0 r29 (r29.toInt) rfl I75 I59) cw_RX11_215 (jc_31 cI cL ad σ55 τ) rfl ⟨Nat.le_of_ble_eq_true rfl, Nat.le_of_ble_eq_true rfl⟩ rfl rfl rfl hl.1 rfl (Nat.le_of_ble_eq_true rfl) dX11_best_125 ⟨Nat.zero_le _, Nat.zero_le _⟩ (fun r77 σ76 τ76 H locs h76 hP hS => ?_)
          obtain ⟨⟨rfl, rfl⟩, h76⟩ := h76
          refine lv_goto (tgt := 140) hx hb dX11_best_128 (by decide) ?_
          exact hret r77 σ55 τ _ _ _ _ rfl ⟨rfl, (fun i hi => by rw [f57 i (by omega), f42 i (by omega)]), (fun k hk => by rw [f58 k (by omega), f42 31 (by omega)]), I59, trivial⟩ hP hS dX11_best_140
      · have kc39 := jne c39 rfl jz_0
        refine lv_iload_n hx hb dX11_best_79 rfl (lv_at hl 4 rfl) ?_
        refine lv_if_ne (tgt := 87) hx hb dX11_best_80 (by decide) (fun c78 => ?_) (fun c78 => ?_)
        · have kc78 := jne c78 t1 jz_0
          refine lv_bipush (v := (-2)) hx hb dX11_best_87 (by decide) ?_
          have I79 : jI31 σ := ⟨(by omega), w14, w15⟩
          exact hret (-2) σ τ _ _ _ _ rfl ⟨rfl, (fun _ _ => rfl), (fun _ _ => rfl), I79, trivial⟩ hP hS dX11_best_89
        · have kc78 := jeq c78 t1 jz_0
          refine lv_iconst (v := 0) hx hb dX11_best_83 (by decide) ?_
          refine lv_goto (tgt := 89) hx hb dX11_best_84 (by decide) ?_
          have I80 : jI31 σ := ⟨(by omega), w14, w15⟩
          exact hret 0 σ τ _ _ _ _ rfl ⟨rfl, (fun _ _ => rfl), (fun _ _ => rfl), I80, trivial⟩ hP hS dX11_best_89
    · have kc33 := jnle c33 tx32 jz_8
      refine lv_bipush (v := (-4)) hx hb dX11_best_48 (by decide) ?_
      have I81 : jI31 σ := ⟨(by omega), w14, w15⟩
      exact hret (-4) σ τ _ _ _ _ rfl ⟨rfl, (fun _ _ => rfl), (fun _ _ => rfl), I81, trivial⟩ hP hS dX11_best_50
set_option maxHeartbeats 4000000 in
set_option maxRecDepth 100000 in
theorem c_X11_worth (l : Launch) (D : va_G) (cI cL : ClassId) (ad zz : Nat → Nat) (hJ : jD ad) (σ : Nat → Nat → Int32) (τ : Nat → Nat → Int64) (a1 : Int32) (A1 : Int) (t1 : a1.toInt = A1) (a2 : Int32) (A2 : Int) (t2 : a2.toInt = A2) (hI2 : jI2 σ) (hI16 : jI16 σ) (hI22 : jI22 σ) (hI31 : jI31 σ) : jM l yX11_worth cX11_worth 7 (some .int) ({ frames := 7, cells := 0, slots := 0, locals := 184 }) D cI cL ad zz [.ref (ad 0), .int a1, .int a2] σ τ (fun r σ' τ' => τ = τ' ∧ (∀ i : Nat, (i < 24 ∨ 25 < i) ∧ (i < 27 ∨ 37 < i) → σ' i = σ i) ∧ (∀ k : Nat, (k < 8 ∨ 8 < k) ∧ (k < 9 ∨ 9 < k) ∧ (k < 10 ∨ 10 < k) ∧ (k < 11 ∨ 11 < k) ∧ (k < 12 ∨ 12 < k) → σ' 31 k = σ 31 k) ∧ (jI31 σ') ∧ True) := by
  refine jM.of hJ (by decide +kernel) (nt := .int) rfl (Nat.le_of_ble_eq_true rfl) ?_
  intro p e s m args below meth c Q ls hC hret hl hP
  obtain ⟨hx, hb, hr, hml, hown, hts, hK, -, hlocks, hZ⟩ := hC
  have hown : s.vm.findClass RX11 = some m.cls := hown
  have hS : va_S (jA ad) s.heap s.heap [] := va_S.rf
  have hA : ∀ q, jA ad q → jA ad q := fun _ h => h
  have hl : lv_has ls 7 [(0, .ref (ad 0)), (1, .int a1), (2, .int a2)] := hl
  have g1 := jrg t1
  have g2 := jrg t2
  obtain ⟨i1, i2, i3, i4, i5, w6⟩ : (0 ≤ (σ 2 0).toInt ∧ (σ 2 0).toInt ≤ 4) ∧ (0 ≤ (σ 2 1).toInt ∧ (σ 2 1).toInt ≤ 3) ∧ (0 ≤ (σ 2 2).toInt) ∧ (0 ≤ (σ 2 3).toInt) ∧ ((σ 2 2).toInt + (σ 2 3).toInt ≤ 40) ∧ (∀ k : Nat, k < 40 → 0 ≤ (σ 6 k).toInt ∧ (σ 6 k).toInt ≤ 67) := id hI2
  obtain ⟨i7, i8, i9, w10⟩ : (1 ≤ (σ 16 0).toInt ∧ (σ 16 0).toInt ≤ 8) ∧ (1 ≤ (σ 16 1).toInt ∧ (σ 16 1).toInt ≤ 12) ∧ (0 ≤ (σ 16 2).toInt ∧ (σ 16 2).toInt ≤ 999) ∧ (∀ k : Nat, k < 8 → 0 ≤ (σ 17 k).toInt ∧ (σ 17 k).toInt ≤ 3) := id hI16
  obtain ⟨i11, w12⟩ : (0 ≤ (σ 22 0).toInt ∧ (σ 22 0).toInt ≤ 160) ∧ (∀ k : Nat, k < 160 → 0 ≤ (σ 23 k).toInt ∧ (σ 23 k).toInt ≤ 30000) := id hI22
  obtain ⟨i13, w14, w15⟩ : (0 ≤ (σ 31 8).toInt ∧ (σ 31 8).toInt ≤ 350) ∧ (∀ k : Nat, k < 1400 → (-1) ≤ (σ 33 k).toInt ∧ (σ 33 k).toInt ≤ 350) ∧ (∀ k : Nat, k < 1024 → 0 ≤ (σ 36 k).toInt ∧ (σ 36 k).toInt ≤ 349) := id hI31
  refine lv_aload_n hx hb dX11_worth_0 rfl (lv_at hl 0 rfl) ?_
  refine lv_iload_n hx hb dX11_worth_1 rfl (lv_at hl 1 rfl) ?_
  have I16 : jI2 σ := ⟨(by omega), (by omega), (by omega), (by omega), (by omega), w6⟩
  refine jcallV (As := [.int a1]) (rest := []) ⟨hx, hb, hml, hown, hts⟩ hK hP hA hS hZ (c_X11_noBowler l D cI cL ad zz hJ σ τ a1 (A1) t1 I16) cw_RX11_152 (jc_0 cI cL ad σ τ) rfl ⟨Nat.le_of_ble_eq_true rfl, Nat.le_of_ble_eq_true rfl⟩ rfl rfl rfl hl.1 rfl (Nat.le_of_ble_eq_true rfl) dX11_worth_2 ⟨Nat.zero_le _, Nat.zero_le _⟩ (fun r18 σ17 τ17 H locs h17 hP hS => ?_)
  obtain ⟨⟨rfl, rfl⟩, h17⟩ := h17
  rcases h17 with h19 | h20
  · obtain ⟨q22, k21⟩ := h19
    have q22 := q22.symm
    subst q22
    refine lv_if_ne (tgt := 29) hx hb dX11_worth_5 (by decide) (fun _ => ?_) (fun c => absurd c (by decide))
    refine lv_ldc (v := (-2000000000)) hx hb hown (hts _ kw_9_21) dX11_worth_29 ?_
    have I23 : jI31 σ := ⟨(by omega), w14, w15⟩
    exact hret (-2000000000) σ τ _ _ _ _ rfl ⟨rfl, (fun _ _ => rfl), (fun _ _ => rfl), I23, trivial⟩ hP hS dX11_worth_31
  · obtain ⟨q25, k24⟩ := h20
    have q25 := q25.symm
    subst q25
    refine lv_if_ne (tgt := 29) hx hb dX11_worth_5 (by decide) (fun c => absurd (by decide) c) (fun _ => ?_)
    refine lv_iload_n hx hb dX11_worth_8 rfl (lv_at hl 2 rfl) ?_
    refine lv_iconst (v := 0) hx hb dX11_worth_9 (by decide) ?_
    refine lv_iconst (v := 1) hx hb dX11_worth_10 (by decide) ?_
    refine jcallS (As := [.int a2, .int 0, .int 1]) (rest := []) ⟨hx, hb, hml, hown, hts⟩ hK hP hA hS hZ (c_X11_outside l D cI cL ad zz hJ σ τ a2 (A2) t2 0 (0) jz_0 1 (1) jz_1) cw_RX11_94 ⟨Nat.le_of_ble_eq_true rfl, Nat.le_of_ble_eq_true rfl⟩ rfl rfl rfl hl.1 rfl (Nat.le_of_ble_eq_true rfl) dX11_worth_11 ⟨Nat.zero_le _, Nat.zero_le _⟩ (fun r27 σ26 τ26 H locs h26 hP hS => ?_)
    obtain ⟨⟨rfl, rfl⟩, h26⟩ := h26
    rcases h26 with h28 | h29
    · obtain ⟨q31, k30⟩ := h28
      have q31 := q31.symm
      subst q31
      refine lv_if_ne (tgt := 29) hx hb dX11_worth_14 (by decide) (fun _ => ?_) (fun c => absurd c (by decide))
      refine lv_ldc (v := (-2000000000)) hx hb hown (hts _ kw_9_21) dX11_worth_29 ?_
      have I32 : jI31 σ := ⟨(by omega), w14, w15⟩
      exact hret (-2000000000) σ τ _ _ _ _ rfl ⟨rfl, (fun _ _ => rfl), (fun _ _ => rfl), I32, trivial⟩ hP hS dX11_worth_31
    · obtain ⟨q34, k33⟩ := h29
      have q34 := q34.symm
      subst q34
      refine lv_if_ne (tgt := 29) hx hb dX11_worth_14 (by decide) (fun c => absurd (by decide) c) (fun _ => ?_)
      refine lv_aload_n hx hb dX11_worth_17 rfl (lv_at hl 0 rfl) ?_
      refine va_get (D := D) hx hb hts inlX11 hown hK hP 0 (jc_0 cI cL ad σ τ) rfl 2 (by decide) (hts _ kw_2_0) (fun _ h9 => h9) rfl dX11_worth_18 ?_
      refine va_get (D := D) hx hb hts inlX6 hown hK hP 16 (jc_16 cI cL ad σ τ) rfl 1 (by decide) (hts _ kw_20_5) (fun _ h9 => h9) rfl dX11_worth_21 ?_
      refine lv_bipush (v := 8) hx hb dX11_worth_24 (by decide) ?_
      refine lv_icmp_le (tgt := 32) hx hb dX11_worth_26 (by decide) (fun c35 => ?_) (fun c35 => ?_)
      · have kc35 := jle c35 rfl jz_8
        refine lv_aload_n hx hb dX11_worth_32 rfl (lv_at hl 0 rfl) ?_
        refine va_get (D := D) hx hb hts inlX11 hown hK hP 0 (jc_0 cI cL ad σ τ) rfl 0 (by decide) (hts _ kw_1_16) (fun _ h9 => h9) rfl dX11_worth_33 ?_
        refine jcallV (As := []) (rest := []) ⟨hx, hb, hml, hown, hts⟩ hK hP hA hS hZ (c_X4_freshAttack_2 l D cI cL ad zz hJ σ τ I16) cw_RX11_204 (jc_2 cI cL ad σ τ) rfl ⟨Nat.le_of_ble_eq_true rfl, Nat.le_of_ble_eq_true rfl⟩ rfl rfl rfl hl.1 rfl (Nat.le_of_ble_eq_true rfl) dX11_worth_36 ⟨Nat.zero_le _, Nat.zero_le _⟩ (fun r37 σ36 τ36 H locs h36 hP hS => ?_)
        obtain ⟨⟨rfl, rfl⟩, h36⟩ := h36
        refine lv_istore_n (lv' := [(3, .int r37), (0, .ref (ad 0)), (1, .int a1), (2, .int a2)]) hx hb dX11_worth_39 rfl hl (by decide) rfl (fun ls hl => ?_)
        refine lv_iload_n hx hb dX11_worth_40 rfl (lv_at hl 3 rfl) ?_
        refine lv_if_ne (tgt := 48) hx hb dX11_worth_41 (by decide) (fun c38 => ?_) (fun c38 => ?_)
        · have kc38 := jne c38 t2 jz_0
          refine lv_aload_n hx hb dX11_worth_48 rfl (lv_at hl 1 rfl) ?_
          refine va_get (D := D) hx hb hts inlX11 hown hK hP 0 (jc_0 cI cL ad σ τ) rfl 0 (by decide) (hts _ kw_1_16) (fun _ h9 => h9) rfl dX11_worth_49 ?_
          refine lv_iload_n hx hb dX11_worth_52 rfl (lv_at hl 2 rfl) ?_
          refine jcallV (As := [.int a1]) (rest := []) ⟨hx, hb, hml, hown, hts⟩ hK hP hA hS hZ (c_X4_oversOf_2 l D cI cL ad zz hJ σ τ a1 (A1) t1) cw_RX11_163 (jc_2 cI cL ad σ τ) rfl ⟨Nat.le_of_ble_eq_true rfl, Nat.le_of_ble_eq_true rfl⟩ rfl rfl rfl hl.1 rfl (Nat.le_of_ble_eq_true rfl) dX11_worth_53 ⟨Nat.zero_le _, Nat.zero_le _⟩ (fun r40 σ39 τ39 H locs h39 hP hS => ?_)
          obtain ⟨⟨rfl, rfl⟩, h39⟩ := h39
          refine lv_iconst (v := 1) hx hb dX11_worth_56 (by decide) ?_
          have g41 := jrg (rfl : r40.toInt = r40.toInt)
          refine lv_iadd hx hb dX11_worth_57 ?_
          refine lv_topi (fun x42 ex42 => ?_)
          have gx42 := jrg (rfl : x42.toInt = x42.toInt)
          refine lv_istore (lv' := [(4, .int x42), (3, .int r37), (0, .ref (ad 0)), (1, .int a1), (2, .int a2)]) hx hb dX11_worth_58 hl (by decide) rfl (fun ls hl => ?_)
          refine lv_aload_n hx hb dX11_worth_60 rfl (lv_at hl 2 rfl) ?_
          refine lv_iload_n hx hb dX11_worth_61 rfl (lv_at hl 1 rfl) ?_
          refine lv_iload_n hx hb dX11_worth_62 rfl (lv_at hl 3 rfl) ?_
          refine lv_iload hx hb dX11_worth_63 (lv_at hl 0 rfl) ?_
          refine jcallS (As := [.int r37, .int a1, .int x42]) (rest := [.ref (ad 0)]) ⟨hx, hb, hml, hown, hts⟩ hK hP hA hS hZ (c_X0_withLeft l D cI cL ad zz hJ σ τ r37 (r37.toInt) rfl a1 (A1) t1 x42 (x42.toInt) rfl) cw_RX11_221 ⟨Nat.le_of_ble_eq_true rfl, Nat.le_of_ble_eq_true rfl⟩ rfl rfl rfl hl.1 rfl (Nat.le_of_ble_eq_true rfl) dX11_worth_65 ⟨Nat.zero_le _, Nat.zero_le _⟩ (fun r44 σ43 τ43 H locs h43 hP hS => ?_)
          obtain ⟨⟨rfl, rfl⟩, h43⟩ := h43
          refine lv_aload_n hx hb dX11_worth_68 rfl (lv_at hl 2 rfl) ?_
          refine va_get (D := D) hx hb hts inlX11 hown hK hP 0 (jc_0 cI cL ad σ τ) rfl 0 (by decide) (hts _ kw_1_16) (fun _ h9 => h9) rfl dX11_worth_69 ?_
          refine va_get (D := D) hx hb hts inlX4 hown hK hP 2 (jc_2 cI cL ad σ τ) rfl 1 (by decide) (hts _ kw_12_8) (fun _ h9 => h9) rfl dX11_worth_72 ?_
          have I45 : jI16 σ := ⟨(by omega), (by omega), (by omega), w10⟩
          have I46 : jI22 σ := ⟨(by omega), w12⟩
          have I47 : jI31 σ := ⟨(by omega), w14, w15⟩
          refine jcallV (As := [.int r44, .int (σ 2 1)]) (rest := []) ⟨hx, hb, hml, hown, hts⟩ hK hP hA hS hZ (c_X11_bestOf l D cI cL ad zz hJ σ τ r44 (r44.toInt) rfl (σ 2 1) ((σ 2 1).toInt) rfl I45 I46 I47) cw_RX11_226 (jc_0 cI cL ad σ τ) rfl ⟨Nat.le_of_ble_eq_true rfl, Nat.le_of_ble_eq_true rfl⟩ rfl rfl rfl hl.1 rfl (Nat.le_of_ble_eq_true rfl) dX11_worth_75 ⟨Nat.zero_le _, Nat.zero_le _⟩ (fun r49 σ48 τ48 H locs h48 hP hS => ?_)
          obtain ⟨rfl, f50, f51, I52, h48⟩ := h48
          obtain ⟨i53, w54, w55⟩ : (0 ≤ (σ48 31 8).toInt ∧ (σ48 31 8).toInt ≤ 350) ∧ (∀ k : Nat, k < 1400 → (-1) ≤ (σ48 33 k).toInt ∧ (σ48 33 k).toInt ≤ 350) ∧ (∀ k : Nat, k < 1024 → 0 ≤ (σ48 36 k).toInt ∧ (σ48 36 k).toInt ≤ 349) := id I52
          refine lv_istore (lv' := [(5, .int r49), (4, .int x42), (3, .int r37), (0, .ref (ad 0)), (1, .int a1), (2, .int a2)]) hx hb dX11_worth_78 hl (by decide) rfl (fun ls hl => ?_)
          refine lv_aload_n hx hb dX11_worth_80 rfl (lv_at hl 3 rfl) ?_
          refine lv_iload_n hx hb dX11_worth_81 rfl (lv_at hl 2 rfl) ?_
          refine lv_aload_n hx hb dX11_worth_82 rfl (lv_at hl 3 rfl) ?_
          refine va_get (D := D) hx hb hts inlX11 hown hK hP 0 (jc_0 cI cL ad σ48 τ) rfl 0 (by decide) (hts _ kw_1_16) (fun _ h9 => h9) rfl dX11_worth_83 ?_
          refine va_get (D := D) hx hb hts inlX4 hown hK hP 2 (jc_2 cI cL ad σ48 τ) rfl 1 (by decide) (hts _ kw_12_8) (fun _ h9 => h9) rfl dX11_worth_86 ?_
          have m56 : σ48 2 1 = (σ 2 1) := (by rw [f50 2 (by omega)])
          refine jtopr m56 ?_
          have z57 : (σ48 16 0).toInt = (σ 16 0).toInt := by rw [(show σ48 16 0 = (σ 16 0) from (by rw [f50 16 (by omega)]))]
          have z58 : (σ48 16 1).toInt = (σ 16 1).toInt := by rw [(show σ48 16 1 = (σ 16 1) from (by rw [f50 16 (by omega)]))]
          have z59 : (σ48 16 2).toInt = (σ 16 2).toInt := by rw [(show σ48 16 2 = (σ 16 2) from (by rw [f50 16 (by omega)]))]
          have w60 : ∀ k : Nat, k < 8 → 0 ≤ (σ48 17 k).toInt ∧ (σ48 17 k).toInt ≤ 3 := (by rw [f50 17 (by omega)]; exact w10)
          have I61 : jI16 σ48 := ⟨(by omega), (by omega), (by omega), w60⟩
          have z62 : (σ48 22 0).toInt = (σ 22 0).toInt := by rw [(show σ48 22 0 = (σ 22 0) from (by rw [f50 22 (by omega)]))]
          have w63 : ∀ k : Nat, k < 160 → 0 ≤ (σ48 23 k).toInt ∧ (σ48 23 k).toInt ≤ 30000 := (by rw [f50 23 (by omega)]; exact w12)
          have I64 : jI22 σ48 := ⟨(by omega), w63⟩
          refine jcallV (As := [.int r37, .int (σ 2 1)]) (rest := []) ⟨hx, hb, hml, hown, hts⟩ hK hP hA hS hZ (c_X11_bestOf l D cI cL ad zz hJ σ48 τ r37 (r37.toInt) rfl (σ 2 1) ((σ 2 1).toInt) rfl I61 I64 I52) cw_RX11_226 (jc_0 cI cL ad σ48 τ) rfl ⟨Nat.le_of_ble_eq_true rfl, Nat.le_of_ble_eq_true rfl⟩ rfl rfl rfl hl.1 rfl (Nat.le_of_ble_eq_true rfl) dX11_worth_89 ⟨Nat.zero_le _, Nat.zero_le _⟩ (fun r66 σ65 τ65 H locs h65 hP hS => ?_)
          obtain ⟨rfl, f67, f68, I69, h65⟩ := h65
          obtain ⟨i70, w71, w72⟩ : (0 ≤ (σ65 31 8).toInt ∧ (σ65 31 8).toInt ≤ 350) ∧ (∀ k : Nat, k < 1400 → (-1) ≤ (σ65 33 k).toInt ∧ (σ65 33 k).toInt ≤ 350) ∧ (∀ k : Nat, k < 1024 → 0 ≤ (σ65 36 k).toInt ∧ (σ65 36 k).toInt ≤ 349) := id I69
          refine lv_istore (lv' := [(6, .int r66), (5, .int r49), (4, .int x42), (3, .int r37), (0, .ref (ad 0)), (1, .int a1), (2, .int a2)]) hx hb dX11_worth_92 hl (by decide) rfl (fun ls hl => ?_)
          refine lv_iload_n hx hb dX11_worth_94 rfl (lv_at hl 6 rfl) ?_
          refine lv_if_ne (tgt := 106) hx hb dX11_worth_95 (by decide) (fun c73 => ?_) (fun c => absurd (jeq c t2 jz_0) (by omega))
          have kc73 := jne c73 t2 jz_0
          refine lv_iload hx hb dX11_worth_106 (lv_at hl 0 rfl) ?_
          refine lv_iload hx hb dX11_worth_108 (lv_at hl 1 rfl) ?_
          have g74 := jrg (rfl : r66.toInt = r66.toInt)
          have g75 := jrg (rfl : r49.toInt = r49.toInt)
          refine lv_isub hx hb dX11_worth_110 ?_
          refine lv_topi (fun x76 ex76 => ?_)
          have gx76 := jrg (rfl : x76.toInt = x76.toInt)
          exact hret x76 σ65 τ _ _ _ _ rfl ⟨rfl, (fun i hi => by rw [f67 i (by omega), f50 i (by omega)]), (fun k hk => by rw [f68 k (by omega), f51 k (by omega)]), I69, trivial⟩ hP hS dX11_worth_111
        · have kc38 := jeq c38 t2 jz_0
          refine lv_iconst (v := 0) hx hb dX11_worth_44 (by decide) ?_
          refine lv_goto (tgt := 58) hx hb dX11_worth_45 (by decide) ?_
          refine lv_istore (lv' := [(4, .int 0), (3, .int r37), (0, .ref (ad 0)), (1, .int a1), (2, .int a2)]) hx hb dX11_worth_58 hl (by decide) rfl (fun ls hl => ?_)
          refine lv_aload_n hx hb dX11_worth_60 rfl (lv_at hl 2 rfl) ?_
          refine lv_iload_n hx hb dX11_worth_61 rfl (lv_at hl 1 rfl) ?_
          refine lv_iload_n hx hb dX11_worth_62 rfl (lv_at hl 3 rfl) ?_
          refine lv_iload hx hb dX11_worth_63 (lv_at hl 0 rfl) ?_
          refine jcallS (As := [.int r37, .int a1, .int 0]) (rest := [.ref (ad 0)]) ⟨hx, hb, hml, hown, hts⟩ hK hP hA hS hZ (c_X0_withLeft l D cI cL ad zz hJ σ τ r37 (r37.toInt) rfl a1 (A1) t1 0 (0) jz_0) cw_RX11_221 ⟨Nat.le_of_ble_eq_true rfl, Nat.le_of_ble_eq_true rfl⟩ rfl rfl rfl hl.1 rfl (Nat.le_of_ble_eq_true rfl) dX11_worth_65 ⟨Nat.zero_le _, Nat.zero_le _⟩ (fun r78 σ77 τ77 H locs h77 hP hS => ?_)
          obtain ⟨⟨rfl, rfl⟩, h77⟩ := h77
          refine lv_aload_n hx hb dX11_worth_68 rfl (lv_at hl 2 rfl) ?_
          refine va_get (D := D) hx hb hts inlX11 hown hK hP 0 (jc_0 cI cL ad σ τ) rfl 0 (by decide) (hts _ kw_1_16) (fun _ h9 => h9) rfl dX11_worth_69 ?_
          refine va_get (D := D) hx hb hts inlX4 hown hK hP 2 (jc_2 cI cL ad σ τ) rfl 1 (by decide) (hts _ kw_12_8) (fun _ h9 => h9) rfl dX11_worth_72 ?_
          have I79 : jI16 σ := ⟨(by omega), (by omega), (by omega), w10⟩
          have I80 : jI22 σ := ⟨(by omega), w12⟩
          have I81 : jI31 σ := ⟨(by omega), w14, w15⟩
          refine jcallV (As := [.int r78, .int (σ 2 1)]) (rest := []) ⟨hx, hb, hml, hown, hts⟩ hK hP hA hS hZ (c_X11_bestOf l D cI cL ad zz hJ σ τ r78 (r78.toInt) rfl (σ 2 1) ((σ 2 1).toInt) rfl I79 I80 I81) cw_RX11_226 (jc_0 cI cL ad σ τ) rfl ⟨Nat.le_of_ble_eq_true rfl, Nat.le_of_ble_eq_true rfl⟩ rfl rfl rfl hl.1 rfl (Nat.le_of_ble_eq_true rfl) dX11_worth_75 ⟨Nat.zero_le _, Nat.zero_le _⟩ (fun r83 σ82 τ82 H locs h82 hP hS => ?_)
          obtain ⟨rfl, f84, f85, I86, h82⟩ := h82
          obtain ⟨i87, w88, w89⟩ : (0 ≤ (σ82 31 8).toInt ∧ (σ82 31 8).toInt ≤ 350) ∧ (∀ k : Nat, k < 1400 → (-1) ≤ (σ82 33 k).toInt ∧ (σ82 33 k).toInt ≤ 350) ∧ (∀ k : Nat, k < 1024 → 0 ≤ (σ82 36 k).toInt ∧ (σ82 36 k).toInt ≤ 349) := id I86
          refine lv_istore (lv' := [(5, .int r83), (4, .int 0), (3, .int r37), (0, .ref (ad 0)), (1, .int a1), (2, .int a2)]) hx hb dX11_worth_78 hl (by decide) rfl (fun ls hl => ?_)
          refine lv_aload_n hx hb dX11_worth_80 rfl (lv_at hl 3 rfl) ?_
          refine lv_iload_n hx hb dX11_worth_81 rfl (lv_at hl 2 rfl) ?_
          refine lv_aload_n hx hb dX11_worth_82 rfl (lv_at hl 3 rfl) ?_
          refine va_get (D := D) hx hb hts inlX11 hown hK hP 0 (jc_0 cI cL ad σ82 τ) rfl 0 (by decide) (hts _ kw_1_16) (fun _ h9 => h9) rfl dX11_worth_83 ?_
          refine va_get (D := D) hx hb hts inlX4 hown hK hP 2 (jc_2 cI cL ad σ82 τ) rfl 1 (by decide) (hts _ kw_12_8) (fun _ h9 => h9) rfl dX11_worth_86 ?_
          have m90 : σ82 2 1 = (σ 2 1) := (by rw [f84 2 (by omega)])
          refine jtopr m90 ?_
          have z91 : (σ82 16 0).toInt = (σ 16 0).toInt := by rw [(show σ82 16 0 = (σ 16 0) from (by rw [f84 16 (by omega)]))]
          have z92 : (σ82 16 1).toInt = (σ 16 1).toInt := by rw [(show σ82 16 1 = (σ 16 1) from (by rw [f84 16 (by omega)]))]
          have z93 : (σ82 16 2).toInt = (σ 16 2).toInt := by rw [(show σ82 16 2 = (σ 16 2) from (by rw [f84 16 (by omega)]))]
          have w94 : ∀ k : Nat, k < 8 → 0 ≤ (σ82 17 k).toInt ∧ (σ82 17 k).toInt ≤ 3 := (by rw [f84 17 (by omega)]; exact w10)
          have I95 : jI16 σ82 := ⟨(by omega), (by omega), (by omega), w94⟩
          have z96 : (σ82 22 0).toInt = (σ 22 0).toInt := by rw [(show σ82 22 0 = (σ 22 0) from (by rw [f84 22 (by omega)]))]
          have w97 : ∀ k : Nat, k < 160 → 0 ≤ (σ82 23 k).toInt ∧ (σ82 23 k).toInt ≤ 30000 := (by rw [f84 23 (by omega)]; exact w12)
          have I98 : jI22 σ82 := ⟨(by omega), w97⟩
          refine jcallV (As := [.int r37, .int (σ 2 1)]) (rest := []) ⟨hx, hb, hml, hown, hts⟩ hK hP hA hS hZ (c_X11_bestOf l D cI cL ad zz hJ σ82 τ r37 (r37.toInt) rfl (σ 2 1) ((σ 2 1).toInt) rfl I95 I98 I86) cw_RX11_226 (jc_0 cI cL ad σ82 τ) rfl ⟨Nat.le_of_ble_eq_true rfl, Nat.le_of_ble_eq_true rfl⟩ rfl rfl rfl hl.1 rfl (Nat.le_of_ble_eq_true rfl) dX11_worth_89 ⟨Nat.zero_le _, Nat.zero_le _⟩ (fun r100 σ99 τ99 H locs h99 hP hS => ?_)
          obtain ⟨rfl, f101, f102, I103, h99⟩ := h99
          obtain ⟨i104, w105, w106⟩ : (0 ≤ (σ99 31 8).toInt ∧ (σ99 31 8).toInt ≤ 350) ∧ (∀ k : Nat, k < 1400 → (-1) ≤ (σ99 33 k).toInt ∧ (σ99 33 k).toInt ≤ 350) ∧ (∀ k : Nat, k < 1024 → 0 ≤ (σ99 36 k).toInt ∧ (σ99 36 k).toInt ≤ 349) := id I103
          refine lv_istore (lv' := [(6, .int r100), (5, .int r83), (4, .int 0), (3, .int r37), (0, .ref (ad 0)), (1, .int a1), (2, .int a2)]) hx hb dX11_worth_92 hl (by decide) rfl (fun ls hl => ?_)
          refine lv_iload_n hx hb dX11_worth_94 rfl (lv_at hl 6 rfl) ?_
          refine lv_if_ne (tgt := 106) hx hb dX11_worth_95 (by decide) (fun c => absurd (jne c t2 jz_0) (by omega)) (fun c107 => ?_)
          have kc107 := jeq c107 t2 jz_0
          refine lv_iload hx hb dX11_worth_98 (lv_at hl 1 rfl) ?_
          refine lv_iload hx hb dX11_worth_100 (lv_at hl 0 rfl) ?_
          have g108 := jrg (rfl : r83.toInt = r83.toInt)
          have g109 := jrg (rfl : r100.toInt = r100.toInt)
          refine lv_isub hx hb dX11_worth_102 ?_
          refine lv_topi (fun x110 ex110 => ?_)
          have gx110 := jrg (rfl : x110.toInt = x110.toInt)
          refine lv_goto (tgt := 111) hx hb dX11_worth_103 (by decide) ?_
          exact hret x110 σ99 τ _ _ _ _ rfl ⟨rfl, (fun i hi => by rw [f101 i (by omega), f84 i (by omega)]), (fun k hk => by rw [f102 k (by omega), f85 k (by omega)]), I103, trivial⟩ hP hS dX11_worth_111
      · have kc35 := jnle c35 rfl jz_8
        refine lv_ldc (v := (-2000000000)) hx hb hown (hts _ kw_9_21) dX11_worth_29 ?_
        have I111 : jI31 σ := ⟨(by omega), w14, w15⟩
        exact hret (-2000000000) σ τ _ _ _ _ rfl ⟨rfl, (fun _ _ => rfl), (fun _ _ => rfl), I111, trivial⟩ hP hS dX11_worth_31
set_option maxHeartbeats 4000000 in
set_option maxRecDepth 100000 in
theorem c_X11_fielded (l : Launch) (D : va_G) (cI cL : ClassId) (ad zz : Nat → Nat) (hJ : jD ad) (σ : Nat → Nat → Int32) (τ : Nat → Nat → Int64) (a1 : Int32) (A1 : Int) (t1 : a1.toInt = A1) (a2 : Int32) (A2 : Int) (t2 : a2.toInt = A2) (hI2 : jI2 σ) (hI16 : jI16 σ) (hI22 : jI22 σ) (hI31 : jI31 σ) : jM l yX11_fielded cX11_fielded 8 (some .int) ({ frames := 7, cells := 0, slots := 0, locals := 184 }) D cI cL ad zz [.ref (ad 0), .int a1, .int a2] σ τ (fun r σ' τ' => τ = τ' ∧ (∀ i : Nat, (i < 24 ∨ 25 < i) ∧ (i < 27 ∨ 37 < i) → σ' i = σ i) ∧ (∀ k : Nat, (k < 8 ∨ 8 < k) ∧ (k < 9 ∨ 9 < k) ∧ (k < 10 ∨ 10 < k) ∧ (k < 11 ∨ 11 < k) ∧ (k < 12 ∨ 12 < k) → σ' 31 k = σ 31 k) ∧ (jI31 σ') ∧ True) := by
  refine jM.of hJ (by decide +kernel) (nt := .int) rfl (Nat.le_of_ble_eq_true rfl) ?_
  intro p e s m args below meth c Q ls hC hret hl hP
  obtain ⟨hx, hb, hr, hml, hown, hts, hK, -, hlocks, hZ⟩ := hC
  have hown : s.vm.findClass RX11 = some m.cls := hown
  have hS : va_S (jA ad) s.heap s.heap [] := va_S.rf
  have hA : ∀ q, jA ad q → jA ad q := fun _ h => h
  have hl : lv_has ls 8 [(0, .ref (ad 0)), (1, .int a1), (2, .int a2)] := hl
  have g1 := jrg t1
  have g2 := jrg t2
  obtain ⟨i1, i2, i3, i4, i5, w6⟩ : (0 ≤ (σ 2 0).toInt ∧ (σ 2 0).toInt ≤ 4) ∧ (0 ≤ (σ 2 1).toInt ∧ (σ 2 1).toInt ≤ 3) ∧ (0 ≤ (σ 2 2).toInt) ∧ (0 ≤ (σ 2 3).toInt) ∧ ((σ 2 2).toInt + (σ 2 3).toInt ≤ 40) ∧ (∀ k : Nat, k < 40 → 0 ≤ (σ 6 k).toInt ∧ (σ 6 k).toInt ≤ 67) := id hI2
  obtain ⟨i7, i8, i9, w10⟩ : (1 ≤ (σ 16 0).toInt ∧ (σ 16 0).toInt ≤ 8) ∧ (1 ≤ (σ 16 1).toInt ∧ (σ 16 1).toInt ≤ 12) ∧ (0 ≤ (σ 16 2).toInt ∧ (σ 16 2).toInt ≤ 999) ∧ (∀ k : Nat, k < 8 → 0 ≤ (σ 17 k).toInt ∧ (σ 17 k).toInt ≤ 3) := id hI16
  obtain ⟨i11, w12⟩ : (0 ≤ (σ 22 0).toInt ∧ (σ 22 0).toInt ≤ 160) ∧ (∀ k : Nat, k < 160 → 0 ≤ (σ 23 k).toInt ∧ (σ 23 k).toInt ≤ 30000) := id hI22
  obtain ⟨i13, w14, w15⟩ : (0 ≤ (σ 31 8).toInt ∧ (σ 31 8).toInt ≤ 350) ∧ (∀ k : Nat, k < 1400 → (-1) ≤ (σ 33 k).toInt ∧ (σ 33 k).toInt ≤ 350) ∧ (∀ k : Nat, k < 1024 → 0 ≤ (σ 36 k).toInt ∧ (σ 36 k).toInt ≤ 349) := id hI31
  refine lv_iload_n hx hb dX11_fielded_0 rfl (lv_at hl 2 rfl) ?_
  refine lv_iconst (v := 0) hx hb dX11_fielded_1 (by decide) ?_
  refine lv_iconst (v := 1) hx hb dX11_fielded_2 (by decide) ?_
  refine jcallS (As := [.int a2, .int 0, .int 1]) (rest := []) ⟨hx, hb, hml, hown, hts⟩ hK hP hA hS hZ (c_X11_outside l D cI cL ad zz hJ σ τ a2 (A2) t2 0 (0) jz_0 1 (1) jz_1) cw_RX11_94 ⟨Nat.le_of_ble_eq_true rfl, Nat.le_of_ble_eq_true rfl⟩ rfl rfl rfl hl.1 rfl (Nat.le_of_ble_eq_true rfl) dX11_fielded_3 ⟨Nat.zero_le _, Nat.zero_le _⟩ (fun r17 σ16 τ16 H locs h16 hP hS => ?_)
  obtain ⟨⟨rfl, rfl⟩, h16⟩ := h16
  rcases h16 with h18 | h19
  · obtain ⟨q21, k20⟩ := h18
    have q21 := q21.symm
    subst q21
    refine lv_if_ne (tgt := 22) hx hb dX11_fielded_6 (by decide) (fun _ => ?_) (fun c => absurd c (by decide))
    refine lv_iconst (v := (-1)) hx hb dX11_fielded_22 (by decide) ?_
    have I22 : jI31 σ := ⟨(by omega), w14, w15⟩
    exact hret (-1) σ τ _ _ _ _ rfl ⟨rfl, (fun _ _ => rfl), (fun _ _ => rfl), I22, trivial⟩ hP hS dX11_fielded_23
  · obtain ⟨q24, k23⟩ := h19
    have q24 := q24.symm
    subst q24
    refine lv_if_ne (tgt := 22) hx hb dX11_fielded_6 (by decide) (fun c => absurd (by decide) c) (fun _ => ?_)
    refine lv_iload_n hx hb dX11_fielded_9 rfl (lv_at hl 2 rfl) ?_
    refine lv_if_ne (tgt := 24) hx hb dX11_fielded_10 (by decide) (fun c25 => ?_) (fun c25 => ?_)
    · have kc25 := jne c25 t2 jz_0
      refine lv_aload_n hx hb dX11_fielded_24 rfl (lv_at hl 0 rfl) ?_
      refine va_get (D := D) hx hb hts inlX11 hown hK hP 0 (jc_0 cI cL ad σ τ) rfl 2 (by decide) (hts _ kw_2_0) (fun _ h9 => h9) rfl dX11_fielded_25 ?_
      refine va_get (D := D) hx hb hts inlX6 hown hK hP 16 (jc_16 cI cL ad σ τ) rfl 1 (by decide) (hts _ kw_20_5) (fun _ h9 => h9) rfl dX11_fielded_28 ?_
      refine lv_bipush (v := 8) hx hb dX11_fielded_31 (by decide) ?_
      refine lv_icmp_le (tgt := 39) hx hb dX11_fielded_33 (by decide) (fun c26 => ?_) (fun c26 => ?_)
      · have kc26 := jle c26 rfl jz_8
        refine lv_aload_n hx hb dX11_fielded_39 rfl (lv_at hl 0 rfl) ?_
        refine va_get (D := D) hx hb hts inlX11 hown hK hP 0 (jc_0 cI cL ad σ τ) rfl 0 (by decide) (hts _ kw_1_16) (fun _ h9 => h9) rfl dX11_fielded_40 ?_
        have I27 : jI2 σ := ⟨(by omega), (by omega), (by omega), (by omega), (by omega), w6⟩
        refine jcallV (As := []) (rest := []) ⟨hx, hb, hml, hown, hts⟩ hK hP hA hS hZ (c_X4_freshAttack_2 l D cI cL ad zz hJ σ τ I27) cw_RX11_204 (jc_2 cI cL ad σ τ) rfl ⟨Nat.le_of_ble_eq_true rfl, Nat.le_of_ble_eq_true rfl⟩ rfl rfl rfl hl.1 rfl (Nat.le_of_ble_eq_true rfl) dX11_fielded_43 ⟨Nat.zero_le _, Nat.zero_le _⟩ (fun r29 σ28 τ28 H locs h28 hP hS => ?_)
        obtain ⟨⟨rfl, rfl⟩, h28⟩ := h28
        refine lv_istore_n (lv' := [(3, .int r29), (0, .ref (ad 0)), (1, .int a1), (2, .int a2)]) hx hb dX11_fielded_46 rfl hl (by decide) rfl (fun ls hl => ?_)
        refine lv_iconst (v := 0) hx hb dX11_fielded_47 (by decide) ?_
        refine lv_istore (lv' := [(4, .int 0), (3, .int r29), (0, .ref (ad 0)), (1, .int a1), (2, .int a2)]) hx hb dX11_fielded_48 hl (by decide) rfl (fun ls hl => ?_)
        refine lv_aload_n hx hb dX11_fielded_50 rfl (lv_at hl 2 rfl) ?_
        refine lv_iload_n hx hb dX11_fielded_51 rfl (lv_at hl 1 rfl) ?_
        refine lv_iload_n hx hb dX11_fielded_52 rfl (lv_at hl 4 rfl) ?_
        refine lv_if_ne (tgt := 60) hx hb dX11_fielded_53 (by decide) (fun c30 => ?_) (fun c => absurd (jeq c t2 jz_0) (by omega))
        have kc30 := jne c30 t2 jz_0
        refine lv_iconst (v := 0) hx hb dX11_fielded_60 (by decide) ?_
        have I31 : jI16 σ := ⟨(by omega), (by omega), (by omega), w10⟩
        have I32 : jI22 σ := ⟨(by omega), w12⟩
        have I33 : jI31 σ := ⟨(by omega), w14, w15⟩
        refine jcallV (As := [.int r29, .int 0]) (rest := []) ⟨hx, hb, hml, hown, hts⟩ hK hP hA hS hZ (c_X11_bestOf l D cI cL ad zz hJ σ τ r29 (r29.toInt) rfl 0 (0) jz_0 I31 I32 I33) cw_RX11_226 (jc_0 cI cL ad σ τ) rfl ⟨Nat.le_of_ble_eq_true rfl, Nat.le_of_ble_eq_true rfl⟩ rfl rfl rfl hl.1 rfl (Nat.le_of_ble_eq_true rfl) dX11_fielded_61 ⟨Nat.zero_le _, Nat.zero_le _⟩ (fun r35 σ34 τ34 H locs h34 hP hS => ?_)
        obtain ⟨rfl, f36, f37, I38, h34⟩ := h34
        obtain ⟨i39, w40, w41⟩ : (0 ≤ (σ34 31 8).toInt ∧ (σ34 31 8).toInt ≤ 350) ∧ (∀ k : Nat, k < 1400 → (-1) ≤ (σ34 33 k).toInt ∧ (σ34 33 k).toInt ≤ 350) ∧ (∀ k : Nat, k < 1024 → 0 ≤ (σ34 36 k).toInt ∧ (σ34 36 k).toInt ≤ 349) := id I38
        refine lv_istore (lv' := [(5, .int r35), (4, .int 0), (3, .int r29), (0, .ref (ad 0)), (1, .int a1), (2, .int a2)]) hx hb dX11_fielded_64 hl (by decide) rfl (fun ls hl => ?_)
        refine lv_iload_n hx hb dX11_fielded_66 rfl (lv_at hl 5 rfl) ?_
        refine lv_if_ne (tgt := 73) hx hb dX11_fielded_67 (by decide) (fun c42 => ?_) (fun c => absurd (jeq c t2 jz_0) (by omega))
        have kc42 := jne c42 t2 jz_0
        refine lv_iconst (v := 1) hx hb dX11_fielded_73 (by decide) ?_
        refine lv_istore (lv' := [(6, .int 1), (5, .int r35), (4, .int 0), (3, .int r29), (0, .ref (ad 0)), (1, .int a1), (2, .int a2)]) hx hb dX11_fielded_74 hl (by decide) rfl (fun ls hl => ?_)
        have lp43 : ∀ (n44 : Nat) (x45 : Int32) (x46 : Int32) (x47 : Int32) (σ49 : Nat → Nat → Int32) (H : Heap) (locs : List Loc) (ls : Array Slot), (-x47.toInt + 4 : Int) < n44 → 1 ≤ x47.toInt → x47.toInt ≤ 4 → 0 ≤ (σ49 31 8).toInt ∧ (σ49 31 8).toInt ≤ 350 → (∀ i : Nat, (i < 24 ∨ 25 < i) ∧ (i < 27 ∨ 37 < i) → σ49 i = σ34 i) → (∀ k : Nat, (k < 8 ∨ 8 < k) ∧ (k < 9 ∨ 9 < k) ∧ (k < 10 ∨ 10 < k) ∧ (k < 11 ∨ 11 < k) ∧ (k < 12 ∨ 12 < k) → σ49 31 k = σ34 31 k) → (∀ k : Nat, k < 1400 → (-1) ≤ (σ49 33 k).toInt ∧ (σ49 33 k).toInt ≤ 350) → (∀ k : Nat, k < 1024 → 0 ≤ (σ49 36 k).toInt ∧ (σ49 36 k).toInt ≤ 349) → jH D cI cL ad σ49 τ H → va_S (jA ad) s.heap H locs → lv_has ls 8 [(6, .int x47), (5, .int x46), (4, .int x45), (3, .int r29), (0, .ref (ad 0)), (1, .int a1), (2, .int a2)] → W p l e ({ frames := 7, cells := 0, slots := 0, locals := 184 }) s m args below meth c H locs 0 0 Q (F0 m 76 ls []) := by
          intro n44
          induction n44 with
          | zero => intro x45 x46 x47 σ49 H locs ls h50 h51 h52 h53; have gx45 := jrg (rfl : x45.toInt = x45.toInt); have gx46 := jrg (rfl : x46.toInt = x46.toInt); exact absurd h50 (by omega)
          | succ n44 ihlp43 =>
            intro x45 x46 x47 σ49 H locs ls h50 h51 h52 h53 f54 f55 w56 w57 hP hS hl
            have gx45 := jrg (rfl : x45.toInt = x45.toInt); have gx46 := jrg (rfl : x46.toInt = x46.toInt)
            refine lv_iload hx hb dX11_fielded_76 (lv_at hl 0 rfl) ?_
            refine lv_iconst (v := 4) hx hb dX11_fielded_78 (by decide) ?_
            refine lv_icmp_ge (tgt := 112) hx hb dX11_fielded_79 (by decide) (fun c58 => ?_) (fun c58 => ?_)
            · have kc58 := jle c58 jz_4 rfl
              refine lv_iload hx hb dX11_fielded_112 (lv_at hl 2 rfl) ?_
              have I59 : jI31 σ49 := ⟨(by omega), w56, w57⟩
              exact hret x45 σ49 τ _ _ _ _ rfl ⟨rfl, (fun i hi => by rw [f54 i (by omega), f36 i (by omega)]), (fun k hk => by rw [f55 k (by omega), f37 k (by omega)]), I59, trivial⟩ hP hS dX11_fielded_114
            · have kc58 := jnle c58 jz_4 rfl
              refine lv_aload_n hx hb dX11_fielded_82 rfl (lv_at hl 4 rfl) ?_
              refine lv_iload_n hx hb dX11_fielded_83 rfl (lv_at hl 3 rfl) ?_
              refine lv_iload hx hb dX11_fielded_84 (lv_at hl 0 rfl) ?_
              have z60 : (σ49 16 0).toInt = (σ 16 0).toInt := by rw [(show σ49 16 0 = (σ 16 0) from (by rw [f54 16 (by omega)]; exact (by rw [f36 16 (by omega)])))]
              have z61 : (σ49 16 1).toInt = (σ 16 1).toInt := by rw [(show σ49 16 1 = (σ 16 1) from (by rw [f54 16 (by omega)]; exact (by rw [f36 16 (by omega)])))]
              have z62 : (σ49 16 2).toInt = (σ 16 2).toInt := by rw [(show σ49 16 2 = (σ 16 2) from (by rw [f54 16 (by omega)]; exact (by rw [f36 16 (by omega)])))]
              have w63 : ∀ k : Nat, k < 8 → 0 ≤ (σ49 17 k).toInt ∧ (σ49 17 k).toInt ≤ 3 := (by rw [f54 17 (by omega)]; exact (by rw [f36 17 (by omega)]; exact w10))
              have I64 : jI16 σ49 := ⟨(by omega), (by omega), (by omega), w63⟩
              have z65 : (σ49 22 0).toInt = (σ 22 0).toInt := by rw [(show σ49 22 0 = (σ 22 0) from (by rw [f54 22 (by omega)]; exact (by rw [f36 22 (by omega)])))]
              have w66 : ∀ k : Nat, k < 160 → 0 ≤ (σ49 23 k).toInt ∧ (σ49 23 k).toInt ≤ 30000 := (by rw [f54 23 (by omega)]; exact (by rw [f36 23 (by omega)]; exact w12))
              have I67 : jI22 σ49 := ⟨(by omega), w66⟩
              have I68 : jI31 σ49 := ⟨(by omega), w56, w57⟩
              refine jcallV (As := [.int r29, .int x47]) (rest := []) ⟨hx, hb, hml, hown, hts⟩ hK hP hA hS hZ (c_X11_bestOf l D cI cL ad zz hJ σ49 τ r29 (r29.toInt) rfl x47 (x47.toInt) rfl I64 I67 I68) cw_RX11_226 (jc_0 cI cL ad σ49 τ) rfl ⟨Nat.le_of_ble_eq_true rfl, Nat.le_of_ble_eq_true rfl⟩ rfl rfl rfl hl.1 rfl (Nat.le_of_ble_eq_true rfl) dX11_fielded_86 ⟨Nat.zero_le _, Nat.zero_le _⟩ (fun r70 σ69 τ69 H locs h69 hP hS => ?_)
              obtain ⟨rfl, f71, f72, I73, h69⟩ := h69
              obtain ⟨i74, w75, w76⟩ : (0 ≤ (σ69 31 8).toInt ∧ (σ69 31 8).toInt ≤ 350) ∧ (∀ k : Nat, k < 1400 → (-1) ≤ (σ69 33 k).toInt ∧ (σ69 33 k).toInt ≤ 350) ∧ (∀ k : Nat, k < 1024 → 0 ≤ (σ69 36 k).toInt ∧ (σ69 36 k).toInt ≤ 349) := id I73
              refine lv_istore (lv' := [(7, .int r70), (6, .int x47), (5, .int x46), (4, .int x45), (3, .int r29), (0, .ref (ad 0)), (1, .int a1), (2, .int a2)]) hx hb dX11_fielded_89 hl (by decide) rfl (fun ls hl => ?_)
              refine lv_iload hx hb dX11_fielded_91 (lv_at hl 0 rfl) ?_
              refine lv_iload hx hb dX11_fielded_93 (lv_at hl 2 rfl) ?_
              refine lv_icmp_ge (tgt := 106) hx hb dX11_fielded_95 (by decide) (fun c77 => ?_) (fun c77 => ?_)
              · have kc77 := jle c77 rfl rfl
                obtain ⟨x78, ex78⟩ : ∃ y : Int32, y = x47 + 1 := ⟨_, rfl⟩
                have tx78 : x78.toInt = x47.toInt + 1 := (jadd ex78 rfl jz_1 (by omega) (by omega)).trans (by omega)
                refine lv_iinc (v := x78) (lv' := [(6, .int x78), (7, .int r70), (5, .int x46), (4, .int x45), (3, .int r29), (0, .ref (ad 0)), (1, .int a1), (2, .int a2)]) hx hb dX11_fielded_106 hl (k := 1) rfl (by rw [ex78]; rfl) (by decide) rfl (fun ls hl => ?_)
                refine lv_goto (tgt := 76) hx hb dX11_fielded_109 (by decide) ?_
                exact ihlp43 x45 x46 x78 σ69 _ _ ls (by have h92 := tx78; omega) (by have h92 := tx78; omega) (by have h92 := tx78; omega) (by have h92 := tx78; omega) (fun i hi => by rw [f71 i (by omega), f54 i hi]) (fun k hk => by rw [f72 k (by omega), f55 k hk])  w75 w76 hP hS (lv_sub hl [0, 2, 3, 4, 5, 6, 7] rfl)
              · have kc77 := jnle c77 rfl rfl
                refine lv_iload hx hb dX11_fielded_98 (lv_at hl 1 rfl) ?_
                refine lv_istore (lv' := [(4, .int x47), (7, .int r70), (6, .int x47), (5, .int x46), (3, .int r29), (0, .ref (ad 0)), (1, .int a1), (2, .int a2)]) hx hb dX11_fielded_100 hl (by decide) rfl (fun ls hl => ?_)
                refine lv_iload hx hb dX11_fielded_102 (lv_at hl 1 rfl) ?_
                refine lv_istore (lv' := [(5, .int r70), (4, .int x47), (7, .int r70), (6, .int x47), (3, .int r29), (0, .ref (ad 0)), (1, .int a1), (2, .int a2)]) hx hb dX11_fielded_104 hl (by decide) rfl (fun ls hl => ?_)
                obtain ⟨x79, ex79⟩ : ∃ y : Int32, y = x47 + 1 := ⟨_, rfl⟩
                have tx79 : x79.toInt = x47.toInt + 1 := (jadd ex79 rfl jz_1 (by omega) (by omega)).trans (by omega)
                refine lv_iinc (v := x79) (lv' := [(6, .int x79), (5, .int r70), (4, .int x47), (7, .int r70), (3, .int r29), (0, .ref (ad 0)), (1, .int a1), (2, .int a2)]) hx hb dX11_fielded_106 hl (k := 3) rfl (by rw [ex79]; rfl) (by decide) rfl (fun ls hl => ?_)
                refine lv_goto (tgt := 76) hx hb dX11_fielded_109 (by decide) ?_
                exact ihlp43 x47 r70 x79 σ69 _ _ ls (by have h92 := tx79; omega) (by have h92 := tx79; omega) (by have h92 := tx79; omega) (by have h92 := tx79; omega) (fun i hi => by rw [f71 i (by omega), f54 i hi]) (fun k hk => by rw [f72 k (by omega), f55 k hk])  w75 w76 hP hS (lv_sub hl [0, 1, 2, 4, 5, 6, 7] rfl)
        exact lp43 1000000 0 r35 1 σ34 _ _ ls (by have h90 := jz_0; have h92 := jz_1; omega) (by have h90 := jz_0; have h92 := jz_1; omega) (by have h90 := jz_0; have h92 := jz_1; omega) (by have h90 := jz_0; have h92 := jz_1; omega) (fun _ _ => rfl) (fun _ _ => rfl)  w40 w41 hP hS hl
      · have kc26 := jnle c26 rfl jz_8
        refine lv_bipush (v := (-4)) hx hb dX11_fielded_36 (by decide) ?_
        have I80 : jI31 σ := ⟨(by omega), w14, w15⟩
        exact hret (-4) σ τ _ _ _ _ rfl ⟨rfl, (fun _ _ => rfl), (fun _ _ => rfl), I80, trivial⟩ hP hS dX11_fielded_38
    · have kc25 := jeq c25 t2 jz_0
      refine lv_iload_n hx hb dX11_fielded_13 rfl (lv_at hl 1 rfl) ?_
      refine lv_iconst (v := 0) hx hb dX11_fielded_14 (by decide) ?_
      refine lv_iconst (v := 3) hx hb dX11_fielded_15 (by decide) ?_
      refine jcallS (As := [.int a1, .int 0, .int 3]) (rest := []) ⟨hx, hb, hml, hown, hts⟩ hK hP hA hS hZ (c_X11_outside l D cI cL ad zz hJ σ τ a1 (A1) t1 0 (0) jz_0 3 (3) jz_3) cw_RX11_94 ⟨Nat.le_of_ble_eq_true rfl, Nat.le_of_ble_eq_true rfl⟩ rfl rfl rfl hl.1 rfl (Nat.le_of_ble_eq_true rfl) dX11_fielded_16 ⟨Nat.zero_le _, Nat.zero_le _⟩ (fun r82 σ81 τ81 H locs h81 hP hS => ?_)
      obtain ⟨⟨rfl, rfl⟩, h81⟩ := h81
      rcases h81 with h83 | h84
      · obtain ⟨q86, k85⟩ := h83
        have q86 := q86.symm
        subst q86
        refine lv_if_eq (tgt := 24) hx hb dX11_fielded_19 (by decide) (fun c => absurd c (by decide)) (fun _ => ?_)
        refine lv_iconst (v := (-1)) hx hb dX11_fielded_22 (by decide) ?_
        have I87 : jI31 σ := ⟨(by omega), w14, w15⟩
        exact hret (-1) σ τ _ _ _ _ rfl ⟨rfl, (fun _ _ => rfl), (fun _ _ => rfl), I87, trivial⟩ hP hS dX11_fielded_23
      · obtain ⟨q89, k88⟩ := h84
        have q89 := q89.symm
        subst q89
        refine lv_if_eq (tgt := 24) hx hb dX11_fielded_19 (by decide) (fun _ => ?_) (fun c => absurd (by decide) c)
        refine lv_aload_n hx hb dX11_fielded_24 rfl (lv_at hl 0 rfl) ?_
        refine va_get (D := D) hx hb hts inlX11 hown hK hP 0 (jc_0 cI cL ad σ τ) rfl 2 (by decide) (hts _ kw_2_0) (fun _ h9 => h9) rfl dX11_fielded_25 ?_
        refine va_get (D := D) hx hb hts inlX6 hown hK hP 16 (jc_16 cI cL ad σ τ) rfl 1 (by decide) (hts _ kw_20_5) (fun _ h9 => h9) rfl dX11_fielded_28 ?_
        refine lv_bipush (v := 8) hx hb dX11_fielded_31 (by decide) ?_
        refine lv_icmp_le (tgt := 39) hx hb dX11_fielded_33 (by decide) (fun c90 => ?_) (fun c90 => ?_)
        · have kc90 := jle c90 rfl jz_8
          refine lv_aload_n hx hb dX11_fielded_39 rfl (lv_at hl 0 rfl) ?_
          refine va_get (D := D) hx hb hts inlX11 hown hK hP 0 (jc_0 cI cL ad σ τ) rfl 0 (by decide) (hts _ kw_1_16) (fun _ h9 => h9) rfl dX11_fielded_40 ?_
          have I91 : jI2 σ := ⟨(by omega), (by omega), (by omega), (by omega), (by omega), w6⟩
          refine jcallV (As := []) (rest := []) ⟨hx, hb, hml, hown, hts⟩ hK hP hA hS hZ (c_X4_freshAttack_2 l D cI cL ad zz hJ σ τ I91) cw_RX11_204 (jc_2 cI cL ad σ τ) rfl ⟨Nat.le_of_ble_eq_true rfl, Nat.le_of_ble_eq_true rfl⟩ rfl rfl rfl hl.1 rfl (Nat.le_of_ble_eq_true rfl) dX11_fielded_43 ⟨Nat.zero_le _, Nat.zero_le _⟩ (fun r93 σ92 τ92 H locs h92 hP hS => ?_)
          obtain ⟨⟨rfl, rfl⟩, h92⟩ := h92
          refine lv_istore_n (lv' := [(3, .int r93), (0, .ref (ad 0)), (1, .int a1), (2, .int a2)]) hx hb dX11_fielded_46 rfl hl (by decide) rfl (fun ls hl => ?_)
          refine lv_iconst (v := 0) hx hb dX11_fielded_47 (by decide) ?_
          refine lv_istore (lv' := [(4, .int 0), (3, .int r93), (0, .ref (ad 0)), (1, .int a1), (2, .int a2)]) hx hb dX11_fielded_48 hl (by decide) rfl (fun ls hl => ?_)
          refine lv_aload_n hx hb dX11_fielded_50 rfl (lv_at hl 2 rfl) ?_
          refine lv_iload_n hx hb dX11_fielded_51 rfl (lv_at hl 1 rfl) ?_
          refine lv_iload_n hx hb dX11_fielded_52 rfl (lv_at hl 4 rfl) ?_
          refine lv_if_ne (tgt := 60) hx hb dX11_fielded_53 (by decide) (fun c => absurd (jne c t2 jz_0) (by omega)) (fun c94 => ?_)
          have kc94 := jeq c94 t2 jz_0
          refine lv_iload_n hx hb dX11_fielded_56 rfl (lv_at hl 3 rfl) ?_
          refine lv_goto (tgt := 61) hx hb dX11_fielded_57 (by decide) ?_
          have I95 : jI16 σ := ⟨(by omega), (by omega), (by omega), w10⟩
          have I96 : jI22 σ := ⟨(by omega), w12⟩
          have I97 : jI31 σ := ⟨(by omega), w14, w15⟩
          refine jcallV (As := [.int r93, .int a1]) (rest := []) ⟨hx, hb, hml, hown, hts⟩ hK hP hA hS hZ (c_X11_bestOf l D cI cL ad zz hJ σ τ r93 (r93.toInt) rfl a1 (A1) t1 I95 I96 I97) cw_RX11_226 (jc_0 cI cL ad σ τ) rfl ⟨Nat.le_of_ble_eq_true rfl, Nat.le_of_ble_eq_true rfl⟩ rfl rfl rfl hl.1 rfl (Nat.le_of_ble_eq_true rfl) dX11_fielded_61 ⟨Nat.zero_le _, Nat.zero_le _⟩ (fun r99 σ98 τ98 H locs h98 hP hS => ?_)
          obtain ⟨rfl, f100, f101, I102, h98⟩ := h98
          obtain ⟨i103, w104, w105⟩ : (0 ≤ (σ98 31 8).toInt ∧ (σ98 31 8).toInt ≤ 350) ∧ (∀ k : Nat, k < 1400 → (-1) ≤ (σ98 33 k).toInt ∧ (σ98 33 k).toInt ≤ 350) ∧ (∀ k : Nat, k < 1024 → 0 ≤ (σ98 36 k).toInt ∧ (σ98 36 k).toInt ≤ 349) := id I102
          refine lv_istore (lv' := [(5, .int r99), (4, .int 0), (3, .int r93), (0, .ref (ad 0)), (1, .int a1), (2, .int a2)]) hx hb dX11_fielded_64 hl (by decide) rfl (fun ls hl => ?_)
          refine lv_iload_n hx hb dX11_fielded_66 rfl (lv_at hl 5 rfl) ?_
          refine lv_if_ne (tgt := 73) hx hb dX11_fielded_67 (by decide) (fun c => absurd (jne c t2 jz_0) (by omega)) (fun c106 => ?_)
          have kc106 := jeq c106 t2 jz_0
          refine lv_iload hx hb dX11_fielded_70 (lv_at hl 0 rfl) ?_
          exact hret r99 σ98 τ _ _ _ _ rfl ⟨rfl, (fun i hi => by rw [f100 i (by omega)]), (fun k hk => by rw [f101 k (by omega)]), I102, trivial⟩ hP hS dX11_fielded_72
        · have kc90 := jnle c90 rfl jz_8
          refine lv_bipush (v := (-4)) hx hb dX11_fielded_36 (by decide) ?_
          have I107 : jI31 σ := ⟨(by omega), w14, w15⟩
          exact hret (-4) σ τ _ _ _ _ rfl ⟨rfl, (fun _ _ => rfl), (fun _ _ => rfl), I107, trivial⟩ hP hS dX11_fielded_38
set_option maxHeartbeats 4000000 in
set_option maxRecDepth 100000 in
theorem c_X11_kept (l : Launch) (D : va_G) (cI cL : ClassId) (ad zz : Nat → Nat) (hJ : jD ad) (σ : Nat → Nat → Int32) (τ : Nat → Nat → Int64) (a1 : Int32) (A1 : Int) (t1 : a1.toInt = A1) (hI2 : jI2 σ) (hI16 : jI16 σ) (hI22 : jI22 σ) (hI31 : jI31 σ) : jM l yX11_kept cX11_kept 5 (some .int) ({ frames := 7, cells := 0, slots := 0, locals := 184 }) D cI cL ad zz [.ref (ad 0), .int a1] σ τ (fun r σ' τ' => τ = τ' ∧ (∀ i : Nat, (i < 24 ∨ 25 < i) ∧ (i < 27 ∨ 37 < i) → σ' i = σ i) ∧ (∀ k : Nat, (k < 8 ∨ 8 < k) ∧ (k < 9 ∨ 9 < k) ∧ (k < 10 ∨ 10 < k) ∧ (k < 11 ∨ 11 < k) ∧ (k < 12 ∨ 12 < k) → σ' 31 k = σ 31 k) ∧ (jI31 σ') ∧ True) := by
  refine jM.of hJ (by decide +kernel) (nt := .int) rfl (Nat.le_of_ble_eq_true rfl) ?_
  intro p e s m args below meth c Q ls hC hret hl hP
  obtain ⟨hx, hb, hr, hml, hown, hts, hK, -, hlocks, hZ⟩ := hC
  have hown : s.vm.findClass RX11 = some m.cls := hown
  have hS : va_S (jA ad) s.heap s.heap [] := va_S.rf
  have hA : ∀ q, jA ad q → jA ad q := fun _ h => h
  have hl : lv_has ls 5 [(0, .ref (ad 0)), (1, .int a1)] := hl
  have g1 := jrg t1
  obtain ⟨i1, i2, i3, i4, i5, w6⟩ : (0 ≤ (σ 2 0).toInt ∧ (σ 2 0).toInt ≤ 4) ∧ (0 ≤ (σ 2 1).toInt ∧ (σ 2 1).toInt ≤ 3) ∧ (0 ≤ (σ 2 2).toInt) ∧ (0 ≤ (σ 2 3).toInt) ∧ ((σ 2 2).toInt + (σ 2 3).toInt ≤ 40) ∧ (∀ k : Nat, k < 40 → 0 ≤ (σ 6 k).toInt ∧ (σ 6 k).toInt ≤ 67) := id hI2
  obtain ⟨i7, i8, i9, w10⟩ : (1 ≤ (σ 16 0).toInt ∧ (σ 16 0).toInt ≤ 8) ∧ (1 ≤ (σ 16 1).toInt ∧ (σ 16 1).toInt ≤ 12) ∧ (0 ≤ (σ 16 2).toInt ∧ (σ 16 2).toInt ≤ 999) ∧ (∀ k : Nat, k < 8 → 0 ≤ (σ 17 k).toInt ∧ (σ 17 k).toInt ≤ 3) := id hI16
  obtain ⟨i11, w12⟩ : (0 ≤ (σ 22 0).toInt ∧ (σ 22 0).toInt ≤ 160) ∧ (∀ k : Nat, k < 160 → 0 ≤ (σ 23 k).toInt ∧ (σ 23 k).toInt ≤ 30000) := id hI22
  obtain ⟨i13, w14, w15⟩ : (0 ≤ (σ 31 8).toInt ∧ (σ 31 8).toInt ≤ 350) ∧ (∀ k : Nat, k < 1400 → (-1) ≤ (σ 33 k).toInt ∧ (σ 33 k).toInt ≤ 350) ∧ (∀ k : Nat, k < 1024 → 0 ≤ (σ 36 k).toInt ∧ (σ 36 k).toInt ≤ 349) := id hI31
  refine lv_aload_n hx hb dX11_kept_0 rfl (lv_at hl 0 rfl) ?_
  refine lv_iload_n hx hb dX11_kept_1 rfl (lv_at hl 1 rfl) ?_
  have I16 : jI2 σ := ⟨(by omega), (by omega), (by omega), (by omega), (by omega), w6⟩
  refine jcallV (As := [.int a1]) (rest := []) ⟨hx, hb, hml, hown, hts⟩ hK hP hA hS hZ (c_X11_noBowler l D cI cL ad zz hJ σ τ a1 (A1) t1 I16) cw_RX11_152 (jc_0 cI cL ad σ τ) rfl ⟨Nat.le_of_ble_eq_true rfl, Nat.le_of_ble_eq_true rfl⟩ rfl rfl rfl hl.1 rfl (Nat.le_of_ble_eq_true rfl) dX11_kept_2 ⟨Nat.zero_le _, Nat.zero_le _⟩ (fun r18 σ17 τ17 H locs h17 hP hS => ?_)
  obtain ⟨⟨rfl, rfl⟩, h17⟩ := h17
  rcases h17 with h19 | h20
  · obtain ⟨q22, k21⟩ := h19
    have q22 := q22.symm
    subst q22
    refine lv_if_eq (tgt := 10) hx hb dX11_kept_5 (by decide) (fun c => absurd c (by decide)) (fun _ => ?_)
    refine lv_iconst (v := (-1)) hx hb dX11_kept_8 (by decide) ?_
    have I23 : jI31 σ := ⟨(by omega), w14, w15⟩
    exact hret (-1) σ τ _ _ _ _ rfl ⟨rfl, (fun _ _ => rfl), (fun _ _ => rfl), I23, trivial⟩ hP hS dX11_kept_9
  · obtain ⟨q25, k24⟩ := h20
    have q25 := q25.symm
    subst q25
    refine lv_if_eq (tgt := 10) hx hb dX11_kept_5 (by decide) (fun _ => ?_) (fun c => absurd (by decide) c)
    refine lv_aload_n hx hb dX11_kept_10 rfl (lv_at hl 0 rfl) ?_
    refine va_get (D := D) hx hb hts inlX11 hown hK hP 0 (jc_0 cI cL ad σ τ) rfl 2 (by decide) (hts _ kw_2_0) (fun _ h9 => h9) rfl dX11_kept_11 ?_
    refine va_get (D := D) hx hb hts inlX6 hown hK hP 16 (jc_16 cI cL ad σ τ) rfl 1 (by decide) (hts _ kw_20_5) (fun _ h9 => h9) rfl dX11_kept_14 ?_
    refine lv_bipush (v := 8) hx hb dX11_kept_17 (by decide) ?_
    refine lv_icmp_le (tgt := 25) hx hb dX11_kept_19 (by decide) (fun c26 => ?_) (fun c26 => ?_)
    · have kc26 := jle c26 rfl jz_8
      refine lv_aload_n hx hb dX11_kept_25 rfl (lv_at hl 0 rfl) ?_
      refine va_get (D := D) hx hb hts inlX11 hown hK hP 0 (jc_0 cI cL ad σ τ) rfl 0 (by decide) (hts _ kw_1_16) (fun _ h9 => h9) rfl dX11_kept_26 ?_
      refine jcallV (As := []) (rest := []) ⟨hx, hb, hml, hown, hts⟩ hK hP hA hS hZ (c_X4_freshAttack_2 l D cI cL ad zz hJ σ τ I16) cw_RX11_204 (jc_2 cI cL ad σ τ) rfl ⟨Nat.le_of_ble_eq_true rfl, Nat.le_of_ble_eq_true rfl⟩ rfl rfl rfl hl.1 rfl (Nat.le_of_ble_eq_true rfl) dX11_kept_29 ⟨Nat.zero_le _, Nat.zero_le _⟩ (fun r28 σ27 τ27 H locs h27 hP hS => ?_)
      obtain ⟨⟨rfl, rfl⟩, h27⟩ := h27
      refine lv_istore_n (lv' := [(2, .int r28), (0, .ref (ad 0)), (1, .int a1)]) hx hb dX11_kept_32 rfl hl (by decide) rfl (fun ls hl => ?_)
      refine lv_aload_n hx hb dX11_kept_33 rfl (lv_at hl 1 rfl) ?_
      refine lv_iload_n hx hb dX11_kept_34 rfl (lv_at hl 0 rfl) ?_
      refine lv_aload_n hx hb dX11_kept_35 rfl (lv_at hl 1 rfl) ?_
      refine va_get (D := D) hx hb hts inlX11 hown hK hP 0 (jc_0 cI cL ad σ τ) rfl 0 (by decide) (hts _ kw_1_16) (fun _ h9 => h9) rfl dX11_kept_36 ?_
      refine va_get (D := D) hx hb hts inlX4 hown hK hP 2 (jc_2 cI cL ad σ τ) rfl 1 (by decide) (hts _ kw_12_8) (fun _ h9 => h9) rfl dX11_kept_39 ?_
      have I29 : jI16 σ := ⟨(by omega), (by omega), (by omega), w10⟩
      have I30 : jI22 σ := ⟨(by omega), w12⟩
      have I31 : jI31 σ := ⟨(by omega), w14, w15⟩
      refine jcallV (As := [.int r28, .int (σ 2 1)]) (rest := []) ⟨hx, hb, hml, hown, hts⟩ hK hP hA hS hZ (c_X11_bestOf l D cI cL ad zz hJ σ τ r28 (r28.toInt) rfl (σ 2 1) ((σ 2 1).toInt) rfl I29 I30 I31) cw_RX11_226 (jc_0 cI cL ad σ τ) rfl ⟨Nat.le_of_ble_eq_true rfl, Nat.le_of_ble_eq_true rfl⟩ rfl rfl rfl hl.1 rfl (Nat.le_of_ble_eq_true rfl) dX11_kept_42 ⟨Nat.zero_le _, Nat.zero_le _⟩ (fun r33 σ32 τ32 H locs h32 hP hS => ?_)
      obtain ⟨rfl, f34, f35, I36, h32⟩ := h32
      obtain ⟨i37, w38, w39⟩ : (0 ≤ (σ32 31 8).toInt ∧ (σ32 31 8).toInt ≤ 350) ∧ (∀ k : Nat, k < 1400 → (-1) ≤ (σ32 33 k).toInt ∧ (σ32 33 k).toInt ≤ 350) ∧ (∀ k : Nat, k < 1024 → 0 ≤ (σ32 36 k).toInt ∧ (σ32 36 k).toInt ≤ 349) := id I36
      refine lv_pop hx hb dX11_kept_45 rfl ?_
      refine lv_iconst (v := 0) hx hb dX11_kept_46 (by decide) ?_
      refine lv_istore_n (lv' := [(3, .int 0), (2, .int r28), (0, .ref (ad 0)), (1, .int a1)]) hx hb dX11_kept_47 rfl hl (by decide) rfl (fun ls hl => ?_)
      have z45 : (σ32 16 1).toInt = (σ 16 1).toInt := by rw [(show σ32 16 1 = (σ 16 1) from (by rw [f34 16 (by omega)]))]
      have lp40 : ∀ (n41 : Nat) (x42 : Int32) (x43 : Int32) (H : Heap) (locs : List Loc) (ls : Array Slot), ((σ32 16 1).toInt - x43.toInt : Int) < n41 → 0 ≤ x43.toInt → x43.toInt ≤ 12 → x43.toInt ≤ (σ32 16 1).toInt → jH D cI cL ad σ32 τ H → va_S (jA ad) s.heap H locs → lv_has ls 5 [(3, .int x43), (2, .int x42), (0, .ref (ad 0)), (1, .int a1)] → W p l e ({ frames := 7, cells := 0, slots := 0, locals := 184 }) s m args below meth c H locs 0 0 Q (F0 m 48 ls []) := by
        intro n41
        induction n41 with
        | zero => intro x42 x43 H locs ls h46 h47 h48 h49; have gx42 := jrg (rfl : x42.toInt = x42.toInt); exact absurd h46 (by omega)
        | succ n41 ihlp40 =>
          intro x42 x43 H locs ls h46 h47 h48 h49 hP hS hl
          have gx42 := jrg (rfl : x42.toInt = x42.toInt)
          refine lv_iload_n hx hb dX11_kept_48 rfl (lv_at hl 0 rfl) ?_
          refine lv_aload_n hx hb dX11_kept_49 rfl (lv_at hl 2 rfl) ?_
          refine va_get (D := D) hx hb hts inlX11 hown hK hP 0 (jc_0 cI cL ad σ32 τ) rfl 2 (by decide) (hts _ kw_2_0) (fun _ h9 => h9) rfl dX11_kept_50 ?_
          refine va_get (D := D) hx hb hts inlX6 hown hK hP 16 (jc_16 cI cL ad σ32 τ) rfl 1 (by decide) (hts _ kw_20_5) (fun _ h9 => h9) rfl dX11_kept_53 ?_
          have m51 : σ32 16 1 = (σ 16 1) := (by rw [f34 16 (by omega)])
          refine jtopr m51 ?_
          refine lv_icmp_ge (tgt := 112) hx hb dX11_kept_56 (by decide) (fun c52 => ?_) (fun c52 => ?_)
          · have kc52 := jle c52 rfl rfl
            refine lv_bipush (v := (-2)) hx hb dX11_kept_112 (by decide) ?_
            exact hret (-2) σ32 τ _ _ _ _ rfl ⟨rfl, (fun i hi => by rw [f34 i (by omega)]), (fun k hk => by rw [f35 k (by omega)]), I36, trivial⟩ hP hS dX11_kept_114
          · have kc52 := jnle c52 rfl rfl
            refine lv_aload_n hx hb dX11_kept_59 rfl (lv_at hl 2 rfl) ?_
            refine va_get (D := D) hx hb hts inlX11 hown hK hP 0 (jc_0 cI cL ad σ32 τ) rfl 2 (by decide) (hts _ kw_2_0) (fun _ h9 => h9) rfl dX11_kept_60 ?_
            refine lv_iload_n hx hb dX11_kept_63 rfl (lv_at hl 0 rfl) ?_
            refine lv_iconst (v := 0) hx hb dX11_kept_64 (by decide) ?_
            refine lv_iload_n hx hb dX11_kept_65 rfl (lv_at hl 1 rfl) ?_
            refine jcallV (As := [.int x43, .int 0, .int x42]) (rest := []) ⟨hx, hb, hml, hown, hts⟩ hK hP hA hS hZ (c_X6_ended_16 l D cI cL ad zz hJ σ32 τ x43 (x43.toInt) rfl 0 (0) jz_0 x42 (x42.toInt) rfl) cw_RX11_190 (jc_16 cI cL ad σ32 τ) rfl ⟨Nat.le_of_ble_eq_true rfl, Nat.le_of_ble_eq_true rfl⟩ rfl rfl rfl hl.1 rfl (Nat.le_of_ble_eq_true rfl) dX11_kept_66 ⟨Nat.zero_le _, Nat.zero_le _⟩ (fun r54 σ53 τ53 H locs h53 hP hS => ?_)
            obtain ⟨⟨rfl, rfl⟩, h53⟩ := h53
            refine lv_if_ne (tgt := 112) hx hb dX11_kept_69 (by decide) (fun c55 => ?_) (fun c55 => ?_)
            · have kc55 := jne c55 rfl jz_0
              refine lv_bipush (v := (-2)) hx hb dX11_kept_112 (by decide) ?_
              exact hret (-2) σ32 τ _ _ _ _ rfl ⟨rfl, (fun i hi => by rw [f34 i (by omega)]), (fun k hk => by rw [f35 k (by omega)]), I36, trivial⟩ hP hS dX11_kept_114
            · have kc55 := jeq c55 rfl jz_0
              refine lv_aload_n hx hb dX11_kept_72 rfl (lv_at hl 2 rfl) ?_
              refine va_get (D := D) hx hb hts inlX11 hown hK hP 0 (jc_0 cI cL ad σ32 τ) rfl 6 (by decide) (hts _ kw_2_13) (fun _ h9 => h9) rfl dX11_kept_73 ?_
              refine lv_aload_n hx hb dX11_kept_76 rfl (lv_at hl 2 rfl) ?_
              refine va_get (D := D) hx hb hts inlX11 hown hK hP 0 (jc_0 cI cL ad σ32 τ) rfl 6 (by decide) (hts _ kw_2_13) (fun _ h9 => h9) rfl dX11_kept_77 ?_
              refine lv_iload_n hx hb dX11_kept_80 rfl (lv_at hl 1 rfl) ?_
              refine lv_iload_n hx hb dX11_kept_81 rfl (lv_at hl 0 rfl) ?_
              refine jcallV (As := [.int x42, .int x43]) (rest := [.ref (ad 31)]) ⟨hx, hb, hml, hown, hts⟩ hK hP hA hS hZ (c_X1_nodeOf_31 l D cI cL ad zz hJ σ32 τ x42 (x42.toInt) rfl x43 (x43.toInt) rfl I36) cw_RX11_229 (jc_31 cI cL ad σ32 τ) rfl ⟨Nat.le_of_ble_eq_true rfl, Nat.le_of_ble_eq_true rfl⟩ rfl rfl rfl hl.1 rfl (Nat.le_of_ble_eq_true rfl) dX11_kept_82 ⟨Nat.zero_le _, Nat.zero_le _⟩ (fun r57 σ56 τ56 H locs h56 hP hS => ?_)
              obtain ⟨⟨rfl, rfl⟩, h56⟩ := h56
              have h58 := h56
              obtain ⟨q60, k59⟩ := h58
              refine lv_iconst (v := 0) hx hb dX11_kept_85 (by decide) ?_
              have z61 : (σ32 16 0).toInt = (σ 16 0).toInt := by rw [(show σ32 16 0 = (σ 16 0) from (by rw [f34 16 (by omega)]))]
              have z62 : (σ32 16 2).toInt = (σ 16 2).toInt := by rw [(show σ32 16 2 = (σ 16 2) from (by rw [f34 16 (by omega)]))]
              have w63 : ∀ k : Nat, k < 8 → 0 ≤ (σ32 17 k).toInt ∧ (σ32 17 k).toInt ≤ 3 := (by rw [f34 17 (by omega)]; exact w10)
              have I64 : jI16 σ32 := ⟨(by omega), (by omega), (by omega), w63⟩
              refine jcallV (As := [.int r57, .int 0]) (rest := []) ⟨hx, hb, hml, hown, hts⟩ hK hP hA hS hZ (c_X1_whomAt_31 l D cI cL ad zz hJ σ32 τ r57 (r57.toInt) rfl 0 (0) jz_0 I64 I36) cw_RX11_218 (jc_31 cI cL ad σ32 τ) rfl ⟨Nat.le_of_ble_eq_true rfl, Nat.le_of_ble_eq_true rfl⟩ rfl rfl rfl hl.1 rfl (Nat.le_of_ble_eq_true rfl) dX11_kept_86 ⟨Nat.zero_le _, Nat.zero_le _⟩ (fun r66 σ65 τ65 H locs h65 hP hS => ?_)
              obtain ⟨⟨rfl, rfl⟩, h65⟩ := h65
              refine lv_istore (lv' := [(4, .int r66), (3, .int x43), (2, .int x42), (0, .ref (ad 0)), (1, .int a1)]) hx hb dX11_kept_89 hl (by decide) rfl (fun ls hl => ?_)
              refine lv_iload hx hb dX11_kept_91 (lv_at hl 0 rfl) ?_
              refine lv_iload_n hx hb dX11_kept_93 rfl (lv_at hl 4 rfl) ?_
              refine lv_icmp_ne (tgt := 99) hx hb dX11_kept_94 (by decide) (fun c67 => ?_) (fun c67 => ?_)
              · have kc67 := jne c67 rfl t1
                refine lv_iload_n hx hb dX11_kept_99 rfl (lv_at hl 2 rfl) ?_
                refine lv_iload hx hb dX11_kept_100 (lv_at hl 0 rfl) ?_
                refine jcallS (As := [.int x42, .int r66]) (rest := []) ⟨hx, hb, hml, hown, hts⟩ hK hP hA hS hZ (c_X0_after l D cI cL ad zz hJ σ32 τ x42 (x42.toInt) rfl r66 (r66.toInt) rfl) cw_RX11_232 ⟨Nat.le_of_ble_eq_true rfl, Nat.le_of_ble_eq_true rfl⟩ rfl rfl rfl hl.1 rfl (Nat.le_of_ble_eq_true rfl) dX11_kept_102 ⟨Nat.zero_le _, Nat.zero_le _⟩ (fun r69 σ68 τ68 H locs h68 hP hS => ?_)
                obtain ⟨⟨rfl, rfl⟩, h68⟩ := h68
                refine lv_istore_n (lv' := [(2, .int r69), (4, .int r66), (3, .int x43), (0, .ref (ad 0)), (1, .int a1)]) hx hb dX11_kept_105 rfl hl (by decide) rfl (fun ls hl => ?_)
                obtain ⟨x70, ex70⟩ : ∃ y : Int32, y = x43 + 1 := ⟨_, rfl⟩
                have tx70 : x70.toInt = x43.toInt + 1 := (jadd ex70 rfl jz_1 (by omega) (by omega)).trans (by omega)
                refine lv_iinc (v := x70) (lv' := [(3, .int x70), (2, .int r69), (4, .int r66), (0, .ref (ad 0)), (1, .int a1)]) hx hb dX11_kept_106 hl (k := 2) rfl (by rw [ex70]; rfl) (by decide) rfl (fun ls hl => ?_)
                refine lv_goto (tgt := 48) hx hb dX11_kept_109 (by decide) ?_
                exact ihlp40 r69 x70 _ _ ls (by have h91 := tx70; omega) (by have h91 := tx70; omega) (by have h91 := tx70; omega) (by have h91 := tx70; omega)    hP hS (lv_sub hl [0, 1, 3, 4] rfl)
              · have kc67 := jeq c67 rfl t1
                refine lv_iload_n hx hb dX11_kept_97 rfl (lv_at hl 1 rfl) ?_
                exact hret x43 σ32 τ _ _ _ _ rfl ⟨rfl, (fun i hi => by rw [f34 i (by omega)]), (fun k hk => by rw [f35 k (by omega)]), I36, trivial⟩ hP hS dX11_kept_98
      exact lp40 1000000 r28 0 _ _ ls (by have h91 := jz_0; omega) (by have h91 := jz_0; omega) (by have h91 := jz_0; omega) (by have h91 := jz_0; omega)   hP hS hl
    · have kc26 := jnle c26 rfl jz_8
      refine lv_bipush (v := (-4)) hx hb dX11_kept_22 (by decide) ?_
      have I71 : jI31 σ := ⟨(by omega), w14, w15⟩
      exact hret (-4) σ τ _ _ _ _ rfl ⟨rfl, (fun _ _ => rfl), (fun _ _ => rfl), I71, trivial⟩ hP hS dX11_kept_24
set_option maxHeartbeats 4000000 in
set_option maxRecDepth 100000 in
theorem c_X11_turnOrder (l : Launch) (D : va_G) (cI cL : ClassId) (ad zz : Nat → Nat) (hJ : jD ad) (σ : Nat → Nat → Int32) (τ : Nat → Nat → Int64) (a1 : Int32) (A1 : Int) (t1 : a1.toInt = A1) (hI2 : jI2 σ) (hI16 : jI16 σ) (hI22 : jI22 σ) (hI31 : jI31 σ) : jM l yX11_turnOrder cX11_turnOrder 9 (some .int) ({ frames := 5, cells := 0, slots := 0, locals := 139 }) D cI cL ad zz [.ref (ad 0), .int a1] σ τ (fun r σ' τ' => τ = τ' ∧ (∀ i : Nat, (i < 1 ∨ 1 < i) ∧ (i < 24 ∨ 25 < i) ∧ (i < 27 ∨ 37 < i) → σ' i = σ i) ∧ (∀ k : Nat, (k < 8 ∨ 8 < k) ∧ (k < 9 ∨ 9 < k) ∧ (k < 10 ∨ 10 < k) ∧ (k < 11 ∨ 11 < k) ∧ (k < 12 ∨ 12 < k) → σ' 31 k = σ 31 k) ∧ (jI31 σ') ∧ True) := by
  refine jM.of hJ (by decide +kernel) (nt := .int) rfl (Nat.le_of_ble_eq_true rfl) ?_
  intro p e s m args below meth c Q ls hC hret hl hP
  obtain ⟨hx, hb, hr, hml, hown, hts, hK, -, hlocks, hZ⟩ := hC
  have hown : s.vm.findClass RX11 = some m.cls := hown
  have hS : va_S (jA ad) s.heap s.heap [] := va_S.rf
  have hA : ∀ q, jA ad q → jA ad q := fun _ h => h
  have hl : lv_has ls 9 [(0, .ref (ad 0)), (1, .int a1)] := hl
  have g1 := jrg t1
  obtain ⟨i1, i2, i3, i4, i5, w6⟩ : (0 ≤ (σ 2 0).toInt ∧ (σ 2 0).toInt ≤ 4) ∧ (0 ≤ (σ 2 1).toInt ∧ (σ 2 1).toInt ≤ 3) ∧ (0 ≤ (σ 2 2).toInt) ∧ (0 ≤ (σ 2 3).toInt) ∧ ((σ 2 2).toInt + (σ 2 3).toInt ≤ 40) ∧ (∀ k : Nat, k < 40 → 0 ≤ (σ 6 k).toInt ∧ (σ 6 k).toInt ≤ 67) := id hI2
  obtain ⟨i7, i8, i9, w10⟩ : (1 ≤ (σ 16 0).toInt ∧ (σ 16 0).toInt ≤ 8) ∧ (1 ≤ (σ 16 1).toInt ∧ (σ 16 1).toInt ≤ 12) ∧ (0 ≤ (σ 16 2).toInt ∧ (σ 16 2).toInt ≤ 999) ∧ (∀ k : Nat, k < 8 → 0 ≤ (σ 17 k).toInt ∧ (σ 17 k).toInt ≤ 3) := id hI16
  obtain ⟨i11, w12⟩ : (0 ≤ (σ 22 0).toInt ∧ (σ 22 0).toInt ≤ 160) ∧ (∀ k : Nat, k < 160 → 0 ≤ (σ 23 k).toInt ∧ (σ 23 k).toInt ≤ 30000) := id hI22
  obtain ⟨i13, w14, w15⟩ : (0 ≤ (σ 31 8).toInt ∧ (σ 31 8).toInt ≤ 350) ∧ (∀ k : Nat, k < 1400 → (-1) ≤ (σ 33 k).toInt ∧ (σ 33 k).toInt ≤ 350) ∧ (∀ k : Nat, k < 1024 → 0 ≤ (σ 36 k).toInt ∧ (σ 36 k).toInt ≤ 349) := id hI31
  refine lv_aload_n hx hb dX11_turnOrder_0 rfl (lv_at hl 0 rfl) ?_
  refine va_get (D := D) hx hb hts inlX11 hown hK hP 0 (jc_0 cI cL ad σ τ) rfl 0 (by decide) (hts _ kw_1_16) (fun _ h9 => h9) rfl dX11_turnOrder_1 ?_
  have I16 : jI2 σ := ⟨(by omega), (by omega), (by omega), (by omega), (by omega), w6⟩
  refine jcallV (As := []) (rest := []) ⟨hx, hb, hml, hown, hts⟩ hK hP hA hS hZ (c_X4_freshAttack_2 l D cI cL ad zz hJ σ τ I16) cw_RX11_204 (jc_2 cI cL ad σ τ) rfl ⟨Nat.le_of_ble_eq_true rfl, Nat.le_of_ble_eq_true rfl⟩ rfl rfl rfl hl.1 rfl (Nat.le_of_ble_eq_true rfl) dX11_turnOrder_4 ⟨Nat.zero_le _, Nat.zero_le _⟩ (fun r18 σ17 τ17 H locs h17 hP hS => ?_)
  obtain ⟨⟨rfl, rfl⟩, h17⟩ := h17
  refine lv_istore_n (lv' := [(2, .int r18), (0, .ref (ad 0)), (1, .int a1)]) hx hb dX11_turnOrder_7 rfl hl (by decide) rfl (fun ls hl => ?_)
  refine lv_iconst (v := 0) hx hb dX11_turnOrder_8 (by decide) ?_
  refine lv_istore_n (lv' := [(3, .int 0), (2, .int r18), (0, .ref (ad 0)), (1, .int a1)]) hx hb dX11_turnOrder_9 rfl hl (by decide) rfl (fun ls hl => ?_)
  refine lv_iconst (v := (-1)) hx hb dX11_turnOrder_10 (by decide) ?_
  refine lv_istore (lv' := [(4, .int (-1)), (3, .int 0), (2, .int r18), (0, .ref (ad 0)), (1, .int a1)]) hx hb dX11_turnOrder_11 hl (by decide) rfl (fun ls hl => ?_)
  refine lv_aload_n hx hb dX11_turnOrder_13 rfl (lv_at hl 3 rfl) ?_
  refine va_get (D := D) hx hb hts inlX11 hown hK hP 0 (jc_0 cI cL ad σ τ) rfl 2 (by decide) (hts _ kw_2_0) (fun _ h9 => h9) rfl dX11_turnOrder_14 ?_
  refine va_get (D := D) hx hb hts inlX6 hown hK hP 16 (jc_16 cI cL ad σ τ) rfl 0 (by decide) (hts _ kw_13_12) (fun _ h9 => h9) rfl dX11_turnOrder_17 ?_
  refine lv_iconst (v := 1) hx hb dX11_turnOrder_20 (by decide) ?_
  have g19 := jrg (rfl : (σ 16 0).toInt = (σ 16 0).toInt)
  refine lv_isub hx hb dX11_turnOrder_21 ?_
  refine lv_topi (fun x20 ex20 => ?_)
  have tx20 : x20.toInt = (σ 16 0).toInt - 1 := (jsub ex20 rfl jz_1 (by omega) (by omega)).trans (by omega)
  refine lv_istore (lv' := [(5, .int x20), (4, .int (-1)), (3, .int 0), (2, .int r18), (0, .ref (ad 0)), (1, .int a1)]) hx hb dX11_turnOrder_22 hl (by decide) rfl (fun ls hl => ?_)
  refine lv_aload_n hx hb dX11_turnOrder_24 rfl (lv_at hl 4 rfl) ?_
  refine va_get (D := D) hx hb hts inlX11 hown hK hP 0 (jc_0 cI cL ad σ τ) rfl 5 (by decide) (hts _ kw_2_9) (fun _ h9 => h9) rfl dX11_turnOrder_25 ?_
  refine lv_aload_n hx hb dX11_turnOrder_28 rfl (lv_at hl 4 rfl) ?_
  refine va_get (D := D) hx hb hts inlX11 hown hK hP 0 (jc_0 cI cL ad σ τ) rfl 0 (by decide) (hts _ kw_1_16) (fun _ h9 => h9) rfl dX11_turnOrder_29 ?_
  refine va_get (D := D) hx hb hts inlX4 hown hK hP 2 (jc_2 cI cL ad σ τ) rfl 1 (by decide) (hts _ kw_12_8) (fun _ h9 => h9) rfl dX11_turnOrder_32 ?_
  refine jcallVv (As := [.int (σ 2 1)]) (rest := []) ⟨hx, hb, hml, hown, hts⟩ hK hP hA hS hZ (c_X5_lay_26 l D cI cL ad zz hJ σ τ (σ 2 1) ((σ 2 1).toInt) rfl) cw_RX11_156 (jc_26 cI cL ad σ τ) rfl ⟨Nat.le_of_ble_eq_true rfl, Nat.le_of_ble_eq_true rfl⟩ rfl rfl rfl hl.1 rfl (Nat.le_of_ble_eq_true rfl) dX11_turnOrder_35 ⟨Nat.zero_le _, Nat.zero_le _⟩ (fun σ21 τ21 H locs h21 hP hS => ?_)
  obtain ⟨rfl, f23, h21⟩ := h21
  refine lv_aload_n hx hb dX11_turnOrder_38 rfl (lv_at hl 4 rfl) ?_
  refine va_get (D := D) hx hb hts inlX11 hown hK hP 0 (jc_0 cI cL ad σ21 τ) rfl 2 (by decide) (hts _ kw_2_0) (fun _ h9 => h9) rfl dX11_turnOrder_39 ?_
  refine lv_aload_n hx hb dX11_turnOrder_42 rfl (lv_at hl 4 rfl) ?_
  refine va_get (D := D) hx hb hts inlX11 hown hK hP 0 (jc_0 cI cL ad σ21 τ) rfl 11 (by decide) (hts _ kw_3_7) (fun _ h9 => h9) rfl dX11_turnOrder_43 ?_
  have z24 : (σ21 16 0).toInt = (σ 16 0).toInt := by rw [(show σ21 16 0 = (σ 16 0) from (by rw [f23 16 (by omega)]))]
  have z25 : (σ21 16 1).toInt = (σ 16 1).toInt := by rw [(show σ21 16 1 = (σ 16 1) from (by rw [f23 16 (by omega)]))]
  have z26 : (σ21 16 2).toInt = (σ 16 2).toInt := by rw [(show σ21 16 2 = (σ 16 2) from (by rw [f23 16 (by omega)]))]
  have w27 : ∀ k : Nat, k < 8 → 0 ≤ (σ21 17 k).toInt ∧ (σ21 17 k).toInt ≤ 3 := (by rw [f23 17 (by omega)]; exact w10)
  have I28 : jI16 σ21 := ⟨(by omega), (by omega), (by omega), w27⟩
  refine jcallVv (As := [.ref (ad 1)]) (rest := []) ⟨hx, hb, hml, hown, hts⟩ hK hP hA hS hZ (c_X6_sortDown_16 l D cI cL ad zz hJ σ21 τ I28) cw_RX11_328 (jc_16 cI cL ad σ21 τ) rfl ⟨Nat.le_of_ble_eq_true rfl, Nat.le_of_ble_eq_true rfl⟩ rfl rfl rfl hl.1 rfl (Nat.le_of_ble_eq_true rfl) dX11_turnOrder_46 ⟨Nat.zero_le _, Nat.zero_le _⟩ (fun σ29 τ29 H locs h29 hP hS => ?_)
  obtain ⟨rfl, f31, h29⟩ := h29
  refine lv_iconst (v := 0) hx hb dX11_turnOrder_49 (by decide) ?_
  refine lv_istore (lv' := [(6, .int 0), (5, .int x20), (4, .int (-1)), (3, .int 0), (2, .int r18), (0, .ref (ad 0)), (1, .int a1)]) hx hb dX11_turnOrder_50 hl (by decide) rfl (fun ls hl => ?_)
  have z41 : (σ29 31 8).toInt = (σ 31 8).toInt := by rw [(show σ29 31 8 = (σ 31 8) from (by rw [f31 31 (by omega)]; exact (by rw [f23 31 (by omega)])))]
  have w42 : ∀ k : Nat, k < 1400 → (-1) ≤ (σ29 33 k).toInt ∧ (σ29 33 k).toInt ≤ 350 := (by rw [f31 33 (by omega)]; exact (by rw [f23 33 (by omega)]; exact w14))
  have w43 : ∀ k : Nat, k < 1024 → 0 ≤ (σ29 36 k).toInt ∧ (σ29 36 k).toInt ≤ 349 := (by rw [f31 36 (by omega)]; exact (by rw [f23 36 (by omega)]; exact w15))
  have lp32 : ∀ (n33 : Nat) (x34 : Int32) (x35 : Int32) (x36 : Int32) (x37 : Int32) (σ40 : Nat → Nat → Int32) (H : Heap) (locs : List Loc) (ls : Array Slot), (-x37.toInt + 120 : Int) < n33 → 0 ≤ x37.toInt → x37.toInt ≤ 120 → 0 ≤ (σ40 31 8).toInt ∧ (σ40 31 8).toInt ≤ 350 → (∀ i : Nat, (i < 1 ∨ 1 < i) ∧ (i < 24 ∨ 25 < i) ∧ (i < 29 ∨ 37 < i) → σ40 i = σ29 i) → (∀ k : Nat, (k < 8 ∨ 8 < k) ∧ (k < 9 ∨ 9 < k) ∧ (k < 10 ∨ 10 < k) ∧ (k < 11 ∨ 11 < k) ∧ (k < 12 ∨ 12 < k) → σ40 31 k = σ29 31 k) → (∀ k : Nat, k < 1400 → (-1) ≤ (σ40 33 k).toInt ∧ (σ40 33 k).toInt ≤ 350) → (∀ k : Nat, k < 1024 → 0 ≤ (σ40 36 k).toInt ∧ (σ40 36 k).toInt ≤ 349) → jH D cI cL ad σ40 τ H → va_S (jA ad) s.heap H locs → lv_has ls 9 [(6, .int x37), (5, .int x36), (4, .int x35), (3, .int x34), (2, .int r18), (0, .ref (ad 0)), (1, .int a1)] → W p l e ({ frames := 5, cells := 0, slots := 0, locals := 139 }) s m args below meth c H locs 0 0 Q (F0 m 52 ls []) := by
    intro n33
    induction n33 with
    | zero => intro x34 x35 x36 x37 σ40 H locs ls h44 h45 h46 h47; have gx34 := jrg (rfl : x34.toInt = x34.toInt); have gx35 := jrg (rfl : x35.toInt = x35.toInt); have gx36 := jrg (rfl : x36.toInt = x36.toInt); exact absurd h44 (by omega)
    | succ n33 ihlp32 =>
      intro x34 x35 x36 x37 σ40 H locs ls h44 h45 h46 h47 f48 f49 w50 w51 hP hS hl
      have gx34 := jrg (rfl : x34.toInt = x34.toInt); have gx35 := jrg (rfl : x35.toInt = x35.toInt); have gx36 := jrg (rfl : x36.toInt = x36.toInt)
      refine lv_iload hx hb dX11_turnOrder_52 (lv_at hl 0 rfl) ?_
      refine lv_bipush (v := 120) hx hb dX11_turnOrder_54 (by decide) ?_
      refine lv_icmp_ge (tgt := 156) hx hb dX11_turnOrder_56 (by decide) (fun c52 => ?_) (fun c52 => ?_)
      · have kc52 := jle c52 jz_120 rfl
        refine lv_iload_n hx hb dX11_turnOrder_156 rfl (lv_at hl 6 rfl) ?_
        refine lv_if_ne (tgt := 164) hx hb dX11_turnOrder_157 (by decide) (fun c53 => ?_) (fun c53 => ?_)
        · have kc53 := jne c53 t1 jz_0
          refine lv_iload hx hb dX11_turnOrder_164 (lv_at hl 2 rfl) ?_
          have I54 : jI31 σ40 := ⟨(by omega), w50, w51⟩
          exact hret x35 σ40 τ _ _ _ _ rfl ⟨rfl, (fun i hi => by rw [f48 i (by omega), f31 i (by omega), f23 i (by omega)]), (fun k hk => by rw [f49 k (by omega), f31 31 (by omega), f23 31 (by omega)]), I54, trivial⟩ hP hS dX11_turnOrder_166
        · have kc53 := jeq c53 t1 jz_0
          refine lv_iload_n hx hb dX11_turnOrder_160 rfl (lv_at hl 3 rfl) ?_
          refine lv_goto (tgt := 166) hx hb dX11_turnOrder_161 (by decide) ?_
          have I55 : jI31 σ40 := ⟨(by omega), w50, w51⟩
          exact hret x34 σ40 τ _ _ _ _ rfl ⟨rfl, (fun i hi => by rw [f48 i (by omega), f31 i (by omega), f23 i (by omega)]), (fun k hk => by rw [f49 k (by omega), f31 31 (by omega), f23 31 (by omega)]), I55, trivial⟩ hP hS dX11_turnOrder_166
      · have kc52 := jnle c52 jz_120 rfl
        refine lv_iload hx hb dX11_turnOrder_59 (lv_at hl 1 rfl) ?_
        refine lv_if_lt (tgt := 156) hx hb dX11_turnOrder_61 (by decide) (fun c56 => ?_) (fun c56 => ?_)
        · have kc56 := jlt c56 rfl jz_0
          refine lv_iload_n hx hb dX11_turnOrder_156 rfl (lv_at hl 6 rfl) ?_
          refine lv_if_ne (tgt := 164) hx hb dX11_turnOrder_157 (by decide) (fun c57 => ?_) (fun c57 => ?_)
          · have kc57 := jne c57 t1 jz_0
            refine lv_iload hx hb dX11_turnOrder_164 (lv_at hl 2 rfl) ?_
            have I58 : jI31 σ40 := ⟨(by omega), w50, w51⟩
            exact hret x35 σ40 τ _ _ _ _ rfl ⟨rfl, (fun i hi => by rw [f48 i (by omega), f31 i (by omega), f23 i (by omega)]), (fun k hk => by rw [f49 k (by omega), f31 31 (by omega), f23 31 (by omega)]), I58, trivial⟩ hP hS dX11_turnOrder_166
          · have kc57 := jeq c57 t1 jz_0
            refine lv_iload_n hx hb dX11_turnOrder_160 rfl (lv_at hl 3 rfl) ?_
            refine lv_goto (tgt := 166) hx hb dX11_turnOrder_161 (by decide) ?_
            have I59 : jI31 σ40 := ⟨(by omega), w50, w51⟩
            exact hret x34 σ40 τ _ _ _ _ rfl ⟨rfl, (fun i hi => by rw [f48 i (by omega), f31 i (by omega), f23 i (by omega)]), (fun k hk => by rw [f49 k (by omega), f31 31 (by omega), f23 31 (by omega)]), I59, trivial⟩ hP hS dX11_turnOrder_166
        · have kc56 := jnlt c56 rfl jz_0
          refine lv_aload_n hx hb dX11_turnOrder_64 rfl (lv_at hl 5 rfl) ?_
          refine va_get (D := D) hx hb hts inlX11 hown hK hP 0 (jc_0 cI cL ad σ40 τ) rfl 6 (by decide) (hts _ kw_2_13) (fun _ h9 => h9) rfl dX11_turnOrder_65 ?_
          refine lv_aload_n hx hb dX11_turnOrder_68 rfl (lv_at hl 5 rfl) ?_
          refine va_get (D := D) hx hb hts inlX11 hown hK hP 0 (jc_0 cI cL ad σ40 τ) rfl 11 (by decide) (hts _ kw_3_7) (fun _ h9 => h9) rfl dX11_turnOrder_69 ?_
          refine lv_iload_n hx hb dX11_turnOrder_72 rfl (lv_at hl 4 rfl) ?_
          refine lv_iconst (v := 0) hx hb dX11_turnOrder_73 (by decide) ?_
          refine lv_iconst (v := 0) hx hb dX11_turnOrder_74 (by decide) ?_
          refine lv_iload hx hb dX11_turnOrder_75 (lv_at hl 1 rfl) ?_
          have z60 : (σ40 16 0).toInt = (σ 16 0).toInt := by rw [(show σ40 16 0 = (σ 16 0) from (by rw [f48 16 (by omega)]; exact (by rw [f31 16 (by omega)]; exact (by rw [f23 16 (by omega)]))))]
          have z61 : (σ40 16 1).toInt = (σ 16 1).toInt := by rw [(show σ40 16 1 = (σ 16 1) from (by rw [f48 16 (by omega)]; exact (by rw [f31 16 (by omega)]; exact (by rw [f23 16 (by omega)]))))]
          have z62 : (σ40 16 2).toInt = (σ 16 2).toInt := by rw [(show σ40 16 2 = (σ 16 2) from (by rw [f48 16 (by omega)]; exact (by rw [f31 16 (by omega)]; exact (by rw [f23 16 (by omega)]))))]
          have w63 : ∀ k : Nat, k < 8 → 0 ≤ (σ40 17 k).toInt ∧ (σ40 17 k).toInt ≤ 3 := (by rw [f48 17 (by omega)]; exact (by rw [f31 17 (by omega)]; exact w27))
          have I64 : jI16 σ40 := ⟨(by omega), (by omega), (by omega), w63⟩
          have z65 : (σ40 22 0).toInt = (σ 22 0).toInt := by rw [(show σ40 22 0 = (σ 22 0) from (by rw [f48 22 (by omega)]; exact (by rw [f31 22 (by omega)]; exact (by rw [f23 22 (by omega)]))))]
          have w66 : ∀ k : Nat, k < 160 → 0 ≤ (σ40 23 k).toInt ∧ (σ40 23 k).toInt ≤ 30000 := (by rw [f48 23 (by omega)]; exact (by rw [f31 23 (by omega)]; exact (by rw [f23 23 (by omega)]; exact w12)))
          have I67 : jI22 σ40 := ⟨(by omega), w66⟩
          have I68 : jI31 σ40 := ⟨(by omega), w50, w51⟩
          refine jcallVv (As := [.ref (ad 1), .int r18, .int 0, .int 0, .int x36]) (rest := []) ⟨hx, hb, hml, hown, hts⟩ hK hP hA hS hZ (c_X1_seekFor_31_v1 l D cI cL ad zz hJ σ40 τ r18 (r18.toInt) rfl 0 (0) jz_0 0 (0) jz_0 x36 (x36.toInt) rfl I64 I67 I68) cw_RX11_332 (jc_31 cI cL ad σ40 τ) rfl ⟨Nat.le_of_ble_eq_true rfl, Nat.le_of_ble_eq_true rfl⟩ rfl rfl rfl hl.1 rfl (Nat.le_of_ble_eq_true rfl) dX11_turnOrder_77 ⟨Nat.zero_le _, Nat.zero_le _⟩ (fun σ69 τ69 H locs h69 hP hS => ?_)
          obtain ⟨rfl, f71, f72, I73, h69⟩ := h69
          obtain ⟨i74, w75, w76⟩ : (0 ≤ (σ69 31 8).toInt ∧ (σ69 31 8).toInt ≤ 350) ∧ (∀ k : Nat, k < 1400 → (-1) ≤ (σ69 33 k).toInt ∧ (σ69 33 k).toInt ≤ 350) ∧ (∀ k : Nat, k < 1024 → 0 ≤ (σ69 36 k).toInt ∧ (σ69 36 k).toInt ≤ 349) := id I73
          refine lv_aload_n hx hb dX11_turnOrder_80 rfl (lv_at hl 5 rfl) ?_
          refine va_get (D := D) hx hb hts inlX11 hown hK hP 0 (jc_0 cI cL ad σ69 τ) rfl 6 (by decide) (hts _ kw_2_13) (fun _ h9 => h9) rfl dX11_turnOrder_81 ?_
          refine lv_iconst (v := 0) hx hb dX11_turnOrder_84 (by decide) ?_
          refine lv_iconst (v := 0) hx hb dX11_turnOrder_85 (by decide) ?_
          have z77 : (σ69 16 0).toInt = (σ 16 0).toInt := by rw [(show σ69 16 0 = (σ 16 0) from (by rw [f71 16 (by omega)]; exact (by rw [f48 16 (by omega)]; exact (by rw [f31 16 (by omega)]; exact (by rw [f23 16 (by omega)])))))]
          have z78 : (σ69 16 1).toInt = (σ 16 1).toInt := by rw [(show σ69 16 1 = (σ 16 1) from (by rw [f71 16 (by omega)]; exact (by rw [f48 16 (by omega)]; exact (by rw [f31 16 (by omega)]; exact (by rw [f23 16 (by omega)])))))]
          have z79 : (σ69 16 2).toInt = (σ 16 2).toInt := by rw [(show σ69 16 2 = (σ 16 2) from (by rw [f71 16 (by omega)]; exact (by rw [f48 16 (by omega)]; exact (by rw [f31 16 (by omega)]; exact (by rw [f23 16 (by omega)])))))]
          have w80 : ∀ k : Nat, k < 8 → 0 ≤ (σ69 17 k).toInt ∧ (σ69 17 k).toInt ≤ 3 := (by rw [f71 17 (by omega)]; exact w63)
          have I81 : jI16 σ69 := ⟨(by omega), (by omega), (by omega), w80⟩
          refine jcallV (As := [.int 0, .int 0]) (rest := []) ⟨hx, hb, hml, hown, hts⟩ hK hP hA hS hZ (c_X1_valueAt_31 l D cI cL ad zz hJ σ69 τ 0 (0) jz_0 0 (0) jz_0 I81 I73) cw_RX11_215 (jc_31 cI cL ad σ69 τ) rfl ⟨Nat.le_of_ble_eq_true rfl, Nat.le_of_ble_eq_true rfl⟩ rfl rfl rfl hl.1 rfl (Nat.le_of_ble_eq_true rfl) dX11_turnOrder_86 ⟨Nat.zero_le _, Nat.zero_le _⟩ (fun r83 σ82 τ82 H locs h82 hP hS => ?_)
          obtain ⟨⟨rfl, rfl⟩, h82⟩ := h82
          refine lv_istore (lv' := [(7, .int r83), (6, .int x37), (5, .int x36), (4, .int x35), (3, .int x34), (2, .int r18), (0, .ref (ad 0)), (1, .int a1)]) hx hb dX11_turnOrder_89 hl (by decide) rfl (fun ls hl => ?_)
          refine lv_aload_n hx hb dX11_turnOrder_91 rfl (lv_at hl 6 rfl) ?_
          refine va_get (D := D) hx hb hts inlX11 hown hK hP 0 (jc_0 cI cL ad σ69 τ) rfl 11 (by decide) (hts _ kw_3_7) (fun _ h9 => h9) rfl dX11_turnOrder_92 ?_
          refine lv_aload_n hx hb dX11_turnOrder_95 rfl (lv_at hl 6 rfl) ?_
          refine va_get (D := D) hx hb hts inlX11 hown hK hP 0 (jc_0 cI cL ad σ69 τ) rfl 2 (by decide) (hts _ kw_2_0) (fun _ h9 => h9) rfl dX11_turnOrder_96 ?_
          refine va_get (D := D) hx hb hts inlX6 hown hK hP 16 (jc_16 cI cL ad σ69 τ) rfl 0 (by decide) (hts _ kw_13_12) (fun _ h9 => h9) rfl dX11_turnOrder_99 ?_
          have m84 : σ69 16 0 = (σ 16 0) := (by rw [f71 16 (by omega)]; exact (by rw [f48 16 (by omega)]; exact (by rw [f31 16 (by omega)]; exact (by rw [f23 16 (by omega)]))))
          refine jtopr m84 ?_
          refine jcallS (As := [.ref (ad 1), .int (σ 16 0)]) (rest := []) ⟨hx, hb, hml, hown, hts⟩ hK hP hA hS hZ (c_X6_digits l D cI cL ad zz hJ σ69 τ (σ 16 0) ((σ 16 0).toInt) rfl) cw_RX11_336 ⟨Nat.le_of_ble_eq_true rfl, Nat.le_of_ble_eq_true rfl⟩ rfl rfl rfl hl.1 rfl (Nat.le_of_ble_eq_true rfl) dX11_turnOrder_102 ⟨Nat.zero_le _, Nat.zero_le _⟩ (fun r86 σ85 τ85 H locs h85 hP hS => ?_)
          obtain ⟨⟨rfl, rfl⟩, h85⟩ := h85
          refine lv_istore (lv' := [(8, .int r86), (7, .int r83), (6, .int x37), (5, .int x36), (4, .int x35), (3, .int x34), (2, .int r18), (0, .ref (ad 0)), (1, .int a1)]) hx hb dX11_turnOrder_105 hl (by decide) rfl (fun ls hl => ?_)
          refine lv_iload hx hb dX11_turnOrder_107 (lv_at hl 1 rfl) ?_
          refine lv_iload hx hb dX11_turnOrder_109 (lv_at hl 4 rfl) ?_
          refine lv_icmp_gt (tgt := 127) hx hb dX11_turnOrder_111 (by decide) (fun c87 => ?_) (fun c87 => ?_)
          · have kc87 := jlt c87 rfl rfl
            refine lv_iload hx hb dX11_turnOrder_127 (lv_at hl 1 rfl) ?_
            refine lv_istore (lv' := [(4, .int r83), (8, .int r86), (7, .int r83), (6, .int x37), (5, .int x36), (3, .int x34), (2, .int r18), (0, .ref (ad 0)), (1, .int a1)]) hx hb dX11_turnOrder_129 hl (by decide) rfl (fun ls hl => ?_)
            refine lv_iload hx hb dX11_turnOrder_131 (lv_at hl 1 rfl) ?_
            refine lv_istore_n (lv' := [(3, .int r86), (4, .int r83), (8, .int r86), (7, .int r83), (6, .int x37), (5, .int x36), (2, .int r18), (0, .ref (ad 0)), (1, .int a1)]) hx hb dX11_turnOrder_133 rfl hl (by decide) rfl (fun ls hl => ?_)
            refine lv_aload_n hx hb dX11_turnOrder_134 rfl (lv_at hl 7 rfl) ?_
            refine va_get (D := D) hx hb hts inlX11 hown hK hP 0 (jc_0 cI cL ad σ69 τ) rfl 11 (by decide) (hts _ kw_3_7) (fun _ h9 => h9) rfl dX11_turnOrder_135 ?_
            refine lv_aload_n hx hb dX11_turnOrder_138 rfl (lv_at hl 7 rfl) ?_
            refine va_get (D := D) hx hb hts inlX11 hown hK hP 0 (jc_0 cI cL ad σ69 τ) rfl 2 (by decide) (hts _ kw_2_0) (fun _ h9 => h9) rfl dX11_turnOrder_139 ?_
            refine va_get (D := D) hx hb hts inlX6 hown hK hP 16 (jc_16 cI cL ad σ69 τ) rfl 0 (by decide) (hts _ kw_13_12) (fun _ h9 => h9) rfl dX11_turnOrder_142 ?_
            refine jtopr m84 ?_
            refine jcallS (As := [.ref (ad 1), .int (σ 16 0)]) (rest := []) ⟨hx, hb, hml, hown, hts⟩ hK hP hA hS hZ (c_X6_turnOn l D cI cL ad zz hJ σ69 τ (σ 16 0) ((σ 16 0).toInt) rfl (by omega)) cw_RX11_340 ⟨Nat.le_of_ble_eq_true rfl, Nat.le_of_ble_eq_true rfl⟩ rfl rfl rfl hl.1 rfl (Nat.le_of_ble_eq_true rfl) dX11_turnOrder_145 ⟨Nat.zero_le _, Nat.zero_le _⟩ (fun r89 σ88 τ88 H locs h88 hP hS => ?_)
            obtain ⟨rfl, f90, h88⟩ := h88
            refine lv_istore (lv' := [(5, .int r89), (3, .int r86), (4, .int r83), (8, .int r86), (7, .int r83), (6, .int x37), (2, .int r18), (0, .ref (ad 0)), (1, .int a1)]) hx hb dX11_turnOrder_148 hl (by decide) rfl (fun ls hl => ?_)
            obtain ⟨x91, ex91⟩ : ∃ y : Int32, y = x37 + 1 := ⟨_, rfl⟩
            have tx91 : x91.toInt = x37.toInt + 1 := (jadd ex91 rfl jz_1 (by omega) (by omega)).trans (by omega)
            refine lv_iinc (v := x91) (lv' := [(6, .int x91), (5, .int r89), (3, .int r86), (4, .int r83), (8, .int r86), (7, .int r83), (2, .int r18), (0, .ref (ad 0)), (1, .int a1)]) hx hb dX11_turnOrder_150 hl (k := 5) rfl (by rw [ex91]; rfl) (by decide) rfl (fun ls hl => ?_)
            refine lv_goto (tgt := 52) hx hb dX11_turnOrder_153 (by decide) ?_
            have z92 : (σ88 31 8).toInt = (σ69 31 8).toInt := by rw [(show σ88 31 8 = (σ69 31 8) from (by rw [f90 31 (by omega)]))]
            have w93 : ∀ k : Nat, k < 1400 → (-1) ≤ (σ88 33 k).toInt ∧ (σ88 33 k).toInt ≤ 350 := (by rw [f90 33 (by omega)]; exact w75)
            have w94 : ∀ k : Nat, k < 1024 → 0 ≤ (σ88 36 k).toInt ∧ (σ88 36 k).toInt ≤ 349 := (by rw [f90 36 (by omega)]; exact w76)
            exact ihlp32 r86 r83 r89 x91 σ88 _ _ ls (by have h93 := tx91; omega) (by have h93 := tx91; omega) (by have h93 := tx91; omega) (by have h93 := tx91; omega) (fun i hi => by rw [f90 i (by omega), f71 i (by omega), f48 i hi]) (fun k hk => by rw [f90 31 (by omega), f72 k (by omega), f49 k hk])  w93 w94 hP hS (lv_sub hl [0, 1, 3, 2, 6, 7, 8] rfl)
          · have kc87 := jnlt c87 rfl rfl
            refine lv_iload hx hb dX11_turnOrder_114 (lv_at hl 1 rfl) ?_
            refine lv_iload hx hb dX11_turnOrder_116 (lv_at hl 4 rfl) ?_
            refine lv_icmp_ne (tgt := 134) hx hb dX11_turnOrder_118 (by decide) (fun c95 => ?_) (fun c95 => ?_)
            · have kc95 := jne c95 rfl rfl
              refine lv_aload_n hx hb dX11_turnOrder_134 rfl (lv_at hl 7 rfl) ?_
              refine va_get (D := D) hx hb hts inlX11 hown hK hP 0 (jc_0 cI cL ad σ69 τ) rfl 11 (by decide) (hts _ kw_3_7) (fun _ h9 => h9) rfl dX11_turnOrder_135 ?_
              refine lv_aload_n hx hb dX11_turnOrder_138 rfl (lv_at hl 7 rfl) ?_
              refine va_get (D := D) hx hb hts inlX11 hown hK hP 0 (jc_0 cI cL ad σ69 τ) rfl 2 (by decide) (hts _ kw_2_0) (fun _ h9 => h9) rfl dX11_turnOrder_139 ?_
              refine va_get (D := D) hx hb hts inlX6 hown hK hP 16 (jc_16 cI cL ad σ69 τ) rfl 0 (by decide) (hts _ kw_13_12) (fun _ h9 => h9) rfl dX11_turnOrder_142 ?_
              refine jtopr m84 ?_
              refine jcallS (As := [.ref (ad 1), .int (σ 16 0)]) (rest := []) ⟨hx, hb, hml, hown, hts⟩ hK hP hA hS hZ (c_X6_turnOn l D cI cL ad zz hJ σ69 τ (σ 16 0) ((σ 16 0).toInt) rfl (by omega)) cw_RX11_340 ⟨Nat.le_of_ble_eq_true rfl, Nat.le_of_ble_eq_true rfl⟩ rfl rfl rfl hl.1 rfl (Nat.le_of_ble_eq_true rfl) dX11_turnOrder_145 ⟨Nat.zero_le _, Nat.zero_le _⟩ (fun r97 σ96 τ96 H locs h96 hP hS => ?_)
              obtain ⟨rfl, f98, h96⟩ := h96
              refine lv_istore (lv' := [(5, .int r97), (8, .int r86), (7, .int r83), (6, .int x37), (4, .int x35), (3, .int x34), (2, .int r18), (0, .ref (ad 0)), (1, .int a1)]) hx hb dX11_turnOrder_148 hl (by decide) rfl (fun ls hl => ?_)
              obtain ⟨x99, ex99⟩ : ∃ y : Int32, y = x37 + 1 := ⟨_, rfl⟩
              have tx99 : x99.toInt = x37.toInt + 1 := (jadd ex99 rfl jz_1 (by omega) (by omega)).trans (by omega)
              refine lv_iinc (v := x99) (lv' := [(6, .int x99), (5, .int r97), (8, .int r86), (7, .int r83), (4, .int x35), (3, .int x34), (2, .int r18), (0, .ref (ad 0)), (1, .int a1)]) hx hb dX11_turnOrder_150 hl (k := 3) rfl (by rw [ex99]; rfl) (by decide) rfl (fun ls hl => ?_)
              refine lv_goto (tgt := 52) hx hb dX11_turnOrder_153 (by decide) ?_
              have z100 : (σ96 31 8).toInt = (σ69 31 8).toInt := by rw [(show σ96 31 8 = (σ69 31 8) from (by rw [f98 31 (by omega)]))]
              have w101 : ∀ k : Nat, k < 1400 → (-1) ≤ (σ96 33 k).toInt ∧ (σ96 33 k).toInt ≤ 350 := (by rw [f98 33 (by omega)]; exact w75)
              have w102 : ∀ k : Nat, k < 1024 → 0 ≤ (σ96 36 k).toInt ∧ (σ96 36 k).toInt ≤ 349 := (by rw [f98 36 (by omega)]; exact w76)
              exact ihlp32 x34 x35 r97 x99 σ96 _ _ ls (by have h93 := tx99; omega) (by have h93 := tx99; omega) (by have h93 := tx99; omega) (by have h93 := tx99; omega) (fun i hi => by rw [f98 i (by omega), f71 i (by omega), f48 i hi]) (fun k hk => by rw [f98 31 (by omega), f72 k (by omega), f49 k hk])  w101 w102 hP hS (lv_sub hl [0, 1, 4, 5, 6, 7, 8] rfl)
            · have kc95 := jeq c95 rfl rfl
              refine lv_iload hx hb dX11_turnOrder_121 (lv_at hl 0 rfl) ?_
              refine lv_iload_n hx hb dX11_turnOrder_123 rfl (lv_at hl 5 rfl) ?_
              refine lv_icmp_ge (tgt := 134) hx hb dX11_turnOrder_124 (by decide) (fun c103 => ?_) (fun c103 => ?_)
              · have kc103 := jle c103 rfl rfl
                refine lv_aload_n hx hb dX11_turnOrder_134 rfl (lv_at hl 7 rfl) ?_
                refine va_get (D := D) hx hb hts inlX11 hown hK hP 0 (jc_0 cI cL ad σ69 τ) rfl 11 (by decide) (hts _ kw_3_7) (fun _ h9 => h9) rfl dX11_turnOrder_135 ?_
                refine lv_aload_n hx hb dX11_turnOrder_138 rfl (lv_at hl 7 rfl) ?_
                refine va_get (D := D) hx hb hts inlX11 hown hK hP 0 (jc_0 cI cL ad σ69 τ) rfl 2 (by decide) (hts _ kw_2_0) (fun _ h9 => h9) rfl dX11_turnOrder_139 ?_
                refine va_get (D := D) hx hb hts inlX6 hown hK hP 16 (jc_16 cI cL ad σ69 τ) rfl 0 (by decide) (hts _ kw_13_12) (fun _ h9 => h9) rfl dX11_turnOrder_142 ?_
                refine jtopr m84 ?_
                refine jcallS (As := [.ref (ad 1), .int (σ 16 0)]) (rest := []) ⟨hx, hb, hml, hown, hts⟩ hK hP hA hS hZ (c_X6_turnOn l D cI cL ad zz hJ σ69 τ (σ 16 0) ((σ 16 0).toInt) rfl (by omega)) cw_RX11_340 ⟨Nat.le_of_ble_eq_true rfl, Nat.le_of_ble_eq_true rfl⟩ rfl rfl rfl hl.1 rfl (Nat.le_of_ble_eq_true rfl) dX11_turnOrder_145 ⟨Nat.zero_le _, Nat.zero_le _⟩ (fun r105 σ104 τ104 H locs h104 hP hS => ?_)
                obtain ⟨rfl, f106, h104⟩ := h104
                refine lv_istore (lv' := [(5, .int r105), (8, .int r86), (7, .int r83), (6, .int x37), (4, .int x35), (3, .int x34), (2, .int r18), (0, .ref (ad 0)), (1, .int a1)]) hx hb dX11_turnOrder_148 hl (by decide) rfl (fun ls hl => ?_)
                obtain ⟨x107, ex107⟩ : ∃ y : Int32, y = x37 + 1 := ⟨_, rfl⟩
                have tx107 : x107.toInt = x37.toInt + 1 := (jadd ex107 rfl jz_1 (by omega) (by omega)).trans (by omega)
                refine lv_iinc (v := x107) (lv' := [(6, .int x107), (5, .int r105), (8, .int r86), (7, .int r83), (4, .int x35), (3, .int x34), (2, .int r18), (0, .ref (ad 0)), (1, .int a1)]) hx hb dX11_turnOrder_150 hl (k := 3) rfl (by rw [ex107]; rfl) (by decide) rfl (fun ls hl => ?_)
                refine lv_goto (tgt := 52) hx hb dX11_turnOrder_153 (by decide) ?_
                have z108 : (σ104 31 8).toInt = (σ69 31 8).toInt := by rw [(show σ104 31 8 = (σ69 31 8) from (by rw [f106 31 (by omega)]))]
                have w109 : ∀ k : Nat, k < 1400 → (-1) ≤ (σ104 33 k).toInt ∧ (σ104 33 k).toInt ≤ 350 := (by rw [f106 33 (by omega)]; exact w75)
                have w110 : ∀ k : Nat, k < 1024 → 0 ≤ (σ104 36 k).toInt ∧ (σ104 36 k).toInt ≤ 349 := (by rw [f106 36 (by omega)]; exact w76)
                exact ihlp32 x34 x35 r105 x107 σ104 _ _ ls (by have h93 := tx107; omega) (by have h93 := tx107; omega) (by have h93 := tx107; omega) (by have h93 := tx107; omega) (fun i hi => by rw [f106 i (by omega), f71 i (by omega), f48 i hi]) (fun k hk => by rw [f106 31 (by omega), f72 k (by omega), f49 k hk])  w109 w110 hP hS (lv_sub hl [0, 1, 4, 5, 6, 7, 8] rfl)
              · have kc103 := jnle c103 rfl rfl
                refine lv_iload hx hb dX11_turnOrder_127 (lv_at hl 1 rfl) ?_
                refine lv_istore (lv' := [(4, .int r83), (8, .int r86), (7, .int r83), (6, .int x37), (5, .int x36), (3, .int x34), (2, .int r18), (0, .ref (ad 0)), (1, .int a1)]) hx hb dX11_turnOrder_129 hl (by decide) rfl (fun ls hl => ?_)
                refine lv_iload hx hb dX11_turnOrder_131 (lv_at hl 1 rfl) ?_
                refine lv_istore_n (lv' := [(3, .int r86), (4, .int r83), (8, .int r86), (7, .int r83), (6, .int x37), (5, .int x36), (2, .int r18), (0, .ref (ad 0)), (1, .int a1)]) hx hb dX11_turnOrder_133 rfl hl (by decide) rfl (fun ls hl => ?_)
                refine lv_aload_n hx hb dX11_turnOrder_134 rfl (lv_at hl 7 rfl) ?_
                refine va_get (D := D) hx hb hts inlX11 hown hK hP 0 (jc_0 cI cL ad σ69 τ) rfl 11 (by decide) (hts _ kw_3_7) (fun _ h9 => h9) rfl dX11_turnOrder_135 ?_
                refine lv_aload_n hx hb dX11_turnOrder_138 rfl (lv_at hl 7 rfl) ?_
                refine va_get (D := D) hx hb hts inlX11 hown hK hP 0 (jc_0 cI cL ad σ69 τ) rfl 2 (by decide) (hts _ kw_2_0) (fun _ h9 => h9) rfl dX11_turnOrder_139 ?_
                refine va_get (D := D) hx hb hts inlX6 hown hK hP 16 (jc_16 cI cL ad σ69 τ) rfl 0 (by decide) (hts _ kw_13_12) (fun _ h9 => h9) rfl dX11_turnOrder_142 ?_
                refine jtopr m84 ?_
                refine jcallS (As := [.ref (ad 1), .int (σ 16 0)]) (rest := []) ⟨hx, hb, hml, hown, hts⟩ hK hP hA hS hZ (c_X6_turnOn l D cI cL ad zz hJ σ69 τ (σ 16 0) ((σ 16 0).toInt) rfl (by omega)) cw_RX11_340 ⟨Nat.le_of_ble_eq_true rfl, Nat.le_of_ble_eq_true rfl⟩ rfl rfl rfl hl.1 rfl (Nat.le_of_ble_eq_true rfl) dX11_turnOrder_145 ⟨Nat.zero_le _, Nat.zero_le _⟩ (fun r112 σ111 τ111 H locs h111 hP hS => ?_)
                obtain ⟨rfl, f113, h111⟩ := h111
                refine lv_istore (lv' := [(5, .int r112), (3, .int r86), (4, .int r83), (8, .int r86), (7, .int r83), (6, .int x37), (2, .int r18), (0, .ref (ad 0)), (1, .int a1)]) hx hb dX11_turnOrder_148 hl (by decide) rfl (fun ls hl => ?_)
                obtain ⟨x114, ex114⟩ : ∃ y : Int32, y = x37 + 1 := ⟨_, rfl⟩
                have tx114 : x114.toInt = x37.toInt + 1 := (jadd ex114 rfl jz_1 (by omega) (by omega)).trans (by omega)
                refine lv_iinc (v := x114) (lv' := [(6, .int x114), (5, .int r112), (3, .int r86), (4, .int r83), (8, .int r86), (7, .int r83), (2, .int r18), (0, .ref (ad 0)), (1, .int a1)]) hx hb dX11_turnOrder_150 hl (k := 5) rfl (by rw [ex114]; rfl) (by decide) rfl (fun ls hl => ?_)
                refine lv_goto (tgt := 52) hx hb dX11_turnOrder_153 (by decide) ?_
                have z115 : (σ111 31 8).toInt = (σ69 31 8).toInt := by rw [(show σ111 31 8 = (σ69 31 8) from (by rw [f113 31 (by omega)]))]
                have w116 : ∀ k : Nat, k < 1400 → (-1) ≤ (σ111 33 k).toInt ∧ (σ111 33 k).toInt ≤ 350 := (by rw [f113 33 (by omega)]; exact w75)
                have w117 : ∀ k : Nat, k < 1024 → 0 ≤ (σ111 36 k).toInt ∧ (σ111 36 k).toInt ≤ 349 := (by rw [f113 36 (by omega)]; exact w76)
                exact ihlp32 r86 r83 r112 x114 σ111 _ _ ls (by have h93 := tx114; omega) (by have h93 := tx114; omega) (by have h93 := tx114; omega) (by have h93 := tx114; omega) (fun i hi => by rw [f113 i (by omega), f71 i (by omega), f48 i hi]) (fun k hk => by rw [f113 31 (by omega), f72 k (by omega), f49 k hk])  w116 w117 hP hS (lv_sub hl [0, 1, 3, 2, 6, 7, 8] rfl)
  exact lp32 1000000 0 (-1) x20 0 σ29 _ _ ls (by have h90 := jz_0; have h91 := jz_m1; have h92 := tx20; have h93 := jz_0; omega) (by have h90 := jz_0; have h91 := jz_m1; have h92 := tx20; have h93 := jz_0; omega) (by have h90 := jz_0; have h91 := jz_m1; have h92 := tx20; have h93 := jz_0; omega) (by have h90 := jz_0; have h91 := jz_m1; have h92 := tx20; have h93 := jz_0; omega) (fun _ _ => rfl) (fun _ _ => rfl)  w42 w43 hP hS hl
set_option maxHeartbeats 4000000 in
set_option maxRecDepth 100000 in
theorem c_X11_theirs (l : Launch) (D : va_G) (cI cL : ClassId) (ad zz : Nat → Nat) (hJ : jD ad) (σ : Nat → Nat → Int32) (τ : Nat → Nat → Int64) (a1 : Int32) (A1 : Int) (t1 : a1.toInt = A1) (hI2 : jI2 σ) (hI16 : jI16 σ) (hI22 : jI22 σ) (hI31 : jI31 σ) : jM l yX11_theirs cX11_theirs 2 (some .int) ({ frames := 6, cells := 0, slots := 0, locals := 167 }) D cI cL ad zz [.ref (ad 0), .int a1] σ τ (fun r σ' τ' => τ = τ' ∧ (∀ i : Nat, (i < 1 ∨ 1 < i) ∧ (i < 24 ∨ 25 < i) ∧ (i < 27 ∨ 37 < i) → σ' i = σ i) ∧ (∀ k : Nat, (k < 8 ∨ 8 < k) ∧ (k < 9 ∨ 9 < k) ∧ (k < 10 ∨ 10 < k) ∧ (k < 11 ∨ 11 < k) ∧ (k < 12 ∨ 12 < k) → σ' 31 k = σ 31 k) ∧ (jI31 σ') ∧ True) := by
  refine jM.of hJ (by decide +kernel) (nt := .int) rfl (Nat.le_of_ble_eq_true rfl) ?_
  intro p e s m args below meth c Q ls hC hret hl hP
  obtain ⟨hx, hb, hr, hml, hown, hts, hK, -, hlocks, hZ⟩ := hC
  have hown : s.vm.findClass RX11 = some m.cls := hown
  have hS : va_S (jA ad) s.heap s.heap [] := va_S.rf
  have hA : ∀ q, jA ad q → jA ad q := fun _ h => h
  have hl : lv_has ls 2 [(0, .ref (ad 0)), (1, .int a1)] := hl
  have g1 := jrg t1
  obtain ⟨i1, i2, i3, i4, i5, w6⟩ : (0 ≤ (σ 2 0).toInt ∧ (σ 2 0).toInt ≤ 4) ∧ (0 ≤ (σ 2 1).toInt ∧ (σ 2 1).toInt ≤ 3) ∧ (0 ≤ (σ 2 2).toInt) ∧ (0 ≤ (σ 2 3).toInt) ∧ ((σ 2 2).toInt + (σ 2 3).toInt ≤ 40) ∧ (∀ k : Nat, k < 40 → 0 ≤ (σ 6 k).toInt ∧ (σ 6 k).toInt ≤ 67) := id hI2
  obtain ⟨i7, i8, i9, w10⟩ : (1 ≤ (σ 16 0).toInt ∧ (σ 16 0).toInt ≤ 8) ∧ (1 ≤ (σ 16 1).toInt ∧ (σ 16 1).toInt ≤ 12) ∧ (0 ≤ (σ 16 2).toInt ∧ (σ 16 2).toInt ≤ 999) ∧ (∀ k : Nat, k < 8 → 0 ≤ (σ 17 k).toInt ∧ (σ 17 k).toInt ≤ 3) := id hI16
  obtain ⟨i11, w12⟩ : (0 ≤ (σ 22 0).toInt ∧ (σ 22 0).toInt ≤ 160) ∧ (∀ k : Nat, k < 160 → 0 ≤ (σ 23 k).toInt ∧ (σ 23 k).toInt ≤ 30000) := id hI22
  obtain ⟨i13, w14, w15⟩ : (0 ≤ (σ 31 8).toInt ∧ (σ 31 8).toInt ≤ 350) ∧ (∀ k : Nat, k < 1400 → (-1) ≤ (σ 33 k).toInt ∧ (σ 33 k).toInt ≤ 350) ∧ (∀ k : Nat, k < 1024 → 0 ≤ (σ 36 k).toInt ∧ (σ 36 k).toInt ≤ 349) := id hI31
  refine lv_iload_n hx hb dX11_theirs_0 rfl (lv_at hl 1 rfl) ?_
  refine lv_iconst (v := 0) hx hb dX11_theirs_1 (by decide) ?_
  refine lv_iconst (v := 1) hx hb dX11_theirs_2 (by decide) ?_
  refine jcallS (As := [.int a1, .int 0, .int 1]) (rest := []) ⟨hx, hb, hml, hown, hts⟩ hK hP hA hS hZ (c_X11_outside l D cI cL ad zz hJ σ τ a1 (A1) t1 0 (0) jz_0 1 (1) jz_1) cw_RX11_94 ⟨Nat.le_of_ble_eq_true rfl, Nat.le_of_ble_eq_true rfl⟩ rfl rfl rfl hl.1 rfl (Nat.le_of_ble_eq_true rfl) dX11_theirs_3 ⟨Nat.zero_le _, Nat.zero_le _⟩ (fun r17 σ16 τ16 H locs h16 hP hS => ?_)
  obtain ⟨⟨rfl, rfl⟩, h16⟩ := h16
  rcases h16 with h18 | h19
  · obtain ⟨q21, k20⟩ := h18
    have q21 := q21.symm
    subst q21
    refine lv_if_eq (tgt := 11) hx hb dX11_theirs_6 (by decide) (fun c => absurd c (by decide)) (fun _ => ?_)
    refine lv_iconst (v := (-1)) hx hb dX11_theirs_9 (by decide) ?_
    have I22 : jI31 σ := ⟨(by omega), w14, w15⟩
    exact hret (-1) σ τ _ _ _ _ rfl ⟨rfl, (fun _ _ => rfl), (fun _ _ => rfl), I22, trivial⟩ hP hS dX11_theirs_10
  · obtain ⟨q24, k23⟩ := h19
    have q24 := q24.symm
    subst q24
    refine lv_if_eq (tgt := 11) hx hb dX11_theirs_6 (by decide) (fun _ => ?_) (fun c => absurd (by decide) c)
    refine lv_aload_n hx hb dX11_theirs_11 rfl (lv_at hl 0 rfl) ?_
    refine va_get (D := D) hx hb hts inlX11 hown hK hP 0 (jc_0 cI cL ad σ τ) rfl 2 (by decide) (hts _ kw_2_0) (fun _ h9 => h9) rfl dX11_theirs_12 ?_
    refine va_get (D := D) hx hb hts inlX6 hown hK hP 16 (jc_16 cI cL ad σ τ) rfl 0 (by decide) (hts _ kw_13_12) (fun _ h9 => h9) rfl dX11_theirs_15 ?_
    refine lv_iconst (v := 5) hx hb dX11_theirs_18 (by decide) ?_
    refine lv_icmp_gt (tgt := 34) hx hb dX11_theirs_19 (by decide) (fun c25 => ?_) (fun c25 => ?_)
    · have kc25 := jlt c25 jz_5 rfl
      refine lv_bipush (v := (-4)) hx hb dX11_theirs_34 (by decide) ?_
      have I26 : jI31 σ := ⟨(by omega), w14, w15⟩
      exact hret (-4) σ τ _ _ _ _ rfl ⟨rfl, (fun _ _ => rfl), (fun _ _ => rfl), I26, trivial⟩ hP hS dX11_theirs_36
    · have kc25 := jnlt c25 jz_5 rfl
      refine lv_aload_n hx hb dX11_theirs_22 rfl (lv_at hl 0 rfl) ?_
      refine va_get (D := D) hx hb hts inlX11 hown hK hP 0 (jc_0 cI cL ad σ τ) rfl 2 (by decide) (hts _ kw_2_0) (fun _ h9 => h9) rfl dX11_theirs_23 ?_
      refine va_get (D := D) hx hb hts inlX6 hown hK hP 16 (jc_16 cI cL ad σ τ) rfl 1 (by decide) (hts _ kw_20_5) (fun _ h9 => h9) rfl dX11_theirs_26 ?_
      refine lv_bipush (v := 8) hx hb dX11_theirs_29 (by decide) ?_
      refine lv_icmp_le (tgt := 37) hx hb dX11_theirs_31 (by decide) (fun c27 => ?_) (fun c27 => ?_)
      · have kc27 := jle c27 rfl jz_8
        refine lv_aload_n hx hb dX11_theirs_37 rfl (lv_at hl 0 rfl) ?_
        refine lv_iload_n hx hb dX11_theirs_38 rfl (lv_at hl 1 rfl) ?_
        have I28 : jI2 σ := ⟨(by omega), (by omega), (by omega), (by omega), (by omega), w6⟩
        have I29 : jI16 σ := ⟨(by omega), (by omega), (by omega), w10⟩
        have I30 : jI22 σ := ⟨(by omega), w12⟩
        have I31 : jI31 σ := ⟨(by omega), w14, w15⟩
        refine jcallV (As := [.int a1]) (rest := []) ⟨hx, hb, hml, hown, hts⟩ hK hP hA hS hZ (c_X11_turnOrder l D cI cL ad zz hJ σ τ a1 (A1) t1 I28 I29 I30 I31) cw_RX11_235 (jc_0 cI cL ad σ τ) rfl ⟨Nat.le_of_ble_eq_true rfl, Nat.le_of_ble_eq_true rfl⟩ rfl rfl rfl hl.1 rfl (Nat.le_of_ble_eq_true rfl) dX11_theirs_39 ⟨Nat.zero_le _, Nat.zero_le _⟩ (fun r33 σ32 τ32 H locs h32 hP hS => ?_)
        obtain ⟨rfl, f34, f35, I36, h32⟩ := h32
        obtain ⟨i37, w38, w39⟩ : (0 ≤ (σ32 31 8).toInt ∧ (σ32 31 8).toInt ≤ 350) ∧ (∀ k : Nat, k < 1400 → (-1) ≤ (σ32 33 k).toInt ∧ (σ32 33 k).toInt ≤ 350) ∧ (∀ k : Nat, k < 1024 → 0 ≤ (σ32 36 k).toInt ∧ (σ32 36 k).toInt ≤ 349) := id I36
        exact hret r33 σ32 τ _ _ _ _ rfl ⟨rfl, (fun i hi => by rw [f34 i (by omega)]), (fun k hk => by rw [f35 k (by omega)]), I36, trivial⟩ hP hS dX11_theirs_42
      · have kc27 := jnle c27 rfl jz_8
        refine lv_bipush (v := (-4)) hx hb dX11_theirs_34 (by decide) ?_
        have I40 : jI31 σ := ⟨(by omega), w14, w15⟩
        exact hret (-4) σ τ _ _ _ _ rfl ⟨rfl, (fun _ _ => rfl), (fun _ _ => rfl), I40, trivial⟩ hP hS dX11_theirs_36
set_option maxHeartbeats 4000000 in
set_option maxRecDepth 100000 in
theorem c_X11_mayBeBooked (l : Launch) (D : va_G) (cI cL : ClassId) (ad zz : Nat → Nat) (hJ : jD ad) (σ : Nat → Nat → Int32) (τ : Nat → Nat → Int64) (a1 : Int32) (A1 : Int) (t1 : a1.toInt = A1) (hI2 : jI2 σ) (hI16 : jI16 σ) (hI47 : jI47 σ) : jM l yX11_mayBeBooked cX11_mayBeBooked 4 (some .boolean) ({ frames := 4, cells := 0, slots := 0, locals := 88 }) D cI cL ad zz [.ref (ad 0), .int a1] σ τ (fun r σ' τ' => (σ = σ' ∧ τ = τ') ∧ True) := by
  refine jM.of hJ (by decide +kernel) (nt := .boolean) rfl (Nat.le_of_ble_eq_true rfl) ?_
  intro p e s m args below meth c Q ls hC hret hl hP
  obtain ⟨hx, hb, hr, hml, hown, hts, hK, -, hlocks, hZ⟩ := hC
  have hown : s.vm.findClass RX11 = some m.cls := hown
  have hS : va_S (jA ad) s.heap s.heap [] := va_S.rf
  have hA : ∀ q, jA ad q → jA ad q := fun _ h => h
  have hl : lv_has ls 4 [(0, .ref (ad 0)), (1, .int a1)] := hl
  have g1 := jrg t1
  obtain ⟨i1, i2, i3, i4, i5, w6⟩ : (0 ≤ (σ 2 0).toInt ∧ (σ 2 0).toInt ≤ 4) ∧ (0 ≤ (σ 2 1).toInt ∧ (σ 2 1).toInt ≤ 3) ∧ (0 ≤ (σ 2 2).toInt) ∧ (0 ≤ (σ 2 3).toInt) ∧ ((σ 2 2).toInt + (σ 2 3).toInt ≤ 40) ∧ (∀ k : Nat, k < 40 → 0 ≤ (σ 6 k).toInt ∧ (σ 6 k).toInt ≤ 67) := id hI2
  obtain ⟨i7, i8, i9, w10⟩ : (1 ≤ (σ 16 0).toInt ∧ (σ 16 0).toInt ≤ 8) ∧ (1 ≤ (σ 16 1).toInt ∧ (σ 16 1).toInt ≤ 12) ∧ (0 ≤ (σ 16 2).toInt ∧ (σ 16 2).toInt ≤ 999) ∧ (∀ k : Nat, k < 8 → 0 ≤ (σ 17 k).toInt ∧ (σ 17 k).toInt ≤ 3) := id hI16
  obtain ⟨i11, w12⟩ : (0 ≤ (σ 47 0).toInt ∧ (σ 47 0).toInt ≤ 12) ∧ (∀ k : Nat, k < 12 → 0 ≤ (σ 49 k).toInt ∧ (σ 49 k).toInt ≤ 1) := id hI47
  refine lv_aload_n hx hb dX11_mayBeBooked_0 rfl (lv_at hl 0 rfl) ?_
  refine va_get (D := D) hx hb hts inlX11 hown hK hP 0 (jc_0 cI cL ad σ τ) rfl 9 (by decide) (hts _ kw_3_1) (fun _ h9 => h9) rfl dX11_mayBeBooked_1 ?_
  refine va_get (D := D) hx hb hts inlX2 hown hK hP 47 (jc_47 cI cL ad σ τ) rfl 0 (by decide) (hts _ kw_13_11) (fun _ h9 => h9) rfl dX11_mayBeBooked_4 ?_
  refine lv_istore_n (lv' := [(2, .int (σ 47 0)), (0, .ref (ad 0)), (1, .int a1)]) hx hb dX11_mayBeBooked_7 rfl hl (by decide) rfl (fun ls hl => ?_)
  refine lv_aload_n hx hb dX11_mayBeBooked_8 rfl (lv_at hl 1 rfl) ?_
  refine va_get (D := D) hx hb hts inlX11 hown hK hP 0 (jc_0 cI cL ad σ τ) rfl 9 (by decide) (hts _ kw_3_1) (fun _ h9 => h9) rfl dX11_mayBeBooked_9 ?_
  refine lv_iload_n hx hb dX11_mayBeBooked_12 rfl (lv_at hl 0 rfl) ?_
  refine lv_aload_n hx hb dX11_mayBeBooked_13 rfl (lv_at hl 1 rfl) ?_
  refine va_get (D := D) hx hb hts inlX11 hown hK hP 0 (jc_0 cI cL ad σ τ) rfl 0 (by decide) (hts _ kw_1_16) (fun _ h9 => h9) rfl dX11_mayBeBooked_14 ?_
  have I13 : jI2 σ := ⟨(by omega), (by omega), (by omega), (by omega), (by omega), w6⟩
  have I14 : jI47 σ := ⟨(by omega), w12⟩
  refine jcallV (As := [.int (σ 47 0), .ref (ad 2)]) (rest := []) ⟨hx, hb, hml, hown, hts⟩ hK hP hA hS hZ (c_X2_attackAhead_47 l D cI cL ad zz hJ σ τ (σ 47 0) ((σ 47 0).toInt) rfl I13 I14) cw_RX11_186 (jc_47 cI cL ad σ τ) rfl ⟨Nat.le_of_ble_eq_true rfl, Nat.le_of_ble_eq_true rfl⟩ rfl rfl rfl hl.1 rfl (Nat.le_of_ble_eq_true rfl) dX11_mayBeBooked_17 ⟨Nat.zero_le _, Nat.zero_le _⟩ (fun r16 σ15 τ15 H locs h15 hP hS => ?_)
  obtain ⟨⟨rfl, rfl⟩, h15⟩ := h15
  refine lv_istore_n (lv' := [(3, .int r16), (2, .int (σ 47 0)), (0, .ref (ad 0)), (1, .int a1)]) hx hb dX11_mayBeBooked_20 rfl hl (by decide) rfl (fun ls hl => ?_)
  refine lv_aload_n hx hb dX11_mayBeBooked_21 rfl (lv_at hl 2 rfl) ?_
  refine va_get (D := D) hx hb hts inlX11 hown hK hP 0 (jc_0 cI cL ad σ τ) rfl 2 (by decide) (hts _ kw_2_0) (fun _ h9 => h9) rfl dX11_mayBeBooked_22 ?_
  refine lv_iload_n hx hb dX11_mayBeBooked_25 rfl (lv_at hl 1 rfl) ?_
  refine lv_aload_n hx hb dX11_mayBeBooked_26 rfl (lv_at hl 2 rfl) ?_
  refine va_get (D := D) hx hb hts inlX11 hown hK hP 0 (jc_0 cI cL ad σ τ) rfl 9 (by decide) (hts _ kw_3_1) (fun _ h9 => h9) rfl dX11_mayBeBooked_27 ?_
  refine lv_iload_n hx hb dX11_mayBeBooked_30 rfl (lv_at hl 1 rfl) ?_
  refine jcallV (As := [.int (σ 47 0)]) (rest := [.int (σ 47 0), .ref (ad 16)]) ⟨hx, hb, hml, hown, hts⟩ hK hP hA hS hZ (c_X2_outs_47 l D cI cL ad zz hJ σ τ (σ 47 0) ((σ 47 0).toInt) rfl I14) cw_RX11_180 (jc_47 cI cL ad σ τ) rfl ⟨Nat.le_of_ble_eq_true rfl, Nat.le_of_ble_eq_true rfl⟩ rfl rfl rfl hl.1 rfl (Nat.le_of_ble_eq_true rfl) dX11_mayBeBooked_31 ⟨Nat.zero_le _, Nat.zero_le _⟩ (fun r18 σ17 τ17 H locs h17 hP hS => ?_)
  obtain ⟨⟨rfl, rfl⟩, h17⟩ := h17
  refine lv_iload_n hx hb dX11_mayBeBooked_34 rfl (lv_at hl 0 rfl) ?_
  refine jcallV (As := [.int (σ 47 0), .int r18, .int r16]) (rest := []) ⟨hx, hb, hml, hown, hts⟩ hK hP hA hS hZ (c_X6_ended_16 l D cI cL ad zz hJ σ τ (σ 47 0) ((σ 47 0).toInt) rfl r18 (r18.toInt) rfl r16 (r16.toInt) rfl) cw_RX11_190 (jc_16 cI cL ad σ τ) rfl ⟨Nat.le_of_ble_eq_true rfl, Nat.le_of_ble_eq_true rfl⟩ rfl rfl rfl hl.1 rfl (Nat.le_of_ble_eq_true rfl) dX11_mayBeBooked_35 ⟨Nat.zero_le _, Nat.zero_le _⟩ (fun r20 σ19 τ19 H locs h19 hP hS => ?_)
  obtain ⟨⟨rfl, rfl⟩, h19⟩ := h19
  refine lv_if_ne (tgt := 53) hx hb dX11_mayBeBooked_38 (by decide) (fun c21 => ?_) (fun c21 => ?_)
  · have kc21 := jne c21 rfl jz_0
    refine lv_iconst (v := 0) hx hb dX11_mayBeBooked_53 (by decide) ?_
    exact hret 0 σ τ _ _ _ _ rfl ⟨⟨rfl, rfl⟩, trivial⟩ hP hS dX11_mayBeBooked_54
  · have kc21 := jeq c21 rfl jz_0
    refine lv_iload_n hx hb dX11_mayBeBooked_41 rfl (lv_at hl 0 rfl) ?_
    refine lv_iload_n hx hb dX11_mayBeBooked_42 rfl (lv_at hl 3 rfl) ?_
    refine jcallS (As := [.int r16, .int a1]) (rest := []) ⟨hx, hb, hml, hown, hts⟩ hK hP hA hS hZ (c_X0_mayBowl l D cI cL ad zz hJ σ τ r16 (r16.toInt) rfl a1 (A1) t1) cw_RX11_325 ⟨Nat.le_of_ble_eq_true rfl, Nat.le_of_ble_eq_true rfl⟩ rfl rfl rfl hl.1 rfl (Nat.le_of_ble_eq_true rfl) dX11_mayBeBooked_43 ⟨Nat.zero_le _, Nat.zero_le _⟩ (fun r23 σ22 τ22 H locs h22 hP hS => ?_)
    obtain ⟨⟨rfl, rfl⟩, h22⟩ := h22
    refine lv_if_eq (tgt := 53) hx hb dX11_mayBeBooked_46 (by decide) (fun c24 => ?_) (fun c24 => ?_)
    · have kc24 := jeq c24 rfl jz_0
      refine lv_iconst (v := 0) hx hb dX11_mayBeBooked_53 (by decide) ?_
      exact hret 0 σ τ _ _ _ _ rfl ⟨⟨rfl, rfl⟩, trivial⟩ hP hS dX11_mayBeBooked_54
    · have kc24 := jne c24 rfl jz_0
      refine lv_iconst (v := 1) hx hb dX11_mayBeBooked_49 (by decide) ?_
      refine lv_goto (tgt := 54) hx hb dX11_mayBeBooked_50 (by decide) ?_
      exact hret 1 σ τ _ _ _ _ rfl ⟨⟨rfl, rfl⟩, trivial⟩ hP hS dX11_mayBeBooked_54
set_option maxHeartbeats 4000000 in
set_option maxRecDepth 100000 in
theorem c_X11_book (l : Launch) (D : va_G) (cI cL : ClassId) (ad zz : Nat → Nat) (hJ : jD ad) (σ : Nat → Nat → Int32) (τ : Nat → Nat → Int64) (a1 : Int32) (A1 : Int) (t1 : a1.toInt = A1) (a2 : Int32) (A2 : Int) (t2 : a2.toInt = A2) (hI2 : jI2 σ) (hI16 : jI16 σ) (hI47 : jI47 σ) : jM l yX11_book cX11_book 3 (some .int) ({ frames := 5, cells := 0, slots := 0, locals := 111 }) D cI cL ad zz [.ref (ad 0), .int a1, .int a2] σ τ (fun r σ' τ' => τ = τ' ∧ (∀ i : Nat, (i < 47 ∨ 49 < i) → σ' i = σ i) ∧ (∀ k : Nat, (k < 0 ∨ 0 < k) → σ' 47 k = σ 47 k) ∧ (jI47 σ') ∧ True) := by
  refine jM.of hJ (by decide +kernel) (nt := .int) rfl (Nat.le_of_ble_eq_true rfl) ?_
  intro p e s m args below meth c Q ls hC hret hl hP
  obtain ⟨hx, hb, hr, hml, hown, hts, hK, -, hlocks, hZ⟩ := hC
  have hown : s.vm.findClass RX11 = some m.cls := hown
  have hS : va_S (jA ad) s.heap s.heap [] := va_S.rf
  have hA : ∀ q, jA ad q → jA ad q := fun _ h => h
  have hl : lv_has ls 3 [(0, .ref (ad 0)), (1, .int a1), (2, .int a2)] := hl
  have g1 := jrg t1
  have g2 := jrg t2
  obtain ⟨i1, i2, i3, i4, i5, w6⟩ : (0 ≤ (σ 2 0).toInt ∧ (σ 2 0).toInt ≤ 4) ∧ (0 ≤ (σ 2 1).toInt ∧ (σ 2 1).toInt ≤ 3) ∧ (0 ≤ (σ 2 2).toInt) ∧ (0 ≤ (σ 2 3).toInt) ∧ ((σ 2 2).toInt + (σ 2 3).toInt ≤ 40) ∧ (∀ k : Nat, k < 40 → 0 ≤ (σ 6 k).toInt ∧ (σ 6 k).toInt ≤ 67) := id hI2
  obtain ⟨i7, i8, i9, w10⟩ : (1 ≤ (σ 16 0).toInt ∧ (σ 16 0).toInt ≤ 8) ∧ (1 ≤ (σ 16 1).toInt ∧ (σ 16 1).toInt ≤ 12) ∧ (0 ≤ (σ 16 2).toInt ∧ (σ 16 2).toInt ≤ 999) ∧ (∀ k : Nat, k < 8 → 0 ≤ (σ 17 k).toInt ∧ (σ 17 k).toInt ≤ 3) := id hI16
  obtain ⟨i11, w12⟩ : (0 ≤ (σ 47 0).toInt ∧ (σ 47 0).toInt ≤ 12) ∧ (∀ k : Nat, k < 12 → 0 ≤ (σ 49 k).toInt ∧ (σ 49 k).toInt ≤ 1) := id hI47
  refine lv_aload_n hx hb dX11_book_0 rfl (lv_at hl 0 rfl) ?_
  refine lv_iload_n hx hb dX11_book_1 rfl (lv_at hl 1 rfl) ?_
  have I13 : jI2 σ := ⟨(by omega), (by omega), (by omega), (by omega), (by omega), w6⟩
  refine jcallV (As := [.int a1]) (rest := []) ⟨hx, hb, hml, hown, hts⟩ hK hP hA hS hZ (c_X11_noBowler l D cI cL ad zz hJ σ τ a1 (A1) t1 I13) cw_RX11_152 (jc_0 cI cL ad σ τ) rfl ⟨Nat.le_of_ble_eq_true rfl, Nat.le_of_ble_eq_true rfl⟩ rfl rfl rfl hl.1 rfl (Nat.le_of_ble_eq_true rfl) dX11_book_2 ⟨Nat.zero_le _, Nat.zero_le _⟩ (fun r15 σ14 τ14 H locs h14 hP hS => ?_)
  obtain ⟨⟨rfl, rfl⟩, h14⟩ := h14
  rcases h14 with h16 | h17
  · obtain ⟨q19, k18⟩ := h16
    have q19 := q19.symm
    subst q19
    refine lv_if_ne (tgt := 17) hx hb dX11_book_5 (by decide) (fun _ => ?_) (fun c => absurd c (by decide))
    refine lv_iconst (v := (-1)) hx hb dX11_book_17 (by decide) ?_
    have I20 : jI47 σ := ⟨(by omega), w12⟩
    exact hret (-1) σ τ _ _ _ _ rfl ⟨rfl, (fun _ _ => rfl), (fun _ _ => rfl), I20, trivial⟩ hP hS dX11_book_18
  · obtain ⟨q22, k21⟩ := h17
    have q22 := q22.symm
    subst q22
    refine lv_if_ne (tgt := 17) hx hb dX11_book_5 (by decide) (fun c => absurd (by decide) c) (fun _ => ?_)
    refine lv_iload_n hx hb dX11_book_8 rfl (lv_at hl 2 rfl) ?_
    refine lv_iconst (v := 0) hx hb dX11_book_9 (by decide) ?_
    refine lv_iconst (v := 1) hx hb dX11_book_10 (by decide) ?_
    refine jcallS (As := [.int a2, .int 0, .int 1]) (rest := []) ⟨hx, hb, hml, hown, hts⟩ hK hP hA hS hZ (c_X11_outside l D cI cL ad zz hJ σ τ a2 (A2) t2 0 (0) jz_0 1 (1) jz_1) cw_RX11_94 ⟨Nat.le_of_ble_eq_true rfl, Nat.le_of_ble_eq_true rfl⟩ rfl rfl rfl hl.1 rfl (Nat.le_of_ble_eq_true rfl) dX11_book_11 ⟨Nat.zero_le _, Nat.zero_le _⟩ (fun r24 σ23 τ23 H locs h23 hP hS => ?_)
    obtain ⟨⟨rfl, rfl⟩, h23⟩ := h23
    rcases h23 with h25 | h26
    · obtain ⟨q28, k27⟩ := h25
      have q28 := q28.symm
      subst q28
      refine lv_if_eq (tgt := 19) hx hb dX11_book_14 (by decide) (fun c => absurd c (by decide)) (fun _ => ?_)
      refine lv_iconst (v := (-1)) hx hb dX11_book_17 (by decide) ?_
      have I29 : jI47 σ := ⟨(by omega), w12⟩
      exact hret (-1) σ τ _ _ _ _ rfl ⟨rfl, (fun _ _ => rfl), (fun _ _ => rfl), I29, trivial⟩ hP hS dX11_book_18
    · obtain ⟨q31, k30⟩ := h26
      have q31 := q31.symm
      subst q31
      refine lv_if_eq (tgt := 19) hx hb dX11_book_14 (by decide) (fun _ => ?_) (fun c => absurd (by decide) c)
      refine lv_aload_n hx hb dX11_book_19 rfl (lv_at hl 0 rfl) ?_
      refine lv_iload_n hx hb dX11_book_20 rfl (lv_at hl 1 rfl) ?_
      have I32 : jI16 σ := ⟨(by omega), (by omega), (by omega), w10⟩
      have I33 : jI47 σ := ⟨(by omega), w12⟩
      refine jcallV (As := [.int a1]) (rest := []) ⟨hx, hb, hml, hown, hts⟩ hK hP hA hS hZ (c_X11_mayBeBooked l D cI cL ad zz hJ σ τ a1 (A1) t1 I13 I32 I33) cw_RX11_243 (jc_0 cI cL ad σ τ) rfl ⟨Nat.le_of_ble_eq_true rfl, Nat.le_of_ble_eq_true rfl⟩ rfl rfl rfl hl.1 rfl (Nat.le_of_ble_eq_true rfl) dX11_book_21 ⟨Nat.zero_le _, Nat.zero_le _⟩ (fun r35 σ34 τ34 H locs h34 hP hS => ?_)
      obtain ⟨⟨rfl, rfl⟩, h34⟩ := h34
      refine lv_if_ne (tgt := 30) hx hb dX11_book_24 (by decide) (fun c36 => ?_) (fun c36 => ?_)
      · have kc36 := jne c36 rfl jz_0
        refine lv_aload_n hx hb dX11_book_30 rfl (lv_at hl 0 rfl) ?_
        refine va_get (D := D) hx hb hts inlX11 hown hK hP 0 (jc_0 cI cL ad σ τ) rfl 9 (by decide) (hts _ kw_3_1) (fun _ h9 => h9) rfl dX11_book_31 ?_
        refine va_get (D := D) hx hb hts inlX2 hown hK hP 47 (jc_47 cI cL ad σ τ) rfl 0 (by decide) (hts _ kw_13_11) (fun _ h9 => h9) rfl dX11_book_34 ?_
        refine lv_bipush (v := 12) hx hb dX11_book_37 (by decide) ?_
        refine lv_icmp_lt (tgt := 45) hx hb dX11_book_39 (by decide) (fun c37 => ?_) (fun c37 => ?_)
        · have kc37 := jlt c37 rfl jz_12
          refine lv_aload_n hx hb dX11_book_45 rfl (lv_at hl 0 rfl) ?_
          refine va_get (D := D) hx hb hts inlX11 hown hK hP 0 (jc_0 cI cL ad σ τ) rfl 9 (by decide) (hts _ kw_3_1) (fun _ h9 => h9) rfl dX11_book_46 ?_
          refine lv_iload_n hx hb dX11_book_49 rfl (lv_at hl 1 rfl) ?_
          refine lv_iload_n hx hb dX11_book_50 rfl (lv_at hl 2 rfl) ?_
          refine jcallV (As := [.int a1, .int a2]) (rest := []) ⟨hx, hb, hml, hown, hts⟩ hK hP hA hS hZ (c_X2_write_47 l D cI cL ad zz hJ σ τ a1 (A1) t1 a2 (A2) t2 I33 (by omega)) cw_RX11_246 (jc_47 cI cL ad σ τ) rfl ⟨Nat.le_of_ble_eq_true rfl, Nat.le_of_ble_eq_true rfl⟩ rfl rfl rfl hl.1 rfl (Nat.le_of_ble_eq_true rfl) dX11_book_51 ⟨Nat.zero_le _, Nat.zero_le _⟩ (fun r39 σ38 τ38 H locs h38 hP hS => ?_)
          obtain ⟨rfl, f40, f41, I42, h38⟩ := h38
          obtain ⟨i43, w44⟩ : (0 ≤ (σ38 47 0).toInt ∧ (σ38 47 0).toInt ≤ 12) ∧ (∀ k : Nat, k < 12 → 0 ≤ (σ38 49 k).toInt ∧ (σ38 49 k).toInt ≤ 1) := id I42
          exact hret r39 σ38 τ _ _ _ _ rfl ⟨rfl, (fun i hi => by rw [f40 i (by omega)]), (fun k hk => by rw [f41 k (by omega)]), I42, trivial⟩ hP hS dX11_book_54
        · have kc37 := jnlt c37 rfl jz_12
          refine lv_bipush (v := (-3)) hx hb dX11_book_42 (by decide) ?_
          exact hret (-3) σ τ _ _ _ _ rfl ⟨rfl, (fun _ _ => rfl), (fun _ _ => rfl), I33, trivial⟩ hP hS dX11_book_44
      · have kc36 := jeq c36 rfl jz_0
        refine lv_bipush (v := (-5)) hx hb dX11_book_27 (by decide) ?_
        exact hret (-5) σ τ _ _ _ _ rfl ⟨rfl, (fun _ _ => rfl), (fun _ _ => rfl), I33, trivial⟩ hP hS dX11_book_29
set_option maxHeartbeats 4000000 in
set_option maxRecDepth 100000 in
theorem c_X11_books (l : Launch) (D : va_G) (cI cL : ClassId) (ad zz : Nat → Nat) (hJ : jD ad) (σ : Nat → Nat → Int32) (τ : Nat → Nat → Int64) (a1 : Int32) (A1 : Int) (t1 : a1.toInt = A1) (a2 : Int32) (A2 : Int) (t2 : a2.toInt = A2) (hI2 : jI2 σ) (hI16 : jI16 σ) (hI47 : jI47 σ) (hI50 : jI50 σ) : jM l yX11_books cX11_books 6 (some .int) ({ frames := 6, cells := 0, slots := 0, locals := 127 }) D cI cL ad zz [.ref (ad 0), .int a1, .int a2] σ τ (fun r σ' τ' => τ = τ' ∧ (∀ i : Nat, (i < 47 ∨ 49 < i) → σ' i = σ i) ∧ (∀ k : Nat, (k < 0 ∨ 0 < k) → σ' 47 k = σ 47 k) ∧ (jI47 σ') ∧ True) := by
  refine jM.of hJ (by decide +kernel) (nt := .int) rfl (Nat.le_of_ble_eq_true rfl) ?_
  intro p e s m args below meth c Q ls hC hret hl hP
  obtain ⟨hx, hb, hr, hml, hown, hts, hK, -, hlocks, hZ⟩ := hC
  have hown : s.vm.findClass RX11 = some m.cls := hown
  have hS : va_S (jA ad) s.heap s.heap [] := va_S.rf
  have hA : ∀ q, jA ad q → jA ad q := fun _ h => h
  have hl : lv_has ls 6 [(0, .ref (ad 0)), (1, .int a1), (2, .int a2)] := hl
  have g1 := jrg t1
  have g2 := jrg t2
  obtain ⟨i1, i2, i3, i4, i5, w6⟩ : (0 ≤ (σ 2 0).toInt ∧ (σ 2 0).toInt ≤ 4) ∧ (0 ≤ (σ 2 1).toInt ∧ (σ 2 1).toInt ≤ 3) ∧ (0 ≤ (σ 2 2).toInt) ∧ (0 ≤ (σ 2 3).toInt) ∧ ((σ 2 2).toInt + (σ 2 3).toInt ≤ 40) ∧ (∀ k : Nat, k < 40 → 0 ≤ (σ 6 k).toInt ∧ (σ 6 k).toInt ≤ 67) := id hI2
  obtain ⟨i7, i8, i9, w10⟩ : (1 ≤ (σ 16 0).toInt ∧ (σ 16 0).toInt ≤ 8) ∧ (1 ≤ (σ 16 1).toInt ∧ (σ 16 1).toInt ≤ 12) ∧ (0 ≤ (σ 16 2).toInt ∧ (σ 16 2).toInt ≤ 999) ∧ (∀ k : Nat, k < 8 → 0 ≤ (σ 17 k).toInt ∧ (σ 17 k).toInt ≤ 3) := id hI16
  obtain ⟨i11, w12⟩ : (0 ≤ (σ 47 0).toInt ∧ (σ 47 0).toInt ≤ 12) ∧ (∀ k : Nat, k < 12 → 0 ≤ (σ 49 k).toInt ∧ (σ 49 k).toInt ≤ 1) := id hI47
  have w13 : ∀ k : Nat, k < 6 → 0 ≤ (σ 52 k).toInt ∧ (σ 52 k).toInt ≤ 60 := hI50
  refine lv_iload_n hx hb dX11_books_0 rfl (lv_at hl 1 rfl) ?_
  refine jcallS (As := [.int a1]) (rest := []) ⟨hx, hb, hml, hown, hts⟩ hK hP hA hS hZ (c_X11_noShelf l D cI cL ad zz hJ σ τ a1 (A1) t1) cw_RX11_249 ⟨Nat.le_of_ble_eq_true rfl, Nat.le_of_ble_eq_true rfl⟩ rfl rfl rfl hl.1 rfl (Nat.le_of_ble_eq_true rfl) dX11_books_1 ⟨Nat.zero_le _, Nat.zero_le _⟩ (fun r15 σ14 τ14 H locs h14 hP hS => ?_)
  obtain ⟨⟨rfl, rfl⟩, h14⟩ := h14
  rcases h14 with h16 | h17
  · obtain ⟨q19, k18⟩ := h16
    have q19 := q19.symm
    subst q19
    refine lv_if_eq (tgt := 9) hx hb dX11_books_4 (by decide) (fun c => absurd c (by decide)) (fun _ => ?_)
    refine lv_iconst (v := (-1)) hx hb dX11_books_7 (by decide) ?_
    have I20 : jI47 σ := ⟨(by omega), w12⟩
    exact hret (-1) σ τ _ _ _ _ rfl ⟨rfl, (fun _ _ => rfl), (fun _ _ => rfl), I20, trivial⟩ hP hS dX11_books_8
  · obtain ⟨q22, k21⟩ := h17
    have q22 := q22.symm
    subst q22
    refine lv_if_eq (tgt := 9) hx hb dX11_books_4 (by decide) (fun _ => ?_) (fun c => absurd (by decide) c)
    refine lv_aload_n hx hb dX11_books_9 rfl (lv_at hl 0 rfl) ?_
    refine va_get (D := D) hx hb hts inlX11 hown hK hP 0 (jc_0 cI cL ad σ τ) rfl 10 (by decide) (hts _ kw_3_5) (fun _ h9 => h9) rfl dX11_books_10 ?_
    refine lv_iload_n hx hb dX11_books_13 rfl (lv_at hl 1 rfl) ?_
    refine jcallV (As := [.int a1]) (rest := []) ⟨hx, hb, hml, hown, hts⟩ hK hP hA hS hZ (c_X9_isEmpty_50 l D cI cL ad zz hJ σ τ a1 (A1) t1) cw_RX11_252 (jc_50 cI cL ad σ τ) rfl ⟨Nat.le_of_ble_eq_true rfl, Nat.le_of_ble_eq_true rfl⟩ rfl rfl rfl hl.1 rfl (Nat.le_of_ble_eq_true rfl) dX11_books_14 ⟨Nat.zero_le _, Nat.zero_le _⟩ (fun r24 σ23 τ23 H locs h23 hP hS => ?_)
    obtain ⟨⟨rfl, rfl⟩, h23⟩ := h23
    rcases h23 with h25 | h26
    · obtain ⟨q28, k27⟩ := h25
      have q28 := q28.symm
      subst q28
      refine lv_if_ne (tgt := 34) hx hb dX11_books_17 (by decide) (fun c => absurd (by decide) c) (fun _ => ?_)
      refine lv_aload_n hx hb dX11_books_20 rfl (lv_at hl 0 rfl) ?_
      refine va_get (D := D) hx hb hts inlX11 hown hK hP 0 (jc_0 cI cL ad σ τ) rfl 10 (by decide) (hts _ kw_3_5) (fun _ h9 => h9) rfl dX11_books_21 ?_
      refine lv_iload_n hx hb dX11_books_24 rfl (lv_at hl 1 rfl) ?_
      refine jcallV (As := [.int a1]) (rest := []) ⟨hx, hb, hml, hown, hts⟩ hK hP hA hS hZ (c_X9_sortOf_50 l D cI cL ad zz hJ σ τ a1 (A1) t1) cw_RX11_255 (jc_50 cI cL ad σ τ) rfl ⟨Nat.le_of_ble_eq_true rfl, Nat.le_of_ble_eq_true rfl⟩ rfl rfl rfl hl.1 rfl (Nat.le_of_ble_eq_true rfl) dX11_books_25 ⟨Nat.zero_le _, Nat.zero_le _⟩ (fun r30 σ29 τ29 H locs h29 hP hS => ?_)
      obtain ⟨⟨rfl, rfl⟩, h29⟩ := h29
      rcases h29 with h31 | h32
      · obtain ⟨q34, k33⟩ := h31
        refine lv_if_eq (tgt := 34) hx hb dX11_books_28 (by decide) (fun c35 => ?_) (fun c35 => ?_)
        · have kc35 := jeq c35 rfl jz_0
          refine lv_aload_n hx hb dX11_books_34 rfl (lv_at hl 0 rfl) ?_
          refine va_get (D := D) hx hb hts inlX11 hown hK hP 0 (jc_0 cI cL ad σ τ) rfl 9 (by decide) (hts _ kw_3_1) (fun _ h9 => h9) rfl dX11_books_35 ?_
          refine lv_iconst (v := 0) hx hb dX11_books_38 (by decide) ?_
          refine jput (ty := .int) hx hb hts inlX2 tyX2 tyX2_ok nmX2 hown hK hP hJ hA hS (jc_47 cI cL ad σ τ) rfl (k := 0) (by decide) (Nat.le_of_ble_eq_true rfl) (jp_47_0 cI cL ad σ τ 0) (hts _ kw_13_11) (fun _ h9 => h9) rfl (by decide +kernel) rfl rfl dX11_books_39 (fun σ36 H locs eσ36 hP hS => ?_)
          refine lv_aload_n hx hb dX11_books_42 rfl (lv_at hl 0 rfl) ?_
          refine va_get (D := D) hx hb hts inlX11 hown hK hP 0 (jc_0 cI cL ad σ36 τ) rfl 10 (by decide) (hts _ kw_3_5) (fun _ h9 => h9) rfl dX11_books_43 ?_
          refine lv_iload_n hx hb dX11_books_46 rfl (lv_at hl 1 rfl) ?_
          have w37 : ∀ k : Nat, k < 6 → 0 ≤ (σ36 52 k).toInt ∧ (σ36 52 k).toInt ≤ 60 := (by rw [eσ36, jup_n (by decide)]; exact w13)
          have I38 : jI50 σ36 := w37
          refine jcallV (As := [.int a1]) (rest := []) ⟨hx, hb, hml, hown, hts⟩ hK hP hA hS hZ (c_X9_lengthOf_50 l D cI cL ad zz hJ σ36 τ a1 (A1) t1 I38) cw_RX11_258 (jc_50 cI cL ad σ36 τ) rfl ⟨Nat.le_of_ble_eq_true rfl, Nat.le_of_ble_eq_true rfl⟩ rfl rfl rfl hl.1 rfl (Nat.le_of_ble_eq_true rfl) dX11_books_47 ⟨Nat.zero_le _, Nat.zero_le _⟩ (fun r40 σ39 τ39 H locs h39 hP hS => ?_)
          obtain ⟨⟨rfl, rfl⟩, h39⟩ := h39
          rcases h39 with h41 | h42
          · obtain ⟨q45, k43, k44⟩ := h41
            refine lv_istore_n (lv' := [(3, .int r40), (0, .ref (ad 0)), (1, .int a1), (2, .int a2)]) hx hb dX11_books_50 rfl hl (by decide) rfl (fun ls hl => ?_)
            refine lv_iload_n hx hb dX11_books_51 rfl (lv_at hl 3 rfl) ?_
            refine lv_if_lt (tgt := 60) hx hb dX11_books_52 (by decide) (fun c46 => ?_) (fun c46 => ?_)
            · have kc46 := jlt c46 t2 jz_0
              refine lv_iconst (v := 0) hx hb dX11_books_60 (by decide) ?_
              have z47 : (σ36 47 0).toInt = 0 := by rw [(show σ36 47 0 = 0 from (by rw [eσ36]; exact jup_s))]; exact jz_0
              have w48 : ∀ k : Nat, k < 12 → 0 ≤ (σ36 49 k).toInt ∧ (σ36 49 k).toInt ≤ 1 := (by rw [eσ36, jup_n (by decide)]; exact w12)
              have I49 : jI47 σ36 := ⟨(by omega), w48⟩
              exact hret 0 σ36 τ _ _ _ _ rfl ⟨rfl, (fun i hi => by rw [eσ36, jup_n (by omega)]), (fun k hk => by rw [eσ36, jup_k (by omega)]), I49, trivial⟩ hP hS dX11_books_61
            · have kc46 := jnlt c46 t2 jz_0
              refine lv_iload_n hx hb dX11_books_55 rfl (lv_at hl 3 rfl) ?_
              refine lv_iload_n hx hb dX11_books_56 rfl (lv_at hl 0 rfl) ?_
              refine lv_icmp_lt (tgt := 62) hx hb dX11_books_57 (by decide) (fun c50 => ?_) (fun c50 => ?_)
              · have kc50 := jlt c50 t2 rfl
                refine lv_iload_n hx hb dX11_books_62 rfl (lv_at hl 3 rfl) ?_
                refine lv_istore (lv' := [(4, .int a2), (3, .int r40), (0, .ref (ad 0)), (1, .int a1), (2, .int a2)]) hx hb dX11_books_63 hl (by decide) rfl (fun ls hl => ?_)
                have z56 : (σ36 47 0).toInt = 0 := by rw [(show σ36 47 0 = 0 from (by rw [eσ36]; exact jup_s))]; exact jz_0
                have w57 : ∀ k : Nat, k < 12 → 0 ≤ (σ36 49 k).toInt ∧ (σ36 49 k).toInt ≤ 1 := (by rw [eσ36, jup_n (by decide)]; exact w12)
                have lp51 : ∀ (n52 : Nat) (x53 : Int32) (σ55 : Nat → Nat → Int32) (H : Heap) (locs : List Loc) (ls : Array Slot), (r40.toInt - x53.toInt : Int) < n52 → 0 ≤ x53.toInt → x53.toInt ≤ 60 → 0 ≤ (σ55 47 0).toInt ∧ (σ55 47 0).toInt ≤ 12 → x53.toInt ≤ r40.toInt → (∀ i : Nat, (i < 47 ∨ 49 < i) → σ55 i = σ36 i) → (∀ k : Nat, (k < 0 ∨ 0 < k) → σ55 47 k = σ36 47 k) → (∀ k : Nat, k < 12 → 0 ≤ (σ55 49 k).toInt ∧ (σ55 49 k).toInt ≤ 1) → jH D cI cL ad σ55 τ H → va_S (jA ad) s.heap H locs → lv_has ls 6 [(4, .int x53), (3, .int r40), (0, .ref (ad 0)), (1, .int a1), (2, .int a2)] → W p l e ({ frames := 6, cells := 0, slots := 0, locals := 127 }) s m args below meth c H locs 0 0 Q (F0 m 65 ls []) := by
                  intro n52
                  induction n52 with
                  | zero => intro x53 σ55 H locs ls h58 h59 h60 h61 h62; exact absurd h58 (by omega)
                  | succ n52 ihlp51 =>
                    intro x53 σ55 H locs ls h58 h59 h60 h61 h62 f63 f64 w65 hP hS hl
                    refine lv_iload hx hb dX11_books_65 (lv_at hl 0 rfl) ?_
                    refine lv_iload_n hx hb dX11_books_67 rfl (lv_at hl 1 rfl) ?_
                    refine lv_icmp_ge (tgt := 161) hx hb dX11_books_68 (by decide) (fun c66 => ?_) (fun c66 => ?_)
                    · have kc66 := jle c66 rfl rfl
                      refine lv_aload_n hx hb dX11_books_161 rfl (lv_at hl 2 rfl) ?_
                      refine va_get (D := D) hx hb hts inlX11 hown hK hP 0 (jc_0 cI cL ad σ55 τ) rfl 9 (by decide) (hts _ kw_3_1) (fun _ h9 => h9) rfl dX11_books_162 ?_
                      refine va_get (D := D) hx hb hts inlX2 hown hK hP 47 (jc_47 cI cL ad σ55 τ) rfl 0 (by decide) (hts _ kw_13_11) (fun _ h9 => h9) rfl dX11_books_165 ?_
                      have I67 : jI47 σ55 := ⟨(by omega), w65⟩
                      exact hret (σ55 47 0) σ55 τ _ _ _ _ rfl ⟨rfl, (fun i hi => by rw [f63 i (by omega), eσ36, jup_n (by omega)]), (fun k hk => by rw [f64 k (by omega), eσ36, jup_k (by omega)]), I67, trivial⟩ hP hS dX11_books_168
                    · have kc66 := jnle c66 rfl rfl
                      refine lv_aload_n hx hb dX11_books_71 rfl (lv_at hl 2 rfl) ?_
                      refine va_get (D := D) hx hb hts inlX11 hown hK hP 0 (jc_0 cI cL ad σ55 τ) rfl 10 (by decide) (hts _ kw_3_5) (fun _ h9 => h9) rfl dX11_books_72 ?_
                      refine lv_iload_n hx hb dX11_books_75 rfl (lv_at hl 3 rfl) ?_
                      refine lv_iload hx hb dX11_books_76 (lv_at hl 0 rfl) ?_
                      have w68 : ∀ k : Nat, k < 6 → 0 ≤ (σ55 52 k).toInt ∧ (σ55 52 k).toInt ≤ 60 := (by rw [f63 52 (by omega)]; exact w37)
                      have I69 : jI50 σ55 := w68
                      refine jcallVl (As := [.int a1, .int x53]) (rest := []) ⟨hx, hb, hml, hown, hts⟩ hK hP hA hS hZ (c_X9_elementAt_50 l D cI cL ad zz hJ σ55 τ a1 (A1) t1 x53 (x53.toInt) rfl I69) cw_RX11_261 (jc_50 cI cL ad σ55 τ) rfl ⟨Nat.le_of_ble_eq_true rfl, Nat.le_of_ble_eq_true rfl⟩ rfl rfl rfl hl.1 rfl (Nat.le_of_ble_eq_true rfl) dX11_books_78 ⟨Nat.zero_le _, Nat.zero_le _⟩ (fun lxr71 σ70 τ70 H locs h70 hP hS => ?_)
                      obtain ⟨⟨rfl, rfl⟩, h70⟩ := h70
                      refine lv_l2i hx hb dX11_books_81 rfl ?_
                      refine lv_topi (fun x72 ex72 => ?_)
                      have gx72 := jrg (rfl : x72.toInt = x72.toInt)
                      refine lv_istore (lv' := [(5, .int x72), (4, .int x53), (3, .int r40), (0, .ref (ad 0)), (1, .int a1), (2, .int a2)]) hx hb dX11_books_82 hl (by decide) rfl (fun ls hl => ?_)
                      refine lv_iload hx hb dX11_books_84 (lv_at hl 0 rfl) ?_
                      refine lv_iconst (v := 0) hx hb dX11_books_86 (by decide) ?_
                      refine lv_bipush (v := 19) hx hb dX11_books_87 (by decide) ?_
                      refine jcallS (As := [.int x72, .int 0, .int 19]) (rest := []) ⟨hx, hb, hml, hown, hts⟩ hK hP hA hS hZ (c_X11_outside l D cI cL ad zz hJ σ55 τ x72 (x72.toInt) rfl 0 (0) jz_0 19 (19) jz_19) cw_RX11_94 ⟨Nat.le_of_ble_eq_true rfl, Nat.le_of_ble_eq_true rfl⟩ rfl rfl rfl hl.1 rfl (Nat.le_of_ble_eq_true rfl) dX11_books_89 ⟨Nat.zero_le _, Nat.zero_le _⟩ (fun r74 σ73 τ73 H locs h73 hP hS => ?_)
                      obtain ⟨⟨rfl, rfl⟩, h73⟩ := h73
                      rcases h73 with h75 | h76
                      · obtain ⟨q78, k77⟩ := h75
                        have q78 := q78.symm
                        subst q78
                        refine lv_if_ne (tgt := 161) hx hb dX11_books_92 (by decide) (fun _ => ?_) (fun c => absurd c (by decide))
                        refine lv_aload_n hx hb dX11_books_161 rfl (lv_at hl 3 rfl) ?_
                        refine va_get (D := D) hx hb hts inlX11 hown hK hP 0 (jc_0 cI cL ad σ55 τ) rfl 9 (by decide) (hts _ kw_3_1) (fun _ h9 => h9) rfl dX11_books_162 ?_
                        refine va_get (D := D) hx hb hts inlX2 hown hK hP 47 (jc_47 cI cL ad σ55 τ) rfl 0 (by decide) (hts _ kw_13_11) (fun _ h9 => h9) rfl dX11_books_165 ?_
                        have I79 : jI47 σ55 := ⟨(by omega), w65⟩
                        exact hret (σ55 47 0) σ55 τ _ _ _ _ rfl ⟨rfl, (fun i hi => by rw [f63 i (by omega), eσ36, jup_n (by omega)]), (fun k hk => by rw [f64 k (by omega), eσ36, jup_k (by omega)]), I79, trivial⟩ hP hS dX11_books_168
                      · obtain ⟨q81, k80⟩ := h76
                        have q81 := q81.symm
                        subst q81
                        refine lv_if_ne (tgt := 161) hx hb dX11_books_92 (by decide) (fun c => absurd (by decide) c) (fun _ => ?_)
                        refine lv_aload_n hx hb dX11_books_95 rfl (lv_at hl 3 rfl) ?_
                        refine lv_iload hx hb dX11_books_96 (lv_at hl 0 rfl) ?_
                        refine lv_bipush (v := 10) hx hb dX11_books_98 (by decide) ?_
                        refine lv_irem hx hb dX11_books_100 (by decide) ?_
                        refine lv_topi (fun x82 ex82 => ?_)
                        have tx82 : x82.toInt = (x72.toInt % 10) := jrem ex82 rfl jz_10 (by omega)
                        have z83 : (σ55 2 0).toInt = (σ 2 0).toInt := by rw [(show σ55 2 0 = (σ 2 0) from (by rw [f63 2 (by omega)]; exact (by rw [eσ36, jup_n (by decide)])))]
                        have z84 : (σ55 2 1).toInt = (σ 2 1).toInt := by rw [(show σ55 2 1 = (σ 2 1) from (by rw [f63 2 (by omega)]; exact (by rw [eσ36, jup_n (by decide)])))]
                        have z85 : (σ55 2 2).toInt = (σ 2 2).toInt := by rw [(show σ55 2 2 = (σ 2 2) from (by rw [f63 2 (by omega)]; exact (by rw [eσ36, jup_n (by decide)])))]
                        have z86 : (σ55 2 3).toInt = (σ 2 3).toInt := by rw [(show σ55 2 3 = (σ 2 3) from (by rw [f63 2 (by omega)]; exact (by rw [eσ36, jup_n (by decide)])))]
                        have w87 : ∀ k : Nat, k < 40 → 0 ≤ (σ55 6 k).toInt ∧ (σ55 6 k).toInt ≤ 67 := (by rw [f63 6 (by omega)]; exact (by rw [eσ36, jup_n (by decide)]; exact w6))
                        have I88 : jI2 σ55 := ⟨(by omega), (by omega), (by omega), (by omega), (by omega), w87⟩
                        refine jcallV (As := [.int x82]) (rest := []) ⟨hx, hb, hml, hown, hts⟩ hK hP hA hS hZ (c_X11_noBowler l D cI cL ad zz hJ σ55 τ x82 ((x72.toInt % 10)) tx82 I88) cw_RX11_152 (jc_0 cI cL ad σ55 τ) rfl ⟨Nat.le_of_ble_eq_true rfl, Nat.le_of_ble_eq_true rfl⟩ rfl rfl rfl hl.1 rfl (Nat.le_of_ble_eq_true rfl) dX11_books_101 ⟨Nat.zero_le _, Nat.zero_le _⟩ (fun r90 σ89 τ89 H locs h89 hP hS => ?_)
                        obtain ⟨⟨rfl, rfl⟩, h89⟩ := h89
                        rcases h89 with h91 | h92
                        · obtain ⟨q94, k93⟩ := h91
                          have q94 := q94.symm
                          subst q94
                          refine lv_if_ne (tgt := 161) hx hb dX11_books_104 (by decide) (fun _ => ?_) (fun c => absurd c (by decide))
                          refine lv_aload_n hx hb dX11_books_161 rfl (lv_at hl 3 rfl) ?_
                          refine va_get (D := D) hx hb hts inlX11 hown hK hP 0 (jc_0 cI cL ad σ55 τ) rfl 9 (by decide) (hts _ kw_3_1) (fun _ h9 => h9) rfl dX11_books_162 ?_
                          refine va_get (D := D) hx hb hts inlX2 hown hK hP 47 (jc_47 cI cL ad σ55 τ) rfl 0 (by decide) (hts _ kw_13_11) (fun _ h9 => h9) rfl dX11_books_165 ?_
                          have I95 : jI47 σ55 := ⟨(by omega), w65⟩
                          exact hret (σ55 47 0) σ55 τ _ _ _ _ rfl ⟨rfl, (fun i hi => by rw [f63 i (by omega), eσ36, jup_n (by omega)]), (fun k hk => by rw [f64 k (by omega), eσ36, jup_k (by omega)]), I95, trivial⟩ hP hS dX11_books_168
                        · obtain ⟨q97, k96⟩ := h92
                          have q97 := q97.symm
                          subst q97
                          refine lv_if_ne (tgt := 161) hx hb dX11_books_104 (by decide) (fun c => absurd (by decide) c) (fun _ => ?_)
                          refine lv_aload_n hx hb dX11_books_107 rfl (lv_at hl 3 rfl) ?_
                          refine lv_iload hx hb dX11_books_108 (lv_at hl 0 rfl) ?_
                          refine lv_bipush (v := 10) hx hb dX11_books_110 (by decide) ?_
                          refine lv_irem hx hb dX11_books_112 (by decide) ?_
                          refine lv_topi (fun x98 ex98 => ?_)
                          have tx98 : x98.toInt = (x72.toInt % 10) := jrem ex98 rfl jz_10 (by omega)
                          have z99 : (σ55 16 0).toInt = (σ 16 0).toInt := by rw [(show σ55 16 0 = (σ 16 0) from (by rw [f63 16 (by omega)]; exact (by rw [eσ36, jup_n (by decide)])))]
                          have z100 : (σ55 16 1).toInt = (σ 16 1).toInt := by rw [(show σ55 16 1 = (σ 16 1) from (by rw [f63 16 (by omega)]; exact (by rw [eσ36, jup_n (by decide)])))]
                          have z101 : (σ55 16 2).toInt = (σ 16 2).toInt := by rw [(show σ55 16 2 = (σ 16 2) from (by rw [f63 16 (by omega)]; exact (by rw [eσ36, jup_n (by decide)])))]
                          have w102 : ∀ k : Nat, k < 8 → 0 ≤ (σ55 17 k).toInt ∧ (σ55 17 k).toInt ≤ 3 := (by rw [f63 17 (by omega)]; exact (by rw [eσ36, jup_n (by decide)]; exact w10))
                          have I103 : jI16 σ55 := ⟨(by omega), (by omega), (by omega), w102⟩
                          have I104 : jI47 σ55 := ⟨(by omega), w65⟩
                          refine jcallV (As := [.int x98]) (rest := []) ⟨hx, hb, hml, hown, hts⟩ hK hP hA hS hZ (c_X11_mayBeBooked l D cI cL ad zz hJ σ55 τ x98 ((x72.toInt % 10)) tx98 I88 I103 I104) cw_RX11_243 (jc_0 cI cL ad σ55 τ) rfl ⟨Nat.le_of_ble_eq_true rfl, Nat.le_of_ble_eq_true rfl⟩ rfl rfl rfl hl.1 rfl (Nat.le_of_ble_eq_true rfl) dX11_books_113 ⟨Nat.zero_le _, Nat.zero_le _⟩ (fun r106 σ105 τ105 H locs h105 hP hS => ?_)
                          obtain ⟨⟨rfl, rfl⟩, h105⟩ := h105
                          refine lv_if_ne (tgt := 122) hx hb dX11_books_116 (by decide) (fun c107 => ?_) (fun c107 => ?_)
                          · have kc107 := jne c107 rfl jz_0
                            refine lv_aload_n hx hb dX11_books_122 rfl (lv_at hl 3 rfl) ?_
                            refine va_get (D := D) hx hb hts inlX11 hown hK hP 0 (jc_0 cI cL ad σ55 τ) rfl 9 (by decide) (hts _ kw_3_1) (fun _ h9 => h9) rfl dX11_books_123 ?_
                            refine va_get (D := D) hx hb hts inlX2 hown hK hP 47 (jc_47 cI cL ad σ55 τ) rfl 0 (by decide) (hts _ kw_13_11) (fun _ h9 => h9) rfl dX11_books_126 ?_
                            refine lv_bipush (v := 12) hx hb dX11_books_129 (by decide) ?_
                            refine lv_icmp_lt (tgt := 137) hx hb dX11_books_131 (by decide) (fun c108 => ?_) (fun c108 => ?_)
                            · have kc108 := jlt c108 rfl jz_12
                              refine lv_aload_n hx hb dX11_books_137 rfl (lv_at hl 3 rfl) ?_
                              refine va_get (D := D) hx hb hts inlX11 hown hK hP 0 (jc_0 cI cL ad σ55 τ) rfl 9 (by decide) (hts _ kw_3_1) (fun _ h9 => h9) rfl dX11_books_138 ?_
                              refine lv_iload hx hb dX11_books_141 (lv_at hl 0 rfl) ?_
                              refine lv_bipush (v := 10) hx hb dX11_books_143 (by decide) ?_
                              refine lv_irem hx hb dX11_books_145 (by decide) ?_
                              refine lv_topi (fun x109 ex109 => ?_)
                              have tx109 : x109.toInt = (x72.toInt % 10) := jrem ex109 rfl jz_10 (by omega)
                              refine lv_iload hx hb dX11_books_146 (lv_at hl 0 rfl) ?_
                              refine lv_bipush (v := 10) hx hb dX11_books_148 (by decide) ?_
                              refine lv_idiv hx hb dX11_books_150 (by decide) ?_
                              refine lv_topi (fun x110 ex110 => ?_)
                              have tx110 : x110.toInt = (x72.toInt / 10) := jdiv ex110 rfl jz_10 (by omega) (by omega)
                              refine jcallV (As := [.int x109, .int x110]) (rest := []) ⟨hx, hb, hml, hown, hts⟩ hK hP hA hS hZ (c_X2_write_47 l D cI cL ad zz hJ σ55 τ x109 ((x72.toInt % 10)) tx109 x110 ((x72.toInt / 10)) tx110 I104 (by omega)) cw_RX11_246 (jc_47 cI cL ad σ55 τ) rfl ⟨Nat.le_of_ble_eq_true rfl, Nat.le_of_ble_eq_true rfl⟩ rfl rfl rfl hl.1 rfl (Nat.le_of_ble_eq_true rfl) dX11_books_151 ⟨Nat.zero_le _, Nat.zero_le _⟩ (fun r112 σ111 τ111 H locs h111 hP hS => ?_)
                              obtain ⟨rfl, f113, f114, I115, h111⟩ := h111
                              obtain ⟨i116, w117⟩ : (0 ≤ (σ111 47 0).toInt ∧ (σ111 47 0).toInt ≤ 12) ∧ (∀ k : Nat, k < 12 → 0 ≤ (σ111 49 k).toInt ∧ (σ111 49 k).toInt ≤ 1) := id I115
                              refine lv_pop hx hb dX11_books_154 rfl ?_
                              obtain ⟨x118, ex118⟩ : ∃ y : Int32, y = x53 + 1 := ⟨_, rfl⟩
                              have tx118 : x118.toInt = x53.toInt + 1 := (jadd ex118 rfl jz_1 (by omega) (by omega)).trans (by omega)
                              refine lv_iinc (v := x118) (lv' := [(4, .int x118), (5, .int x72), (3, .int r40), (0, .ref (ad 0)), (1, .int a1), (2, .int a2)]) hx hb dX11_books_155 hl (k := 1) rfl (by rw [ex118]; rfl) (by decide) rfl (fun ls hl => ?_)
                              refine lv_goto (tgt := 65) hx hb dX11_books_158 (by decide) ?_
                              exact ihlp51 x118 σ111 _ _ ls (by have h90 := tx118; omega) (by have h90 := tx118; omega) (by have h90 := tx118; omega) (by have h90 := tx118; omega) (by have h90 := tx118; omega) (fun i hi => by rw [f113 i (by omega), f63 i hi]) (fun k hk => by rw [f114 k (by omega), f64 k hk])  w117 hP hS (lv_sub hl [0, 2, 3, 4, 5] rfl)
                            · have kc108 := jnlt c108 rfl jz_12
                              refine lv_goto (tgt := 161) hx hb dX11_books_134 (by decide) ?_
                              refine lv_aload_n hx hb dX11_books_161 rfl (lv_at hl 3 rfl) ?_
                              refine va_get (D := D) hx hb hts inlX11 hown hK hP 0 (jc_0 cI cL ad σ55 τ) rfl 9 (by decide) (hts _ kw_3_1) (fun _ h9 => h9) rfl dX11_books_162 ?_
                              refine va_get (D := D) hx hb hts inlX2 hown hK hP 47 (jc_47 cI cL ad σ55 τ) rfl 0 (by decide) (hts _ kw_13_11) (fun _ h9 => h9) rfl dX11_books_165 ?_
                              exact hret (σ55 47 0) σ55 τ _ _ _ _ rfl ⟨rfl, (fun i hi => by rw [f63 i (by omega), eσ36, jup_n (by omega)]), (fun k hk => by rw [f64 k (by omega), eσ36, jup_k (by omega)]), I104, trivial⟩ hP hS dX11_books_168
                          · have kc107 := jeq c107 rfl jz_0
                            refine lv_goto (tgt := 161) hx hb dX11_books_119 (by decide) ?_
                            refine lv_aload_n hx hb dX11_books_161 rfl (lv_at hl 3 rfl) ?_
                            refine va_get (D := D) hx hb hts inlX11 hown hK hP 0 (jc_0 cI cL ad σ55 τ) rfl 9 (by decide) (hts _ kw_3_1) (fun _ h9 => h9) rfl dX11_books_162 ?_
                            refine va_get (D := D) hx hb hts inlX2 hown hK hP 47 (jc_47 cI cL ad σ55 τ) rfl 0 (by decide) (hts _ kw_13_11) (fun _ h9 => h9) rfl dX11_books_165 ?_
                            exact hret (σ55 47 0) σ55 τ _ _ _ _ rfl ⟨rfl, (fun i hi => by rw [f63 i (by omega), eσ36, jup_n (by omega)]), (fun k hk => by rw [f64 k (by omega), eσ36, jup_k (by omega)]), I104, trivial⟩ hP hS dX11_books_168
                exact lp51 1000000 a2 σ36 _ _ ls (by have h90 := t2; omega) (by have h90 := t2; omega) (by have h90 := t2; omega) (by have h90 := t2; omega) (by have h90 := t2; omega) (fun _ _ => rfl) (fun _ _ => rfl)  w57 hP hS hl
              · have kc50 := jnlt c50 t2 rfl
                refine lv_iconst (v := 0) hx hb dX11_books_60 (by decide) ?_
                have z119 : (σ36 47 0).toInt = 0 := by rw [(show σ36 47 0 = 0 from (by rw [eσ36]; exact jup_s))]; exact jz_0
                have w120 : ∀ k : Nat, k < 12 → 0 ≤ (σ36 49 k).toInt ∧ (σ36 49 k).toInt ≤ 1 := (by rw [eσ36, jup_n (by decide)]; exact w12)
                have I121 : jI47 σ36 := ⟨(by omega), w120⟩
                exact hret 0 σ36 τ _ _ _ _ rfl ⟨rfl, (fun i hi => by rw [eσ36, jup_n (by omega)]), (fun k hk => by rw [eσ36, jup_k (by omega)]), I121, trivial⟩ hP hS dX11_books_61
          · obtain ⟨q123, k122⟩ := h42
            have q123 := q123.symm
            subst q123
            refine lv_istore_n (lv' := [(3, .int 0), (0, .ref (ad 0)), (1, .int a1), (2, .int a2)]) hx hb dX11_books_50 rfl hl (by decide) rfl (fun ls hl => ?_)
            refine lv_iload_n hx hb dX11_books_51 rfl (lv_at hl 3 rfl) ?_
            refine lv_if_lt (tgt := 60) hx hb dX11_books_52 (by decide) (fun c124 => ?_) (fun c124 => ?_)
            · have kc124 := jlt c124 t2 jz_0
              refine lv_iconst (v := 0) hx hb dX11_books_60 (by decide) ?_
              have z125 : (σ36 47 0).toInt = 0 := by rw [(show σ36 47 0 = 0 from (by rw [eσ36]; exact jup_s))]; exact jz_0
              have w126 : ∀ k : Nat, k < 12 → 0 ≤ (σ36 49 k).toInt ∧ (σ36 49 k).toInt ≤ 1 := (by rw [eσ36, jup_n (by decide)]; exact w12)
              have I127 : jI47 σ36 := ⟨(by omega), w126⟩
              exact hret 0 σ36 τ _ _ _ _ rfl ⟨rfl, (fun i hi => by rw [eσ36, jup_n (by omega)]), (fun k hk => by rw [eσ36, jup_k (by omega)]), I127, trivial⟩ hP hS dX11_books_61
            · have kc124 := jnlt c124 t2 jz_0
              refine lv_iload_n hx hb dX11_books_55 rfl (lv_at hl 3 rfl) ?_
              refine lv_iload_n hx hb dX11_books_56 rfl (lv_at hl 0 rfl) ?_
              refine lv_icmp_lt (tgt := 62) hx hb dX11_books_57 (by decide) (fun c => absurd (jlt c t2 jz_0) (by omega)) (fun c128 => ?_)
              have kc128 := jnlt c128 t2 jz_0
              refine lv_iconst (v := 0) hx hb dX11_books_60 (by decide) ?_
              have z129 : (σ36 47 0).toInt = 0 := by rw [(show σ36 47 0 = 0 from (by rw [eσ36]; exact jup_s))]; exact jz_0
              have w130 : ∀ k : Nat, k < 12 → 0 ≤ (σ36 49 k).toInt ∧ (σ36 49 k).toInt ≤ 1 := (by rw [eσ36, jup_n (by decide)]; exact w12)
              have I131 : jI47 σ36 := ⟨(by omega), w130⟩
              exact hret 0 σ36 τ _ _ _ _ rfl ⟨rfl, (fun i hi => by rw [eσ36, jup_n (by omega)]), (fun k hk => by rw [eσ36, jup_k (by omega)]), I131, trivial⟩ hP hS dX11_books_61
        · have kc35 := jne c35 rfl jz_0
          refine lv_bipush (v := (-12)) hx hb dX11_books_31 (by decide) ?_
          have I132 : jI47 σ := ⟨(by omega), w12⟩
          exact hret (-12) σ τ _ _ _ _ rfl ⟨rfl, (fun _ _ => rfl), (fun _ _ => rfl), I132, trivial⟩ hP hS dX11_books_33
      · obtain ⟨q134, k133⟩ := h32
        have q134 := q134.symm
        subst q134
        refine lv_if_eq (tgt := 34) hx hb dX11_books_28 (by decide) (fun c => absurd c (by decide)) (fun _ => ?_)
        refine lv_bipush (v := (-12)) hx hb dX11_books_31 (by decide) ?_
        have I135 : jI47 σ := ⟨(by omega), w12⟩
        exact hret (-12) σ τ _ _ _ _ rfl ⟨rfl, (fun _ _ => rfl), (fun _ _ => rfl), I135, trivial⟩ hP hS dX11_books_33
    · obtain ⟨q137, k136⟩ := h26
      have q137 := q137.symm
      subst q137
      refine lv_if_ne (tgt := 34) hx hb dX11_books_17 (by decide) (fun _ => ?_) (fun c => absurd c (by decide))
      refine lv_aload_n hx hb dX11_books_34 rfl (lv_at hl 0 rfl) ?_
      refine va_get (D := D) hx hb hts inlX11 hown hK hP 0 (jc_0 cI cL ad σ τ) rfl 9 (by decide) (hts _ kw_3_1) (fun _ h9 => h9) rfl dX11_books_35 ?_
      refine lv_iconst (v := 0) hx hb dX11_books_38 (by decide) ?_
      refine jput (ty := .int) hx hb hts inlX2 tyX2 tyX2_ok nmX2 hown hK hP hJ hA hS (jc_47 cI cL ad σ τ) rfl (k := 0) (by decide) (Nat.le_of_ble_eq_true rfl) (jp_47_0 cI cL ad σ τ 0) (hts _ kw_13_11) (fun _ h9 => h9) rfl (by decide +kernel) rfl rfl dX11_books_39 (fun σ138 H locs eσ138 hP hS => ?_)
      refine lv_aload_n hx hb dX11_books_42 rfl (lv_at hl 0 rfl) ?_
      refine va_get (D := D) hx hb hts inlX11 hown hK hP 0 (jc_0 cI cL ad σ138 τ) rfl 10 (by decide) (hts _ kw_3_5) (fun _ h9 => h9) rfl dX11_books_43 ?_
      refine lv_iload_n hx hb dX11_books_46 rfl (lv_at hl 1 rfl) ?_
      have w139 : ∀ k : Nat, k < 6 → 0 ≤ (σ138 52 k).toInt ∧ (σ138 52 k).toInt ≤ 60 := (by rw [eσ138, jup_n (by decide)]; exact w13)
      have I140 : jI50 σ138 := w139
      refine jcallV (As := [.int a1]) (rest := []) ⟨hx, hb, hml, hown, hts⟩ hK hP hA hS hZ (c_X9_lengthOf_50 l D cI cL ad zz hJ σ138 τ a1 (A1) t1 I140) cw_RX11_258 (jc_50 cI cL ad σ138 τ) rfl ⟨Nat.le_of_ble_eq_true rfl, Nat.le_of_ble_eq_true rfl⟩ rfl rfl rfl hl.1 rfl (Nat.le_of_ble_eq_true rfl) dX11_books_47 ⟨Nat.zero_le _, Nat.zero_le _⟩ (fun r142 σ141 τ141 H locs h141 hP hS => ?_)
      obtain ⟨⟨rfl, rfl⟩, h141⟩ := h141
      rcases h141 with h143 | h144
      · obtain ⟨q147, k145, k146⟩ := h143
        refine lv_istore_n (lv' := [(3, .int r142), (0, .ref (ad 0)), (1, .int a1), (2, .int a2)]) hx hb dX11_books_50 rfl hl (by decide) rfl (fun ls hl => ?_)
        refine lv_iload_n hx hb dX11_books_51 rfl (lv_at hl 3 rfl) ?_
        refine lv_if_lt (tgt := 60) hx hb dX11_books_52 (by decide) (fun c148 => ?_) (fun c148 => ?_)
        · have kc148 := jlt c148 t2 jz_0
          refine lv_iconst (v := 0) hx hb dX11_books_60 (by decide) ?_
          have z149 : (σ138 47 0).toInt = 0 := by rw [(show σ138 47 0 = 0 from (by rw [eσ138]; exact jup_s))]; exact jz_0
          have w150 : ∀ k : Nat, k < 12 → 0 ≤ (σ138 49 k).toInt ∧ (σ138 49 k).toInt ≤ 1 := (by rw [eσ138, jup_n (by decide)]; exact w12)
          have I151 : jI47 σ138 := ⟨(by omega), w150⟩
          exact hret 0 σ138 τ _ _ _ _ rfl ⟨rfl, (fun i hi => by rw [eσ138, jup_n (by omega)]), (fun k hk => by rw [eσ138, jup_k (by omega)]), I151, trivial⟩ hP hS dX11_books_61
        · have kc148 := jnlt c148 t2 jz_0
          refine lv_iload_n hx hb dX11_books_55 rfl (lv_at hl 3 rfl) ?_
          refine lv_iload_n hx hb dX11_books_56 rfl (lv_at hl 0 rfl) ?_
          refine lv_icmp_lt (tgt := 62) hx hb dX11_books_57 (by decide) (fun c152 => ?_) (fun c152 => ?_)
          · have kc152 := jlt c152 t2 rfl
            refine lv_iload_n hx hb dX11_books_62 rfl (lv_at hl 3 rfl) ?_
            refine lv_istore (lv' := [(4, .int a2), (3, .int r142), (0, .ref (ad 0)), (1, .int a1), (2, .int a2)]) hx hb dX11_books_63 hl (by decide) rfl (fun ls hl => ?_)
            have z158 : (σ138 47 0).toInt = 0 := by rw [(show σ138 47 0 = 0 from (by rw [eσ138]; exact jup_s))]; exact jz_0
            have w159 : ∀ k : Nat, k < 12 → 0 ≤ (σ138 49 k).toInt ∧ (σ138 49 k).toInt ≤ 1 := (by rw [eσ138, jup_n (by decide)]; exact w12)
            have lp153 : ∀ (n154 : Nat) (x155 : Int32) (σ157 : Nat → Nat → Int32) (H : Heap) (locs : List Loc) (ls : Array Slot), (r142.toInt - x155.toInt : Int) < n154 → 0 ≤ x155.toInt → x155.toInt ≤ 60 → 0 ≤ (σ157 47 0).toInt ∧ (σ157 47 0).toInt ≤ 12 → x155.toInt ≤ r142.toInt → (∀ i : Nat, (i < 47 ∨ 49 < i) → σ157 i = σ138 i) → (∀ k : Nat, (k < 0 ∨ 0 < k) → σ157 47 k = σ138 47 k) → (∀ k : Nat, k < 12 → 0 ≤ (σ157 49 k).toInt ∧ (σ157 49 k).toInt ≤ 1) → jH D cI cL ad σ157 τ H → va_S (jA ad) s.heap H locs → lv_has ls 6 [(4, .int x155), (3, .int r142), (0, .ref (ad 0)), (1, .int a1), (2, .int a2)] → W p l e ({ frames := 6, cells := 0, slots := 0, locals := 127 }) s m args below meth c H locs 0 0 Q (F0 m 65 ls []) := by
              intro n154
              induction n154 with
              | zero => intro x155 σ157 H locs ls h160 h161 h162 h163 h164; exact absurd h160 (by omega)
              | succ n154 ihlp153 =>
                intro x155 σ157 H locs ls h160 h161 h162 h163 h164 f165 f166 w167 hP hS hl
                refine lv_iload hx hb dX11_books_65 (lv_at hl 0 rfl) ?_
                refine lv_iload_n hx hb dX11_books_67 rfl (lv_at hl 1 rfl) ?_
                refine lv_icmp_ge (tgt := 161) hx hb dX11_books_68 (by decide) (fun c168 => ?_) (fun c168 => ?_)
                · have kc168 := jle c168 rfl rfl
                  refine lv_aload_n hx hb dX11_books_161 rfl (lv_at hl 2 rfl) ?_
                  refine va_get (D := D) hx hb hts inlX11 hown hK hP 0 (jc_0 cI cL ad σ157 τ) rfl 9 (by decide) (hts _ kw_3_1) (fun _ h9 => h9) rfl dX11_books_162 ?_
                  refine va_get (D := D) hx hb hts inlX2 hown hK hP 47 (jc_47 cI cL ad σ157 τ) rfl 0 (by decide) (hts _ kw_13_11) (fun _ h9 => h9) rfl dX11_books_165 ?_
                  have I169 : jI47 σ157 := ⟨(by omega), w167⟩
                  exact hret (σ157 47 0) σ157 τ _ _ _ _ rfl ⟨rfl, (fun i hi => by rw [f165 i (by omega), eσ138, jup_n (by omega)]), (fun k hk => by rw [f166 k (by omega), eσ138, jup_k (by omega)]), I169, trivial⟩ hP hS dX11_books_168
                · have kc168 := jnle c168 rfl rfl
                  refine lv_aload_n hx hb dX11_books_71 rfl (lv_at hl 2 rfl) ?_
                  refine va_get (D := D) hx hb hts inlX11 hown hK hP 0 (jc_0 cI cL ad σ157 τ) rfl 10 (by decide) (hts _ kw_3_5) (fun _ h9 => h9) rfl dX11_books_72 ?_
                  refine lv_iload_n hx hb dX11_books_75 rfl (lv_at hl 3 rfl) ?_
                  refine lv_iload hx hb dX11_books_76 (lv_at hl 0 rfl) ?_
                  have w170 : ∀ k : Nat, k < 6 → 0 ≤ (σ157 52 k).toInt ∧ (σ157 52 k).toInt ≤ 60 := (by rw [f165 52 (by omega)]; exact w139)
                  have I171 : jI50 σ157 := w170
                  refine jcallVl (As := [.int a1, .int x155]) (rest := []) ⟨hx, hb, hml, hown, hts⟩ hK hP hA hS hZ (c_X9_elementAt_50 l D cI cL ad zz hJ σ157 τ a1 (A1) t1 x155 (x155.toInt) rfl I171) cw_RX11_261 (jc_50 cI cL ad σ157 τ) rfl ⟨Nat.le_of_ble_eq_true rfl, Nat.le_of_ble_eq_true rfl⟩ rfl rfl rfl hl.1 rfl (Nat.le_of_ble_eq_true rfl) dX11_books_78 ⟨Nat.zero_le _, Nat.zero_le _⟩ (fun lxr173 σ172 τ172 H locs h172 hP hS => ?_)
                  obtain ⟨⟨rfl, rfl⟩, h172⟩ := h172
                  refine lv_l2i hx hb dX11_books_81 rfl ?_
                  refine lv_topi (fun x174 ex174 => ?_)
                  have gx174 := jrg (rfl : x174.toInt = x174.toInt)
                  refine lv_istore (lv' := [(5, .int x174), (4, .int x155), (3, .int r142), (0, .ref (ad 0)), (1, .int a1), (2, .int a2)]) hx hb dX11_books_82 hl (by decide) rfl (fun ls hl => ?_)
                  refine lv_iload hx hb dX11_books_84 (lv_at hl 0 rfl) ?_
                  refine lv_iconst (v := 0) hx hb dX11_books_86 (by decide) ?_
                  refine lv_bipush (v := 19) hx hb dX11_books_87 (by decide) ?_
                  refine jcallS (As := [.int x174, .int 0, .int 19]) (rest := []) ⟨hx, hb, hml, hown, hts⟩ hK hP hA hS hZ (c_X11_outside l D cI cL ad zz hJ σ157 τ x174 (x174.toInt) rfl 0 (0) jz_0 19 (19) jz_19) cw_RX11_94 ⟨Nat.le_of_ble_eq_true rfl, Nat.le_of_ble_eq_true rfl⟩ rfl rfl rfl hl.1 rfl (Nat.le_of_ble_eq_true rfl) dX11_books_89 ⟨Nat.zero_le _, Nat.zero_le _⟩ (fun r176 σ175 τ175 H locs h175 hP hS => ?_)
                  obtain ⟨⟨rfl, rfl⟩, h175⟩ := h175
                  rcases h175 with h177 | h178
                  · obtain ⟨q180, k179⟩ := h177
                    have q180 := q180.symm
                    subst q180
                    refine lv_if_ne (tgt := 161) hx hb dX11_books_92 (by decide) (fun _ => ?_) (fun c => absurd c (by decide))
                    refine lv_aload_n hx hb dX11_books_161 rfl (lv_at hl 3 rfl) ?_
                    refine va_get (D := D) hx hb hts inlX11 hown hK hP 0 (jc_0 cI cL ad σ157 τ) rfl 9 (by decide) (hts _ kw_3_1) (fun _ h9 => h9) rfl dX11_books_162 ?_
                    refine va_get (D := D) hx hb hts inlX2 hown hK hP 47 (jc_47 cI cL ad σ157 τ) rfl 0 (by decide) (hts _ kw_13_11) (fun _ h9 => h9) rfl dX11_books_165 ?_
                    have I181 : jI47 σ157 := ⟨(by omega), w167⟩
                    exact hret (σ157 47 0) σ157 τ _ _ _ _ rfl ⟨rfl, (fun i hi => by rw [f165 i (by omega), eσ138, jup_n (by omega)]), (fun k hk => by rw [f166 k (by omega), eσ138, jup_k (by omega)]), I181, trivial⟩ hP hS dX11_books_168
                  · obtain ⟨q183, k182⟩ := h178
                    have q183 := q183.symm
                    subst q183
                    refine lv_if_ne (tgt := 161) hx hb dX11_books_92 (by decide) (fun c => absurd (by decide) c) (fun _ => ?_)
                    refine lv_aload_n hx hb dX11_books_95 rfl (lv_at hl 3 rfl) ?_
                    refine lv_iload hx hb dX11_books_96 (lv_at hl 0 rfl) ?_
                    refine lv_bipush (v := 10) hx hb dX11_books_98 (by decide) ?_
                    refine lv_irem hx hb dX11_books_100 (by decide) ?_
                    refine lv_topi (fun x184 ex184 => ?_)
                    have tx184 : x184.toInt = (x174.toInt % 10) := jrem ex184 rfl jz_10 (by omega)
                    have z185 : (σ157 2 0).toInt = (σ 2 0).toInt := by rw [(show σ157 2 0 = (σ 2 0) from (by rw [f165 2 (by omega)]; exact (by rw [eσ138, jup_n (by decide)])))]
                    have z186 : (σ157 2 1).toInt = (σ 2 1).toInt := by rw [(show σ157 2 1 = (σ 2 1) from (by rw [f165 2 (by omega)]; exact (by rw [eσ138, jup_n (by decide)])))]
                    have z187 : (σ157 2 2).toInt = (σ 2 2).toInt := by rw [(show σ157 2 2 = (σ 2 2) from (by rw [f165 2 (by omega)]; exact (by rw [eσ138, jup_n (by decide)])))]
                    have z188 : (σ157 2 3).toInt = (σ 2 3).toInt := by rw [(show σ157 2 3 = (σ 2 3) from (by rw [f165 2 (by omega)]; exact (by rw [eσ138, jup_n (by decide)])))]
                    have w189 : ∀ k : Nat, k < 40 → 0 ≤ (σ157 6 k).toInt ∧ (σ157 6 k).toInt ≤ 67 := (by rw [f165 6 (by omega)]; exact (by rw [eσ138, jup_n (by decide)]; exact w6))
                    have I190 : jI2 σ157 := ⟨(by omega), (by omega), (by omega), (by omega), (by omega), w189⟩
                    refine jcallV (As := [.int x184]) (rest := []) ⟨hx, hb, hml, hown, hts⟩ hK hP hA hS hZ (c_X11_noBowler l D cI cL ad zz hJ σ157 τ x184 ((x174.toInt % 10)) tx184 I190) cw_RX11_152 (jc_0 cI cL ad σ157 τ) rfl ⟨Nat.le_of_ble_eq_true rfl, Nat.le_of_ble_eq_true rfl⟩ rfl rfl rfl hl.1 rfl (Nat.le_of_ble_eq_true rfl) dX11_books_101 ⟨Nat.zero_le _, Nat.zero_le _⟩ (fun r192 σ191 τ191 H locs h191 hP hS => ?_)
                    obtain ⟨⟨rfl, rfl⟩, h191⟩ := h191
                    rcases h191 with h193 | h194
                    · obtain ⟨q196, k195⟩ := h193
                      have q196 := q196.symm
                      subst q196
                      refine lv_if_ne (tgt := 161) hx hb dX11_books_104 (by decide) (fun _ => ?_) (fun c => absurd c (by decide))
                      refine lv_aload_n hx hb dX11_books_161 rfl (lv_at hl 3 rfl) ?_
                      refine va_get (D := D) hx hb hts inlX11 hown hK hP 0 (jc_0 cI cL ad σ157 τ) rfl 9 (by decide) (hts _ kw_3_1) (fun _ h9 => h9) rfl dX11_books_162 ?_
                      refine va_get (D := D) hx hb hts inlX2 hown hK hP 47 (jc_47 cI cL ad σ157 τ) rfl 0 (by decide) (hts _ kw_13_11) (fun _ h9 => h9) rfl dX11_books_165 ?_
                      have I197 : jI47 σ157 := ⟨(by omega), w167⟩
                      exact hret (σ157 47 0) σ157 τ _ _ _ _ rfl ⟨rfl, (fun i hi => by rw [f165 i (by omega), eσ138, jup_n (by omega)]), (fun k hk => by rw [f166 k (by omega), eσ138, jup_k (by omega)]), I197, trivial⟩ hP hS dX11_books_168
                    · obtain ⟨q199, k198⟩ := h194
                      have q199 := q199.symm
                      subst q199
                      refine lv_if_ne (tgt := 161) hx hb dX11_books_104 (by decide) (fun c => absurd (by decide) c) (fun _ => ?_)
                      refine lv_aload_n hx hb dX11_books_107 rfl (lv_at hl 3 rfl) ?_
                      refine lv_iload hx hb dX11_books_108 (lv_at hl 0 rfl) ?_
                      refine lv_bipush (v := 10) hx hb dX11_books_110 (by decide) ?_
                      refine lv_irem hx hb dX11_books_112 (by decide) ?_
                      refine lv_topi (fun x200 ex200 => ?_)
                      have tx200 : x200.toInt = (x174.toInt % 10) := jrem ex200 rfl jz_10 (by omega)
                      have z201 : (σ157 16 0).toInt = (σ 16 0).toInt := by rw [(show σ157 16 0 = (σ 16 0) from (by rw [f165 16 (by omega)]; exact (by rw [eσ138, jup_n (by decide)])))]
                      have z202 : (σ157 16 1).toInt = (σ 16 1).toInt := by rw [(show σ157 16 1 = (σ 16 1) from (by rw [f165 16 (by omega)]; exact (by rw [eσ138, jup_n (by decide)])))]
                      have z203 : (σ157 16 2).toInt = (σ 16 2).toInt := by rw [(show σ157 16 2 = (σ 16 2) from (by rw [f165 16 (by omega)]; exact (by rw [eσ138, jup_n (by decide)])))]
                      have w204 : ∀ k : Nat, k < 8 → 0 ≤ (σ157 17 k).toInt ∧ (σ157 17 k).toInt ≤ 3 := (by rw [f165 17 (by omega)]; exact (by rw [eσ138, jup_n (by decide)]; exact w10))
                      have I205 : jI16 σ157 := ⟨(by omega), (by omega), (by omega), w204⟩
                      have I206 : jI47 σ157 := ⟨(by omega), w167⟩
                      refine jcallV (As := [.int x200]) (rest := []) ⟨hx, hb, hml, hown, hts⟩ hK hP hA hS hZ (c_X11_mayBeBooked l D cI cL ad zz hJ σ157 τ x200 ((x174.toInt % 10)) tx200 I190 I205 I206) cw_RX11_243 (jc_0 cI cL ad σ157 τ) rfl ⟨Nat.le_of_ble_eq_true rfl, Nat.le_of_ble_eq_true rfl⟩ rfl rfl rfl hl.1 rfl (Nat.le_of_ble_eq_true rfl) dX11_books_113 ⟨Nat.zero_le _, Nat.zero_le _⟩ (fun r208 σ207 τ207 H locs h207 hP hS => ?_)
                      obtain ⟨⟨rfl, rfl⟩, h207⟩ := h207
                      refine lv_if_ne (tgt := 122) hx hb dX11_books_116 (by decide) (fun c209 => ?_) (fun c209 => ?_)
                      · have kc209 := jne c209 rfl jz_0
                        refine lv_aload_n hx hb dX11_books_122 rfl (lv_at hl 3 rfl) ?_
                        refine va_get (D := D) hx hb hts inlX11 hown hK hP 0 (jc_0 cI cL ad σ157 τ) rfl 9 (by decide) (hts _ kw_3_1) (fun _ h9 => h9) rfl dX11_books_123 ?_
                        refine va_get (D := D) hx hb hts inlX2 hown hK hP 47 (jc_47 cI cL ad σ157 τ) rfl 0 (by decide) (hts _ kw_13_11) (fun _ h9 => h9) rfl dX11_books_126 ?_
                        refine lv_bipush (v := 12) hx hb dX11_books_129 (by decide) ?_
                        refine lv_icmp_lt (tgt := 137) hx hb dX11_books_131 (by decide) (fun c210 => ?_) (fun c210 => ?_)
                        · have kc210 := jlt c210 rfl jz_12
                          refine lv_aload_n hx hb dX11_books_137 rfl (lv_at hl 3 rfl) ?_
                          refine va_get (D := D) hx hb hts inlX11 hown hK hP 0 (jc_0 cI cL ad σ157 τ) rfl 9 (by decide) (hts _ kw_3_1) (fun _ h9 => h9) rfl dX11_books_138 ?_
                          refine lv_iload hx hb dX11_books_141 (lv_at hl 0 rfl) ?_
                          refine lv_bipush (v := 10) hx hb dX11_books_143 (by decide) ?_
                          refine lv_irem hx hb dX11_books_145 (by decide) ?_
                          refine lv_topi (fun x211 ex211 => ?_)
                          have tx211 : x211.toInt = (x174.toInt % 10) := jrem ex211 rfl jz_10 (by omega)
                          refine lv_iload hx hb dX11_books_146 (lv_at hl 0 rfl) ?_
                          refine lv_bipush (v := 10) hx hb dX11_books_148 (by decide) ?_
                          refine lv_idiv hx hb dX11_books_150 (by decide) ?_
                          refine lv_topi (fun x212 ex212 => ?_)
                          have tx212 : x212.toInt = (x174.toInt / 10) := jdiv ex212 rfl jz_10 (by omega) (by omega)
                          refine jcallV (As := [.int x211, .int x212]) (rest := []) ⟨hx, hb, hml, hown, hts⟩ hK hP hA hS hZ (c_X2_write_47 l D cI cL ad zz hJ σ157 τ x211 ((x174.toInt % 10)) tx211 x212 ((x174.toInt / 10)) tx212 I206 (by omega)) cw_RX11_246 (jc_47 cI cL ad σ157 τ) rfl ⟨Nat.le_of_ble_eq_true rfl, Nat.le_of_ble_eq_true rfl⟩ rfl rfl rfl hl.1 rfl (Nat.le_of_ble_eq_true rfl) dX11_books_151 ⟨Nat.zero_le _, Nat.zero_le _⟩ (fun r214 σ213 τ213 H locs h213 hP hS => ?_)
                          obtain ⟨rfl, f215, f216, I217, h213⟩ := h213
                          obtain ⟨i218, w219⟩ : (0 ≤ (σ213 47 0).toInt ∧ (σ213 47 0).toInt ≤ 12) ∧ (∀ k : Nat, k < 12 → 0 ≤ (σ213 49 k).toInt ∧ (σ213 49 k).toInt ≤ 1) := id I217
                          refine lv_pop hx hb dX11_books_154 rfl ?_
                          obtain ⟨x220, ex220⟩ : ∃ y : Int32, y = x155 + 1 := ⟨_, rfl⟩
                          have tx220 : x220.toInt = x155.toInt + 1 := (jadd ex220 rfl jz_1 (by omega) (by omega)).trans (by omega)
                          refine lv_iinc (v := x220) (lv' := [(4, .int x220), (5, .int x174), (3, .int r142), (0, .ref (ad 0)), (1, .int a1), (2, .int a2)]) hx hb dX11_books_155 hl (k := 1) rfl (by rw [ex220]; rfl) (by decide) rfl (fun ls hl => ?_)
                          refine lv_goto (tgt := 65) hx hb dX11_books_158 (by decide) ?_
                          exact ihlp153 x220 σ213 _ _ ls (by have h90 := tx220; omega) (by have h90 := tx220; omega) (by have h90 := tx220; omega) (by have h90 := tx220; omega) (by have h90 := tx220; omega) (fun i hi => by rw [f215 i (by omega), f165 i hi]) (fun k hk => by rw [f216 k (by omega), f166 k hk])  w219 hP hS (lv_sub hl [0, 2, 3, 4, 5] rfl)
                        · have kc210 := jnlt c210 rfl jz_12
                          refine lv_goto (tgt := 161) hx hb dX11_books_134 (by decide) ?_
                          refine lv_aload_n hx hb dX11_books_161 rfl (lv_at hl 3 rfl) ?_
                          refine va_get (D := D) hx hb hts inlX11 hown hK hP 0 (jc_0 cI cL ad σ157 τ) rfl 9 (by decide) (hts _ kw_3_1) (fun _ h9 => h9) rfl dX11_books_162 ?_
                          refine va_get (D := D) hx hb hts inlX2 hown hK hP 47 (jc_47 cI cL ad σ157 τ) rfl 0 (by decide) (hts _ kw_13_11) (fun _ h9 => h9) rfl dX11_books_165 ?_
                          exact hret (σ157 47 0) σ157 τ _ _ _ _ rfl ⟨rfl, (fun i hi => by rw [f165 i (by omega), eσ138, jup_n (by omega)]), (fun k hk => by rw [f166 k (by omega), eσ138, jup_k (by omega)]), I206, trivial⟩ hP hS dX11_books_168
                      · have kc209 := jeq c209 rfl jz_0
                        refine lv_goto (tgt := 161) hx hb dX11_books_119 (by decide) ?_
                        refine lv_aload_n hx hb dX11_books_161 rfl (lv_at hl 3 rfl) ?_
                        refine va_get (D := D) hx hb hts inlX11 hown hK hP 0 (jc_0 cI cL ad σ157 τ) rfl 9 (by decide) (hts _ kw_3_1) (fun _ h9 => h9) rfl dX11_books_162 ?_
                        refine va_get (D := D) hx hb hts inlX2 hown hK hP 47 (jc_47 cI cL ad σ157 τ) rfl 0 (by decide) (hts _ kw_13_11) (fun _ h9 => h9) rfl dX11_books_165 ?_
                        exact hret (σ157 47 0) σ157 τ _ _ _ _ rfl ⟨rfl, (fun i hi => by rw [f165 i (by omega), eσ138, jup_n (by omega)]), (fun k hk => by rw [f166 k (by omega), eσ138, jup_k (by omega)]), I206, trivial⟩ hP hS dX11_books_168
            exact lp153 1000000 a2 σ138 _ _ ls (by have h90 := t2; omega) (by have h90 := t2; omega) (by have h90 := t2; omega) (by have h90 := t2; omega) (by have h90 := t2; omega) (fun _ _ => rfl) (fun _ _ => rfl)  w159 hP hS hl
          · have kc152 := jnlt c152 t2 rfl
            refine lv_iconst (v := 0) hx hb dX11_books_60 (by decide) ?_
            have z221 : (σ138 47 0).toInt = 0 := by rw [(show σ138 47 0 = 0 from (by rw [eσ138]; exact jup_s))]; exact jz_0
            have w222 : ∀ k : Nat, k < 12 → 0 ≤ (σ138 49 k).toInt ∧ (σ138 49 k).toInt ≤ 1 := (by rw [eσ138, jup_n (by decide)]; exact w12)
            have I223 : jI47 σ138 := ⟨(by omega), w222⟩
            exact hret 0 σ138 τ _ _ _ _ rfl ⟨rfl, (fun i hi => by rw [eσ138, jup_n (by omega)]), (fun k hk => by rw [eσ138, jup_k (by omega)]), I223, trivial⟩ hP hS dX11_books_61
      · obtain ⟨q225, k224⟩ := h144
        have q225 := q225.symm
        subst q225
        refine lv_istore_n (lv' := [(3, .int 0), (0, .ref (ad 0)), (1, .int a1), (2, .int a2)]) hx hb dX11_books_50 rfl hl (by decide) rfl (fun ls hl => ?_)
        refine lv_iload_n hx hb dX11_books_51 rfl (lv_at hl 3 rfl) ?_
        refine lv_if_lt (tgt := 60) hx hb dX11_books_52 (by decide) (fun c226 => ?_) (fun c226 => ?_)
        · have kc226 := jlt c226 t2 jz_0
          refine lv_iconst (v := 0) hx hb dX11_books_60 (by decide) ?_
          have z227 : (σ138 47 0).toInt = 0 := by rw [(show σ138 47 0 = 0 from (by rw [eσ138]; exact jup_s))]; exact jz_0
          have w228 : ∀ k : Nat, k < 12 → 0 ≤ (σ138 49 k).toInt ∧ (σ138 49 k).toInt ≤ 1 := (by rw [eσ138, jup_n (by decide)]; exact w12)
          have I229 : jI47 σ138 := ⟨(by omega), w228⟩
          exact hret 0 σ138 τ _ _ _ _ rfl ⟨rfl, (fun i hi => by rw [eσ138, jup_n (by omega)]), (fun k hk => by rw [eσ138, jup_k (by omega)]), I229, trivial⟩ hP hS dX11_books_61
        · have kc226 := jnlt c226 t2 jz_0
          refine lv_iload_n hx hb dX11_books_55 rfl (lv_at hl 3 rfl) ?_
          refine lv_iload_n hx hb dX11_books_56 rfl (lv_at hl 0 rfl) ?_
          refine lv_icmp_lt (tgt := 62) hx hb dX11_books_57 (by decide) (fun c => absurd (jlt c t2 jz_0) (by omega)) (fun c230 => ?_)
          have kc230 := jnlt c230 t2 jz_0
          refine lv_iconst (v := 0) hx hb dX11_books_60 (by decide) ?_
          have z231 : (σ138 47 0).toInt = 0 := by rw [(show σ138 47 0 = 0 from (by rw [eσ138]; exact jup_s))]; exact jz_0
          have w232 : ∀ k : Nat, k < 12 → 0 ≤ (σ138 49 k).toInt ∧ (σ138 49 k).toInt ≤ 1 := (by rw [eσ138, jup_n (by decide)]; exact w12)
          have I233 : jI47 σ138 := ⟨(by omega), w232⟩
          exact hret 0 σ138 τ _ _ _ _ rfl ⟨rfl, (fun i hi => by rw [eσ138, jup_n (by omega)]), (fun k hk => by rw [eσ138, jup_k (by omega)]), I233, trivial⟩ hP hS dX11_books_61
set_option maxHeartbeats 4000000 in
set_option maxRecDepth 100000 in
theorem c_X11_close (l : Launch) (D : va_G) (cI cL : ClassId) (ad zz : Nat → Nat) (hJ : jD ad) (σ : Nat → Nat → Int32) (τ : Nat → Nat → Int64) (hI47 : jI47 σ) : jM l yX11_close cX11_close 2 (some .int) ({ frames := 0, cells := 0, slots := 0, locals := 0 }) D cI cL ad zz [.ref (ad 0)] σ τ (fun r σ' τ' => τ = τ' ∧ (∀ i : Nat, (i < 47 ∨ 47 < i) → σ' i = σ i) ∧ (∀ k : Nat, (k < 0 ∨ 0 < k) → σ' 47 k = σ 47 k) ∧ (jI47 σ') ∧ True) := by
  refine jM.of hJ (by decide +kernel) (nt := .int) rfl (Nat.le_of_ble_eq_true rfl) ?_
  intro p e s m args below meth c Q ls hC hret hl hP
  obtain ⟨hx, hb, hr, hml, hown, hts, hK, -, hlocks, hZ⟩ := hC
  have hown : s.vm.findClass RX11 = some m.cls := hown
  have hS : va_S (jA ad) s.heap s.heap [] := va_S.rf
  have hA : ∀ q, jA ad q → jA ad q := fun _ h => h
  have hl : lv_has ls 2 [(0, .ref (ad 0))] := hl
  obtain ⟨i1, w2⟩ : (0 ≤ (σ 47 0).toInt ∧ (σ 47 0).toInt ≤ 12) ∧ (∀ k : Nat, k < 12 → 0 ≤ (σ 49 k).toInt ∧ (σ 49 k).toInt ≤ 1) := id hI47
  refine lv_aload_n hx hb dX11_close_0 rfl (lv_at hl 0 rfl) ?_
  refine va_get (D := D) hx hb hts inlX11 hown hK hP 0 (jc_0 cI cL ad σ τ) rfl 9 (by decide) (hts _ kw_3_1) (fun _ h9 => h9) rfl dX11_close_1 ?_
  refine va_get (D := D) hx hb hts inlX2 hown hK hP 47 (jc_47 cI cL ad σ τ) rfl 0 (by decide) (hts _ kw_13_11) (fun _ h9 => h9) rfl dX11_close_4 ?_
  refine lv_istore_n (lv' := [(1, .int (σ 47 0)), (0, .ref (ad 0))]) hx hb dX11_close_7 rfl hl (by decide) rfl (fun ls hl => ?_)
  refine lv_aload_n hx hb dX11_close_8 rfl (lv_at hl 1 rfl) ?_
  refine va_get (D := D) hx hb hts inlX11 hown hK hP 0 (jc_0 cI cL ad σ τ) rfl 9 (by decide) (hts _ kw_3_1) (fun _ h9 => h9) rfl dX11_close_9 ?_
  refine lv_iconst (v := 0) hx hb dX11_close_12 (by decide) ?_
  refine jput (ty := .int) hx hb hts inlX2 tyX2 tyX2_ok nmX2 hown hK hP hJ hA hS (jc_47 cI cL ad σ τ) rfl (k := 0) (by decide) (Nat.le_of_ble_eq_true rfl) (jp_47_0 cI cL ad σ τ 0) (hts _ kw_13_11) (fun _ h9 => h9) rfl (by decide +kernel) rfl rfl dX11_close_13 (fun σ3 H locs eσ3 hP hS => ?_)
  refine lv_iload_n hx hb dX11_close_16 rfl (lv_at hl 0 rfl) ?_
  have z4 : (σ3 47 0).toInt = 0 := by rw [(show σ3 47 0 = 0 from (by rw [eσ3]; exact jup_s))]; exact jz_0
  have w5 : ∀ k : Nat, k < 12 → 0 ≤ (σ3 49 k).toInt ∧ (σ3 49 k).toInt ≤ 1 := (by rw [eσ3, jup_n (by decide)]; exact w2)
  have I6 : jI47 σ3 := ⟨(by omega), w5⟩
  exact hret (σ 47 0) σ3 τ _ _ _ _ rfl ⟨rfl, (fun i hi => by rw [eσ3, jup_n (by omega)]), (fun k hk => by rw [eσ3, jup_k (by omega)]), I6, trivial⟩ hP hS dX11_close_17
set_option maxHeartbeats 4000000 in
set_option maxRecDepth 100000 in
theorem c_X11_costOf (l : Launch) (D : va_G) (cI cL : ClassId) (ad zz : Nat → Nat) (hJ : jD ad) (σ : Nat → Nat → Int32) (τ : Nat → Nat → Int64) (a1 : Int32) (A1 : Int) (t1 : a1.toInt = A1) (hI2 : jI2 σ) (hI16 : jI16 σ) (hI22 : jI22 σ) (hI31 : jI31 σ) (hI47 : jI47 σ) : jM l yX11_costOf cX11_costOf 12 (some .int) ({ frames := 6, cells := 0, slots := 0, locals := 162 }) D cI cL ad zz [.ref (ad 0), .int a1] σ τ (fun r σ' τ' => τ = τ' ∧ (∀ i : Nat, (i < 24 ∨ 25 < i) ∧ (i < 27 ∨ 37 < i) → σ' i = σ i) ∧ (∀ k : Nat, (k < 8 ∨ 8 < k) ∧ (k < 9 ∨ 9 < k) ∧ (k < 10 ∨ 10 < k) ∧ (k < 11 ∨ 11 < k) ∧ (k < 12 ∨ 12 < k) → σ' 31 k = σ 31 k) ∧ (jI31 σ') ∧ True) := by
  refine jM.of hJ (by decide +kernel) (nt := .int) rfl (Nat.le_of_ble_eq_true rfl) ?_
  intro p e s m args below meth c Q ls hC hret hl hP
  obtain ⟨hx, hb, hr, hml, hown, hts, hK, -, hlocks, hZ⟩ := hC
  have hown : s.vm.findClass RX11 = some m.cls := hown
  have hS : va_S (jA ad) s.heap s.heap [] := va_S.rf
  have hA : ∀ q, jA ad q → jA ad q := fun _ h => h
  have hl : lv_has ls 12 [(0, .ref (ad 0)), (1, .int a1)] := hl
  have g1 := jrg t1
  obtain ⟨i1, i2, i3, i4, i5, w6⟩ : (0 ≤ (σ 2 0).toInt ∧ (σ 2 0).toInt ≤ 4) ∧ (0 ≤ (σ 2 1).toInt ∧ (σ 2 1).toInt ≤ 3) ∧ (0 ≤ (σ 2 2).toInt) ∧ (0 ≤ (σ 2 3).toInt) ∧ ((σ 2 2).toInt + (σ 2 3).toInt ≤ 40) ∧ (∀ k : Nat, k < 40 → 0 ≤ (σ 6 k).toInt ∧ (σ 6 k).toInt ≤ 67) := id hI2
  obtain ⟨i7, i8, i9, w10⟩ : (1 ≤ (σ 16 0).toInt ∧ (σ 16 0).toInt ≤ 8) ∧ (1 ≤ (σ 16 1).toInt ∧ (σ 16 1).toInt ≤ 12) ∧ (0 ≤ (σ 16 2).toInt ∧ (σ 16 2).toInt ≤ 999) ∧ (∀ k : Nat, k < 8 → 0 ≤ (σ 17 k).toInt ∧ (σ 17 k).toInt ≤ 3) := id hI16
  obtain ⟨i11, w12⟩ : (0 ≤ (σ 22 0).toInt ∧ (σ 22 0).toInt ≤ 160) ∧ (∀ k : Nat, k < 160 → 0 ≤ (σ 23 k).toInt ∧ (σ 23 k).toInt ≤ 30000) := id hI22
  obtain ⟨i13, w14, w15⟩ : (0 ≤ (σ 31 8).toInt ∧ (σ 31 8).toInt ≤ 350) ∧ (∀ k : Nat, k < 1400 → (-1) ≤ (σ 33 k).toInt ∧ (σ 33 k).toInt ≤ 350) ∧ (∀ k : Nat, k < 1024 → 0 ≤ (σ 36 k).toInt ∧ (σ 36 k).toInt ≤ 349) := id hI31
  obtain ⟨i16, w17⟩ : (0 ≤ (σ 47 0).toInt ∧ (σ 47 0).toInt ≤ 12) ∧ (∀ k : Nat, k < 12 → 0 ≤ (σ 49 k).toInt ∧ (σ 49 k).toInt ≤ 1) := id hI47
  refine lv_aload_n hx hb dX11_costOf_0 rfl (lv_at hl 0 rfl) ?_
  refine va_get (D := D) hx hb hts inlX11 hown hK hP 0 (jc_0 cI cL ad σ τ) rfl 9 (by decide) (hts _ kw_3_1) (fun _ h9 => h9) rfl dX11_costOf_1 ?_
  refine lv_iload_n hx hb dX11_costOf_4 rfl (lv_at hl 1 rfl) ?_
  have I18 : jI47 σ := ⟨(by omega), w17⟩
  refine jcallV (As := [.int a1]) (rest := []) ⟨hx, hb, hml, hown, hts⟩ hK hP hA hS hZ (c_X2_outs_47 l D cI cL ad zz hJ σ τ a1 (A1) t1 I18) cw_RX11_180 (jc_47 cI cL ad σ τ) rfl ⟨Nat.le_of_ble_eq_true rfl, Nat.le_of_ble_eq_true rfl⟩ rfl rfl rfl hl.1 rfl (Nat.le_of_ble_eq_true rfl) dX11_costOf_5 ⟨Nat.zero_le _, Nat.zero_le _⟩ (fun r20 σ19 τ19 H locs h19 hP hS => ?_)
  obtain ⟨⟨rfl, rfl⟩, h19⟩ := h19
  refine lv_istore_n (lv' := [(2, .int r20), (0, .ref (ad 0)), (1, .int a1)]) hx hb dX11_costOf_8 rfl hl (by decide) rfl (fun ls hl => ?_)
  refine lv_aload_n hx hb dX11_costOf_9 rfl (lv_at hl 1 rfl) ?_
  refine va_get (D := D) hx hb hts inlX11 hown hK hP 0 (jc_0 cI cL ad σ τ) rfl 9 (by decide) (hts _ kw_3_1) (fun _ h9 => h9) rfl dX11_costOf_10 ?_
  refine lv_iload_n hx hb dX11_costOf_13 rfl (lv_at hl 2 rfl) ?_
  refine lv_aload_n hx hb dX11_costOf_14 rfl (lv_at hl 1 rfl) ?_
  refine va_get (D := D) hx hb hts inlX11 hown hK hP 0 (jc_0 cI cL ad σ τ) rfl 0 (by decide) (hts _ kw_1_16) (fun _ h9 => h9) rfl dX11_costOf_15 ?_
  have I21 : jI2 σ := ⟨(by omega), (by omega), (by omega), (by omega), (by omega), w6⟩
  refine jcallV (As := [.int a1, .ref (ad 2)]) (rest := []) ⟨hx, hb, hml, hown, hts⟩ hK hP hA hS hZ (c_X2_attackAhead_47 l D cI cL ad zz hJ σ τ a1 (A1) t1 I21 I18) cw_RX11_186 (jc_47 cI cL ad σ τ) rfl ⟨Nat.le_of_ble_eq_true rfl, Nat.le_of_ble_eq_true rfl⟩ rfl rfl rfl hl.1 rfl (Nat.le_of_ble_eq_true rfl) dX11_costOf_18 ⟨Nat.zero_le _, Nat.zero_le _⟩ (fun r23 σ22 τ22 H locs h22 hP hS => ?_)
  obtain ⟨⟨rfl, rfl⟩, h22⟩ := h22
  refine lv_istore_n (lv' := [(3, .int r23), (2, .int r20), (0, .ref (ad 0)), (1, .int a1)]) hx hb dX11_costOf_21 rfl hl (by decide) rfl (fun ls hl => ?_)
  refine lv_aload_n hx hb dX11_costOf_22 rfl (lv_at hl 2 rfl) ?_
  refine va_get (D := D) hx hb hts inlX11 hown hK hP 0 (jc_0 cI cL ad σ τ) rfl 9 (by decide) (hts _ kw_3_1) (fun _ h9 => h9) rfl dX11_costOf_23 ?_
  refine lv_iload_n hx hb dX11_costOf_26 rfl (lv_at hl 3 rfl) ?_
  refine jcallV (As := [.int a1]) (rest := []) ⟨hx, hb, hml, hown, hts⟩ hK hP hA hS hZ (c_X2_bowlerAt_47 l D cI cL ad zz hJ σ τ a1 (A1) t1 I18) cw_RX11_343 (jc_47 cI cL ad σ τ) rfl ⟨Nat.le_of_ble_eq_true rfl, Nat.le_of_ble_eq_true rfl⟩ rfl rfl rfl hl.1 rfl (Nat.le_of_ble_eq_true rfl) dX11_costOf_27 ⟨Nat.zero_le _, Nat.zero_le _⟩ (fun r25 σ24 τ24 H locs h24 hP hS => ?_)
  obtain ⟨⟨rfl, rfl⟩, h24⟩ := h24
  refine lv_istore (lv' := [(4, .int r25), (3, .int r23), (2, .int r20), (0, .ref (ad 0)), (1, .int a1)]) hx hb dX11_costOf_30 hl (by decide) rfl (fun ls hl => ?_)
  refine lv_aload_n hx hb dX11_costOf_32 rfl (lv_at hl 3 rfl) ?_
  refine va_get (D := D) hx hb hts inlX11 hown hK hP 0 (jc_0 cI cL ad σ τ) rfl 2 (by decide) (hts _ kw_2_0) (fun _ h9 => h9) rfl dX11_costOf_33 ?_
  refine lv_iload_n hx hb dX11_costOf_36 rfl (lv_at hl 4 rfl) ?_
  refine lv_iload_n hx hb dX11_costOf_37 rfl (lv_at hl 2 rfl) ?_
  refine lv_iload_n hx hb dX11_costOf_38 rfl (lv_at hl 1 rfl) ?_
  refine jcallV (As := [.int a1, .int r20, .int r23]) (rest := []) ⟨hx, hb, hml, hown, hts⟩ hK hP hA hS hZ (c_X6_ended_16 l D cI cL ad zz hJ σ τ a1 (A1) t1 r20 (r20.toInt) rfl r23 (r23.toInt) rfl) cw_RX11_190 (jc_16 cI cL ad σ τ) rfl ⟨Nat.le_of_ble_eq_true rfl, Nat.le_of_ble_eq_true rfl⟩ rfl rfl rfl hl.1 rfl (Nat.le_of_ble_eq_true rfl) dX11_costOf_39 ⟨Nat.zero_le _, Nat.zero_le _⟩ (fun r27 σ26 τ26 H locs h26 hP hS => ?_)
  obtain ⟨⟨rfl, rfl⟩, h26⟩ := h26
  refine lv_if_eq (tgt := 47) hx hb dX11_costOf_42 (by decide) (fun c28 => ?_) (fun c28 => ?_)
  · have kc28 := jeq c28 rfl jz_0
    refine lv_aload_n hx hb dX11_costOf_47 rfl (lv_at hl 3 rfl) ?_
    refine va_get (D := D) hx hb hts inlX11 hown hK hP 0 (jc_0 cI cL ad σ τ) rfl 5 (by decide) (hts _ kw_2_9) (fun _ h9 => h9) rfl dX11_costOf_48 ?_
    refine lv_aload_n hx hb dX11_costOf_51 rfl (lv_at hl 3 rfl) ?_
    refine va_get (D := D) hx hb hts inlX11 hown hK hP 0 (jc_0 cI cL ad σ τ) rfl 0 (by decide) (hts _ kw_1_16) (fun _ h9 => h9) rfl dX11_costOf_52 ?_
    refine va_get (D := D) hx hb hts inlX4 hown hK hP 2 (jc_2 cI cL ad σ τ) rfl 1 (by decide) (hts _ kw_12_8) (fun _ h9 => h9) rfl dX11_costOf_55 ?_
    refine jcallVv (As := [.int (σ 2 1)]) (rest := []) ⟨hx, hb, hml, hown, hts⟩ hK hP hA hS hZ (c_X5_lay_26 l D cI cL ad zz hJ σ τ (σ 2 1) ((σ 2 1).toInt) rfl) cw_RX11_156 (jc_26 cI cL ad σ τ) rfl ⟨Nat.le_of_ble_eq_true rfl, Nat.le_of_ble_eq_true rfl⟩ rfl rfl rfl hl.1 rfl (Nat.le_of_ble_eq_true rfl) dX11_costOf_58 ⟨Nat.zero_le _, Nat.zero_le _⟩ (fun σ29 τ29 H locs h29 hP hS => ?_)
    obtain ⟨rfl, f31, h29⟩ := h29
    refine lv_aload_n hx hb dX11_costOf_61 rfl (lv_at hl 3 rfl) ?_
    refine va_get (D := D) hx hb hts inlX11 hown hK hP 0 (jc_0 cI cL ad σ29 τ) rfl 6 (by decide) (hts _ kw_2_13) (fun _ h9 => h9) rfl dX11_costOf_62 ?_
    refine lv_iload_n hx hb dX11_costOf_65 rfl (lv_at hl 1 rfl) ?_
    refine lv_iload_n hx hb dX11_costOf_66 rfl (lv_at hl 4 rfl) ?_
    refine lv_iload_n hx hb dX11_costOf_67 rfl (lv_at hl 2 rfl) ?_
    have z32 : (σ29 16 0).toInt = (σ 16 0).toInt := by rw [(show σ29 16 0 = (σ 16 0) from (by rw [f31 16 (by omega)]))]
    have z33 : (σ29 16 1).toInt = (σ 16 1).toInt := by rw [(show σ29 16 1 = (σ 16 1) from (by rw [f31 16 (by omega)]))]
    have z34 : (σ29 16 2).toInt = (σ 16 2).toInt := by rw [(show σ29 16 2 = (σ 16 2) from (by rw [f31 16 (by omega)]))]
    have w35 : ∀ k : Nat, k < 8 → 0 ≤ (σ29 17 k).toInt ∧ (σ29 17 k).toInt ≤ 3 := (by rw [f31 17 (by omega)]; exact w10)
    have I36 : jI16 σ29 := ⟨(by omega), (by omega), (by omega), w35⟩
    have z37 : (σ29 22 0).toInt = (σ 22 0).toInt := by rw [(show σ29 22 0 = (σ 22 0) from (by rw [f31 22 (by omega)]))]
    have w38 : ∀ k : Nat, k < 160 → 0 ≤ (σ29 23 k).toInt ∧ (σ29 23 k).toInt ≤ 30000 := (by rw [f31 23 (by omega)]; exact w12)
    have I39 : jI22 σ29 := ⟨(by omega), w38⟩
    have z40 : (σ29 31 8).toInt = (σ 31 8).toInt := by rw [(show σ29 31 8 = (σ 31 8) from (by rw [f31 31 (by omega)]))]
    have w41 : ∀ k : Nat, k < 1400 → (-1) ≤ (σ29 33 k).toInt ∧ (σ29 33 k).toInt ≤ 350 := (by rw [f31 33 (by omega)]; exact w14)
    have w42 : ∀ k : Nat, k < 1024 → 0 ≤ (σ29 36 k).toInt ∧ (σ29 36 k).toInt ≤ 349 := (by rw [f31 36 (by omega)]; exact w15)
    have I43 : jI31 σ29 := ⟨(by omega), w41, w42⟩
    refine jcallVv (As := [.int r23, .int a1, .int r20]) (rest := []) ⟨hx, hb, hml, hown, hts⟩ hK hP hA hS hZ (c_X1_seek_31 l D cI cL ad zz hJ σ29 τ r23 (r23.toInt) rfl a1 (A1) t1 r20 (r20.toInt) rfl I36 I39 I43) cw_RX11_193 (jc_31 cI cL ad σ29 τ) rfl ⟨Nat.le_of_ble_eq_true rfl, Nat.le_of_ble_eq_true rfl⟩ rfl rfl rfl hl.1 rfl (Nat.le_of_ble_eq_true rfl) dX11_costOf_68 ⟨Nat.zero_le _, Nat.zero_le _⟩ (fun σ44 τ44 H locs h44 hP hS => ?_)
    obtain ⟨rfl, f46, f47, I48, h44⟩ := h44
    obtain ⟨i49, w50, w51⟩ : (0 ≤ (σ44 31 8).toInt ∧ (σ44 31 8).toInt ≤ 350) ∧ (∀ k : Nat, k < 1400 → (-1) ≤ (σ44 33 k).toInt ∧ (σ44 33 k).toInt ≤ 350) ∧ (∀ k : Nat, k < 1024 → 0 ≤ (σ44 36 k).toInt ∧ (σ44 36 k).toInt ≤ 349) := id I48
    refine lv_aload_n hx hb dX11_costOf_71 rfl (lv_at hl 3 rfl) ?_
    refine va_get (D := D) hx hb hts inlX11 hown hK hP 0 (jc_0 cI cL ad σ44 τ) rfl 6 (by decide) (hts _ kw_2_13) (fun _ h9 => h9) rfl dX11_costOf_72 ?_
    refine lv_iconst (v := 0) hx hb dX11_costOf_75 (by decide) ?_
    refine lv_iload_n hx hb dX11_costOf_76 rfl (lv_at hl 2 rfl) ?_
    have z52 : (σ44 16 0).toInt = (σ 16 0).toInt := by rw [(show σ44 16 0 = (σ 16 0) from (by rw [f46 16 (by omega)]; exact (by rw [f31 16 (by omega)])))]
    have z53 : (σ44 16 1).toInt = (σ 16 1).toInt := by rw [(show σ44 16 1 = (σ 16 1) from (by rw [f46 16 (by omega)]; exact (by rw [f31 16 (by omega)])))]
    have z54 : (σ44 16 2).toInt = (σ 16 2).toInt := by rw [(show σ44 16 2 = (σ 16 2) from (by rw [f46 16 (by omega)]; exact (by rw [f31 16 (by omega)])))]
    have w55 : ∀ k : Nat, k < 8 → 0 ≤ (σ44 17 k).toInt ∧ (σ44 17 k).toInt ≤ 3 := (by rw [f46 17 (by omega)]; exact w35)
    have I56 : jI16 σ44 := ⟨(by omega), (by omega), (by omega), w55⟩
    refine jcallV (As := [.int 0, .int r20]) (rest := []) ⟨hx, hb, hml, hown, hts⟩ hK hP hA hS hZ (c_X1_valueAt_31 l D cI cL ad zz hJ σ44 τ 0 (0) jz_0 r20 (r20.toInt) rfl I56 I48) cw_RX11_215 (jc_31 cI cL ad σ44 τ) rfl ⟨Nat.le_of_ble_eq_true rfl, Nat.le_of_ble_eq_true rfl⟩ rfl rfl rfl hl.1 rfl (Nat.le_of_ble_eq_true rfl) dX11_costOf_77 ⟨Nat.zero_le _, Nat.zero_le _⟩ (fun r58 σ57 τ57 H locs h57 hP hS => ?_)
    obtain ⟨⟨rfl, rfl⟩, h57⟩ := h57
    refine lv_istore (lv' := [(5, .int r58), (4, .int r25), (3, .int r23), (2, .int r20), (0, .ref (ad 0)), (1, .int a1)]) hx hb dX11_costOf_80 hl (by decide) rfl (fun ls hl => ?_)
    refine lv_iconst (v := 0) hx hb dX11_costOf_82 (by decide) ?_
    refine lv_istore (lv' := [(6, .int 0), (5, .int r58), (4, .int r25), (3, .int r23), (2, .int r20), (0, .ref (ad 0)), (1, .int a1)]) hx hb dX11_costOf_83 hl (by decide) rfl (fun ls hl => ?_)
    refine lv_iconst (v := 0) hx hb dX11_costOf_85 (by decide) ?_
    refine lv_istore (lv' := [(7, .int 0), (6, .int 0), (5, .int r58), (4, .int r25), (3, .int r23), (2, .int r20), (0, .ref (ad 0)), (1, .int a1)]) hx hb dX11_costOf_86 hl (by decide) rfl (fun ls hl => ?_)
    refine lv_iload_n hx hb dX11_costOf_88 rfl (lv_at hl 4 rfl) ?_
    refine lv_iload hx hb dX11_costOf_89 (lv_at hl 3 rfl) ?_
    refine jcallS (As := [.int r23, .int r25]) (rest := []) ⟨hx, hb, hml, hown, hts⟩ hK hP hA hS hZ (c_X0_after l D cI cL ad zz hJ σ44 τ r23 (r23.toInt) rfl r25 (r25.toInt) rfl) cw_RX11_232 ⟨Nat.le_of_ble_eq_true rfl, Nat.le_of_ble_eq_true rfl⟩ rfl rfl rfl hl.1 rfl (Nat.le_of_ble_eq_true rfl) dX11_costOf_91 ⟨Nat.zero_le _, Nat.zero_le _⟩ (fun r60 σ59 τ59 H locs h59 hP hS => ?_)
    obtain ⟨⟨rfl, rfl⟩, h59⟩ := h59
    refine lv_istore (lv' := [(8, .int r60), (7, .int 0), (6, .int 0), (5, .int r58), (4, .int r25), (3, .int r23), (2, .int r20), (0, .ref (ad 0)), (1, .int a1)]) hx hb dX11_costOf_94 hl (by decide) rfl (fun ls hl => ?_)
    refine lv_iload_n hx hb dX11_costOf_96 rfl (lv_at hl 8 rfl) ?_
    refine lv_iconst (v := 1) hx hb dX11_costOf_97 (by decide) ?_
    refine lv_iadd hx hb dX11_costOf_98 ?_
    refine lv_topi (fun x61 ex61 => ?_)
    have gx61 := jrg (rfl : x61.toInt = x61.toInt)
    refine lv_aload_n hx hb dX11_costOf_99 rfl (lv_at hl 7 rfl) ?_
    refine va_get (D := D) hx hb hts inlX11 hown hK hP 0 (jc_0 cI cL ad σ44 τ) rfl 2 (by decide) (hts _ kw_2_0) (fun _ h9 => h9) rfl dX11_costOf_100 ?_
    refine va_get (D := D) hx hb hts inlX6 hown hK hP 16 (jc_16 cI cL ad σ44 τ) rfl 1 (by decide) (hts _ kw_20_5) (fun _ h9 => h9) rfl dX11_costOf_103 ?_
    have m62 : σ44 16 1 = (σ 16 1) := (by rw [f46 16 (by omega)]; exact (by rw [f31 16 (by omega)]))
    refine jtopr m62 ?_
    refine lv_icmp_ge (tgt := 146) hx hb dX11_costOf_106 (by decide) (fun c63 => ?_) (fun c63 => ?_)
    · have kc63 := jle c63 rfl rfl
      refine lv_aload_n hx hb dX11_costOf_146 rfl (lv_at hl 7 rfl) ?_
      refine va_get (D := D) hx hb hts inlX11 hown hK hP 0 (jc_0 cI cL ad σ44 τ) rfl 2 (by decide) (hts _ kw_2_0) (fun _ h9 => h9) rfl dX11_costOf_147 ?_
      refine lv_iload_n hx hb dX11_costOf_150 rfl (lv_at hl 6 rfl) ?_
      refine jcallV (As := [.int r20]) (rest := []) ⟨hx, hb, hml, hown, hts⟩ hK hP hA hS hZ (c_X6_sortAt_16 l D cI cL ad zz hJ σ44 τ r20 (r20.toInt) rfl) cw_RX11_149 (jc_16 cI cL ad σ44 τ) rfl ⟨Nat.le_of_ble_eq_true rfl, Nat.le_of_ble_eq_true rfl⟩ rfl rfl rfl hl.1 rfl (Nat.le_of_ble_eq_true rfl) dX11_costOf_151 ⟨Nat.zero_le _, Nat.zero_le _⟩ (fun r65 σ64 τ64 H locs h64 hP hS => ?_)
      obtain ⟨⟨rfl, rfl⟩, h64⟩ := h64
      refine lv_istore (lv' := [(9, .int r65), (8, .int r60), (7, .int 0), (6, .int 0), (5, .int r58), (4, .int r25), (3, .int r23), (2, .int r20), (0, .ref (ad 0)), (1, .int a1)]) hx hb dX11_costOf_154 hl (by decide) rfl (fun ls hl => ?_)
      refine lv_iload_n hx hb dX11_costOf_156 rfl (lv_at hl 6 rfl) ?_
      refine lv_iload hx hb dX11_costOf_157 (lv_at hl 5 rfl) ?_
      refine jcallS (As := [.int r23, .int r25]) (rest := []) ⟨hx, hb, hml, hown, hts⟩ hK hP hA hS hZ (c_X0_steps l D cI cL ad zz hJ σ44 τ r23 (r23.toInt) rfl r25 (r25.toInt) rfl) cw_RX11_346 ⟨Nat.le_of_ble_eq_true rfl, Nat.le_of_ble_eq_true rfl⟩ rfl rfl rfl hl.1 rfl (Nat.le_of_ble_eq_true rfl) dX11_costOf_159 ⟨Nat.zero_le _, Nat.zero_le _⟩ (fun r67 σ66 τ66 H locs h66 hP hS => ?_)
      obtain ⟨⟨rfl, rfl⟩, h66⟩ := h66
      refine lv_istore (lv' := [(10, .int r67), (9, .int r65), (8, .int r60), (7, .int 0), (6, .int 0), (5, .int r58), (4, .int r25), (3, .int r23), (2, .int r20), (0, .ref (ad 0)), (1, .int a1)]) hx hb dX11_costOf_162 hl (by decide) rfl (fun ls hl => ?_)
      refine lv_aload_n hx hb dX11_costOf_164 rfl (lv_at hl 9 rfl) ?_
      refine va_get (D := D) hx hb hts inlX11 hown hK hP 0 (jc_0 cI cL ad σ44 τ) rfl 5 (by decide) (hts _ kw_2_9) (fun _ h9 => h9) rfl dX11_costOf_165 ?_
      refine lv_iload hx hb dX11_costOf_168 (lv_at hl 6 rfl) ?_
      refine lv_iload hx hb dX11_costOf_170 (lv_at hl 1 rfl) ?_
      refine lv_iload hx hb dX11_costOf_172 (lv_at hl 0 rfl) ?_
      refine lv_aload_n hx hb dX11_costOf_174 rfl (lv_at hl 9 rfl) ?_
      refine va_get (D := D) hx hb hts inlX11 hown hK hP 0 (jc_0 cI cL ad σ44 τ) rfl 9 (by decide) (hts _ kw_3_1) (fun _ h9 => h9) rfl dX11_costOf_175 ?_
      refine lv_iload_n hx hb dX11_costOf_178 rfl (lv_at hl 10 rfl) ?_
      refine lv_iload hx hb dX11_costOf_179 (lv_at hl 6 rfl) ?_
      refine lv_aload_n hx hb dX11_costOf_181 rfl (lv_at hl 9 rfl) ?_
      refine va_get (D := D) hx hb hts inlX11 hown hK hP 0 (jc_0 cI cL ad σ44 τ) rfl 0 (by decide) (hts _ kw_1_16) (fun _ h9 => h9) rfl dX11_costOf_182 ?_
      have z68 : (σ44 47 0).toInt = (σ 47 0).toInt := by rw [(show σ44 47 0 = (σ 47 0) from (by rw [f46 47 (by omega)]; exact (by rw [f31 47 (by omega)])))]
      have w69 : ∀ k : Nat, k < 12 → 0 ≤ (σ44 49 k).toInt ∧ (σ44 49 k).toInt ≤ 1 := (by rw [f46 49 (by omega)]; exact (by rw [f31 49 (by omega)]; exact w17))
      have I70 : jI47 σ44 := ⟨(by omega), w69⟩
      refine jcallV (As := [.int a1, .int r25, .ref (ad 2)]) (rest := [.int r67, .int r65, .int r25, .ref (ad 26)]) ⟨hx, hb, hml, hown, hts⟩ hK hP hA hS hZ (c_X2_leftAhead_47 l D cI cL ad zz hJ σ44 τ a1 (A1) t1 r25 (r25.toInt) rfl I70) cw_RX11_349 (jc_47 cI cL ad σ44 τ) rfl ⟨Nat.le_of_ble_eq_true rfl, Nat.le_of_ble_eq_true rfl⟩ rfl rfl rfl hl.1 rfl (Nat.le_of_ble_eq_true rfl) dX11_costOf_185 ⟨Nat.zero_le _, Nat.zero_le _⟩ (fun r72 σ71 τ71 H locs h71 hP hS => ?_)
      obtain ⟨⟨rfl, rfl⟩, h71⟩ := h71
      refine lv_iload_n hx hb dX11_costOf_188 rfl (lv_at hl 10 rfl) ?_
      refine lv_iload_n hx hb dX11_costOf_189 rfl (lv_at hl 8 rfl) ?_
      have z73 : (σ44 22 0).toInt = (σ 22 0).toInt := by rw [(show σ44 22 0 = (σ 22 0) from (by rw [f46 22 (by omega)]; exact (by rw [f31 22 (by omega)])))]
      have w74 : ∀ k : Nat, k < 160 → 0 ≤ (σ44 23 k).toInt ∧ (σ44 23 k).toInt ≤ 30000 := (by rw [f46 23 (by omega)]; exact w38)
      have I75 : jI22 σ44 := ⟨(by omega), w74⟩
      refine jcallV (As := [.int r25, .int r65, .int r67, .int r72, .int a1, .int r20]) (rest := []) ⟨hx, hb, hml, hown, hts⟩ hK hP hA hS hZ (c_X5_outOf_26 l D cI cL ad zz hJ σ44 τ r25 (r25.toInt) rfl r65 (r65.toInt) rfl r67 (r67.toInt) rfl r72 (r72.toInt) rfl a1 (A1) t1 r20 (r20.toInt) rfl I75) cw_RX11_166 (jc_26 cI cL ad σ44 τ) rfl ⟨Nat.le_of_ble_eq_true rfl, Nat.le_of_ble_eq_true rfl⟩ rfl rfl rfl hl.1 rfl (Nat.le_of_ble_eq_true rfl) dX11_costOf_190 ⟨Nat.zero_le _, Nat.zero_le _⟩ (fun r77 σ76 τ76 H locs h76 hP hS => ?_)
      obtain ⟨rfl, f78, h76⟩ := h76
      refine lv_istore (lv' := [(11, .int r77), (10, .int r67), (9, .int r65), (8, .int r60), (7, .int 0), (6, .int 0), (5, .int r58), (4, .int r25), (3, .int r23), (2, .int r20), (0, .ref (ad 0)), (1, .int a1)]) hx hb dX11_costOf_193 hl (by decide) rfl (fun ls hl => ?_)
      refine lv_aload_n hx hb dX11_costOf_195 rfl (lv_at hl 10 rfl) ?_
      refine va_get (D := D) hx hb hts inlX11 hown hK hP 0 (jc_0 cI cL ad σ76 τ) rfl 2 (by decide) (hts _ kw_2_0) (fun _ h9 => h9) rfl dX11_costOf_196 ?_
      refine lv_aload_n hx hb dX11_costOf_199 rfl (lv_at hl 10 rfl) ?_
      refine va_get (D := D) hx hb hts inlX11 hown hK hP 0 (jc_0 cI cL ad σ76 τ) rfl 5 (by decide) (hts _ kw_2_9) (fun _ h9 => h9) rfl dX11_costOf_200 ?_
      refine lv_iload hx hb dX11_costOf_203 (lv_at hl 7 rfl) ?_
      refine lv_iload hx hb dX11_costOf_205 (lv_at hl 2 rfl) ?_
      refine lv_iload hx hb dX11_costOf_207 (lv_at hl 1 rfl) ?_
      refine jcallV (As := [.int r25, .int r65, .int r67]) (rest := [.ref (ad 16)]) ⟨hx, hb, hml, hown, hts⟩ hK hP hA hS hZ (c_X5_runsOf_26 l D cI cL ad zz hJ σ76 τ r25 (r25.toInt) rfl r65 (r65.toInt) rfl r67 (r67.toInt) rfl) cw_RX11_160 (jc_26 cI cL ad σ76 τ) rfl ⟨Nat.le_of_ble_eq_true rfl, Nat.le_of_ble_eq_true rfl⟩ rfl rfl rfl hl.1 rfl (Nat.le_of_ble_eq_true rfl) dX11_costOf_209 ⟨Nat.zero_le _, Nat.zero_le _⟩ (fun r80 σ79 τ79 H locs h79 hP hS => ?_)
      obtain ⟨⟨rfl, rfl⟩, h79⟩ := h79
      refine lv_iload hx hb dX11_costOf_212 (lv_at hl 0 rfl) ?_
      refine lv_iload hx hb dX11_costOf_214 (lv_at hl 5 rfl) ?_
      refine lv_iload hx hb dX11_costOf_216 (lv_at hl 4 rfl) ?_
      refine jcallV (As := [.int r80, .int r77, .int 0, .int 0]) (rest := []) ⟨hx, hb, hml, hown, hts⟩ hK hP hA hS hZ (c_X6_meanOf_16 l D cI cL ad zz hJ σ76 τ r80 (r80.toInt) rfl r77 (r77.toInt) rfl 0 (0) jz_0 0 (0) jz_0) cw_RX11_353 (jc_16 cI cL ad σ76 τ) rfl ⟨Nat.le_of_ble_eq_true rfl, Nat.le_of_ble_eq_true rfl⟩ rfl rfl rfl hl.1 rfl (Nat.le_of_ble_eq_true rfl) dX11_costOf_218 ⟨Nat.zero_le _, Nat.zero_le _⟩ (fun r82 σ81 τ81 H locs h81 hP hS => ?_)
      obtain ⟨⟨rfl, rfl⟩, h81⟩ := h81
      refine lv_iload hx hb dX11_costOf_221 (lv_at hl 6 rfl) ?_
      have g83 := jrg (rfl : r82.toInt = r82.toInt)
      have g84 := jrg (rfl : r58.toInt = r58.toInt)
      refine lv_isub hx hb dX11_costOf_223 ?_
      refine lv_topi (fun x85 ex85 => ?_)
      have gx85 := jrg (rfl : x85.toInt = x85.toInt)
      have z86 : (σ76 31 8).toInt = (σ44 31 8).toInt := by rw [(show σ76 31 8 = (σ44 31 8) from (by rw [f78 31 (by omega)]))]
      have w87 : ∀ k : Nat, k < 1400 → (-1) ≤ (σ76 33 k).toInt ∧ (σ76 33 k).toInt ≤ 350 := (by rw [f78 33 (by omega)]; exact w50)
      have w88 : ∀ k : Nat, k < 1024 → 0 ≤ (σ76 36 k).toInt ∧ (σ76 36 k).toInt ≤ 349 := (by rw [f78 36 (by omega)]; exact w51)
      have I89 : jI31 σ76 := ⟨(by omega), w87, w88⟩
      exact hret x85 σ76 τ _ _ _ _ rfl ⟨rfl, (fun i hi => by rw [f78 i (by omega), f46 i (by omega), f31 i (by omega)]), (fun k hk => by rw [f78 31 (by omega), f47 k (by omega), f31 31 (by omega)]), I89, trivial⟩ hP hS dX11_costOf_224
    · have kc63 := jnle c63 rfl rfl
      refine lv_aload_n hx hb dX11_costOf_109 rfl (lv_at hl 7 rfl) ?_
      refine va_get (D := D) hx hb hts inlX11 hown hK hP 0 (jc_0 cI cL ad σ44 τ) rfl 6 (by decide) (hts _ kw_2_13) (fun _ h9 => h9) rfl dX11_costOf_110 ?_
      refine lv_iload hx hb dX11_costOf_113 (lv_at hl 0 rfl) ?_
      refine lv_iload_n hx hb dX11_costOf_115 rfl (lv_at hl 8 rfl) ?_
      refine lv_iconst (v := 1) hx hb dX11_costOf_116 (by decide) ?_
      refine lv_iadd hx hb dX11_costOf_117 ?_
      refine lv_topi (fun x90 ex90 => ?_)
      have gx90 := jrg (rfl : x90.toInt = x90.toInt)
      refine lv_iload_n hx hb dX11_costOf_118 rfl (lv_at hl 6 rfl) ?_
      have z91 : (σ44 22 0).toInt = (σ 22 0).toInt := by rw [(show σ44 22 0 = (σ 22 0) from (by rw [f46 22 (by omega)]; exact (by rw [f31 22 (by omega)])))]
      have w92 : ∀ k : Nat, k < 160 → 0 ≤ (σ44 23 k).toInt ∧ (σ44 23 k).toInt ≤ 30000 := (by rw [f46 23 (by omega)]; exact w38)
      have I93 : jI22 σ44 := ⟨(by omega), w92⟩
      refine jcallVv (As := [.int r60, .int x90, .int r20]) (rest := []) ⟨hx, hb, hml, hown, hts⟩ hK hP hA hS hZ (c_X1_seek_31 l D cI cL ad zz hJ σ44 τ r60 (r60.toInt) rfl x90 (x90.toInt) rfl r20 (r20.toInt) rfl I56 I93 I48) cw_RX11_193 (jc_31 cI cL ad σ44 τ) rfl ⟨Nat.le_of_ble_eq_true rfl, Nat.le_of_ble_eq_true rfl⟩ rfl rfl rfl hl.1 rfl (Nat.le_of_ble_eq_true rfl) dX11_costOf_119 ⟨Nat.zero_le _, Nat.zero_le _⟩ (fun σ94 τ94 H locs h94 hP hS => ?_)
      obtain ⟨rfl, f96, f97, I98, h94⟩ := h94
      obtain ⟨i99, w100, w101⟩ : (0 ≤ (σ94 31 8).toInt ∧ (σ94 31 8).toInt ≤ 350) ∧ (∀ k : Nat, k < 1400 → (-1) ≤ (σ94 33 k).toInt ∧ (σ94 33 k).toInt ≤ 350) ∧ (∀ k : Nat, k < 1024 → 0 ≤ (σ94 36 k).toInt ∧ (σ94 36 k).toInt ≤ 349) := id I98
      refine lv_aload_n hx hb dX11_costOf_122 rfl (lv_at hl 7 rfl) ?_
      refine va_get (D := D) hx hb hts inlX11 hown hK hP 0 (jc_0 cI cL ad σ94 τ) rfl 6 (by decide) (hts _ kw_2_13) (fun _ h9 => h9) rfl dX11_costOf_123 ?_
      refine lv_iconst (v := 0) hx hb dX11_costOf_126 (by decide) ?_
      refine lv_iload_n hx hb dX11_costOf_127 rfl (lv_at hl 6 rfl) ?_
      refine lv_iconst (v := 1) hx hb dX11_costOf_128 (by decide) ?_
      have g102 := jrg (rfl : r20.toInt = r20.toInt)
      refine lv_iadd hx hb dX11_costOf_129 ?_
      refine lv_topi (fun x103 ex103 => ?_)
      have gx103 := jrg (rfl : x103.toInt = x103.toInt)
      have z104 : (σ94 16 0).toInt = (σ 16 0).toInt := by rw [(show σ94 16 0 = (σ 16 0) from (by rw [f96 16 (by omega)]; exact (by rw [f46 16 (by omega)]; exact (by rw [f31 16 (by omega)]))))]
      have z105 : (σ94 16 1).toInt = (σ 16 1).toInt := by rw [(show σ94 16 1 = (σ 16 1) from (by rw [f96 16 (by omega)]; exact m62))]
      have z106 : (σ94 16 2).toInt = (σ 16 2).toInt := by rw [(show σ94 16 2 = (σ 16 2) from (by rw [f96 16 (by omega)]; exact (by rw [f46 16 (by omega)]; exact (by rw [f31 16 (by omega)]))))]
      have w107 : ∀ k : Nat, k < 8 → 0 ≤ (σ94 17 k).toInt ∧ (σ94 17 k).toInt ≤ 3 := (by rw [f96 17 (by omega)]; exact w55)
      have I108 : jI16 σ94 := ⟨(by omega), (by omega), (by omega), w107⟩
      refine jcallV (As := [.int 0, .int x103]) (rest := []) ⟨hx, hb, hml, hown, hts⟩ hK hP hA hS hZ (c_X1_valueAt_31 l D cI cL ad zz hJ σ94 τ 0 (0) jz_0 x103 (x103.toInt) rfl I108 I98) cw_RX11_215 (jc_31 cI cL ad σ94 τ) rfl ⟨Nat.le_of_ble_eq_true rfl, Nat.le_of_ble_eq_true rfl⟩ rfl rfl rfl hl.1 rfl (Nat.le_of_ble_eq_true rfl) dX11_costOf_130 ⟨Nat.zero_le _, Nat.zero_le _⟩ (fun r110 σ109 τ109 H locs h109 hP hS => ?_)
      obtain ⟨⟨rfl, rfl⟩, h109⟩ := h109
      refine lv_istore (lv' := [(6, .int r110), (8, .int r60), (7, .int 0), (5, .int r58), (4, .int r25), (3, .int r23), (2, .int r20), (0, .ref (ad 0)), (1, .int a1)]) hx hb dX11_costOf_133 hl (by decide) rfl (fun ls hl => ?_)
      refine lv_aload_n hx hb dX11_costOf_135 rfl (lv_at hl 7 rfl) ?_
      refine va_get (D := D) hx hb hts inlX11 hown hK hP 0 (jc_0 cI cL ad σ94 τ) rfl 6 (by decide) (hts _ kw_2_13) (fun _ h9 => h9) rfl dX11_costOf_136 ?_
      refine lv_iconst (v := 0) hx hb dX11_costOf_139 (by decide) ?_
      refine lv_iload_n hx hb dX11_costOf_140 rfl (lv_at hl 6 rfl) ?_
      refine jcallV (As := [.int 0, .int r20]) (rest := []) ⟨hx, hb, hml, hown, hts⟩ hK hP hA hS hZ (c_X1_valueAt_31 l D cI cL ad zz hJ σ94 τ 0 (0) jz_0 r20 (r20.toInt) rfl I108 I98) cw_RX11_215 (jc_31 cI cL ad σ94 τ) rfl ⟨Nat.le_of_ble_eq_true rfl, Nat.le_of_ble_eq_true rfl⟩ rfl rfl rfl hl.1 rfl (Nat.le_of_ble_eq_true rfl) dX11_costOf_141 ⟨Nat.zero_le _, Nat.zero_le _⟩ (fun r112 σ111 τ111 H locs h111 hP hS => ?_)
      obtain ⟨⟨rfl, rfl⟩, h111⟩ := h111
      refine lv_istore (lv' := [(7, .int r112), (6, .int r110), (8, .int r60), (5, .int r58), (4, .int r25), (3, .int r23), (2, .int r20), (0, .ref (ad 0)), (1, .int a1)]) hx hb dX11_costOf_144 hl (by decide) rfl (fun ls hl => ?_)
      refine lv_aload_n hx hb dX11_costOf_146 rfl (lv_at hl 7 rfl) ?_
      refine va_get (D := D) hx hb hts inlX11 hown hK hP 0 (jc_0 cI cL ad σ94 τ) rfl 2 (by decide) (hts _ kw_2_0) (fun _ h9 => h9) rfl dX11_costOf_147 ?_
      refine lv_iload_n hx hb dX11_costOf_150 rfl (lv_at hl 6 rfl) ?_
      refine jcallV (As := [.int r20]) (rest := []) ⟨hx, hb, hml, hown, hts⟩ hK hP hA hS hZ (c_X6_sortAt_16 l D cI cL ad zz hJ σ94 τ r20 (r20.toInt) rfl) cw_RX11_149 (jc_16 cI cL ad σ94 τ) rfl ⟨Nat.le_of_ble_eq_true rfl, Nat.le_of_ble_eq_true rfl⟩ rfl rfl rfl hl.1 rfl (Nat.le_of_ble_eq_true rfl) dX11_costOf_151 ⟨Nat.zero_le _, Nat.zero_le _⟩ (fun r114 σ113 τ113 H locs h113 hP hS => ?_)
      obtain ⟨⟨rfl, rfl⟩, h113⟩ := h113
      refine lv_istore (lv' := [(9, .int r114), (7, .int r112), (6, .int r110), (8, .int r60), (5, .int r58), (4, .int r25), (3, .int r23), (2, .int r20), (0, .ref (ad 0)), (1, .int a1)]) hx hb dX11_costOf_154 hl (by decide) rfl (fun ls hl => ?_)
      refine lv_iload_n hx hb dX11_costOf_156 rfl (lv_at hl 6 rfl) ?_
      refine lv_iload hx hb dX11_costOf_157 (lv_at hl 5 rfl) ?_
      refine jcallS (As := [.int r23, .int r25]) (rest := []) ⟨hx, hb, hml, hown, hts⟩ hK hP hA hS hZ (c_X0_steps l D cI cL ad zz hJ σ94 τ r23 (r23.toInt) rfl r25 (r25.toInt) rfl) cw_RX11_346 ⟨Nat.le_of_ble_eq_true rfl, Nat.le_of_ble_eq_true rfl⟩ rfl rfl rfl hl.1 rfl (Nat.le_of_ble_eq_true rfl) dX11_costOf_159 ⟨Nat.zero_le _, Nat.zero_le _⟩ (fun r116 σ115 τ115 H locs h115 hP hS => ?_)
      obtain ⟨⟨rfl, rfl⟩, h115⟩ := h115
      refine lv_istore (lv' := [(10, .int r116), (9, .int r114), (7, .int r112), (6, .int r110), (8, .int r60), (5, .int r58), (4, .int r25), (3, .int r23), (2, .int r20), (0, .ref (ad 0)), (1, .int a1)]) hx hb dX11_costOf_162 hl (by decide) rfl (fun ls hl => ?_)
      refine lv_aload_n hx hb dX11_costOf_164 rfl (lv_at hl 9 rfl) ?_
      refine va_get (D := D) hx hb hts inlX11 hown hK hP 0 (jc_0 cI cL ad σ94 τ) rfl 5 (by decide) (hts _ kw_2_9) (fun _ h9 => h9) rfl dX11_costOf_165 ?_
      refine lv_iload hx hb dX11_costOf_168 (lv_at hl 6 rfl) ?_
      refine lv_iload hx hb dX11_costOf_170 (lv_at hl 1 rfl) ?_
      refine lv_iload hx hb dX11_costOf_172 (lv_at hl 0 rfl) ?_
      refine lv_aload_n hx hb dX11_costOf_174 rfl (lv_at hl 9 rfl) ?_
      refine va_get (D := D) hx hb hts inlX11 hown hK hP 0 (jc_0 cI cL ad σ94 τ) rfl 9 (by decide) (hts _ kw_3_1) (fun _ h9 => h9) rfl dX11_costOf_175 ?_
      refine lv_iload_n hx hb dX11_costOf_178 rfl (lv_at hl 10 rfl) ?_
      refine lv_iload hx hb dX11_costOf_179 (lv_at hl 6 rfl) ?_
      refine lv_aload_n hx hb dX11_costOf_181 rfl (lv_at hl 9 rfl) ?_
      refine va_get (D := D) hx hb hts inlX11 hown hK hP 0 (jc_0 cI cL ad σ94 τ) rfl 0 (by decide) (hts _ kw_1_16) (fun _ h9 => h9) rfl dX11_costOf_182 ?_
      have z117 : (σ94 47 0).toInt = (σ 47 0).toInt := by rw [(show σ94 47 0 = (σ 47 0) from (by rw [f96 47 (by omega)]; exact (by rw [f46 47 (by omega)]; exact (by rw [f31 47 (by omega)]))))]
      have w118 : ∀ k : Nat, k < 12 → 0 ≤ (σ94 49 k).toInt ∧ (σ94 49 k).toInt ≤ 1 := (by rw [f96 49 (by omega)]; exact (by rw [f46 49 (by omega)]; exact (by rw [f31 49 (by omega)]; exact w17)))
      have I119 : jI47 σ94 := ⟨(by omega), w118⟩
      refine jcallV (As := [.int a1, .int r25, .ref (ad 2)]) (rest := [.int r116, .int r114, .int r25, .ref (ad 26)]) ⟨hx, hb, hml, hown, hts⟩ hK hP hA hS hZ (c_X2_leftAhead_47 l D cI cL ad zz hJ σ94 τ a1 (A1) t1 r25 (r25.toInt) rfl I119) cw_RX11_349 (jc_47 cI cL ad σ94 τ) rfl ⟨Nat.le_of_ble_eq_true rfl, Nat.le_of_ble_eq_true rfl⟩ rfl rfl rfl hl.1 rfl (Nat.le_of_ble_eq_true rfl) dX11_costOf_185 ⟨Nat.zero_le _, Nat.zero_le _⟩ (fun r121 σ120 τ120 H locs h120 hP hS => ?_)
      obtain ⟨⟨rfl, rfl⟩, h120⟩ := h120
      refine lv_iload_n hx hb dX11_costOf_188 rfl (lv_at hl 10 rfl) ?_
      refine lv_iload_n hx hb dX11_costOf_189 rfl (lv_at hl 8 rfl) ?_
      have z122 : (σ94 22 0).toInt = (σ 22 0).toInt := by rw [(show σ94 22 0 = (σ 22 0) from (by rw [f96 22 (by omega)]; exact (by rw [f46 22 (by omega)]; exact (by rw [f31 22 (by omega)]))))]
      have w123 : ∀ k : Nat, k < 160 → 0 ≤ (σ94 23 k).toInt ∧ (σ94 23 k).toInt ≤ 30000 := (by rw [f96 23 (by omega)]; exact w92)
      have I124 : jI22 σ94 := ⟨(by omega), w123⟩
      refine jcallV (As := [.int r25, .int r114, .int r116, .int r121, .int a1, .int r20]) (rest := []) ⟨hx, hb, hml, hown, hts⟩ hK hP hA hS hZ (c_X5_outOf_26 l D cI cL ad zz hJ σ94 τ r25 (r25.toInt) rfl r114 (r114.toInt) rfl r116 (r116.toInt) rfl r121 (r121.toInt) rfl a1 (A1) t1 r20 (r20.toInt) rfl I124) cw_RX11_166 (jc_26 cI cL ad σ94 τ) rfl ⟨Nat.le_of_ble_eq_true rfl, Nat.le_of_ble_eq_true rfl⟩ rfl rfl rfl hl.1 rfl (Nat.le_of_ble_eq_true rfl) dX11_costOf_190 ⟨Nat.zero_le _, Nat.zero_le _⟩ (fun r126 σ125 τ125 H locs h125 hP hS => ?_)
      obtain ⟨rfl, f127, h125⟩ := h125
      refine lv_istore (lv' := [(11, .int r126), (10, .int r116), (9, .int r114), (7, .int r112), (6, .int r110), (8, .int r60), (5, .int r58), (4, .int r25), (3, .int r23), (2, .int r20), (0, .ref (ad 0)), (1, .int a1)]) hx hb dX11_costOf_193 hl (by decide) rfl (fun ls hl => ?_)
      refine lv_aload_n hx hb dX11_costOf_195 rfl (lv_at hl 10 rfl) ?_
      refine va_get (D := D) hx hb hts inlX11 hown hK hP 0 (jc_0 cI cL ad σ125 τ) rfl 2 (by decide) (hts _ kw_2_0) (fun _ h9 => h9) rfl dX11_costOf_196 ?_
      refine lv_aload_n hx hb dX11_costOf_199 rfl (lv_at hl 10 rfl) ?_
      refine va_get (D := D) hx hb hts inlX11 hown hK hP 0 (jc_0 cI cL ad σ125 τ) rfl 5 (by decide) (hts _ kw_2_9) (fun _ h9 => h9) rfl dX11_costOf_200 ?_
      refine lv_iload hx hb dX11_costOf_203 (lv_at hl 7 rfl) ?_
      refine lv_iload hx hb dX11_costOf_205 (lv_at hl 2 rfl) ?_
      refine lv_iload hx hb dX11_costOf_207 (lv_at hl 1 rfl) ?_
      refine jcallV (As := [.int r25, .int r114, .int r116]) (rest := [.ref (ad 16)]) ⟨hx, hb, hml, hown, hts⟩ hK hP hA hS hZ (c_X5_runsOf_26 l D cI cL ad zz hJ σ125 τ r25 (r25.toInt) rfl r114 (r114.toInt) rfl r116 (r116.toInt) rfl) cw_RX11_160 (jc_26 cI cL ad σ125 τ) rfl ⟨Nat.le_of_ble_eq_true rfl, Nat.le_of_ble_eq_true rfl⟩ rfl rfl rfl hl.1 rfl (Nat.le_of_ble_eq_true rfl) dX11_costOf_209 ⟨Nat.zero_le _, Nat.zero_le _⟩ (fun r129 σ128 τ128 H locs h128 hP hS => ?_)
      obtain ⟨⟨rfl, rfl⟩, h128⟩ := h128
      refine lv_iload hx hb dX11_costOf_212 (lv_at hl 0 rfl) ?_
      refine lv_iload hx hb dX11_costOf_214 (lv_at hl 4 rfl) ?_
      refine lv_iload hx hb dX11_costOf_216 (lv_at hl 3 rfl) ?_
      refine jcallV (As := [.int r129, .int r126, .int r110, .int r112]) (rest := []) ⟨hx, hb, hml, hown, hts⟩ hK hP hA hS hZ (c_X6_meanOf_16 l D cI cL ad zz hJ σ125 τ r129 (r129.toInt) rfl r126 (r126.toInt) rfl r110 (r110.toInt) rfl r112 (r112.toInt) rfl) cw_RX11_353 (jc_16 cI cL ad σ125 τ) rfl ⟨Nat.le_of_ble_eq_true rfl, Nat.le_of_ble_eq_true rfl⟩ rfl rfl rfl hl.1 rfl (Nat.le_of_ble_eq_true rfl) dX11_costOf_218 ⟨Nat.zero_le _, Nat.zero_le _⟩ (fun r131 σ130 τ130 H locs h130 hP hS => ?_)
      obtain ⟨⟨rfl, rfl⟩, h130⟩ := h130
      refine lv_iload hx hb dX11_costOf_221 (lv_at hl 6 rfl) ?_
      have g132 := jrg (rfl : r131.toInt = r131.toInt)
      have g133 := jrg (rfl : r58.toInt = r58.toInt)
      refine lv_isub hx hb dX11_costOf_223 ?_
      refine lv_topi (fun x134 ex134 => ?_)
      have gx134 := jrg (rfl : x134.toInt = x134.toInt)
      have z135 : (σ125 31 8).toInt = (σ94 31 8).toInt := by rw [(show σ125 31 8 = (σ94 31 8) from (by rw [f127 31 (by omega)]))]
      have w136 : ∀ k : Nat, k < 1400 → (-1) ≤ (σ125 33 k).toInt ∧ (σ125 33 k).toInt ≤ 350 := (by rw [f127 33 (by omega)]; exact w100)
      have w137 : ∀ k : Nat, k < 1024 → 0 ≤ (σ125 36 k).toInt ∧ (σ125 36 k).toInt ≤ 349 := (by rw [f127 36 (by omega)]; exact w101)
      have I138 : jI31 σ125 := ⟨(by omega), w136, w137⟩
      exact hret x134 σ125 τ _ _ _ _ rfl ⟨rfl, (fun i hi => by rw [f127 i (by omega), f96 i (by omega), f46 i (by omega), f31 i (by omega)]), (fun k hk => by rw [f127 31 (by omega), f97 k (by omega), f47 k (by omega), f31 31 (by omega)]), I138, trivial⟩ hP hS dX11_costOf_224
  · have kc28 := jne c28 rfl jz_0
    refine lv_iconst (v := 0) hx hb dX11_costOf_45 (by decide) ?_
    have I139 : jI31 σ := ⟨(by omega), w14, w15⟩
    exact hret 0 σ τ _ _ _ _ rfl ⟨rfl, (fun _ _ => rfl), (fun _ _ => rfl), I139, trivial⟩ hP hS dX11_costOf_46
set_option maxHeartbeats 4000000 in
set_option maxRecDepth 100000 in
theorem c_X11_cost (l : Launch) (D : va_G) (cI cL : ClassId) (ad zz : Nat → Nat) (hJ : jD ad) (σ : Nat → Nat → Int32) (τ : Nat → Nat → Int64) (a1 : Int32) (A1 : Int) (t1 : a1.toInt = A1) (hI2 : jI2 σ) (hI16 : jI16 σ) (hI22 : jI22 σ) (hI31 : jI31 σ) (hI47 : jI47 σ) : jM l yX11_cost cX11_cost 2 (some .int) ({ frames := 7, cells := 0, slots := 0, locals := 193 }) D cI cL ad zz [.ref (ad 0), .int a1] σ τ (fun r σ' τ' => τ = τ' ∧ (∀ i : Nat, (i < 24 ∨ 25 < i) ∧ (i < 27 ∨ 37 < i) → σ' i = σ i) ∧ (∀ k : Nat, (k < 8 ∨ 8 < k) ∧ (k < 9 ∨ 9 < k) ∧ (k < 10 ∨ 10 < k) ∧ (k < 11 ∨ 11 < k) ∧ (k < 12 ∨ 12 < k) → σ' 31 k = σ 31 k) ∧ (jI31 σ') ∧ True) := by
  refine jM.of hJ (by decide +kernel) (nt := .int) rfl (Nat.le_of_ble_eq_true rfl) ?_
  intro p e s m args below meth c Q ls hC hret hl hP
  obtain ⟨hx, hb, hr, hml, hown, hts, hK, -, hlocks, hZ⟩ := hC
  have hown : s.vm.findClass RX11 = some m.cls := hown
  have hS : va_S (jA ad) s.heap s.heap [] := va_S.rf
  have hA : ∀ q, jA ad q → jA ad q := fun _ h => h
  have hl : lv_has ls 2 [(0, .ref (ad 0)), (1, .int a1)] := hl
  have g1 := jrg t1
  obtain ⟨i1, i2, i3, i4, i5, w6⟩ : (0 ≤ (σ 2 0).toInt ∧ (σ 2 0).toInt ≤ 4) ∧ (0 ≤ (σ 2 1).toInt ∧ (σ 2 1).toInt ≤ 3) ∧ (0 ≤ (σ 2 2).toInt) ∧ (0 ≤ (σ 2 3).toInt) ∧ ((σ 2 2).toInt + (σ 2 3).toInt ≤ 40) ∧ (∀ k : Nat, k < 40 → 0 ≤ (σ 6 k).toInt ∧ (σ 6 k).toInt ≤ 67) := id hI2
  obtain ⟨i7, i8, i9, w10⟩ : (1 ≤ (σ 16 0).toInt ∧ (σ 16 0).toInt ≤ 8) ∧ (1 ≤ (σ 16 1).toInt ∧ (σ 16 1).toInt ≤ 12) ∧ (0 ≤ (σ 16 2).toInt ∧ (σ 16 2).toInt ≤ 999) ∧ (∀ k : Nat, k < 8 → 0 ≤ (σ 17 k).toInt ∧ (σ 17 k).toInt ≤ 3) := id hI16
  obtain ⟨i11, w12⟩ : (0 ≤ (σ 22 0).toInt ∧ (σ 22 0).toInt ≤ 160) ∧ (∀ k : Nat, k < 160 → 0 ≤ (σ 23 k).toInt ∧ (σ 23 k).toInt ≤ 30000) := id hI22
  obtain ⟨i13, w14, w15⟩ : (0 ≤ (σ 31 8).toInt ∧ (σ 31 8).toInt ≤ 350) ∧ (∀ k : Nat, k < 1400 → (-1) ≤ (σ 33 k).toInt ∧ (σ 33 k).toInt ≤ 350) ∧ (∀ k : Nat, k < 1024 → 0 ≤ (σ 36 k).toInt ∧ (σ 36 k).toInt ≤ 349) := id hI31
  obtain ⟨i16, w17⟩ : (0 ≤ (σ 47 0).toInt ∧ (σ 47 0).toInt ≤ 12) ∧ (∀ k : Nat, k < 12 → 0 ≤ (σ 49 k).toInt ∧ (σ 49 k).toInt ≤ 1) := id hI47
  refine lv_iload_n hx hb dX11_cost_0 rfl (lv_at hl 1 rfl) ?_
  refine lv_iconst (v := 0) hx hb dX11_cost_1 (by decide) ?_
  refine lv_aload_n hx hb dX11_cost_2 rfl (lv_at hl 0 rfl) ?_
  refine va_get (D := D) hx hb hts inlX11 hown hK hP 0 (jc_0 cI cL ad σ τ) rfl 9 (by decide) (hts _ kw_3_1) (fun _ h9 => h9) rfl dX11_cost_3 ?_
  refine va_get (D := D) hx hb hts inlX2 hown hK hP 47 (jc_47 cI cL ad σ τ) rfl 0 (by decide) (hts _ kw_13_11) (fun _ h9 => h9) rfl dX11_cost_6 ?_
  refine lv_iconst (v := 1) hx hb dX11_cost_9 (by decide) ?_
  have g18 := jrg (rfl : (σ 47 0).toInt = (σ 47 0).toInt)
  refine lv_isub hx hb dX11_cost_10 ?_
  refine lv_topi (fun x19 ex19 => ?_)
  have tx19 : x19.toInt = (σ 47 0).toInt - 1 := (jsub ex19 rfl jz_1 (by omega) (by omega)).trans (by omega)
  refine jcallS (As := [.int a1, .int 0, .int x19]) (rest := []) ⟨hx, hb, hml, hown, hts⟩ hK hP hA hS hZ (c_X11_outside l D cI cL ad zz hJ σ τ a1 (A1) t1 0 (0) jz_0 x19 ((σ 47 0).toInt - 1) tx19) cw_RX11_94 ⟨Nat.le_of_ble_eq_true rfl, Nat.le_of_ble_eq_true rfl⟩ rfl rfl rfl hl.1 rfl (Nat.le_of_ble_eq_true rfl) dX11_cost_11 ⟨Nat.zero_le _, Nat.zero_le _⟩ (fun r21 σ20 τ20 H locs h20 hP hS => ?_)
  obtain ⟨⟨rfl, rfl⟩, h20⟩ := h20
  rcases h20 with h22 | h23
  · obtain ⟨q25, k24⟩ := h22
    have q25 := q25.symm
    subst q25
    refine lv_if_ne (tgt := 31) hx hb dX11_cost_14 (by decide) (fun _ => ?_) (fun c => absurd c (by decide))
    refine lv_ldc (v := (-2000000000)) hx hb hown (hts _ kw_9_21) dX11_cost_31 ?_
    have I26 : jI31 σ := ⟨(by omega), w14, w15⟩
    exact hret (-2000000000) σ τ _ _ _ _ rfl ⟨rfl, (fun _ _ => rfl), (fun _ _ => rfl), I26, trivial⟩ hP hS dX11_cost_33
  · obtain ⟨q28, k27⟩ := h23
    have q28 := q28.symm
    subst q28
    refine lv_if_ne (tgt := 31) hx hb dX11_cost_14 (by decide) (fun c => absurd (by decide) c) (fun _ => ?_)
    refine lv_aload_n hx hb dX11_cost_17 rfl (lv_at hl 0 rfl) ?_
    refine va_get (D := D) hx hb hts inlX11 hown hK hP 0 (jc_0 cI cL ad σ τ) rfl 2 (by decide) (hts _ kw_2_0) (fun _ h9 => h9) rfl dX11_cost_18 ?_
    refine va_get (D := D) hx hb hts inlX6 hown hK hP 16 (jc_16 cI cL ad σ τ) rfl 1 (by decide) (hts _ kw_20_5) (fun _ h9 => h9) rfl dX11_cost_21 ?_
    refine lv_iload_n hx hb dX11_cost_24 rfl (lv_at hl 1 rfl) ?_
    have g29 := jrg (rfl : (σ 16 1).toInt = (σ 16 1).toInt)
    refine lv_isub hx hb dX11_cost_25 ?_
    refine lv_topi (fun x30 ex30 => ?_)
    have tx30 : x30.toInt = (σ 16 1).toInt - A1 := (jsub ex30 rfl t1 (by omega) (by omega)).trans (by omega)
    refine lv_bipush (v := 8) hx hb dX11_cost_26 (by decide) ?_
    refine lv_icmp_le (tgt := 34) hx hb dX11_cost_28 (by decide) (fun c31 => ?_) (fun c31 => ?_)
    · have kc31 := jle c31 tx30 jz_8
      refine lv_aload_n hx hb dX11_cost_34 rfl (lv_at hl 0 rfl) ?_
      refine lv_iload_n hx hb dX11_cost_35 rfl (lv_at hl 1 rfl) ?_
      have I32 : jI2 σ := ⟨(by omega), (by omega), (by omega), (by omega), (by omega), w6⟩
      have I33 : jI16 σ := ⟨(by omega), (by omega), (by omega), w10⟩
      have I34 : jI22 σ := ⟨(by omega), w12⟩
      have I35 : jI31 σ := ⟨(by omega), w14, w15⟩
      have I36 : jI47 σ := ⟨(by omega), w17⟩
      refine jcallV (As := [.int a1]) (rest := []) ⟨hx, hb, hml, hown, hts⟩ hK hP hA hS hZ (c_X11_costOf l D cI cL ad zz hJ σ τ a1 (A1) t1 I32 I33 I34 I35 I36) cw_RX11_265 (jc_0 cI cL ad σ τ) rfl ⟨Nat.le_of_ble_eq_true rfl, Nat.le_of_ble_eq_true rfl⟩ rfl rfl rfl hl.1 rfl (Nat.le_of_ble_eq_true rfl) dX11_cost_36 ⟨Nat.zero_le _, Nat.zero_le _⟩ (fun r38 σ37 τ37 H locs h37 hP hS => ?_)
      obtain ⟨rfl, f39, f40, I41, h37⟩ := h37
      obtain ⟨i42, w43, w44⟩ : (0 ≤ (σ37 31 8).toInt ∧ (σ37 31 8).toInt ≤ 350) ∧ (∀ k : Nat, k < 1400 → (-1) ≤ (σ37 33 k).toInt ∧ (σ37 33 k).toInt ≤ 350) ∧ (∀ k : Nat, k < 1024 → 0 ≤ (σ37 36 k).toInt ∧ (σ37 36 k).toInt ≤ 349) := id I41
      exact hret r38 σ37 τ _ _ _ _ rfl ⟨rfl, (fun i hi => by rw [f39 i (by omega)]), (fun k hk => by rw [f40 k (by omega)]), I41, trivial⟩ hP hS dX11_cost_39
    · have kc31 := jnle c31 tx30 jz_8
      refine lv_ldc (v := (-2000000000)) hx hb hown (hts _ kw_9_21) dX11_cost_31 ?_
      have I45 : jI31 σ := ⟨(by omega), w14, w15⟩
      exact hret (-2000000000) σ τ _ _ _ _ rfl ⟨rfl, (fun _ _ => rfl), (fun _ _ => rfl), I45, trivial⟩ hP hS dX11_cost_33
set_option maxHeartbeats 4000000 in
set_option maxRecDepth 100000 in
theorem c_X11_lost (l : Launch) (D : va_G) (cI cL : ClassId) (ad zz : Nat → Nat) (hJ : jD ad) (σ : Nat → Nat → Int32) (τ : Nat → Nat → Int64) (a1 : Int32) (A1 : Int) (t1 : a1.toInt = A1) (hI2 : jI2 σ) (hI16 : jI16 σ) (hI22 : jI22 σ) (hI31 : jI31 σ) (hI47 : jI47 σ) : jM l yX11_lost cX11_lost 7 (some .int) ({ frames := 7, cells := 0, slots := 0, locals := 193 }) D cI cL ad zz [.ref (ad 0), .int a1] σ τ (fun r σ' τ' => τ = τ' ∧ (∀ i : Nat, (i < 24 ∨ 25 < i) ∧ (i < 27 ∨ 37 < i) → σ' i = σ i) ∧ (∀ k : Nat, (k < 8 ∨ 8 < k) ∧ (k < 9 ∨ 9 < k) ∧ (k < 10 ∨ 10 < k) ∧ (k < 11 ∨ 11 < k) ∧ (k < 12 ∨ 12 < k) → σ' 31 k = σ 31 k) ∧ (jI31 σ') ∧ True) := by
  refine jM.of hJ (by decide +kernel) (nt := .int) rfl (Nat.le_of_ble_eq_true rfl) ?_
  intro p e s m args below meth c Q ls hC hret hl hP
  obtain ⟨hx, hb, hr, hml, hown, hts, hK, -, hlocks, hZ⟩ := hC
  have hown : s.vm.findClass RX11 = some m.cls := hown
  have hS : va_S (jA ad) s.heap s.heap [] := va_S.rf
  have hA : ∀ q, jA ad q → jA ad q := fun _ h => h
  have hl : lv_has ls 7 [(0, .ref (ad 0)), (1, .int a1)] := hl
  have g1 := jrg t1
  obtain ⟨i1, i2, i3, i4, i5, w6⟩ : (0 ≤ (σ 2 0).toInt ∧ (σ 2 0).toInt ≤ 4) ∧ (0 ≤ (σ 2 1).toInt ∧ (σ 2 1).toInt ≤ 3) ∧ (0 ≤ (σ 2 2).toInt) ∧ (0 ≤ (σ 2 3).toInt) ∧ ((σ 2 2).toInt + (σ 2 3).toInt ≤ 40) ∧ (∀ k : Nat, k < 40 → 0 ≤ (σ 6 k).toInt ∧ (σ 6 k).toInt ≤ 67) := id hI2
  obtain ⟨i7, i8, i9, w10⟩ : (1 ≤ (σ 16 0).toInt ∧ (σ 16 0).toInt ≤ 8) ∧ (1 ≤ (σ 16 1).toInt ∧ (σ 16 1).toInt ≤ 12) ∧ (0 ≤ (σ 16 2).toInt ∧ (σ 16 2).toInt ≤ 999) ∧ (∀ k : Nat, k < 8 → 0 ≤ (σ 17 k).toInt ∧ (σ 17 k).toInt ≤ 3) := id hI16
  obtain ⟨i11, w12⟩ : (0 ≤ (σ 22 0).toInt ∧ (σ 22 0).toInt ≤ 160) ∧ (∀ k : Nat, k < 160 → 0 ≤ (σ 23 k).toInt ∧ (σ 23 k).toInt ≤ 30000) := id hI22
  obtain ⟨i13, w14, w15⟩ : (0 ≤ (σ 31 8).toInt ∧ (σ 31 8).toInt ≤ 350) ∧ (∀ k : Nat, k < 1400 → (-1) ≤ (σ 33 k).toInt ∧ (σ 33 k).toInt ≤ 350) ∧ (∀ k : Nat, k < 1024 → 0 ≤ (σ 36 k).toInt ∧ (σ 36 k).toInt ≤ 349) := id hI31
  obtain ⟨i16, w17⟩ : (0 ≤ (σ 47 0).toInt ∧ (σ 47 0).toInt ≤ 12) ∧ (∀ k : Nat, k < 12 → 0 ≤ (σ 49 k).toInt ∧ (σ 49 k).toInt ≤ 1) := id hI47
  refine lv_iload_n hx hb dX11_lost_0 rfl (lv_at hl 1 rfl) ?_
  refine lv_iconst (v := 0) hx hb dX11_lost_1 (by decide) ?_
  refine lv_iconst (v := 2) hx hb dX11_lost_2 (by decide) ?_
  refine jcallS (As := [.int a1, .int 0, .int 2]) (rest := []) ⟨hx, hb, hml, hown, hts⟩ hK hP hA hS hZ (c_X11_outside l D cI cL ad zz hJ σ τ a1 (A1) t1 0 (0) jz_0 2 (2) jz_2) cw_RX11_94 ⟨Nat.le_of_ble_eq_true rfl, Nat.le_of_ble_eq_true rfl⟩ rfl rfl rfl hl.1 rfl (Nat.le_of_ble_eq_true rfl) dX11_lost_3 ⟨Nat.zero_le _, Nat.zero_le _⟩ (fun r19 σ18 τ18 H locs h18 hP hS => ?_)
  obtain ⟨⟨rfl, rfl⟩, h18⟩ := h18
  rcases h18 with h20 | h21
  · obtain ⟨q23, k22⟩ := h20
    have q23 := q23.symm
    subst q23
    refine lv_if_ne (tgt := 19) hx hb dX11_lost_6 (by decide) (fun _ => ?_) (fun c => absurd c (by decide))
    refine lv_iconst (v := (-1)) hx hb dX11_lost_19 (by decide) ?_
    have I24 : jI31 σ := ⟨(by omega), w14, w15⟩
    exact hret (-1) σ τ _ _ _ _ rfl ⟨rfl, (fun _ _ => rfl), (fun _ _ => rfl), I24, trivial⟩ hP hS dX11_lost_20
  · obtain ⟨q26, k25⟩ := h21
    have q26 := q26.symm
    subst q26
    refine lv_if_ne (tgt := 19) hx hb dX11_lost_6 (by decide) (fun c => absurd (by decide) c) (fun _ => ?_)
    refine lv_aload_n hx hb dX11_lost_9 rfl (lv_at hl 0 rfl) ?_
    refine va_get (D := D) hx hb hts inlX11 hown hK hP 0 (jc_0 cI cL ad σ τ) rfl 9 (by decide) (hts _ kw_3_1) (fun _ h9 => h9) rfl dX11_lost_10 ?_
    refine va_get (D := D) hx hb hts inlX2 hown hK hP 47 (jc_47 cI cL ad σ τ) rfl 0 (by decide) (hts _ kw_13_11) (fun _ h9 => h9) rfl dX11_lost_13 ?_
    refine lv_if_ne (tgt := 21) hx hb dX11_lost_16 (by decide) (fun c27 => ?_) (fun c27 => ?_)
    · have kc27 := jne c27 rfl jz_0
      refine lv_aload_n hx hb dX11_lost_21 rfl (lv_at hl 0 rfl) ?_
      refine va_get (D := D) hx hb hts inlX11 hown hK hP 0 (jc_0 cI cL ad σ τ) rfl 2 (by decide) (hts _ kw_2_0) (fun _ h9 => h9) rfl dX11_lost_22 ?_
      refine va_get (D := D) hx hb hts inlX6 hown hK hP 16 (jc_16 cI cL ad σ τ) rfl 1 (by decide) (hts _ kw_20_5) (fun _ h9 => h9) rfl dX11_lost_25 ?_
      refine lv_bipush (v := 8) hx hb dX11_lost_28 (by decide) ?_
      refine lv_icmp_le (tgt := 36) hx hb dX11_lost_30 (by decide) (fun c28 => ?_) (fun c28 => ?_)
      · have kc28 := jle c28 rfl jz_8
        refine lv_iconst (v := 0) hx hb dX11_lost_36 (by decide) ?_
        refine lv_istore_n (lv' := [(2, .int 0), (0, .ref (ad 0)), (1, .int a1)]) hx hb dX11_lost_37 rfl hl (by decide) rfl (fun ls hl => ?_)
        refine lv_iconst (v := 0) hx hb dX11_lost_38 (by decide) ?_
        refine lv_istore_n (lv' := [(3, .int 0), (2, .int 0), (0, .ref (ad 0)), (1, .int a1)]) hx hb dX11_lost_39 rfl hl (by decide) rfl (fun ls hl => ?_)
        refine lv_iconst (v := 0) hx hb dX11_lost_40 (by decide) ?_
        refine lv_istore (lv' := [(4, .int 0), (3, .int 0), (2, .int 0), (0, .ref (ad 0)), (1, .int a1)]) hx hb dX11_lost_41 hl (by decide) rfl (fun ls hl => ?_)
        refine lv_iconst (v := 0) hx hb dX11_lost_43 (by decide) ?_
        refine lv_istore (lv' := [(5, .int 0), (4, .int 0), (3, .int 0), (2, .int 0), (0, .ref (ad 0)), (1, .int a1)]) hx hb dX11_lost_44 hl (by decide) rfl (fun ls hl => ?_)
        have lp29 : ∀ (n30 : Nat) (x31 : Int32) (x32 : Int32) (x33 : Int32) (x34 : Int32) (σ36 : Nat → Nat → Int32) (H : Heap) (locs : List Loc) (ls : Array Slot), ((σ36 47 0).toInt - x34.toInt : Int) < n30 → 0 ≤ x34.toInt → x34.toInt ≤ 12 → 0 ≤ (σ36 31 8).toInt ∧ (σ36 31 8).toInt ≤ 350 → x34.toInt ≤ (σ36 47 0).toInt → (∀ i : Nat, (i < 24 ∨ 25 < i) ∧ (i < 27 ∨ 37 < i) → σ36 i = σ i) → (∀ k : Nat, (k < 8 ∨ 8 < k) ∧ (k < 9 ∨ 9 < k) ∧ (k < 10 ∨ 10 < k) ∧ (k < 11 ∨ 11 < k) ∧ (k < 12 ∨ 12 < k) → σ36 31 k = σ 31 k) → (∀ k : Nat, k < 1400 → (-1) ≤ (σ36 33 k).toInt ∧ (σ36 33 k).toInt ≤ 350) → (∀ k : Nat, k < 1024 → 0 ≤ (σ36 36 k).toInt ∧ (σ36 36 k).toInt ≤ 349) → jH D cI cL ad σ36 τ H → va_S (jA ad) s.heap H locs → lv_has ls 7 [(5, .int x34), (4, .int x33), (3, .int x32), (2, .int x31), (0, .ref (ad 0)), (1, .int a1)] → W p l e ({ frames := 7, cells := 0, slots := 0, locals := 193 }) s m args below meth c H locs 0 0 Q (F0 m 46 ls []) := by
          intro n30
          induction n30 with
          | zero => intro x31 x32 x33 x34 σ36 H locs ls h37 h38 h39 h40 h41; have gx31 := jrg (rfl : x31.toInt = x31.toInt); have gx32 := jrg (rfl : x32.toInt = x32.toInt); have gx33 := jrg (rfl : x33.toInt = x33.toInt); exact absurd h37 (by omega)
          | succ n30 ihlp29 =>
            intro x31 x32 x33 x34 σ36 H locs ls h37 h38 h39 h40 h41 f42 f43 w44 w45 hP hS hl
            have gx31 := jrg (rfl : x31.toInt = x31.toInt); have gx32 := jrg (rfl : x32.toInt = x32.toInt); have gx33 := jrg (rfl : x33.toInt = x33.toInt)
            have z46 : (σ36 47 0).toInt = (σ 47 0).toInt := by rw [(show σ36 47 0 = (σ 47 0) from (by rw [f42 47 (by omega)]))]
            refine lv_iload hx hb dX11_lost_46 (lv_at hl 0 rfl) ?_
            refine lv_aload_n hx hb dX11_lost_48 rfl (lv_at hl 4 rfl) ?_
            refine va_get (D := D) hx hb hts inlX11 hown hK hP 0 (jc_0 cI cL ad σ36 τ) rfl 9 (by decide) (hts _ kw_3_1) (fun _ h9 => h9) rfl dX11_lost_49 ?_
            refine va_get (D := D) hx hb hts inlX2 hown hK hP 47 (jc_47 cI cL ad σ36 τ) rfl 0 (by decide) (hts _ kw_13_11) (fun _ h9 => h9) rfl dX11_lost_52 ?_
            have m47 : σ36 47 0 = (σ 47 0) := (by rw [f42 47 (by omega)])
            refine jtopr m47 ?_
            refine lv_icmp_ge (tgt := 96) hx hb dX11_lost_55 (by decide) (fun c48 => ?_) (fun c48 => ?_)
            · have kc48 := jle c48 rfl rfl
              refine lv_iload_n hx hb dX11_lost_96 rfl (lv_at hl 5 rfl) ?_
              refine lv_if_ne (tgt := 102) hx hb dX11_lost_97 (by decide) (fun c49 => ?_) (fun c49 => ?_)
              · have kc49 := jne c49 t1 jz_0
                refine lv_iload_n hx hb dX11_lost_102 rfl (lv_at hl 5 rfl) ?_
                refine lv_iconst (v := 1) hx hb dX11_lost_103 (by decide) ?_
                refine lv_icmp_ne (tgt := 111) hx hb dX11_lost_104 (by decide) (fun c50 => ?_) (fun c50 => ?_)
                · have kc50 := jne c50 t1 jz_1
                  refine lv_iload hx hb dX11_lost_111 (lv_at hl 1 rfl) ?_
                  have I51 : jI31 σ36 := ⟨(by omega), w44, w45⟩
                  exact hret x33 σ36 τ _ _ _ _ rfl ⟨rfl, (fun i hi => by rw [f42 i (by omega)]), (fun k hk => by rw [f43 k (by omega)]), I51, trivial⟩ hP hS dX11_lost_113
                · have kc50 := jeq c50 t1 jz_1
                  refine lv_iload_n hx hb dX11_lost_107 rfl (lv_at hl 2 rfl) ?_
                  refine lv_goto (tgt := 113) hx hb dX11_lost_108 (by decide) ?_
                  have I52 : jI31 σ36 := ⟨(by omega), w44, w45⟩
                  exact hret x32 σ36 τ _ _ _ _ rfl ⟨rfl, (fun i hi => by rw [f42 i (by omega)]), (fun k hk => by rw [f43 k (by omega)]), I52, trivial⟩ hP hS dX11_lost_113
              · have kc49 := jeq c49 t1 jz_0
                refine lv_iload_n hx hb dX11_lost_100 rfl (lv_at hl 3 rfl) ?_
                have I53 : jI31 σ36 := ⟨(by omega), w44, w45⟩
                exact hret x31 σ36 τ _ _ _ _ rfl ⟨rfl, (fun i hi => by rw [f42 i (by omega)]), (fun k hk => by rw [f43 k (by omega)]), I53, trivial⟩ hP hS dX11_lost_101
            · have kc48 := jnle c48 rfl rfl
              refine lv_aload_n hx hb dX11_lost_58 rfl (lv_at hl 4 rfl) ?_
              refine lv_iload hx hb dX11_lost_59 (lv_at hl 0 rfl) ?_
              have z54 : (σ36 2 0).toInt = (σ 2 0).toInt := by rw [(show σ36 2 0 = (σ 2 0) from (by rw [f42 2 (by omega)]))]
              have z55 : (σ36 2 1).toInt = (σ 2 1).toInt := by rw [(show σ36 2 1 = (σ 2 1) from (by rw [f42 2 (by omega)]))]
              have z56 : (σ36 2 2).toInt = (σ 2 2).toInt := by rw [(show σ36 2 2 = (σ 2 2) from (by rw [f42 2 (by omega)]))]
              have z57 : (σ36 2 3).toInt = (σ 2 3).toInt := by rw [(show σ36 2 3 = (σ 2 3) from (by rw [f42 2 (by omega)]))]
              have w58 : ∀ k : Nat, k < 40 → 0 ≤ (σ36 6 k).toInt ∧ (σ36 6 k).toInt ≤ 67 := (by rw [f42 6 (by omega)]; exact w6)
              have I59 : jI2 σ36 := ⟨(by omega), (by omega), (by omega), (by omega), (by omega), w58⟩
              have z60 : (σ36 16 0).toInt = (σ 16 0).toInt := by rw [(show σ36 16 0 = (σ 16 0) from (by rw [f42 16 (by omega)]))]
              have z61 : (σ36 16 1).toInt = (σ 16 1).toInt := by rw [(show σ36 16 1 = (σ 16 1) from (by rw [f42 16 (by omega)]))]
              have z62 : (σ36 16 2).toInt = (σ 16 2).toInt := by rw [(show σ36 16 2 = (σ 16 2) from (by rw [f42 16 (by omega)]))]
              have w63 : ∀ k : Nat, k < 8 → 0 ≤ (σ36 17 k).toInt ∧ (σ36 17 k).toInt ≤ 3 := (by rw [f42 17 (by omega)]; exact w10)
              have I64 : jI16 σ36 := ⟨(by omega), (by omega), (by omega), w63⟩
              have z65 : (σ36 22 0).toInt = (σ 22 0).toInt := by rw [(show σ36 22 0 = (σ 22 0) from (by rw [f42 22 (by omega)]))]
              have w66 : ∀ k : Nat, k < 160 → 0 ≤ (σ36 23 k).toInt ∧ (σ36 23 k).toInt ≤ 30000 := (by rw [f42 23 (by omega)]; exact w12)
              have I67 : jI22 σ36 := ⟨(by omega), w66⟩
              have I68 : jI31 σ36 := ⟨(by omega), w44, w45⟩
              have w69 : ∀ k : Nat, k < 12 → 0 ≤ (σ36 49 k).toInt ∧ (σ36 49 k).toInt ≤ 1 := (by rw [f42 49 (by omega)]; exact w17)
              have I70 : jI47 σ36 := ⟨(by omega), w69⟩
              refine jcallV (As := [.int x34]) (rest := []) ⟨hx, hb, hml, hown, hts⟩ hK hP hA hS hZ (c_X11_costOf l D cI cL ad zz hJ σ36 τ x34 (x34.toInt) rfl I59 I64 I67 I68 I70) cw_RX11_265 (jc_0 cI cL ad σ36 τ) rfl ⟨Nat.le_of_ble_eq_true rfl, Nat.le_of_ble_eq_true rfl⟩ rfl rfl rfl hl.1 rfl (Nat.le_of_ble_eq_true rfl) dX11_lost_61 ⟨Nat.zero_le _, Nat.zero_le _⟩ (fun r72 σ71 τ71 H locs h71 hP hS => ?_)
              obtain ⟨rfl, f73, f74, I75, h71⟩ := h71
              obtain ⟨i76, w77, w78⟩ : (0 ≤ (σ71 31 8).toInt ∧ (σ71 31 8).toInt ≤ 350) ∧ (∀ k : Nat, k < 1400 → (-1) ≤ (σ71 33 k).toInt ∧ (σ71 33 k).toInt ≤ 350) ∧ (∀ k : Nat, k < 1024 → 0 ≤ (σ71 36 k).toInt ∧ (σ71 36 k).toInt ≤ 349) := id I75
              refine lv_istore (lv' := [(6, .int r72), (5, .int x34), (4, .int x33), (3, .int x32), (2, .int x31), (0, .ref (ad 0)), (1, .int a1)]) hx hb dX11_lost_64 hl (by decide) rfl (fun ls hl => ?_)
              refine lv_iload hx hb dX11_lost_66 (lv_at hl 2 rfl) ?_
              refine lv_iload hx hb dX11_lost_68 (lv_at hl 0 rfl) ?_
              have g79 := jrg (rfl : x33.toInt = x33.toInt)
              have g80 := jrg (rfl : r72.toInt = r72.toInt)
              refine lv_iadd hx hb dX11_lost_70 ?_
              refine lv_topi (fun x81 ex81 => ?_)
              have gx81 := jrg (rfl : x81.toInt = x81.toInt)
              refine lv_istore (lv' := [(4, .int x81), (6, .int r72), (5, .int x34), (3, .int x32), (2, .int x31), (0, .ref (ad 0)), (1, .int a1)]) hx hb dX11_lost_71 hl (by decide) rfl (fun ls hl => ?_)
              refine lv_iload hx hb dX11_lost_73 (lv_at hl 2 rfl) ?_
              refine lv_if_eq (tgt := 84) hx hb dX11_lost_75 (by decide) (fun c82 => ?_) (fun c82 => ?_)
              · have kc82 := jeq c82 rfl jz_0
                refine lv_iload hx hb dX11_lost_84 (lv_at hl 2 rfl) ?_
                refine lv_istore_n (lv' := [(2, .int x34), (4, .int x81), (6, .int r72), (5, .int x34), (3, .int x32), (0, .ref (ad 0)), (1, .int a1)]) hx hb dX11_lost_86 rfl hl (by decide) rfl (fun ls hl => ?_)
                refine lv_iload hx hb dX11_lost_87 (lv_at hl 2 rfl) ?_
                refine lv_istore_n (lv' := [(3, .int r72), (2, .int x34), (4, .int x81), (6, .int r72), (5, .int x34), (0, .ref (ad 0)), (1, .int a1)]) hx hb dX11_lost_89 rfl hl (by decide) rfl (fun ls hl => ?_)
                obtain ⟨x83, ex83⟩ : ∃ y : Int32, y = x34 + 1 := ⟨_, rfl⟩
                have tx83 : x83.toInt = x34.toInt + 1 := (jadd ex83 rfl jz_1 (by omega) (by omega)).trans (by omega)
                refine lv_iinc (v := x83) (lv' := [(5, .int x83), (3, .int r72), (2, .int x34), (4, .int x81), (6, .int r72), (0, .ref (ad 0)), (1, .int a1)]) hx hb dX11_lost_90 hl (k := 4) rfl (by rw [ex83]; rfl) (by decide) rfl (fun ls hl => ?_)
                refine lv_goto (tgt := 46) hx hb dX11_lost_93 (by decide) ?_
                have z84 : (σ71 47 0).toInt = (σ 47 0).toInt := by rw [(show σ71 47 0 = (σ 47 0) from (by rw [f73 47 (by omega)]; exact m47))]
                exact ihlp29 x34 r72 x81 x83 σ71 _ _ ls (by have h93 := tx83; omega) (by have h93 := tx83; omega) (by have h93 := tx83; omega) (by have h93 := tx83; omega) (by have h93 := tx83; omega) (fun i hi => by rw [f73 i (by omega), f42 i hi]) (fun k hk => by rw [f74 k (by omega), f43 k hk])  w77 w78 hP hS (lv_sub hl [0, 3, 1, 2, 5, 6] rfl)
              · have kc82 := jne c82 rfl jz_0
                refine lv_iload hx hb dX11_lost_78 (lv_at hl 1 rfl) ?_
                refine lv_iload_n hx hb dX11_lost_80 rfl (lv_at hl 3 rfl) ?_
                refine lv_icmp_le (tgt := 90) hx hb dX11_lost_81 (by decide) (fun c85 => ?_) (fun c85 => ?_)
                · have kc85 := jle c85 rfl rfl
                  obtain ⟨x86, ex86⟩ : ∃ y : Int32, y = x34 + 1 := ⟨_, rfl⟩
                  have tx86 : x86.toInt = x34.toInt + 1 := (jadd ex86 rfl jz_1 (by omega) (by omega)).trans (by omega)
                  refine lv_iinc (v := x86) (lv' := [(5, .int x86), (4, .int x81), (6, .int r72), (3, .int x32), (2, .int x31), (0, .ref (ad 0)), (1, .int a1)]) hx hb dX11_lost_90 hl (k := 2) rfl (by rw [ex86]; rfl) (by decide) rfl (fun ls hl => ?_)
                  refine lv_goto (tgt := 46) hx hb dX11_lost_93 (by decide) ?_
                  have z87 : (σ71 47 0).toInt = (σ 47 0).toInt := by rw [(show σ71 47 0 = (σ 47 0) from (by rw [f73 47 (by omega)]; exact m47))]
                  exact ihlp29 x31 x32 x81 x86 σ71 _ _ ls (by have h93 := tx86; omega) (by have h93 := tx86; omega) (by have h93 := tx86; omega) (by have h93 := tx86; omega) (by have h93 := tx86; omega) (fun i hi => by rw [f73 i (by omega), f42 i hi]) (fun k hk => by rw [f74 k (by omega), f43 k hk])  w77 w78 hP hS (lv_sub hl [0, 1, 3, 4, 5, 6] rfl)
                · have kc85 := jnle c85 rfl rfl
                  refine lv_iload hx hb dX11_lost_84 (lv_at hl 2 rfl) ?_
                  refine lv_istore_n (lv' := [(2, .int x34), (4, .int x81), (6, .int r72), (5, .int x34), (3, .int x32), (0, .ref (ad 0)), (1, .int a1)]) hx hb dX11_lost_86 rfl hl (by decide) rfl (fun ls hl => ?_)
                  refine lv_iload hx hb dX11_lost_87 (lv_at hl 2 rfl) ?_
                  refine lv_istore_n (lv' := [(3, .int r72), (2, .int x34), (4, .int x81), (6, .int r72), (5, .int x34), (0, .ref (ad 0)), (1, .int a1)]) hx hb dX11_lost_89 rfl hl (by decide) rfl (fun ls hl => ?_)
                  obtain ⟨x88, ex88⟩ : ∃ y : Int32, y = x34 + 1 := ⟨_, rfl⟩
                  have tx88 : x88.toInt = x34.toInt + 1 := (jadd ex88 rfl jz_1 (by omega) (by omega)).trans (by omega)
                  refine lv_iinc (v := x88) (lv' := [(5, .int x88), (3, .int r72), (2, .int x34), (4, .int x81), (6, .int r72), (0, .ref (ad 0)), (1, .int a1)]) hx hb dX11_lost_90 hl (k := 4) rfl (by rw [ex88]; rfl) (by decide) rfl (fun ls hl => ?_)
                  refine lv_goto (tgt := 46) hx hb dX11_lost_93 (by decide) ?_
                  have z89 : (σ71 47 0).toInt = (σ 47 0).toInt := by rw [(show σ71 47 0 = (σ 47 0) from (by rw [f73 47 (by omega)]; exact m47))]
                  exact ihlp29 x34 r72 x81 x88 σ71 _ _ ls (by have h93 := tx88; omega) (by have h93 := tx88; omega) (by have h93 := tx88; omega) (by have h93 := tx88; omega) (by have h93 := tx88; omega) (fun i hi => by rw [f73 i (by omega), f42 i hi]) (fun k hk => by rw [f74 k (by omega), f43 k hk])  w77 w78 hP hS (lv_sub hl [0, 3, 1, 2, 5, 6] rfl)
        exact lp29 1000000 0 0 0 0 σ _ _ ls (by have h90 := jz_0; have h91 := jz_0; have h92 := jz_0; have h93 := jz_0; omega) (by have h90 := jz_0; have h91 := jz_0; have h92 := jz_0; have h93 := jz_0; omega) (by have h90 := jz_0; have h91 := jz_0; have h92 := jz_0; have h93 := jz_0; omega) (by have h90 := jz_0; have h91 := jz_0; have h92 := jz_0; have h93 := jz_0; omega) (by have h90 := jz_0; have h91 := jz_0; have h92 := jz_0; have h93 := jz_0; omega) (fun _ _ => rfl) (fun _ _ => rfl)  w14 w15 hP hS hl
      · have kc28 := jnle c28 rfl jz_8
        refine lv_bipush (v := (-4)) hx hb dX11_lost_33 (by decide) ?_
        have I90 : jI31 σ := ⟨(by omega), w14, w15⟩
        exact hret (-4) σ τ _ _ _ _ rfl ⟨rfl, (fun _ _ => rfl), (fun _ _ => rfl), I90, trivial⟩ hP hS dX11_lost_35
    · have kc27 := jeq c27 rfl jz_0
      refine lv_iconst (v := (-1)) hx hb dX11_lost_19 (by decide) ?_
      have I91 : jI31 σ := ⟨(by omega), w14, w15⟩
      exact hret (-1) σ τ _ _ _ _ rfl ⟨rfl, (fun _ _ => rfl), (fun _ _ => rfl), I91, trivial⟩ hP hS dX11_lost_20
set_option maxHeartbeats 4000000 in
set_option maxRecDepth 100000 in
theorem c_X11_game (l : Launch) (D : va_G) (cI cL : ClassId) (ad zz : Nat → Nat) (hJ : jD ad) (σ : Nat → Nat → Int32) (τ : Nat → Nat → Int64) (a1 : Int32) (A1 : Int) (t1 : a1.toInt = A1) (a2 : Int32) (A2 : Int) (t2 : a2.toInt = A2) (hI2 : jI2 σ) (hI16 : jI16 σ) (hI18 : jI18 σ) (hI22 : jI22 σ) (hI31 : jI31 σ) (hI38 : jI38 σ) (hI43 : jI43 σ) : jM l yX11_game cX11_game 3 (some .int) ({ frames := 7, cells := 0, slots := 0, locals := 188 }) D cI cL ad zz [.ref (ad 0), .int a1, .int a2] σ τ (fun r σ' τ' => τ = τ' ∧ (∀ i : Nat, (i < 20 ∨ 21 < i) ∧ (i < 24 ∨ 25 < i) ∧ (i < 27 ∨ 37 < i) ∧ (i < 43 ∨ 46 < i) → σ' i = σ i) ∧ (∀ k : Nat, (k < 8 ∨ 8 < k) ∧ (k < 9 ∨ 9 < k) ∧ (k < 10 ∨ 10 < k) ∧ (k < 11 ∨ 11 < k) ∧ (k < 12 ∨ 12 < k) → σ' 31 k = σ 31 k) ∧ (∀ k : Nat, (k < 8 ∨ 8 < k) → σ' 43 k = σ 43 k) ∧ (jI31 σ') ∧ (jI43 σ') ∧ True) := by
  refine jM.of hJ (by decide +kernel) (nt := .int) rfl (Nat.le_of_ble_eq_true rfl) ?_
  intro p e s m args below meth c Q ls hC hret hl hP
  obtain ⟨hx, hb, hr, hml, hown, hts, hK, -, hlocks, hZ⟩ := hC
  have hown : s.vm.findClass RX11 = some m.cls := hown
  have hS : va_S (jA ad) s.heap s.heap [] := va_S.rf
  have hA : ∀ q, jA ad q → jA ad q := fun _ h => h
  have hl : lv_has ls 3 [(0, .ref (ad 0)), (1, .int a1), (2, .int a2)] := hl
  have g1 := jrg t1
  have g2 := jrg t2
  obtain ⟨i1, i2, i3, i4, i5, w6⟩ : (0 ≤ (σ 2 0).toInt ∧ (σ 2 0).toInt ≤ 4) ∧ (0 ≤ (σ 2 1).toInt ∧ (σ 2 1).toInt ≤ 3) ∧ (0 ≤ (σ 2 2).toInt) ∧ (0 ≤ (σ 2 3).toInt) ∧ ((σ 2 2).toInt + (σ 2 3).toInt ≤ 40) ∧ (∀ k : Nat, k < 40 → 0 ≤ (σ 6 k).toInt ∧ (σ 6 k).toInt ≤ 67) := id hI2
  obtain ⟨i7, i8, i9, w10⟩ : (1 ≤ (σ 16 0).toInt ∧ (σ 16 0).toInt ≤ 8) ∧ (1 ≤ (σ 16 1).toInt ∧ (σ 16 1).toInt ≤ 12) ∧ (0 ≤ (σ 16 2).toInt ∧ (σ 16 2).toInt ≤ 999) ∧ (∀ k : Nat, k < 8 → 0 ≤ (σ 17 k).toInt ∧ (σ 17 k).toInt ≤ 3) := id hI16
  obtain ⟨i11, w12⟩ : (0 ≤ (σ 18 0).toInt ∧ (σ 18 0).toInt ≤ 160) ∧ (∀ k : Nat, k < 160 → 0 ≤ (σ 19 k).toInt ∧ (σ 19 k).toInt ≤ 30000) := id hI18
  obtain ⟨i13, w14⟩ : (0 ≤ (σ 22 0).toInt ∧ (σ 22 0).toInt ≤ 160) ∧ (∀ k : Nat, k < 160 → 0 ≤ (σ 23 k).toInt ∧ (σ 23 k).toInt ≤ 30000) := id hI22
  obtain ⟨i15, w16, w17⟩ : (0 ≤ (σ 31 8).toInt ∧ (σ 31 8).toInt ≤ 350) ∧ (∀ k : Nat, k < 1400 → (-1) ≤ (σ 33 k).toInt ∧ (σ 33 k).toInt ≤ 350) ∧ (∀ k : Nat, k < 1024 → 0 ≤ (σ 36 k).toInt ∧ (σ 36 k).toInt ≤ 349) := id hI31
  obtain ⟨i18, i19, w20⟩ : (0 ≤ (σ 38 0).toInt ∧ (σ 38 0).toInt ≤ 20) ∧ (0 ≤ (σ 38 1).toInt ∧ (σ 38 1).toInt ≤ 1000) ∧ (∀ k : Nat, k < 20 → 0 ≤ (σ 39 k).toInt ∧ (σ 39 k).toInt ≤ 6) := id hI38
  have i21 : 0 ≤ (σ 43 8).toInt ∧ (σ 43 8).toInt ≤ 8 := hI43
  refine lv_aload_n hx hb dX11_game_0 rfl (lv_at hl 0 rfl) ?_
  refine lv_iload_n hx hb dX11_game_1 rfl (lv_at hl 1 rfl) ?_
  have I22 : jI38 σ := ⟨(by omega), (by omega), w20⟩
  refine jcallV (As := [.int a1]) (rest := []) ⟨hx, hb, hml, hown, hts⟩ hK hP hA hS hZ (c_X11_noRule l D cI cL ad zz hJ σ τ a1 (A1) t1 I22) cw_RX11_177 (jc_0 cI cL ad σ τ) rfl ⟨Nat.le_of_ble_eq_true rfl, Nat.le_of_ble_eq_true rfl⟩ rfl rfl rfl hl.1 rfl (Nat.le_of_ble_eq_true rfl) dX11_game_2 ⟨Nat.zero_le _, Nat.zero_le _⟩ (fun r24 σ23 τ23 H locs h23 hP hS => ?_)
  obtain ⟨⟨rfl, rfl⟩, h23⟩ := h23
  rcases h23 with h25 | h26
  · obtain ⟨q28, k27⟩ := h25
    have q28 := q28.symm
    subst q28
    refine lv_if_eq (tgt := 10) hx hb dX11_game_5 (by decide) (fun c => absurd c (by decide)) (fun _ => ?_)
    refine lv_iconst (v := (-1)) hx hb dX11_game_8 (by decide) ?_
    have I29 : jI31 σ := ⟨(by omega), w16, w17⟩
    have I30 : jI43 σ := (show 0 ≤ (σ 43 8).toInt ∧ (σ 43 8).toInt ≤ 8 by omega)
    exact hret (-1) σ τ _ _ _ _ rfl ⟨rfl, (fun _ _ => rfl), (fun _ _ => rfl), (fun _ _ => rfl), I29, I30, trivial⟩ hP hS dX11_game_9
  · obtain ⟨q32, k31⟩ := h26
    have q32 := q32.symm
    subst q32
    refine lv_if_eq (tgt := 10) hx hb dX11_game_5 (by decide) (fun _ => ?_) (fun c => absurd (by decide) c)
    refine lv_aload_n hx hb dX11_game_10 rfl (lv_at hl 0 rfl) ?_
    refine va_get (D := D) hx hb hts inlX11 hown hK hP 0 (jc_0 cI cL ad σ τ) rfl 2 (by decide) (hts _ kw_2_0) (fun _ h9 => h9) rfl dX11_game_11 ?_
    refine va_get (D := D) hx hb hts inlX6 hown hK hP 16 (jc_16 cI cL ad σ τ) rfl 1 (by decide) (hts _ kw_20_5) (fun _ h9 => h9) rfl dX11_game_14 ?_
    refine lv_bipush (v := 8) hx hb dX11_game_17 (by decide) ?_
    refine lv_icmp_le (tgt := 25) hx hb dX11_game_19 (by decide) (fun c33 => ?_) (fun c33 => ?_)
    · have kc33 := jle c33 rfl jz_8
      refine lv_aload_n hx hb dX11_game_25 rfl (lv_at hl 0 rfl) ?_
      refine lv_iload_n hx hb dX11_game_26 rfl (lv_at hl 1 rfl) ?_
      have I34 : jI2 σ := ⟨(by omega), (by omega), (by omega), (by omega), (by omega), w6⟩
      have I35 : jI16 σ := ⟨(by omega), (by omega), (by omega), w10⟩
      have I36 : jI22 σ := ⟨(by omega), w14⟩
      have I37 : jI31 σ := ⟨(by omega), w16, w17⟩
      refine jcallVv (As := [.int a1]) (rest := []) ⟨hx, hb, hml, hown, hts⟩ hK hP hA hS hZ (c_X11_makeReady l D cI cL ad zz hJ σ τ a1 (A1) t1 I34 I35 I36 I37 I22) cw_RX11_201 (jc_0 cI cL ad σ τ) rfl ⟨Nat.le_of_ble_eq_true rfl, Nat.le_of_ble_eq_true rfl⟩ rfl rfl rfl hl.1 rfl (Nat.le_of_ble_eq_true rfl) dX11_game_27 ⟨Nat.zero_le _, Nat.zero_le _⟩ (fun σ38 τ38 H locs h38 hP hS => ?_)
      obtain ⟨rfl, f40, f41, I42, h38⟩ := h38
      obtain ⟨i43, w44, w45⟩ : (0 ≤ (σ38 31 8).toInt ∧ (σ38 31 8).toInt ≤ 350) ∧ (∀ k : Nat, k < 1400 → (-1) ≤ (σ38 33 k).toInt ∧ (σ38 33 k).toInt ≤ 350) ∧ (∀ k : Nat, k < 1024 → 0 ≤ (σ38 36 k).toInt ∧ (σ38 36 k).toInt ≤ 349) := id I42
      refine lv_aload_n hx hb dX11_game_30 rfl (lv_at hl 0 rfl) ?_
      refine va_get (D := D) hx hb hts inlX11 hown hK hP 0 (jc_0 cI cL ad σ38 τ) rfl 8 (by decide) (hts _ kw_2_21) (fun _ h9 => h9) rfl dX11_game_31 ?_
      refine lv_iload_n hx hb dX11_game_34 rfl (lv_at hl 1 rfl) ?_
      refine lv_iload_n hx hb dX11_game_35 rfl (lv_at hl 2 rfl) ?_
      refine lv_aload_n hx hb dX11_game_36 rfl (lv_at hl 0 rfl) ?_
      refine va_get (D := D) hx hb hts inlX11 hown hK hP 0 (jc_0 cI cL ad σ38 τ) rfl 0 (by decide) (hts _ kw_1_16) (fun _ h9 => h9) rfl dX11_game_37 ?_
      have z46 : (σ38 2 0).toInt = (σ 2 0).toInt := by rw [(show σ38 2 0 = (σ 2 0) from (by rw [f40 2 (by omega)]))]
      have z47 : (σ38 2 1).toInt = (σ 2 1).toInt := by rw [(show σ38 2 1 = (σ 2 1) from (by rw [f40 2 (by omega)]))]
      have z48 : (σ38 2 2).toInt = (σ 2 2).toInt := by rw [(show σ38 2 2 = (σ 2 2) from (by rw [f40 2 (by omega)]))]
      have z49 : (σ38 2 3).toInt = (σ 2 3).toInt := by rw [(show σ38 2 3 = (σ 2 3) from (by rw [f40 2 (by omega)]))]
      have w50 : ∀ k : Nat, k < 40 → 0 ≤ (σ38 6 k).toInt ∧ (σ38 6 k).toInt ≤ 67 := (by rw [f40 6 (by omega)]; exact w6)
      have I51 : jI2 σ38 := ⟨(by omega), (by omega), (by omega), (by omega), (by omega), w50⟩
      refine jcallV (As := []) (rest := [.int a2, .int a1, .ref (ad 43)]) ⟨hx, hb, hml, hown, hts⟩ hK hP hA hS hZ (c_X4_freshAttack_2 l D cI cL ad zz hJ σ38 τ I51) cw_RX11_204 (jc_2 cI cL ad σ38 τ) rfl ⟨Nat.le_of_ble_eq_true rfl, Nat.le_of_ble_eq_true rfl⟩ rfl rfl rfl hl.1 rfl (Nat.le_of_ble_eq_true rfl) dX11_game_40 ⟨Nat.zero_le _, Nat.zero_le _⟩ (fun r53 σ52 τ52 H locs h52 hP hS => ?_)
      obtain ⟨⟨rfl, rfl⟩, h52⟩ := h52
      have z54 : (σ38 16 0).toInt = (σ 16 0).toInt := by rw [(show σ38 16 0 = (σ 16 0) from (by rw [f40 16 (by omega)]))]
      have z55 : (σ38 16 1).toInt = (σ 16 1).toInt := by rw [(show σ38 16 1 = (σ 16 1) from (by rw [f40 16 (by omega)]))]
      have z56 : (σ38 16 2).toInt = (σ 16 2).toInt := by rw [(show σ38 16 2 = (σ 16 2) from (by rw [f40 16 (by omega)]))]
      have w57 : ∀ k : Nat, k < 8 → 0 ≤ (σ38 17 k).toInt ∧ (σ38 17 k).toInt ≤ 3 := (by rw [f40 17 (by omega)]; exact w10)
      have I58 : jI16 σ38 := ⟨(by omega), (by omega), (by omega), w57⟩
      have z59 : (σ38 18 0).toInt = (σ 18 0).toInt := by rw [(show σ38 18 0 = (σ 18 0) from (by rw [f40 18 (by omega)]))]
      have w60 : ∀ k : Nat, k < 160 → 0 ≤ (σ38 19 k).toInt ∧ (σ38 19 k).toInt ≤ 30000 := (by rw [f40 19 (by omega)]; exact w12)
      have I61 : jI18 σ38 := ⟨(by omega), w60⟩
      have z62 : (σ38 22 0).toInt = (σ 22 0).toInt := by rw [(show σ38 22 0 = (σ 22 0) from (by rw [f40 22 (by omega)]))]
      have w63 : ∀ k : Nat, k < 160 → 0 ≤ (σ38 23 k).toInt ∧ (σ38 23 k).toInt ≤ 30000 := (by rw [f40 23 (by omega)]; exact w14)
      have I64 : jI22 σ38 := ⟨(by omega), w63⟩
      have z65 : (σ38 38 0).toInt = (σ 38 0).toInt := by rw [(show σ38 38 0 = (σ 38 0) from (by rw [f40 38 (by omega)]))]
      have z66 : (σ38 38 1).toInt = (σ 38 1).toInt := by rw [(show σ38 38 1 = (σ 38 1) from (by rw [f40 38 (by omega)]))]
      have w67 : ∀ k : Nat, k < 20 → 0 ≤ (σ38 39 k).toInt ∧ (σ38 39 k).toInt ≤ 6 := (by rw [f40 39 (by omega)]; exact w20)
      have I68 : jI38 σ38 := ⟨(by omega), (by omega), w67⟩
      have z69 : (σ38 43 8).toInt = (σ 43 8).toInt := by rw [(show σ38 43 8 = (σ 43 8) from (by rw [f40 43 (by omega)]))]
      have I70 : jI43 σ38 := (show 0 ≤ (σ38 43 8).toInt ∧ (σ38 43 8).toInt ≤ 8 by omega)
      refine jcallV (As := [.int a1, .int a2, .int r53]) (rest := []) ⟨hx, hb, hml, hown, hts⟩ hK hP hA hS hZ (c_X3_play_43 l D cI cL ad zz hJ σ38 τ a1 (A1) t1 a2 (A2) t2 r53 (r53.toInt) rfl I58 I61 I64 I42 I68 I70) cw_RX11_268 (jc_43 cI cL ad σ38 τ) rfl ⟨Nat.le_of_ble_eq_true rfl, Nat.le_of_ble_eq_true rfl⟩ rfl rfl rfl hl.1 rfl (Nat.le_of_ble_eq_true rfl) dX11_game_43 ⟨Nat.zero_le _, Nat.zero_le _⟩ (fun r72 σ71 τ71 H locs h71 hP hS => ?_)
      obtain ⟨rfl, f73, f74, I75, h71⟩ := h71
      have i76 : 0 ≤ (σ71 43 8).toInt ∧ (σ71 43 8).toInt ≤ 8 := I75
      have z77 : (σ71 31 8).toInt = (σ38 31 8).toInt := by rw [(show σ71 31 8 = (σ38 31 8) from (by rw [f73 31 (by omega)]))]
      have w78 : ∀ k : Nat, k < 1400 → (-1) ≤ (σ71 33 k).toInt ∧ (σ71 33 k).toInt ≤ 350 := (by rw [f73 33 (by omega)]; exact w44)
      have w79 : ∀ k : Nat, k < 1024 → 0 ≤ (σ71 36 k).toInt ∧ (σ71 36 k).toInt ≤ 349 := (by rw [f73 36 (by omega)]; exact w45)
      have I80 : jI31 σ71 := ⟨(by omega), w78, w79⟩
      exact hret r72 σ71 τ _ _ _ _ rfl ⟨rfl, (fun i hi => by rw [f73 i (by omega), f40 i (by omega)]), (fun k hk => by rw [f73 31 (by omega), f41 k (by omega)]), (fun k hk => by rw [f74 k (by omega), f40 43 (by omega)]), I80, I75, trivial⟩ hP hS dX11_game_46
    · have kc33 := jnle c33 rfl jz_8
      refine lv_bipush (v := (-4)) hx hb dX11_game_22 (by decide) ?_
      have I81 : jI31 σ := ⟨(by omega), w16, w17⟩
      have I82 : jI43 σ := (show 0 ≤ (σ 43 8).toInt ∧ (σ 43 8).toInt ≤ 8 by omega)
      exact hret (-4) σ τ _ _ _ _ rfl ⟨rfl, (fun _ _ => rfl), (fun _ _ => rfl), (fun _ _ => rfl), I81, I82, trivial⟩ hP hS dX11_game_24
set_option maxHeartbeats 4000000 in
set_option maxRecDepth 100000 in
theorem c_X11_led (l : Launch) (D : va_G) (cI cL : ClassId) (ad zz : Nat → Nat) (hJ : jD ad) (σ : Nat → Nat → Int32) (τ : Nat → Nat → Int64) (a1 : Int32) (A1 : Int) (t1 : a1.toInt = A1) (a2 : Int32) (A2 : Int) (t2 : a2.toInt = A2) (hI43 : jI43 σ) : jM l yX11_led cX11_led 3 (some .int) ({ frames := 1, cells := 0, slots := 0, locals := 22 }) D cI cL ad zz [.ref (ad 0), .int a1, .int a2] σ τ (fun r σ' τ' => (σ = σ' ∧ τ = τ') ∧ True) := by
  refine jM.of hJ (by decide +kernel) (nt := .int) rfl (Nat.le_of_ble_eq_true rfl) ?_
  intro p e s m args below meth c Q ls hC hret hl hP
  obtain ⟨hx, hb, hr, hml, hown, hts, hK, -, hlocks, hZ⟩ := hC
  have hown : s.vm.findClass RX11 = some m.cls := hown
  have hS : va_S (jA ad) s.heap s.heap [] := va_S.rf
  have hA : ∀ q, jA ad q → jA ad q := fun _ h => h
  have hl : lv_has ls 3 [(0, .ref (ad 0)), (1, .int a1), (2, .int a2)] := hl
  have g1 := jrg t1
  have g2 := jrg t2
  have i1 : 0 ≤ (σ 43 8).toInt ∧ (σ 43 8).toInt ≤ 8 := hI43
  refine lv_iload_n hx hb dX11_led_0 rfl (lv_at hl 1 rfl) ?_
  refine lv_iconst (v := (-1)) hx hb dX11_led_1 (by decide) ?_
  refine lv_icmp_ne (tgt := 17) hx hb dX11_led_2 (by decide) (fun c2 => ?_) (fun c2 => ?_)
  · have kc2 := jne c2 t1 jz_m1
    refine lv_iload_n hx hb dX11_led_17 rfl (lv_at hl 1 rfl) ?_
    refine lv_iconst (v := 0) hx hb dX11_led_18 (by decide) ?_
    refine lv_aload_n hx hb dX11_led_19 rfl (lv_at hl 0 rfl) ?_
    refine va_get (D := D) hx hb hts inlX11 hown hK hP 0 (jc_0 cI cL ad σ τ) rfl 8 (by decide) (hts _ kw_2_21) (fun _ h9 => h9) rfl dX11_led_20 ?_
    refine va_get (D := D) hx hb hts inlX3 hown hK hP 43 (jc_43 cI cL ad σ τ) rfl 8 (by decide) (hts _ kw_46_19) (fun _ h9 => h9) rfl dX11_led_23 ?_
    refine lv_iconst (v := 1) hx hb dX11_led_26 (by decide) ?_
    have g3 := jrg (rfl : (σ 43 8).toInt = (σ 43 8).toInt)
    refine lv_isub hx hb dX11_led_27 ?_
    refine lv_topi (fun x4 ex4 => ?_)
    have tx4 : x4.toInt = (σ 43 8).toInt - 1 := (jsub ex4 rfl jz_1 (by omega) (by omega)).trans (by omega)
    refine jcallS (As := [.int a1, .int 0, .int x4]) (rest := []) ⟨hx, hb, hml, hown, hts⟩ hK hP hA hS hZ (c_X11_outside l D cI cL ad zz hJ σ τ a1 (A1) t1 0 (0) jz_0 x4 ((σ 43 8).toInt - 1) tx4) cw_RX11_94 ⟨Nat.le_of_ble_eq_true rfl, Nat.le_of_ble_eq_true rfl⟩ rfl rfl rfl hl.1 rfl (Nat.le_of_ble_eq_true rfl) dX11_led_28 ⟨Nat.zero_le _, Nat.zero_le _⟩ (fun r6 σ5 τ5 H locs h5 hP hS => ?_)
    obtain ⟨⟨rfl, rfl⟩, h5⟩ := h5
    rcases h5 with h7 | h8
    · obtain ⟨q10, k9⟩ := h7
      have q10 := q10.symm
      subst q10
      refine lv_if_ne (tgt := 43) hx hb dX11_led_31 (by decide) (fun _ => ?_) (fun c => absurd c (by decide))
      refine lv_iconst (v := (-1)) hx hb dX11_led_43 (by decide) ?_
      exact hret (-1) σ τ _ _ _ _ rfl ⟨⟨rfl, rfl⟩, trivial⟩ hP hS dX11_led_44
    · obtain ⟨q12, k11⟩ := h8
      have q12 := q12.symm
      subst q12
      refine lv_if_ne (tgt := 43) hx hb dX11_led_31 (by decide) (fun c => absurd (by decide) c) (fun _ => ?_)
      refine lv_iload_n hx hb dX11_led_34 rfl (lv_at hl 2 rfl) ?_
      refine lv_iconst (v := 0) hx hb dX11_led_35 (by decide) ?_
      refine lv_iconst (v := 2) hx hb dX11_led_36 (by decide) ?_
      refine jcallS (As := [.int a2, .int 0, .int 2]) (rest := []) ⟨hx, hb, hml, hown, hts⟩ hK hP hA hS hZ (c_X11_outside l D cI cL ad zz hJ σ τ a2 (A2) t2 0 (0) jz_0 2 (2) jz_2) cw_RX11_94 ⟨Nat.le_of_ble_eq_true rfl, Nat.le_of_ble_eq_true rfl⟩ rfl rfl rfl hl.1 rfl (Nat.le_of_ble_eq_true rfl) dX11_led_37 ⟨Nat.zero_le _, Nat.zero_le _⟩ (fun r14 σ13 τ13 H locs h13 hP hS => ?_)
      obtain ⟨⟨rfl, rfl⟩, h13⟩ := h13
      rcases h13 with h15 | h16
      · obtain ⟨q18, k17⟩ := h15
        have q18 := q18.symm
        subst q18
        refine lv_if_eq (tgt := 45) hx hb dX11_led_40 (by decide) (fun c => absurd c (by decide)) (fun _ => ?_)
        refine lv_iconst (v := (-1)) hx hb dX11_led_43 (by decide) ?_
        exact hret (-1) σ τ _ _ _ _ rfl ⟨⟨rfl, rfl⟩, trivial⟩ hP hS dX11_led_44
      · obtain ⟨q20, k19⟩ := h16
        have q20 := q20.symm
        subst q20
        refine lv_if_eq (tgt := 45) hx hb dX11_led_40 (by decide) (fun _ => ?_) (fun c => absurd (by decide) c)
        refine lv_aload_n hx hb dX11_led_45 rfl (lv_at hl 0 rfl) ?_
        refine va_get (D := D) hx hb hts inlX11 hown hK hP 0 (jc_0 cI cL ad σ τ) rfl 8 (by decide) (hts _ kw_2_21) (fun _ h9 => h9) rfl dX11_led_46 ?_
        refine lv_iload_n hx hb dX11_led_49 rfl (lv_at hl 1 rfl) ?_
        refine lv_iload_n hx hb dX11_led_50 rfl (lv_at hl 2 rfl) ?_
        refine jcallV (As := [.int a1, .int a2]) (rest := []) ⟨hx, hb, hml, hown, hts⟩ hK hP hA hS hZ (c_X3_ledAt_43 l D cI cL ad zz hJ σ τ a1 (A1) t1 a2 (A2) t2) cw_RX11_274 (jc_43 cI cL ad σ τ) rfl ⟨Nat.le_of_ble_eq_true rfl, Nat.le_of_ble_eq_true rfl⟩ rfl rfl rfl hl.1 rfl (Nat.le_of_ble_eq_true rfl) dX11_led_51 ⟨Nat.zero_le _, Nat.zero_le _⟩ (fun r22 σ21 τ21 H locs h21 hP hS => ?_)
        obtain ⟨⟨rfl, rfl⟩, h21⟩ := h21
        exact hret r22 σ τ _ _ _ _ rfl ⟨⟨rfl, rfl⟩, trivial⟩ hP hS dX11_led_54
  · have kc2 := jeq c2 t1 jz_m1
    refine lv_iload_n hx hb dX11_led_5 rfl (lv_at hl 2 rfl) ?_
    refine lv_if_ne (tgt := 17) hx hb dX11_led_6 (by decide) (fun c23 => ?_) (fun c23 => ?_)
    · have kc23 := jne c23 t2 jz_0
      refine lv_iload_n hx hb dX11_led_17 rfl (lv_at hl 1 rfl) ?_
      refine lv_iconst (v := 0) hx hb dX11_led_18 (by decide) ?_
      refine lv_aload_n hx hb dX11_led_19 rfl (lv_at hl 0 rfl) ?_
      refine va_get (D := D) hx hb hts inlX11 hown hK hP 0 (jc_0 cI cL ad σ τ) rfl 8 (by decide) (hts _ kw_2_21) (fun _ h9 => h9) rfl dX11_led_20 ?_
      refine va_get (D := D) hx hb hts inlX3 hown hK hP 43 (jc_43 cI cL ad σ τ) rfl 8 (by decide) (hts _ kw_46_19) (fun _ h9 => h9) rfl dX11_led_23 ?_
      refine lv_iconst (v := 1) hx hb dX11_led_26 (by decide) ?_
      have g24 := jrg (rfl : (σ 43 8).toInt = (σ 43 8).toInt)
      refine lv_isub hx hb dX11_led_27 ?_
      refine lv_topi (fun x25 ex25 => ?_)
      have tx25 : x25.toInt = (σ 43 8).toInt - 1 := (jsub ex25 rfl jz_1 (by omega) (by omega)).trans (by omega)
      refine jcallS (As := [.int a1, .int 0, .int x25]) (rest := []) ⟨hx, hb, hml, hown, hts⟩ hK hP hA hS hZ (c_X11_outside l D cI cL ad zz hJ σ τ a1 (A1) t1 0 (0) jz_0 x25 ((σ 43 8).toInt - 1) tx25) cw_RX11_94 ⟨Nat.le_of_ble_eq_true rfl, Nat.le_of_ble_eq_true rfl⟩ rfl rfl rfl hl.1 rfl (Nat.le_of_ble_eq_true rfl) dX11_led_28 ⟨Nat.zero_le _, Nat.zero_le _⟩ (fun r27 σ26 τ26 H locs h26 hP hS => ?_)
      obtain ⟨⟨rfl, rfl⟩, h26⟩ := h26
      rcases h26 with h28 | h29
      · obtain ⟨q31, k30⟩ := h28
        have q31 := q31.symm
        subst q31
        refine lv_if_ne (tgt := 43) hx hb dX11_led_31 (by decide) (fun _ => ?_) (fun c => absurd c (by decide))
        refine lv_iconst (v := (-1)) hx hb dX11_led_43 (by decide) ?_
        exact hret (-1) σ τ _ _ _ _ rfl ⟨⟨rfl, rfl⟩, trivial⟩ hP hS dX11_led_44
      · obtain ⟨q33, k32⟩ := h29
        exact absurd (by omega : False) id
    · have kc23 := jeq c23 t2 jz_0
      refine lv_aload_n hx hb dX11_led_9 rfl (lv_at hl 0 rfl) ?_
      refine va_get (D := D) hx hb hts inlX11 hown hK hP 0 (jc_0 cI cL ad σ τ) rfl 8 (by decide) (hts _ kw_2_21) (fun _ h9 => h9) rfl dX11_led_10 ?_
      refine va_get (D := D) hx hb hts inlX3 hown hK hP 43 (jc_43 cI cL ad σ τ) rfl 8 (by decide) (hts _ kw_46_19) (fun _ h9 => h9) rfl dX11_led_13 ?_
      exact hret (σ 43 8) σ τ _ _ _ _ rfl ⟨⟨rfl, rfl⟩, trivial⟩ hP hS dX11_led_16
set_option maxHeartbeats 4000000 in
set_option maxRecDepth 100000 in
theorem c_X11_trace (l : Launch) (D : va_G) (cI cL : ClassId) (ad zz : Nat → Nat) (hJ : jD ad) (σ : Nat → Nat → Int32) (τ : Nat → Nat → Int64) (a1 : Int32) (A1 : Int) (t1 : a1.toInt = A1) (hI38 : jI38 σ) : jM l yX11_trace cX11_trace 2 (some .int) ({ frames := 1, cells := 0, slots := 0, locals := 22 }) D cI cL ad zz [.ref (ad 0), .int a1] σ τ (fun r σ' τ' => (σ = σ' ∧ τ = τ') ∧ True) := by
  refine jM.of hJ (by decide +kernel) (nt := .int) rfl (Nat.le_of_ble_eq_true rfl) ?_
  intro p e s m args below meth c Q ls hC hret hl hP
  obtain ⟨hx, hb, hr, hml, hown, hts, hK, -, hlocks, hZ⟩ := hC
  have hown : s.vm.findClass RX11 = some m.cls := hown
  have hS : va_S (jA ad) s.heap s.heap [] := va_S.rf
  have hA : ∀ q, jA ad q → jA ad q := fun _ h => h
  have hl : lv_has ls 2 [(0, .ref (ad 0)), (1, .int a1)] := hl
  have g1 := jrg t1
  obtain ⟨i1, i2, w3⟩ : (0 ≤ (σ 38 0).toInt ∧ (σ 38 0).toInt ≤ 20) ∧ (0 ≤ (σ 38 1).toInt ∧ (σ 38 1).toInt ≤ 1000) ∧ (∀ k : Nat, k < 20 → 0 ≤ (σ 39 k).toInt ∧ (σ 39 k).toInt ≤ 6) := id hI38
  refine lv_iload_n hx hb dX11_trace_0 rfl (lv_at hl 1 rfl) ?_
  refine lv_iconst (v := 0) hx hb dX11_trace_1 (by decide) ?_
  refine lv_aload_n hx hb dX11_trace_2 rfl (lv_at hl 0 rfl) ?_
  refine va_get (D := D) hx hb hts inlX11 hown hK hP 0 (jc_0 cI cL ad σ τ) rfl 7 (by decide) (hts _ kw_2_17) (fun _ h9 => h9) rfl dX11_trace_3 ?_
  refine va_get (D := D) hx hb hts inlX8 hown hK hP 38 (jc_38 cI cL ad σ τ) rfl 1 (by decide) (hts _ kw_48_10) (fun _ h9 => h9) rfl dX11_trace_6 ?_
  refine lv_bipush (v := 24) hx hb dX11_trace_9 (by decide) ?_
  refine va_mmin hx hb (hml.trans hl.1.symm) hown (hts _ kw_41_3) (hts _ kw_22_11) (hts _ kw_21_1) (hts _ kw_22_12) (Nat.le_of_ble_eq_true rfl) (Nat.le_of_ble_eq_true rfl) (Nat.le_of_ble_eq_true rfl) (Nat.le_of_ble_eq_true rfl) dX11_trace_11 ?_
  refine lv_topi (fun x4 ex4 => ?_)
  have g5 := jmin ex4 rfl jz_24
  refine lv_iconst (v := 1) hx hb dX11_trace_14 (by decide) ?_
  have g6 := jrg (rfl : x4.toInt = x4.toInt)
  refine lv_isub hx hb dX11_trace_15 ?_
  refine lv_topi (fun x7 ex7 => ?_)
  have tx7 : x7.toInt = x4.toInt - 1 := (jsub ex7 rfl jz_1 (by omega) (by omega)).trans (by omega)
  refine jcallS (As := [.int a1, .int 0, .int x7]) (rest := []) ⟨hx, hb, hml, hown, hts⟩ hK hP hA hS hZ (c_X11_outside l D cI cL ad zz hJ σ τ a1 (A1) t1 0 (0) jz_0 x7 (x4.toInt - 1) tx7) cw_RX11_94 ⟨Nat.le_of_ble_eq_true rfl, Nat.le_of_ble_eq_true rfl⟩ rfl rfl rfl hl.1 rfl (Nat.le_of_ble_eq_true rfl) dX11_trace_16 ⟨Nat.zero_le _, Nat.zero_le _⟩ (fun r9 σ8 τ8 H locs h8 hP hS => ?_)
  obtain ⟨⟨rfl, rfl⟩, h8⟩ := h8
  rcases h8 with h10 | h11
  · obtain ⟨q13, k12⟩ := h10
    have q13 := q13.symm
    subst q13
    refine lv_if_eq (tgt := 24) hx hb dX11_trace_19 (by decide) (fun c => absurd c (by decide)) (fun _ => ?_)
    refine lv_iconst (v := (-1)) hx hb dX11_trace_22 (by decide) ?_
    exact hret (-1) σ τ _ _ _ _ rfl ⟨⟨rfl, rfl⟩, trivial⟩ hP hS dX11_trace_23
  · obtain ⟨q15, k14⟩ := h11
    have q15 := q15.symm
    subst q15
    refine lv_if_eq (tgt := 24) hx hb dX11_trace_19 (by decide) (fun _ => ?_) (fun c => absurd (by decide) c)
    refine lv_aload_n hx hb dX11_trace_24 rfl (lv_at hl 0 rfl) ?_
    refine va_get (D := D) hx hb hts inlX11 hown hK hP 0 (jc_0 cI cL ad σ τ) rfl 7 (by decide) (hts _ kw_2_17) (fun _ h9 => h9) rfl dX11_trace_25 ?_
    refine lv_iload_n hx hb dX11_trace_28 rfl (lv_at hl 1 rfl) ?_
    refine jcallV (As := [.int a1]) (rest := []) ⟨hx, hb, hml, hown, hts⟩ hK hP hA hS hZ (c_X8_traceAt_38 l D cI cL ad zz hJ σ τ a1 (A1) t1) cw_RX11_295 (jc_38 cI cL ad σ τ) rfl ⟨Nat.le_of_ble_eq_true rfl, Nat.le_of_ble_eq_true rfl⟩ rfl rfl rfl hl.1 rfl (Nat.le_of_ble_eq_true rfl) dX11_trace_29 ⟨Nat.zero_le _, Nat.zero_le _⟩ (fun r17 σ16 τ16 H locs h16 hP hS => ?_)
    obtain ⟨⟨rfl, rfl⟩, h16⟩ := h16
    exact hret r17 σ τ _ _ _ _ rfl ⟨⟨rfl, rfl⟩, trivial⟩ hP hS dX11_trace_32
set_option maxHeartbeats 4000000 in
set_option maxRecDepth 100000 in
theorem c_X11_keep (l : Launch) (D : va_G) (cI cL : ClassId) (ad zz : Nat → Nat) (hJ : jD ad) (σ : Nat → Nat → Int32) (τ : Nat → Nat → Int64) (a1 : Int32) (A1 : Int) (t1 : a1.toInt = A1) (a2 : Int32) (A2 : Int) (t2 : a2.toInt = A2) (hI38 : jI38 σ) (hI50 : jI50 σ) : jM l yX11_keep cX11_keep 3 (some .int) ({ frames := 2, cells := 0, slots := 0, locals := 43 }) D cI cL ad zz [.ref (ad 0), .int a1, .int a2] σ τ (fun r σ' τ' => τ = τ' ∧ (∀ i : Nat, (i < 51 ∨ 53 < i) → σ' i = σ i) ∧ (jI50 σ') ∧ True) := by
  refine jM.of hJ (by decide +kernel) (nt := .int) rfl (Nat.le_of_ble_eq_true rfl) ?_
  intro p e s m args below meth c Q ls hC hret hl hP
  obtain ⟨hx, hb, hr, hml, hown, hts, hK, -, hlocks, hZ⟩ := hC
  have hown : s.vm.findClass RX11 = some m.cls := hown
  have hS : va_S (jA ad) s.heap s.heap [] := va_S.rf
  have hA : ∀ q, jA ad q → jA ad q := fun _ h => h
  have hl : lv_has ls 3 [(0, .ref (ad 0)), (1, .int a1), (2, .int a2)] := hl
  have g1 := jrg t1
  have g2 := jrg t2
  obtain ⟨i1, i2, w3⟩ : (0 ≤ (σ 38 0).toInt ∧ (σ 38 0).toInt ≤ 20) ∧ (0 ≤ (σ 38 1).toInt ∧ (σ 38 1).toInt ≤ 1000) ∧ (∀ k : Nat, k < 20 → 0 ≤ (σ 39 k).toInt ∧ (σ 39 k).toInt ≤ 6) := id hI38
  have w4 : ∀ k : Nat, k < 6 → 0 ≤ (σ 52 k).toInt ∧ (σ 52 k).toInt ≤ 60 := hI50
  refine lv_iload_n hx hb dX11_keep_0 rfl (lv_at hl 1 rfl) ?_
  refine jcallS (As := [.int a1]) (rest := []) ⟨hx, hb, hml, hown, hts⟩ hK hP hA hS hZ (c_X11_noShelf l D cI cL ad zz hJ σ τ a1 (A1) t1) cw_RX11_249 ⟨Nat.le_of_ble_eq_true rfl, Nat.le_of_ble_eq_true rfl⟩ rfl rfl rfl hl.1 rfl (Nat.le_of_ble_eq_true rfl) dX11_keep_1 ⟨Nat.zero_le _, Nat.zero_le _⟩ (fun r6 σ5 τ5 H locs h5 hP hS => ?_)
  obtain ⟨⟨rfl, rfl⟩, h5⟩ := h5
  rcases h5 with h7 | h8
  · obtain ⟨q10, k9⟩ := h7
    have q10 := q10.symm
    subst q10
    refine lv_if_ne (tgt := 20) hx hb dX11_keep_4 (by decide) (fun _ => ?_) (fun c => absurd c (by decide))
    refine lv_iconst (v := (-1)) hx hb dX11_keep_20 (by decide) ?_
    have I11 : jI50 σ := w4
    exact hret (-1) σ τ _ _ _ _ rfl ⟨rfl, (fun _ _ => rfl), I11, trivial⟩ hP hS dX11_keep_21
  · obtain ⟨q13, k12⟩ := h8
    have q13 := q13.symm
    subst q13
    refine lv_if_ne (tgt := 20) hx hb dX11_keep_4 (by decide) (fun c => absurd (by decide) c) (fun _ => ?_)
    refine lv_iload_n hx hb dX11_keep_7 rfl (lv_at hl 2 rfl) ?_
    refine lv_iconst (v := (-1)) hx hb dX11_keep_8 (by decide) ?_
    refine lv_icmp_eq (tgt := 22) hx hb dX11_keep_9 (by decide) (fun c14 => ?_) (fun c14 => ?_)
    · have kc14 := jeq c14 t2 jz_m1
      refine lv_aload_n hx hb dX11_keep_22 rfl (lv_at hl 0 rfl) ?_
      refine va_get (D := D) hx hb hts inlX11 hown hK hP 0 (jc_0 cI cL ad σ τ) rfl 10 (by decide) (hts _ kw_3_5) (fun _ h9 => h9) rfl dX11_keep_23 ?_
      refine lv_iload_n hx hb dX11_keep_26 rfl (lv_at hl 1 rfl) ?_
      refine lv_iload_n hx hb dX11_keep_27 rfl (lv_at hl 2 rfl) ?_
      have I15 : jI50 σ := w4
      refine jcallVv (As := [.int a1, .int a2]) (rest := []) ⟨hx, hb, hml, hown, hts⟩ hK hP hA hS hZ (c_X9_hold_50 l D cI cL ad zz hJ σ τ a1 (A1) t1 a2 (A2) t2 I15) cw_RX11_298 (jc_50 cI cL ad σ τ) rfl ⟨Nat.le_of_ble_eq_true rfl, Nat.le_of_ble_eq_true rfl⟩ rfl rfl rfl hl.1 rfl (Nat.le_of_ble_eq_true rfl) dX11_keep_28 ⟨Nat.zero_le _, Nat.zero_le _⟩ (fun σ16 τ16 H locs h16 hP hS => ?_)
      obtain ⟨rfl, f18, I19, h16⟩ := h16
      have w20 : ∀ k : Nat, k < 6 → 0 ≤ (σ16 52 k).toInt ∧ (σ16 52 k).toInt ≤ 60 := I19
      refine lv_iconst (v := 1) hx hb dX11_keep_31 (by decide) ?_
      exact hret 1 σ16 τ _ _ _ _ rfl ⟨rfl, (fun i hi => by rw [f18 i (by omega)]), I19, trivial⟩ hP hS dX11_keep_32
    · have kc14 := jne c14 t2 jz_m1
      refine lv_aload_n hx hb dX11_keep_12 rfl (lv_at hl 0 rfl) ?_
      refine lv_iload_n hx hb dX11_keep_13 rfl (lv_at hl 2 rfl) ?_
      have I21 : jI38 σ := ⟨(by omega), (by omega), w3⟩
      refine jcallV (As := [.int a2]) (rest := []) ⟨hx, hb, hml, hown, hts⟩ hK hP hA hS hZ (c_X11_noRule l D cI cL ad zz hJ σ τ a2 (A2) t2 I21) cw_RX11_177 (jc_0 cI cL ad σ τ) rfl ⟨Nat.le_of_ble_eq_true rfl, Nat.le_of_ble_eq_true rfl⟩ rfl rfl rfl hl.1 rfl (Nat.le_of_ble_eq_true rfl) dX11_keep_14 ⟨Nat.zero_le _, Nat.zero_le _⟩ (fun r23 σ22 τ22 H locs h22 hP hS => ?_)
      obtain ⟨⟨rfl, rfl⟩, h22⟩ := h22
      rcases h22 with h24 | h25
      · obtain ⟨q27, k26⟩ := h24
        have q27 := q27.symm
        subst q27
        refine lv_if_eq (tgt := 22) hx hb dX11_keep_17 (by decide) (fun c => absurd c (by decide)) (fun _ => ?_)
        refine lv_iconst (v := (-1)) hx hb dX11_keep_20 (by decide) ?_
        have I28 : jI50 σ := w4
        exact hret (-1) σ τ _ _ _ _ rfl ⟨rfl, (fun _ _ => rfl), I28, trivial⟩ hP hS dX11_keep_21
      · obtain ⟨q30, k29⟩ := h25
        have q30 := q30.symm
        subst q30
        refine lv_if_eq (tgt := 22) hx hb dX11_keep_17 (by decide) (fun _ => ?_) (fun c => absurd (by decide) c)
        refine lv_aload_n hx hb dX11_keep_22 rfl (lv_at hl 0 rfl) ?_
        refine va_get (D := D) hx hb hts inlX11 hown hK hP 0 (jc_0 cI cL ad σ τ) rfl 10 (by decide) (hts _ kw_3_5) (fun _ h9 => h9) rfl dX11_keep_23 ?_
        refine lv_iload_n hx hb dX11_keep_26 rfl (lv_at hl 1 rfl) ?_
        refine lv_iload_n hx hb dX11_keep_27 rfl (lv_at hl 2 rfl) ?_
        have I31 : jI50 σ := w4
        refine jcallVv (As := [.int a1, .int a2]) (rest := []) ⟨hx, hb, hml, hown, hts⟩ hK hP hA hS hZ (c_X9_hold_50 l D cI cL ad zz hJ σ τ a1 (A1) t1 a2 (A2) t2 I31) cw_RX11_298 (jc_50 cI cL ad σ τ) rfl ⟨Nat.le_of_ble_eq_true rfl, Nat.le_of_ble_eq_true rfl⟩ rfl rfl rfl hl.1 rfl (Nat.le_of_ble_eq_true rfl) dX11_keep_28 ⟨Nat.zero_le _, Nat.zero_le _⟩ (fun σ32 τ32 H locs h32 hP hS => ?_)
        obtain ⟨rfl, f34, I35, h32⟩ := h32
        have w36 : ∀ k : Nat, k < 6 → 0 ≤ (σ32 52 k).toInt ∧ (σ32 52 k).toInt ≤ 60 := I35
        refine lv_iconst (v := 1) hx hb dX11_keep_31 (by decide) ?_
        exact hret 1 σ32 τ _ _ _ _ rfl ⟨rfl, (fun i hi => by rw [f34 i (by omega)]), I35, trivial⟩ hP hS dX11_keep_32
set_option maxHeartbeats 4000000 in
set_option maxRecDepth 100000 in
theorem c_X11_row (l : Launch) (D : va_G) (cI cL : ClassId) (ad zz : Nat → Nat) (hJ : jD ad) (σ : Nat → Nat → Int32) (τ : Nat → Nat → Int64) (a1 : Int32) (A1 : Int) (t1 : a1.toInt = A1) (a2 : Int32) (A2 : Int) (t2 : a2.toInt = A2) (a3 : Int32) (A3 : Int) (t3 : a3.toInt = A3) (hI50 : jI50 σ) : jM l yX11_row cX11_row 4 (some .int) ({ frames := 2, cells := 0, slots := 0, locals := 44 }) D cI cL ad zz [.ref (ad 0), .int a1, .int a2, .int a3] σ τ (fun r σ' τ' => (∀ i : Nat, (i < 51 ∨ 53 < i) → σ' i = σ i) ∧ (jI50 σ') ∧ True) := by
  refine jM.of hJ (by decide +kernel) (nt := .int) rfl (Nat.le_of_ble_eq_true rfl) ?_
  intro p e s m args below meth c Q ls hC hret hl hP
  obtain ⟨hx, hb, hr, hml, hown, hts, hK, -, hlocks, hZ⟩ := hC
  have hown : s.vm.findClass RX11 = some m.cls := hown
  have hS : va_S (jA ad) s.heap s.heap [] := va_S.rf
  have hA : ∀ q, jA ad q → jA ad q := fun _ h => h
  have hl : lv_has ls 4 [(0, .ref (ad 0)), (1, .int a1), (2, .int a2), (3, .int a3)] := hl
  have g1 := jrg t1
  have g2 := jrg t2
  have g3 := jrg t3
  have w1 : ∀ k : Nat, k < 6 → 0 ≤ (σ 52 k).toInt ∧ (σ 52 k).toInt ≤ 60 := hI50
  refine lv_iload_n hx hb dX11_row_0 rfl (lv_at hl 1 rfl) ?_
  refine jcallS (As := [.int a1]) (rest := []) ⟨hx, hb, hml, hown, hts⟩ hK hP hA hS hZ (c_X11_noShelf l D cI cL ad zz hJ σ τ a1 (A1) t1) cw_RX11_249 ⟨Nat.le_of_ble_eq_true rfl, Nat.le_of_ble_eq_true rfl⟩ rfl rfl rfl hl.1 rfl (Nat.le_of_ble_eq_true rfl) dX11_row_1 ⟨Nat.zero_le _, Nat.zero_le _⟩ (fun r3 σ2 τ2 H locs h2 hP hS => ?_)
  obtain ⟨⟨rfl, rfl⟩, h2⟩ := h2
  rcases h2 with h4 | h5
  · obtain ⟨q7, k6⟩ := h4
    have q7 := q7.symm
    subst q7
    refine lv_if_ne (tgt := 22) hx hb dX11_row_4 (by decide) (fun _ => ?_) (fun c => absurd c (by decide))
    refine lv_iconst (v := (-1)) hx hb dX11_row_22 (by decide) ?_
    have I8 : jI50 σ := w1
    exact hret (-1) σ τ _ _ _ _ rfl ⟨(fun _ _ => rfl), I8, trivial⟩ hP hS dX11_row_23
  · obtain ⟨q10, k9⟩ := h5
    have q10 := q10.symm
    subst q10
    refine lv_if_ne (tgt := 22) hx hb dX11_row_4 (by decide) (fun c => absurd (by decide) c) (fun _ => ?_)
    refine lv_iload_n hx hb dX11_row_7 rfl (lv_at hl 2 rfl) ?_
    refine lv_iconst (v := 0) hx hb dX11_row_8 (by decide) ?_
    refine lv_iconst (v := 4) hx hb dX11_row_9 (by decide) ?_
    refine jcallS (As := [.int a2, .int 0, .int 4]) (rest := []) ⟨hx, hb, hml, hown, hts⟩ hK hP hA hS hZ (c_X11_outside l D cI cL ad zz hJ σ τ a2 (A2) t2 0 (0) jz_0 4 (4) jz_4) cw_RX11_94 ⟨Nat.le_of_ble_eq_true rfl, Nat.le_of_ble_eq_true rfl⟩ rfl rfl rfl hl.1 rfl (Nat.le_of_ble_eq_true rfl) dX11_row_10 ⟨Nat.zero_le _, Nat.zero_le _⟩ (fun r12 σ11 τ11 H locs h11 hP hS => ?_)
    obtain ⟨⟨rfl, rfl⟩, h11⟩ := h11
    rcases h11 with h13 | h14
    · obtain ⟨q16, k15⟩ := h13
      have q16 := q16.symm
      subst q16
      refine lv_if_ne (tgt := 22) hx hb dX11_row_13 (by decide) (fun _ => ?_) (fun c => absurd c (by decide))
      refine lv_iconst (v := (-1)) hx hb dX11_row_22 (by decide) ?_
      have I17 : jI50 σ := w1
      exact hret (-1) σ τ _ _ _ _ rfl ⟨(fun _ _ => rfl), I17, trivial⟩ hP hS dX11_row_23
    · obtain ⟨q19, k18⟩ := h14
      have q19 := q19.symm
      subst q19
      refine lv_if_ne (tgt := 22) hx hb dX11_row_13 (by decide) (fun c => absurd (by decide) c) (fun _ => ?_)
      refine lv_iload_n hx hb dX11_row_16 rfl (lv_at hl 3 rfl) ?_
      refine lv_bipush (v := 60) hx hb dX11_row_17 (by decide) ?_
      refine lv_icmp_le (tgt := 24) hx hb dX11_row_19 (by decide) (fun c20 => ?_) (fun c20 => ?_)
      · have kc20 := jle c20 t3 jz_60
        refine lv_iload_n hx hb dX11_row_24 rfl (lv_at hl 3 rfl) ?_
        refine lv_if_ge (tgt := 31) hx hb dX11_row_25 (by decide) (fun c21 => ?_) (fun c21 => ?_)
        · have kc21 := jle c21 jz_0 t3
          refine lv_aload_n hx hb dX11_row_31 rfl (lv_at hl 0 rfl) ?_
          refine va_get (D := D) hx hb hts inlX11 hown hK hP 0 (jc_0 cI cL ad σ τ) rfl 10 (by decide) (hts _ kw_3_5) (fun _ h9 => h9) rfl dX11_row_32 ?_
          refine lv_iload_n hx hb dX11_row_35 rfl (lv_at hl 1 rfl) ?_
          refine lv_iload_n hx hb dX11_row_36 rfl (lv_at hl 2 rfl) ?_
          refine lv_iload_n hx hb dX11_row_37 rfl (lv_at hl 3 rfl) ?_
          have I22 : jI50 σ := w1
          refine jcallVv (As := [.int a1, .int a2, .int a3]) (rest := []) ⟨hx, hb, hml, hown, hts⟩ hK hP hA hS hZ (c_X9_lay_50 l D cI cL ad zz hJ σ τ a1 (A1) t1 a2 (A2) t2 a3 (A3) t3 I22) cw_RX11_302 (jc_50 cI cL ad σ τ) rfl ⟨Nat.le_of_ble_eq_true rfl, Nat.le_of_ble_eq_true rfl⟩ rfl rfl rfl hl.1 rfl (Nat.le_of_ble_eq_true rfl) dX11_row_38 ⟨Nat.zero_le _, Nat.zero_le _⟩ (fun σ23 τ23 H locs h23 hP hS => ?_)
          obtain ⟨f25, I26, h23⟩ := h23
          have w27 : ∀ k : Nat, k < 6 → 0 ≤ (σ23 52 k).toInt ∧ (σ23 52 k).toInt ≤ 60 := I26
          refine lv_iconst (v := 1) hx hb dX11_row_41 (by decide) ?_
          exact hret 1 σ23 τ23 _ _ _ _ rfl ⟨(fun i hi => by rw [f25 i (by omega)]), I26, trivial⟩ hP hS dX11_row_42
        · have kc21 := jnle c21 jz_0 t3
          refine lv_bipush (v := (-14)) hx hb dX11_row_28 (by decide) ?_
          have I28 : jI50 σ := w1
          exact hret (-14) σ τ _ _ _ _ rfl ⟨(fun _ _ => rfl), I28, trivial⟩ hP hS dX11_row_30
      · have kc20 := jnle c20 t3 jz_60
        refine lv_iconst (v := (-1)) hx hb dX11_row_22 (by decide) ?_
        have I29 : jI50 σ := w1
        exact hret (-1) σ τ _ _ _ _ rfl ⟨(fun _ _ => rfl), I29, trivial⟩ hP hS dX11_row_23
set_option maxHeartbeats 4000000 in
set_option maxRecDepth 100000 in
theorem c_X11_put (l : Launch) (D : va_G) (cI cL : ClassId) (ad zz : Nat → Nat) (hJ : jD ad) (σ : Nat → Nat → Int32) (τ : Nat → Nat → Int64) (a1 : Int32) (A1 : Int) (t1 : a1.toInt = A1) (a2 : Int32) (A2 : Int) (t2 : a2.toInt = A2) (a3 : Int64) (AL3 : Int) (t3 : a3.toInt = AL3) (hI50 : jI50 σ) : jM l yX11_put cX11_put 6 (some .int) ({ frames := 6, cells := 0, slots := 0, locals := 129 }) D cI cL ad zz [.ref (ad 0), .int a1, .int a2, .long a3] σ τ (fun r σ' τ' => (∀ i : Nat, (0 = 0) → σ' i = σ i) ∧ True) := by
  refine jM.of hJ (by decide +kernel) (nt := .int) rfl (Nat.le_of_ble_eq_true rfl) ?_
  intro p e s m args below meth c Q ls hC hret hl hP
  obtain ⟨hx, hb, hr, hml, hown, hts, hK, -, hlocks, hZ⟩ := hC
  have hown : s.vm.findClass RX11 = some m.cls := hown
  have hS : va_S (jA ad) s.heap s.heap [] := va_S.rf
  have hA : ∀ q, jA ad q → jA ad q := fun _ h => h
  have hl : lv_has ls 6 [(0, .ref (ad 0)), (1, .int a1), (2, .int a2), (3, .long a3)] := hl
  have g1 := jrg t1
  have g2 := jrg t2
  have g3 := jrgL t3
  have w1 : ∀ k : Nat, k < 6 → 0 ≤ (σ 52 k).toInt ∧ (σ 52 k).toInt ≤ 60 := hI50
  refine lv_iload_n hx hb dX11_put_0 rfl (lv_at hl 1 rfl) ?_
  refine jcallS (As := [.int a1]) (rest := []) ⟨hx, hb, hml, hown, hts⟩ hK hP hA hS hZ (c_X11_noShelf l D cI cL ad zz hJ σ τ a1 (A1) t1) cw_RX11_249 ⟨Nat.le_of_ble_eq_true rfl, Nat.le_of_ble_eq_true rfl⟩ rfl rfl rfl hl.1 rfl (Nat.le_of_ble_eq_true rfl) dX11_put_1 ⟨Nat.zero_le _, Nat.zero_le _⟩ (fun r3 σ2 τ2 H locs h2 hP hS => ?_)
  obtain ⟨⟨rfl, rfl⟩, h2⟩ := h2
  rcases h2 with h4 | h5
  · obtain ⟨q7, k6⟩ := h4
    have q7 := q7.symm
    subst q7
    refine lv_if_eq (tgt := 9) hx hb dX11_put_4 (by decide) (fun c => absurd c (by decide)) (fun _ => ?_)
    refine lv_iconst (v := (-1)) hx hb dX11_put_7 (by decide) ?_
    exact hret (-1) σ τ _ _ _ _ rfl ⟨(fun _ _ => rfl), trivial⟩ hP hS dX11_put_8
  · obtain ⟨q9, k8⟩ := h5
    have q9 := q9.symm
    subst q9
    refine lv_if_eq (tgt := 9) hx hb dX11_put_4 (by decide) (fun _ => ?_) (fun c => absurd (by decide) c)
    refine lv_aload_n hx hb dX11_put_9 rfl (lv_at hl 0 rfl) ?_
    refine va_get (D := D) hx hb hts inlX11 hown hK hP 0 (jc_0 cI cL ad σ τ) rfl 10 (by decide) (hts _ kw_3_5) (fun _ h9 => h9) rfl dX11_put_10 ?_
    refine lv_iload_n hx hb dX11_put_13 rfl (lv_at hl 1 rfl) ?_
    refine lv_iload_n hx hb dX11_put_14 rfl (lv_at hl 2 rfl) ?_
    have I10 : jI50 σ := w1
    refine jcallV (As := [.int a1, .int a2]) (rest := []) ⟨hx, hb, hml, hown, hts⟩ hK hP hA hS hZ (c_X9_refusal_50 l D cI cL ad zz hJ σ τ a1 (A1) t1 a2 (A2) t2 I10) cw_RX11_304 (jc_50 cI cL ad σ τ) rfl ⟨Nat.le_of_ble_eq_true rfl, Nat.le_of_ble_eq_true rfl⟩ rfl rfl rfl hl.1 rfl (Nat.le_of_ble_eq_true rfl) dX11_put_15 ⟨Nat.zero_le _, Nat.zero_le _⟩ (fun r12 σ11 τ11 H locs h11 hP hS => ?_)
    obtain ⟨⟨rfl, rfl⟩, h11⟩ := h11
    rcases h11 with h13 | h14 | h15 | h16
    · obtain ⟨q19, k17, k18⟩ := h13
      have q19 := q19.symm
      subst q19
      refine lv_istore (lv' := [(5, .int 0), (0, .ref (ad 0)), (1, .int a1), (2, .int a2), (3, .long a3)]) hx hb dX11_put_18 hl (by decide) rfl (fun ls hl => ?_)
      refine lv_iload hx hb dX11_put_20 (lv_at hl 0 rfl) ?_
      refine lv_if_ge (tgt := 28) hx hb dX11_put_22 (by decide) (fun _ => ?_) (fun c => absurd (by decide) c)
      refine lv_aload_n hx hb dX11_put_28 rfl (lv_at hl 1 rfl) ?_
      refine va_get (D := D) hx hb hts inlX11 hown hK hP 0 (jc_0 cI cL ad σ τ) rfl 10 (by decide) (hts _ kw_3_5) (fun _ h9 => h9) rfl dX11_put_29 ?_
      refine lv_iload_n hx hb dX11_put_32 rfl (lv_at hl 2 rfl) ?_
      refine lv_iload_n hx hb dX11_put_33 rfl (lv_at hl 3 rfl) ?_
      refine lv_lload_n hx hb dX11_put_34 rfl (lv_at hl 4 rfl) ?_
      refine jcallVv (As := [.int a1, .int a2, .long a3]) (rest := []) ⟨hx, hb, hml, hown, hts⟩ hK hP hA hS hZ (c_X9_write_50 l D cI cL ad zz hJ σ τ a1 (A1) t1 a2 (A2) t2 a3 (AL3) t3 I10) cw_RX11_307 (jc_50 cI cL ad σ τ) rfl ⟨Nat.le_of_ble_eq_true rfl, Nat.le_of_ble_eq_true rfl⟩ rfl rfl rfl hl.1 rfl (Nat.le_of_ble_eq_true rfl) dX11_put_35 ⟨Nat.zero_le _, Nat.zero_le _⟩ (fun σ20 τ20 H locs h20 hP hS => ?_)
      obtain ⟨f22, h20⟩ := h20
      refine lv_iconst (v := 1) hx hb dX11_put_38 (by decide) ?_
      exact hret 1 σ20 τ20 _ _ _ _ rfl ⟨(fun i hi => by rw [f22 i (by omega)]), trivial⟩ hP hS dX11_put_39
    · obtain ⟨q24, k23⟩ := h14
      have q24 := q24.symm
      subst q24
      refine lv_istore (lv' := [(5, .int (-11)), (0, .ref (ad 0)), (1, .int a1), (2, .int a2), (3, .long a3)]) hx hb dX11_put_18 hl (by decide) rfl (fun ls hl => ?_)
      refine lv_iload hx hb dX11_put_20 (lv_at hl 0 rfl) ?_
      refine lv_if_ge (tgt := 28) hx hb dX11_put_22 (by decide) (fun c => absurd c (by decide)) (fun _ => ?_)
      refine lv_iload hx hb dX11_put_25 (lv_at hl 0 rfl) ?_
      exact hret (-11) σ τ _ _ _ _ rfl ⟨(fun _ _ => rfl), trivial⟩ hP hS dX11_put_27
    · obtain ⟨q26, k25⟩ := h15
      have q26 := q26.symm
      subst q26
      refine lv_istore (lv' := [(5, .int (-12)), (0, .ref (ad 0)), (1, .int a1), (2, .int a2), (3, .long a3)]) hx hb dX11_put_18 hl (by decide) rfl (fun ls hl => ?_)
      refine lv_iload hx hb dX11_put_20 (lv_at hl 0 rfl) ?_
      refine lv_if_ge (tgt := 28) hx hb dX11_put_22 (by decide) (fun c => absurd c (by decide)) (fun _ => ?_)
      refine lv_iload hx hb dX11_put_25 (lv_at hl 0 rfl) ?_
      exact hret (-12) σ τ _ _ _ _ rfl ⟨(fun _ _ => rfl), trivial⟩ hP hS dX11_put_27
    · obtain ⟨q28, k27⟩ := h16
      have q28 := q28.symm
      subst q28
      refine lv_istore (lv' := [(5, .int (-13)), (0, .ref (ad 0)), (1, .int a1), (2, .int a2), (3, .long a3)]) hx hb dX11_put_18 hl (by decide) rfl (fun ls hl => ?_)
      refine lv_iload hx hb dX11_put_20 (lv_at hl 0 rfl) ?_
      refine lv_if_ge (tgt := 28) hx hb dX11_put_22 (by decide) (fun c => absurd c (by decide)) (fun _ => ?_)
      refine lv_iload hx hb dX11_put_25 (lv_at hl 0 rfl) ?_
      exact hret (-13) σ τ _ _ _ _ rfl ⟨(fun _ _ => rfl), trivial⟩ hP hS dX11_put_27
set_option maxHeartbeats 4000000 in
set_option maxRecDepth 100000 in
theorem c_X11_element (l : Launch) (D : va_G) (cI cL : ClassId) (ad zz : Nat → Nat) (hJ : jD ad) (σ : Nat → Nat → Int32) (τ : Nat → Nat → Int64) (a1 : Int32) (A1 : Int) (t1 : a1.toInt = A1) (a2 : Int32) (A2 : Int) (t2 : a2.toInt = A2) (hI50 : jI50 σ) : jMl l yX11_element cX11_element 3 (some .long) ({ frames := 6, cells := 0, slots := 0, locals := 127 }) D cI cL ad zz [.ref (ad 0), .int a1, .int a2] σ τ (fun r σ' τ' => (σ = σ' ∧ τ = τ') ∧ True) := by
  refine jMl.of hJ (by decide +kernel) rfl (Nat.le_of_ble_eq_true rfl) ?_
  intro p e s m args below meth c Q ls hC hret hl hP
  obtain ⟨hx, hb, hr, hml, hown, hts, hK, -, hlocks, hZ⟩ := hC
  have hown : s.vm.findClass RX11 = some m.cls := hown
  have hS : va_S (jA ad) s.heap s.heap [] := va_S.rf
  have hA : ∀ q, jA ad q → jA ad q := fun _ h => h
  have hl : lv_has ls 3 [(0, .ref (ad 0)), (1, .int a1), (2, .int a2)] := hl
  have g1 := jrg t1
  have g2 := jrg t2
  have w1 : ∀ k : Nat, k < 6 → 0 ≤ (σ 52 k).toInt ∧ (σ 52 k).toInt ≤ 60 := hI50
  refine lv_iload_n hx hb dX11_element_0 rfl (lv_at hl 1 rfl) ?_
  refine jcallS (As := [.int a1]) (rest := []) ⟨hx, hb, hml, hown, hts⟩ hK hP hA hS hZ (c_X11_noShelf l D cI cL ad zz hJ σ τ a1 (A1) t1) cw_RX11_249 ⟨Nat.le_of_ble_eq_true rfl, Nat.le_of_ble_eq_true rfl⟩ rfl rfl rfl hl.1 rfl (Nat.le_of_ble_eq_true rfl) dX11_element_1 ⟨Nat.zero_le _, Nat.zero_le _⟩ (fun r3 σ2 τ2 H locs h2 hP hS => ?_)
  obtain ⟨⟨rfl, rfl⟩, h2⟩ := h2
  rcases h2 with h4 | h5
  · obtain ⟨q7, k6⟩ := h4
    have q7 := q7.symm
    subst q7
    refine lv_if_ne (tgt := 19) hx hb dX11_element_4 (by decide) (fun _ => ?_) (fun c => absurd c (by decide))
    refine lv_ldc2 (v := (-9223372036854775808)) hx hb hown (hts _ kw_52_22) dX11_element_19 ?_
    exact hret (-9223372036854775808) σ τ _ _ _ _ ⟨⟨rfl, rfl⟩, trivial⟩ hP hS dX11_element_22
  · obtain ⟨q9, k8⟩ := h5
    have q9 := q9.symm
    subst q9
    refine lv_if_ne (tgt := 19) hx hb dX11_element_4 (by decide) (fun c => absurd (by decide) c) (fun _ => ?_)
    refine lv_aload_n hx hb dX11_element_7 rfl (lv_at hl 0 rfl) ?_
    refine va_get (D := D) hx hb hts inlX11 hown hK hP 0 (jc_0 cI cL ad σ τ) rfl 10 (by decide) (hts _ kw_3_5) (fun _ h9 => h9) rfl dX11_element_8 ?_
    refine lv_iload_n hx hb dX11_element_11 rfl (lv_at hl 1 rfl) ?_
    refine lv_iload_n hx hb dX11_element_12 rfl (lv_at hl 2 rfl) ?_
    have I10 : jI50 σ := w1
    refine jcallV (As := [.int a1, .int a2]) (rest := []) ⟨hx, hb, hml, hown, hts⟩ hK hP hA hS hZ (c_X9_refusal_50 l D cI cL ad zz hJ σ τ a1 (A1) t1 a2 (A2) t2 I10) cw_RX11_304 (jc_50 cI cL ad σ τ) rfl ⟨Nat.le_of_ble_eq_true rfl, Nat.le_of_ble_eq_true rfl⟩ rfl rfl rfl hl.1 rfl (Nat.le_of_ble_eq_true rfl) dX11_element_13 ⟨Nat.zero_le _, Nat.zero_le _⟩ (fun r12 σ11 τ11 H locs h11 hP hS => ?_)
    obtain ⟨⟨rfl, rfl⟩, h11⟩ := h11
    rcases h11 with h13 | h14 | h15 | h16
    · obtain ⟨q19, k17, k18⟩ := h13
      have q19 := q19.symm
      subst q19
      refine lv_if_ge (tgt := 23) hx hb dX11_element_16 (by decide) (fun _ => ?_) (fun c => absurd (by decide) c)
      refine lv_aload_n hx hb dX11_element_23 rfl (lv_at hl 0 rfl) ?_
      refine va_get (D := D) hx hb hts inlX11 hown hK hP 0 (jc_0 cI cL ad σ τ) rfl 10 (by decide) (hts _ kw_3_5) (fun _ h9 => h9) rfl dX11_element_24 ?_
      refine lv_iload_n hx hb dX11_element_27 rfl (lv_at hl 1 rfl) ?_
      refine lv_iload_n hx hb dX11_element_28 rfl (lv_at hl 2 rfl) ?_
      refine jcallVl (As := [.int a1, .int a2]) (rest := []) ⟨hx, hb, hml, hown, hts⟩ hK hP hA hS hZ (c_X9_elementAt_50 l D cI cL ad zz hJ σ τ a1 (A1) t1 a2 (A2) t2 I10) cw_RX11_261 (jc_50 cI cL ad σ τ) rfl ⟨Nat.le_of_ble_eq_true rfl, Nat.le_of_ble_eq_true rfl⟩ rfl rfl rfl hl.1 rfl (Nat.le_of_ble_eq_true rfl) dX11_element_29 ⟨Nat.zero_le _, Nat.zero_le _⟩ (fun lxr21 σ20 τ20 H locs h20 hP hS => ?_)
      obtain ⟨⟨rfl, rfl⟩, h20⟩ := h20
      exact hret lxr21 σ τ _ _ _ _ ⟨⟨rfl, rfl⟩, trivial⟩ hP hS dX11_element_32
    · obtain ⟨q23, k22⟩ := h14
      have q23 := q23.symm
      subst q23
      refine lv_if_ge (tgt := 23) hx hb dX11_element_16 (by decide) (fun c => absurd c (by decide)) (fun _ => ?_)
      refine lv_ldc2 (v := (-9223372036854775808)) hx hb hown (hts _ kw_52_22) dX11_element_19 ?_
      exact hret (-9223372036854775808) σ τ _ _ _ _ ⟨⟨rfl, rfl⟩, trivial⟩ hP hS dX11_element_22
    · obtain ⟨q25, k24⟩ := h15
      have q25 := q25.symm
      subst q25
      refine lv_if_ge (tgt := 23) hx hb dX11_element_16 (by decide) (fun c => absurd c (by decide)) (fun _ => ?_)
      refine lv_ldc2 (v := (-9223372036854775808)) hx hb hown (hts _ kw_52_22) dX11_element_19 ?_
      exact hret (-9223372036854775808) σ τ _ _ _ _ ⟨⟨rfl, rfl⟩, trivial⟩ hP hS dX11_element_22
    · obtain ⟨q27, k26⟩ := h16
      have q27 := q27.symm
      subst q27
      refine lv_if_ge (tgt := 23) hx hb dX11_element_16 (by decide) (fun c => absurd c (by decide)) (fun _ => ?_)
      refine lv_ldc2 (v := (-9223372036854775808)) hx hb hown (hts _ kw_52_22) dX11_element_19 ?_
      exact hret (-9223372036854775808) σ τ _ _ _ _ ⟨⟨rfl, rfl⟩, trivial⟩ hP hS dX11_element_22
set_option maxHeartbeats 4000000 in
set_option maxRecDepth 100000 in
theorem c_X11_shift (l : Launch) (D : va_G) (cI cL : ClassId) (ad zz : Nat → Nat) (hJ : jD ad) (σ : Nat → Nat → Int32) (τ : Nat → Nat → Int64) (a1 : Int32) (A1 : Int) (t1 : a1.toInt = A1) (a2 : Int32) (A2 : Int) (t2 : a2.toInt = A2) (a3 : Int32) (A3 : Int) (t3 : a3.toInt = A3) (a4 : Int32) (A4 : Int) (t4 : a4.toInt = A4) (a5 : Int32) (A5 : Int) (t5 : a5.toInt = A5) (hI50 : jI50 σ) : jM l yX11_shift cX11_shift 7 (some .int) ({ frames := 5, cells := 0, slots := 0, locals := 108 }) D cI cL ad zz [.ref (ad 0), .int a1, .int a2, .int a3, .int a4, .int a5] σ τ (fun r σ' τ' => (∀ i : Nat, (0 = 0) → σ' i = σ i) ∧ True) := by
  refine jM.of hJ (by decide +kernel) (nt := .int) rfl (Nat.le_of_ble_eq_true rfl) ?_
  intro p e s m args below meth c Q ls hC hret hl hP
  obtain ⟨hx, hb, hr, hml, hown, hts, hK, -, hlocks, hZ⟩ := hC
  have hown : s.vm.findClass RX11 = some m.cls := hown
  have hS : va_S (jA ad) s.heap s.heap [] := va_S.rf
  have hA : ∀ q, jA ad q → jA ad q := fun _ h => h
  have hl : lv_has ls 7 [(0, .ref (ad 0)), (1, .int a1), (2, .int a2), (3, .int a3), (4, .int a4), (5, .int a5)] := hl
  have g1 := jrg t1
  have g2 := jrg t2
  have g3 := jrg t3
  have g4 := jrg t4
  have g5 := jrg t5
  have w1 : ∀ k : Nat, k < 6 → 0 ≤ (σ 52 k).toInt ∧ (σ 52 k).toInt ≤ 60 := hI50
  refine lv_iload_n hx hb dX11_shift_0 rfl (lv_at hl 1 rfl) ?_
  refine jcallS (As := [.int a1]) (rest := []) ⟨hx, hb, hml, hown, hts⟩ hK hP hA hS hZ (c_X11_noShelf l D cI cL ad zz hJ σ τ a1 (A1) t1) cw_RX11_249 ⟨Nat.le_of_ble_eq_true rfl, Nat.le_of_ble_eq_true rfl⟩ rfl rfl rfl hl.1 rfl (Nat.le_of_ble_eq_true rfl) dX11_shift_1 ⟨Nat.zero_le _, Nat.zero_le _⟩ (fun r3 σ2 τ2 H locs h2 hP hS => ?_)
  obtain ⟨⟨rfl, rfl⟩, h2⟩ := h2
  rcases h2 with h4 | h5
  · obtain ⟨q7, k6⟩ := h4
    have q7 := q7.symm
    subst q7
    refine lv_if_ne (tgt := 14) hx hb dX11_shift_4 (by decide) (fun _ => ?_) (fun c => absurd c (by decide))
    refine lv_iconst (v := (-1)) hx hb dX11_shift_14 (by decide) ?_
    exact hret (-1) σ τ _ _ _ _ rfl ⟨(fun _ _ => rfl), trivial⟩ hP hS dX11_shift_15
  · obtain ⟨q9, k8⟩ := h5
    have q9 := q9.symm
    subst q9
    refine lv_if_ne (tgt := 14) hx hb dX11_shift_4 (by decide) (fun c => absurd (by decide) c) (fun _ => ?_)
    refine lv_iload_n hx hb dX11_shift_7 rfl (lv_at hl 3 rfl) ?_
    refine jcallS (As := [.int a3]) (rest := []) ⟨hx, hb, hml, hown, hts⟩ hK hP hA hS hZ (c_X11_noShelf l D cI cL ad zz hJ σ τ a3 (A3) t3) cw_RX11_249 ⟨Nat.le_of_ble_eq_true rfl, Nat.le_of_ble_eq_true rfl⟩ rfl rfl rfl hl.1 rfl (Nat.le_of_ble_eq_true rfl) dX11_shift_8 ⟨Nat.zero_le _, Nat.zero_le _⟩ (fun r11 σ10 τ10 H locs h10 hP hS => ?_)
    obtain ⟨⟨rfl, rfl⟩, h10⟩ := h10
    rcases h10 with h12 | h13
    · obtain ⟨q15, k14⟩ := h12
      have q15 := q15.symm
      subst q15
      refine lv_if_eq (tgt := 16) hx hb dX11_shift_11 (by decide) (fun c => absurd c (by decide)) (fun _ => ?_)
      refine lv_iconst (v := (-1)) hx hb dX11_shift_14 (by decide) ?_
      exact hret (-1) σ τ _ _ _ _ rfl ⟨(fun _ _ => rfl), trivial⟩ hP hS dX11_shift_15
    · obtain ⟨q17, k16⟩ := h13
      have q17 := q17.symm
      subst q17
      refine lv_if_eq (tgt := 16) hx hb dX11_shift_11 (by decide) (fun _ => ?_) (fun c => absurd (by decide) c)
      refine lv_aload_n hx hb dX11_shift_16 rfl (lv_at hl 0 rfl) ?_
      refine va_get (D := D) hx hb hts inlX11 hown hK hP 0 (jc_0 cI cL ad σ τ) rfl 10 (by decide) (hts _ kw_3_5) (fun _ h9 => h9) rfl dX11_shift_17 ?_
      refine lv_iload_n hx hb dX11_shift_20 rfl (lv_at hl 1 rfl) ?_
      refine jcallV (As := [.int a1]) (rest := []) ⟨hx, hb, hml, hown, hts⟩ hK hP hA hS hZ (c_X9_isEmpty_50 l D cI cL ad zz hJ σ τ a1 (A1) t1) cw_RX11_252 (jc_50 cI cL ad σ τ) rfl ⟨Nat.le_of_ble_eq_true rfl, Nat.le_of_ble_eq_true rfl⟩ rfl rfl rfl hl.1 rfl (Nat.le_of_ble_eq_true rfl) dX11_shift_21 ⟨Nat.zero_le _, Nat.zero_le _⟩ (fun r19 σ18 τ18 H locs h18 hP hS => ?_)
      obtain ⟨⟨rfl, rfl⟩, h18⟩ := h18
      rcases h18 with h20 | h21
      · obtain ⟨q23, k22⟩ := h20
        have q23 := q23.symm
        subst q23
        refine lv_if_ne (tgt := 38) hx hb dX11_shift_24 (by decide) (fun c => absurd (by decide) c) (fun _ => ?_)
        refine lv_aload_n hx hb dX11_shift_27 rfl (lv_at hl 0 rfl) ?_
        refine va_get (D := D) hx hb hts inlX11 hown hK hP 0 (jc_0 cI cL ad σ τ) rfl 10 (by decide) (hts _ kw_3_5) (fun _ h9 => h9) rfl dX11_shift_28 ?_
        refine lv_iload_n hx hb dX11_shift_31 rfl (lv_at hl 3 rfl) ?_
        refine jcallV (As := [.int a3]) (rest := []) ⟨hx, hb, hml, hown, hts⟩ hK hP hA hS hZ (c_X9_isEmpty_50 l D cI cL ad zz hJ σ τ a3 (A3) t3) cw_RX11_252 (jc_50 cI cL ad σ τ) rfl ⟨Nat.le_of_ble_eq_true rfl, Nat.le_of_ble_eq_true rfl⟩ rfl rfl rfl hl.1 rfl (Nat.le_of_ble_eq_true rfl) dX11_shift_32 ⟨Nat.zero_le _, Nat.zero_le _⟩ (fun r25 σ24 τ24 H locs h24 hP hS => ?_)
        obtain ⟨⟨rfl, rfl⟩, h24⟩ := h24
        rcases h24 with h26 | h27
        · obtain ⟨q29, k28⟩ := h26
          have q29 := q29.symm
          subst q29
          refine lv_if_eq (tgt := 41) hx hb dX11_shift_35 (by decide) (fun _ => ?_) (fun c => absurd (by decide) c)
          refine lv_aload_n hx hb dX11_shift_41 rfl (lv_at hl 0 rfl) ?_
          refine va_get (D := D) hx hb hts inlX11 hown hK hP 0 (jc_0 cI cL ad σ τ) rfl 10 (by decide) (hts _ kw_3_5) (fun _ h9 => h9) rfl dX11_shift_42 ?_
          refine lv_iload_n hx hb dX11_shift_45 rfl (lv_at hl 1 rfl) ?_
          refine jcallV (As := [.int a1]) (rest := []) ⟨hx, hb, hml, hown, hts⟩ hK hP hA hS hZ (c_X9_sortOf_50 l D cI cL ad zz hJ σ τ a1 (A1) t1) cw_RX11_255 (jc_50 cI cL ad σ τ) rfl ⟨Nat.le_of_ble_eq_true rfl, Nat.le_of_ble_eq_true rfl⟩ rfl rfl rfl hl.1 rfl (Nat.le_of_ble_eq_true rfl) dX11_shift_46 ⟨Nat.zero_le _, Nat.zero_le _⟩ (fun r31 σ30 τ30 H locs h30 hP hS => ?_)
          obtain ⟨⟨rfl, rfl⟩, h30⟩ := h30
          rcases h30 with h32 | h33
          · obtain ⟨q35, k34⟩ := h32
            refine lv_istore (lv' := [(6, .int r31), (0, .ref (ad 0)), (1, .int a1), (2, .int a2), (3, .int a3), (4, .int a4), (5, .int a5)]) hx hb dX11_shift_49 hl (by decide) rfl (fun ls hl => ?_)
            refine lv_iload hx hb dX11_shift_51 (lv_at hl 0 rfl) ?_
            refine lv_iconst (v := (-1)) hx hb dX11_shift_53 (by decide) ?_
            refine lv_icmp_eq (tgt := 70) hx hb dX11_shift_54 (by decide) (fun c36 => ?_) (fun c36 => ?_)
            · have kc36 := jeq c36 rfl jz_m1
              refine lv_bipush (v := (-12)) hx hb dX11_shift_70 (by decide) ?_
              exact hret (-12) σ τ _ _ _ _ rfl ⟨(fun _ _ => rfl), trivial⟩ hP hS dX11_shift_72
            · have kc36 := jne c36 rfl jz_m1
              refine lv_iload hx hb dX11_shift_57 (lv_at hl 0 rfl) ?_
              refine lv_aload_n hx hb dX11_shift_59 rfl (lv_at hl 1 rfl) ?_
              refine va_get (D := D) hx hb hts inlX11 hown hK hP 0 (jc_0 cI cL ad σ τ) rfl 10 (by decide) (hts _ kw_3_5) (fun _ h9 => h9) rfl dX11_shift_60 ?_
              refine lv_iload_n hx hb dX11_shift_63 rfl (lv_at hl 4 rfl) ?_
              refine jcallV (As := [.int a3]) (rest := [.int r31]) ⟨hx, hb, hml, hown, hts⟩ hK hP hA hS hZ (c_X9_sortOf_50 l D cI cL ad zz hJ σ τ a3 (A3) t3) cw_RX11_255 (jc_50 cI cL ad σ τ) rfl ⟨Nat.le_of_ble_eq_true rfl, Nat.le_of_ble_eq_true rfl⟩ rfl rfl rfl hl.1 rfl (Nat.le_of_ble_eq_true rfl) dX11_shift_64 ⟨Nat.zero_le _, Nat.zero_le _⟩ (fun r38 σ37 τ37 H locs h37 hP hS => ?_)
              obtain ⟨⟨rfl, rfl⟩, h37⟩ := h37
              rcases h37 with h39 | h40
              · obtain ⟨q42, k41⟩ := h39
                refine lv_icmp_eq (tgt := 73) hx hb dX11_shift_67 (by decide) (fun c43 => ?_) (fun c43 => ?_)
                · have kc43 := jeq c43 rfl rfl
                  refine lv_iload hx hb dX11_shift_73 (lv_at hl 6 rfl) ?_
                  refine lv_if_lt (tgt := 87) hx hb dX11_shift_75 (by decide) (fun c44 => ?_) (fun c44 => ?_)
                  · have kc44 := jlt c44 t5 jz_0
                    refine lv_bipush (v := (-13)) hx hb dX11_shift_87 (by decide) ?_
                    exact hret (-13) σ τ _ _ _ _ rfl ⟨(fun _ _ => rfl), trivial⟩ hP hS dX11_shift_89
                  · have kc44 := jnlt c44 t5 jz_0
                    refine lv_iload_n hx hb dX11_shift_78 rfl (lv_at hl 3 rfl) ?_
                    refine lv_if_lt (tgt := 87) hx hb dX11_shift_79 (by decide) (fun c45 => ?_) (fun c45 => ?_)
                    · have kc45 := jlt c45 t2 jz_0
                      refine lv_bipush (v := (-13)) hx hb dX11_shift_87 (by decide) ?_
                      exact hret (-13) σ τ _ _ _ _ rfl ⟨(fun _ _ => rfl), trivial⟩ hP hS dX11_shift_89
                    · have kc45 := jnlt c45 t2 jz_0
                      refine lv_iload hx hb dX11_shift_82 (lv_at hl 5 rfl) ?_
                      refine lv_if_ge (tgt := 90) hx hb dX11_shift_84 (by decide) (fun c46 => ?_) (fun c46 => ?_)
                      · have kc46 := jle c46 jz_0 t4
                        refine lv_iload hx hb dX11_shift_90 (lv_at hl 6 rfl) ?_
                        refine lv_aload_n hx hb dX11_shift_92 rfl (lv_at hl 1 rfl) ?_
                        refine va_get (D := D) hx hb hts inlX11 hown hK hP 0 (jc_0 cI cL ad σ τ) rfl 10 (by decide) (hts _ kw_3_5) (fun _ h9 => h9) rfl dX11_shift_93 ?_
                        refine lv_iload_n hx hb dX11_shift_96 rfl (lv_at hl 2 rfl) ?_
                        have I47 : jI50 σ := w1
                        refine jcallV (As := [.int a1]) (rest := [.int a5]) ⟨hx, hb, hml, hown, hts⟩ hK hP hA hS hZ (c_X9_lengthOf_50 l D cI cL ad zz hJ σ τ a1 (A1) t1 I47) cw_RX11_258 (jc_50 cI cL ad σ τ) rfl ⟨Nat.le_of_ble_eq_true rfl, Nat.le_of_ble_eq_true rfl⟩ rfl rfl rfl hl.1 rfl (Nat.le_of_ble_eq_true rfl) dX11_shift_97 ⟨Nat.zero_le _, Nat.zero_le _⟩ (fun r49 σ48 τ48 H locs h48 hP hS => ?_)
                        obtain ⟨⟨rfl, rfl⟩, h48⟩ := h48
                        rcases h48 with h50 | h51
                        · obtain ⟨q54, k52, k53⟩ := h50
                          refine lv_iload_n hx hb dX11_shift_100 rfl (lv_at hl 3 rfl) ?_
                          have g55 := jrg (rfl : r49.toInt = r49.toInt)
                          refine lv_isub hx hb dX11_shift_101 ?_
                          refine lv_topi (fun x56 ex56 => ?_)
                          have tx56 : x56.toInt = r49.toInt - A2 := (jsub ex56 rfl t2 (by omega) (by omega)).trans (by omega)
                          refine lv_icmp_gt (tgt := 121) hx hb dX11_shift_102 (by decide) (fun c57 => ?_) (fun c57 => ?_)
                          · have kc57 := jlt c57 tx56 t5
                            refine lv_bipush (v := (-13)) hx hb dX11_shift_121 (by decide) ?_
                            exact hret (-13) σ τ _ _ _ _ rfl ⟨(fun _ _ => rfl), trivial⟩ hP hS dX11_shift_123
                          · have kc57 := jnlt c57 tx56 t5
                            refine lv_iload hx hb dX11_shift_105 (lv_at hl 6 rfl) ?_
                            refine lv_aload_n hx hb dX11_shift_107 rfl (lv_at hl 1 rfl) ?_
                            refine va_get (D := D) hx hb hts inlX11 hown hK hP 0 (jc_0 cI cL ad σ τ) rfl 10 (by decide) (hts _ kw_3_5) (fun _ h9 => h9) rfl dX11_shift_108 ?_
                            refine lv_iload_n hx hb dX11_shift_111 rfl (lv_at hl 4 rfl) ?_
                            refine jcallV (As := [.int a3]) (rest := [.int a5]) ⟨hx, hb, hml, hown, hts⟩ hK hP hA hS hZ (c_X9_lengthOf_50 l D cI cL ad zz hJ σ τ a3 (A3) t3 I47) cw_RX11_258 (jc_50 cI cL ad σ τ) rfl ⟨Nat.le_of_ble_eq_true rfl, Nat.le_of_ble_eq_true rfl⟩ rfl rfl rfl hl.1 rfl (Nat.le_of_ble_eq_true rfl) dX11_shift_112 ⟨Nat.zero_le _, Nat.zero_le _⟩ (fun r59 σ58 τ58 H locs h58 hP hS => ?_)
                            obtain ⟨⟨rfl, rfl⟩, h58⟩ := h58
                            rcases h58 with h60 | h61
                            · obtain ⟨q64, k62, k63⟩ := h60
                              refine lv_iload hx hb dX11_shift_115 (lv_at hl 5 rfl) ?_
                              have g65 := jrg (rfl : r59.toInt = r59.toInt)
                              refine lv_isub hx hb dX11_shift_117 ?_
                              refine lv_topi (fun x66 ex66 => ?_)
                              have tx66 : x66.toInt = r59.toInt - A4 := (jsub ex66 rfl t4 (by omega) (by omega)).trans (by omega)
                              refine lv_icmp_le (tgt := 124) hx hb dX11_shift_118 (by decide) (fun c67 => ?_) (fun c67 => ?_)
                              · have kc67 := jle c67 t5 tx66
                                refine lv_aload_n hx hb dX11_shift_124 rfl (lv_at hl 1 rfl) ?_
                                refine va_get (D := D) hx hb hts inlX11 hown hK hP 0 (jc_0 cI cL ad σ τ) rfl 10 (by decide) (hts _ kw_3_5) (fun _ h9 => h9) rfl dX11_shift_125 ?_
                                refine lv_iload_n hx hb dX11_shift_128 rfl (lv_at hl 2 rfl) ?_
                                refine lv_iload_n hx hb dX11_shift_129 rfl (lv_at hl 3 rfl) ?_
                                refine lv_iload_n hx hb dX11_shift_130 rfl (lv_at hl 4 rfl) ?_
                                refine lv_iload hx hb dX11_shift_131 (lv_at hl 5 rfl) ?_
                                refine lv_iload hx hb dX11_shift_133 (lv_at hl 6 rfl) ?_
                                refine jcallVv (As := [.int a1, .int a2, .int a3, .int a4, .int a5]) (rest := []) ⟨hx, hb, hml, hown, hts⟩ hK hP hA hS hZ (c_X9_move_50 l D cI cL ad zz hJ σ τ a1 (A1) t1 a2 (A2) t2 a3 (A3) t3 a4 (A4) t4 a5 (A5) t5 I47 (by omega) (by omega)) cw_RX11_314 (jc_50 cI cL ad σ τ) rfl ⟨Nat.le_of_ble_eq_true rfl, Nat.le_of_ble_eq_true rfl⟩ rfl rfl rfl hl.1 rfl (Nat.le_of_ble_eq_true rfl) dX11_shift_135 ⟨Nat.zero_le _, Nat.zero_le _⟩ (fun σ68 τ68 H locs h68 hP hS => ?_)
                                obtain ⟨f70, h68⟩ := h68
                                refine lv_iload hx hb dX11_shift_138 (lv_at hl 6 rfl) ?_
                                exact hret a5 σ68 τ68 _ _ _ _ rfl ⟨(fun i hi => by rw [f70 i (by omega)]), trivial⟩ hP hS dX11_shift_140
                              · have kc67 := jnle c67 t5 tx66
                                refine lv_bipush (v := (-13)) hx hb dX11_shift_121 (by decide) ?_
                                exact hret (-13) σ τ _ _ _ _ rfl ⟨(fun _ _ => rfl), trivial⟩ hP hS dX11_shift_123
                            · obtain ⟨q72, k71⟩ := h61
                              have q72 := q72.symm
                              subst q72
                              refine lv_iload hx hb dX11_shift_115 (lv_at hl 5 rfl) ?_
                              refine lv_isub hx hb dX11_shift_117 ?_
                              refine lv_topi (fun x73 ex73 => ?_)
                              have tx73 : x73.toInt = -A4 := (jsub ex73 jz_0 t4 (by omega) (by omega)).trans (by omega)
                              refine lv_icmp_le (tgt := 124) hx hb dX11_shift_118 (by decide) (fun c74 => ?_) (fun c74 => ?_)
                              · have kc74 := jle c74 t5 tx73
                                refine lv_aload_n hx hb dX11_shift_124 rfl (lv_at hl 1 rfl) ?_
                                refine va_get (D := D) hx hb hts inlX11 hown hK hP 0 (jc_0 cI cL ad σ τ) rfl 10 (by decide) (hts _ kw_3_5) (fun _ h9 => h9) rfl dX11_shift_125 ?_
                                refine lv_iload_n hx hb dX11_shift_128 rfl (lv_at hl 2 rfl) ?_
                                refine lv_iload_n hx hb dX11_shift_129 rfl (lv_at hl 3 rfl) ?_
                                refine lv_iload_n hx hb dX11_shift_130 rfl (lv_at hl 4 rfl) ?_
                                refine lv_iload hx hb dX11_shift_131 (lv_at hl 5 rfl) ?_
                                refine lv_iload hx hb dX11_shift_133 (lv_at hl 6 rfl) ?_
                                refine jcallVv (As := [.int a1, .int a2, .int a3, .int a4, .int a5]) (rest := []) ⟨hx, hb, hml, hown, hts⟩ hK hP hA hS hZ (c_X9_move_50 l D cI cL ad zz hJ σ τ a1 (A1) t1 a2 (A2) t2 a3 (A3) t3 a4 (A4) t4 a5 (A5) t5 I47 (by omega) (by omega)) cw_RX11_314 (jc_50 cI cL ad σ τ) rfl ⟨Nat.le_of_ble_eq_true rfl, Nat.le_of_ble_eq_true rfl⟩ rfl rfl rfl hl.1 rfl (Nat.le_of_ble_eq_true rfl) dX11_shift_135 ⟨Nat.zero_le _, Nat.zero_le _⟩ (fun σ75 τ75 H locs h75 hP hS => ?_)
                                obtain ⟨f77, h75⟩ := h75
                                refine lv_iload hx hb dX11_shift_138 (lv_at hl 6 rfl) ?_
                                exact hret a5 σ75 τ75 _ _ _ _ rfl ⟨(fun i hi => by rw [f77 i (by omega)]), trivial⟩ hP hS dX11_shift_140
                              · have kc74 := jnle c74 t5 tx73
                                refine lv_bipush (v := (-13)) hx hb dX11_shift_121 (by decide) ?_
                                exact hret (-13) σ τ _ _ _ _ rfl ⟨(fun _ _ => rfl), trivial⟩ hP hS dX11_shift_123
                        · obtain ⟨q79, k78⟩ := h51
                          have q79 := q79.symm
                          subst q79
                          refine lv_iload_n hx hb dX11_shift_100 rfl (lv_at hl 3 rfl) ?_
                          refine lv_isub hx hb dX11_shift_101 ?_
                          refine lv_topi (fun x80 ex80 => ?_)
                          have tx80 : x80.toInt = -A2 := (jsub ex80 jz_0 t2 (by omega) (by omega)).trans (by omega)
                          refine lv_icmp_gt (tgt := 121) hx hb dX11_shift_102 (by decide) (fun c81 => ?_) (fun c81 => ?_)
                          · have kc81 := jlt c81 tx80 t5
                            refine lv_bipush (v := (-13)) hx hb dX11_shift_121 (by decide) ?_
                            exact hret (-13) σ τ _ _ _ _ rfl ⟨(fun _ _ => rfl), trivial⟩ hP hS dX11_shift_123
                          · have kc81 := jnlt c81 tx80 t5
                            refine lv_iload hx hb dX11_shift_105 (lv_at hl 6 rfl) ?_
                            refine lv_aload_n hx hb dX11_shift_107 rfl (lv_at hl 1 rfl) ?_
                            refine va_get (D := D) hx hb hts inlX11 hown hK hP 0 (jc_0 cI cL ad σ τ) rfl 10 (by decide) (hts _ kw_3_5) (fun _ h9 => h9) rfl dX11_shift_108 ?_
                            refine lv_iload_n hx hb dX11_shift_111 rfl (lv_at hl 4 rfl) ?_
                            refine jcallV (As := [.int a3]) (rest := [.int a5]) ⟨hx, hb, hml, hown, hts⟩ hK hP hA hS hZ (c_X9_lengthOf_50 l D cI cL ad zz hJ σ τ a3 (A3) t3 I47) cw_RX11_258 (jc_50 cI cL ad σ τ) rfl ⟨Nat.le_of_ble_eq_true rfl, Nat.le_of_ble_eq_true rfl⟩ rfl rfl rfl hl.1 rfl (Nat.le_of_ble_eq_true rfl) dX11_shift_112 ⟨Nat.zero_le _, Nat.zero_le _⟩ (fun r83 σ82 τ82 H locs h82 hP hS => ?_)
                            obtain ⟨⟨rfl, rfl⟩, h82⟩ := h82
                            rcases h82 with h84 | h85
                            · obtain ⟨q88, k86, k87⟩ := h84
                              refine lv_iload hx hb dX11_shift_115 (lv_at hl 5 rfl) ?_
                              have g89 := jrg (rfl : r83.toInt = r83.toInt)
                              refine lv_isub hx hb dX11_shift_117 ?_
                              refine lv_topi (fun x90 ex90 => ?_)
                              have tx90 : x90.toInt = r83.toInt - A4 := (jsub ex90 rfl t4 (by omega) (by omega)).trans (by omega)
                              refine lv_icmp_le (tgt := 124) hx hb dX11_shift_118 (by decide) (fun c91 => ?_) (fun c91 => ?_)
                              · have kc91 := jle c91 t5 tx90
                                refine lv_aload_n hx hb dX11_shift_124 rfl (lv_at hl 1 rfl) ?_
                                refine va_get (D := D) hx hb hts inlX11 hown hK hP 0 (jc_0 cI cL ad σ τ) rfl 10 (by decide) (hts _ kw_3_5) (fun _ h9 => h9) rfl dX11_shift_125 ?_
                                refine lv_iload_n hx hb dX11_shift_128 rfl (lv_at hl 2 rfl) ?_
                                refine lv_iload_n hx hb dX11_shift_129 rfl (lv_at hl 3 rfl) ?_
                                refine lv_iload_n hx hb dX11_shift_130 rfl (lv_at hl 4 rfl) ?_
                                refine lv_iload hx hb dX11_shift_131 (lv_at hl 5 rfl) ?_
                                refine lv_iload hx hb dX11_shift_133 (lv_at hl 6 rfl) ?_
                                refine jcallVv (As := [.int a1, .int a2, .int a3, .int a4, .int a5]) (rest := []) ⟨hx, hb, hml, hown, hts⟩ hK hP hA hS hZ (c_X9_move_50 l D cI cL ad zz hJ σ τ a1 (A1) t1 a2 (A2) t2 a3 (A3) t3 a4 (A4) t4 a5 (A5) t5 I47 (by omega) (by omega)) cw_RX11_314 (jc_50 cI cL ad σ τ) rfl ⟨Nat.le_of_ble_eq_true rfl, Nat.le_of_ble_eq_true rfl⟩ rfl rfl rfl hl.1 rfl (Nat.le_of_ble_eq_true rfl) dX11_shift_135 ⟨Nat.zero_le _, Nat.zero_le _⟩ (fun σ92 τ92 H locs h92 hP hS => ?_)
                                obtain ⟨f94, h92⟩ := h92
                                refine lv_iload hx hb dX11_shift_138 (lv_at hl 6 rfl) ?_
                                exact hret a5 σ92 τ92 _ _ _ _ rfl ⟨(fun i hi => by rw [f94 i (by omega)]), trivial⟩ hP hS dX11_shift_140
                              · have kc91 := jnle c91 t5 tx90
                                refine lv_bipush (v := (-13)) hx hb dX11_shift_121 (by decide) ?_
                                exact hret (-13) σ τ _ _ _ _ rfl ⟨(fun _ _ => rfl), trivial⟩ hP hS dX11_shift_123
                            · obtain ⟨q96, k95⟩ := h85
                              have q96 := q96.symm
                              subst q96
                              refine lv_iload hx hb dX11_shift_115 (lv_at hl 5 rfl) ?_
                              refine lv_isub hx hb dX11_shift_117 ?_
                              refine lv_topi (fun x97 ex97 => ?_)
                              have tx97 : x97.toInt = -A4 := (jsub ex97 jz_0 t4 (by omega) (by omega)).trans (by omega)
                              refine lv_icmp_le (tgt := 124) hx hb dX11_shift_118 (by decide) (fun c98 => ?_) (fun c98 => ?_)
                              · have kc98 := jle c98 t5 tx97
                                refine lv_aload_n hx hb dX11_shift_124 rfl (lv_at hl 1 rfl) ?_
                                refine va_get (D := D) hx hb hts inlX11 hown hK hP 0 (jc_0 cI cL ad σ τ) rfl 10 (by decide) (hts _ kw_3_5) (fun _ h9 => h9) rfl dX11_shift_125 ?_
                                refine lv_iload_n hx hb dX11_shift_128 rfl (lv_at hl 2 rfl) ?_
                                refine lv_iload_n hx hb dX11_shift_129 rfl (lv_at hl 3 rfl) ?_
                                refine lv_iload_n hx hb dX11_shift_130 rfl (lv_at hl 4 rfl) ?_
                                refine lv_iload hx hb dX11_shift_131 (lv_at hl 5 rfl) ?_
                                refine lv_iload hx hb dX11_shift_133 (lv_at hl 6 rfl) ?_
                                refine jcallVv (As := [.int a1, .int a2, .int a3, .int a4, .int a5]) (rest := []) ⟨hx, hb, hml, hown, hts⟩ hK hP hA hS hZ (c_X9_move_50 l D cI cL ad zz hJ σ τ a1 (A1) t1 a2 (A2) t2 a3 (A3) t3 a4 (A4) t4 a5 (A5) t5 I47 (by omega) (by omega)) cw_RX11_314 (jc_50 cI cL ad σ τ) rfl ⟨Nat.le_of_ble_eq_true rfl, Nat.le_of_ble_eq_true rfl⟩ rfl rfl rfl hl.1 rfl (Nat.le_of_ble_eq_true rfl) dX11_shift_135 ⟨Nat.zero_le _, Nat.zero_le _⟩ (fun σ99 τ99 H locs h99 hP hS => ?_)
                                obtain ⟨f101, h99⟩ := h99
                                refine lv_iload hx hb dX11_shift_138 (lv_at hl 6 rfl) ?_
                                exact hret a5 σ99 τ99 _ _ _ _ rfl ⟨(fun i hi => by rw [f101 i (by omega)]), trivial⟩ hP hS dX11_shift_140
                              · have kc98 := jnle c98 t5 tx97
                                refine lv_bipush (v := (-13)) hx hb dX11_shift_121 (by decide) ?_
                                exact hret (-13) σ τ _ _ _ _ rfl ⟨(fun _ _ => rfl), trivial⟩ hP hS dX11_shift_123
                      · have kc46 := jnle c46 jz_0 t4
                        refine lv_bipush (v := (-13)) hx hb dX11_shift_87 (by decide) ?_
                        exact hret (-13) σ τ _ _ _ _ rfl ⟨(fun _ _ => rfl), trivial⟩ hP hS dX11_shift_89
                · have kc43 := jne c43 rfl rfl
                  refine lv_bipush (v := (-12)) hx hb dX11_shift_70 (by decide) ?_
                  exact hret (-12) σ τ _ _ _ _ rfl ⟨(fun _ _ => rfl), trivial⟩ hP hS dX11_shift_72
              · obtain ⟨q103, k102⟩ := h40
                have q103 := q103.symm
                subst q103
                refine lv_icmp_eq (tgt := 73) hx hb dX11_shift_67 (by decide) (fun c => absurd (jeq c rfl jz_m1) (by omega)) (fun c104 => ?_)
                have kc104 := jne c104 rfl jz_m1
                refine lv_bipush (v := (-12)) hx hb dX11_shift_70 (by decide) ?_
                exact hret (-12) σ τ _ _ _ _ rfl ⟨(fun _ _ => rfl), trivial⟩ hP hS dX11_shift_72
          · obtain ⟨q106, k105⟩ := h33
            have q106 := q106.symm
            subst q106
            refine lv_istore (lv' := [(6, .int (-1)), (0, .ref (ad 0)), (1, .int a1), (2, .int a2), (3, .int a3), (4, .int a4), (5, .int a5)]) hx hb dX11_shift_49 hl (by decide) rfl (fun ls hl => ?_)
            refine lv_iload hx hb dX11_shift_51 (lv_at hl 0 rfl) ?_
            refine lv_iconst (v := (-1)) hx hb dX11_shift_53 (by decide) ?_
            refine lv_icmp_eq (tgt := 70) hx hb dX11_shift_54 (by decide) (fun _ => ?_) (fun c => absurd (by decide) c)
            refine lv_bipush (v := (-12)) hx hb dX11_shift_70 (by decide) ?_
            exact hret (-12) σ τ _ _ _ _ rfl ⟨(fun _ _ => rfl), trivial⟩ hP hS dX11_shift_72
        · obtain ⟨q108, k107⟩ := h27
          have q108 := q108.symm
          subst q108
          refine lv_if_eq (tgt := 41) hx hb dX11_shift_35 (by decide) (fun c => absurd c (by decide)) (fun _ => ?_)
          refine lv_bipush (v := (-11)) hx hb dX11_shift_38 (by decide) ?_
          exact hret (-11) σ τ _ _ _ _ rfl ⟨(fun _ _ => rfl), trivial⟩ hP hS dX11_shift_40
      · obtain ⟨q110, k109⟩ := h21
        have q110 := q110.symm
        subst q110
        refine lv_if_ne (tgt := 38) hx hb dX11_shift_24 (by decide) (fun _ => ?_) (fun c => absurd c (by decide))
        refine lv_bipush (v := (-11)) hx hb dX11_shift_38 (by decide) ?_
        exact hret (-11) σ τ _ _ _ _ rfl ⟨(fun _ _ => rfl), trivial⟩ hP hS dX11_shift_40
set_option maxHeartbeats 4000000 in
set_option maxRecDepth 100000 in
theorem c_X11_taken (l : Launch) (D : va_G) (cI cL : ClassId) (ad zz : Nat → Nat) (hJ : jD ad) (σ : Nat → Nat → Int32) (τ : Nat → Nat → Int64) (a1 : Int32) (A1 : Int) (t1 : a1.toInt = A1) (a2 : Int32) (A2 : Int) (t2 : a2.toInt = A2) (hI38 : jI38 σ) : jM l yX11_taken cX11_taken 4 (some .int) ({ frames := 2, cells := 0, slots := 0, locals := 43 }) D cI cL ad zz [.ref (ad 0), .int a1, .int a2] σ τ (fun r σ' τ' => (σ = σ' ∧ τ = τ') ∧ True) := by
  refine jM.of hJ (by decide +kernel) (nt := .int) rfl (Nat.le_of_ble_eq_true rfl) ?_
  intro p e s m args below meth c Q ls hC hret hl hP
  obtain ⟨hx, hb, hr, hml, hown, hts, hK, -, hlocks, hZ⟩ := hC
  have hown : s.vm.findClass RX11 = some m.cls := hown
  have hS : va_S (jA ad) s.heap s.heap [] := va_S.rf
  have hA : ∀ q, jA ad q → jA ad q := fun _ h => h
  have hl : lv_has ls 4 [(0, .ref (ad 0)), (1, .int a1), (2, .int a2)] := hl
  have g1 := jrg t1
  have g2 := jrg t2
  obtain ⟨i1, i2, w3⟩ : (0 ≤ (σ 38 0).toInt ∧ (σ 38 0).toInt ≤ 20) ∧ (0 ≤ (σ 38 1).toInt ∧ (σ 38 1).toInt ≤ 1000) ∧ (∀ k : Nat, k < 20 → 0 ≤ (σ 39 k).toInt ∧ (σ 39 k).toInt ≤ 6) := id hI38
  refine lv_iload_n hx hb dX11_taken_0 rfl (lv_at hl 1 rfl) ?_
  refine jcallS (As := [.int a1]) (rest := []) ⟨hx, hb, hml, hown, hts⟩ hK hP hA hS hZ (c_X11_noShelf l D cI cL ad zz hJ σ τ a1 (A1) t1) cw_RX11_249 ⟨Nat.le_of_ble_eq_true rfl, Nat.le_of_ble_eq_true rfl⟩ rfl rfl rfl hl.1 rfl (Nat.le_of_ble_eq_true rfl) dX11_taken_1 ⟨Nat.zero_le _, Nat.zero_le _⟩ (fun r5 σ4 τ4 H locs h4 hP hS => ?_)
  obtain ⟨⟨rfl, rfl⟩, h4⟩ := h4
  rcases h4 with h6 | h7
  · obtain ⟨q9, k8⟩ := h6
    have q9 := q9.symm
    subst q9
    refine lv_if_ne (tgt := 17) hx hb dX11_taken_4 (by decide) (fun _ => ?_) (fun c => absurd c (by decide))
    refine lv_iconst (v := (-1)) hx hb dX11_taken_17 (by decide) ?_
    exact hret (-1) σ τ _ _ _ _ rfl ⟨⟨rfl, rfl⟩, trivial⟩ hP hS dX11_taken_18
  · obtain ⟨q11, k10⟩ := h7
    have q11 := q11.symm
    subst q11
    refine lv_if_ne (tgt := 17) hx hb dX11_taken_4 (by decide) (fun c => absurd (by decide) c) (fun _ => ?_)
    refine lv_iload_n hx hb dX11_taken_7 rfl (lv_at hl 2 rfl) ?_
    refine lv_iconst (v := 0) hx hb dX11_taken_8 (by decide) ?_
    refine lv_bipush (v := 6) hx hb dX11_taken_9 (by decide) ?_
    refine jcallS (As := [.int a2, .int 0, .int 6]) (rest := []) ⟨hx, hb, hml, hown, hts⟩ hK hP hA hS hZ (c_X11_outside l D cI cL ad zz hJ σ τ a2 (A2) t2 0 (0) jz_0 6 (6) jz_6) cw_RX11_94 ⟨Nat.le_of_ble_eq_true rfl, Nat.le_of_ble_eq_true rfl⟩ rfl rfl rfl hl.1 rfl (Nat.le_of_ble_eq_true rfl) dX11_taken_11 ⟨Nat.zero_le _, Nat.zero_le _⟩ (fun r13 σ12 τ12 H locs h12 hP hS => ?_)
    obtain ⟨⟨rfl, rfl⟩, h12⟩ := h12
    rcases h12 with h14 | h15
    · obtain ⟨q17, k16⟩ := h14
      have q17 := q17.symm
      subst q17
      refine lv_if_eq (tgt := 19) hx hb dX11_taken_14 (by decide) (fun c => absurd c (by decide)) (fun _ => ?_)
      refine lv_iconst (v := (-1)) hx hb dX11_taken_17 (by decide) ?_
      exact hret (-1) σ τ _ _ _ _ rfl ⟨⟨rfl, rfl⟩, trivial⟩ hP hS dX11_taken_18
    · obtain ⟨q19, k18⟩ := h15
      have q19 := q19.symm
      subst q19
      refine lv_if_eq (tgt := 19) hx hb dX11_taken_14 (by decide) (fun _ => ?_) (fun c => absurd (by decide) c)
      refine lv_aload_n hx hb dX11_taken_19 rfl (lv_at hl 0 rfl) ?_
      refine va_get (D := D) hx hb hts inlX11 hown hK hP 0 (jc_0 cI cL ad σ τ) rfl 10 (by decide) (hts _ kw_3_5) (fun _ h9 => h9) rfl dX11_taken_20 ?_
      refine lv_iload_n hx hb dX11_taken_23 rfl (lv_at hl 1 rfl) ?_
      refine jcallV (As := [.int a1]) (rest := []) ⟨hx, hb, hml, hown, hts⟩ hK hP hA hS hZ (c_X9_isEmpty_50 l D cI cL ad zz hJ σ τ a1 (A1) t1) cw_RX11_252 (jc_50 cI cL ad σ τ) rfl ⟨Nat.le_of_ble_eq_true rfl, Nat.le_of_ble_eq_true rfl⟩ rfl rfl rfl hl.1 rfl (Nat.le_of_ble_eq_true rfl) dX11_taken_24 ⟨Nat.zero_le _, Nat.zero_le _⟩ (fun r21 σ20 τ20 H locs h20 hP hS => ?_)
      obtain ⟨⟨rfl, rfl⟩, h20⟩ := h20
      rcases h20 with h22 | h23
      · obtain ⟨q25, k24⟩ := h22
        have q25 := q25.symm
        subst q25
        refine lv_if_eq (tgt := 33) hx hb dX11_taken_27 (by decide) (fun _ => ?_) (fun c => absurd (by decide) c)
        refine lv_aload_n hx hb dX11_taken_33 rfl (lv_at hl 0 rfl) ?_
        refine va_get (D := D) hx hb hts inlX11 hown hK hP 0 (jc_0 cI cL ad σ τ) rfl 10 (by decide) (hts _ kw_3_5) (fun _ h9 => h9) rfl dX11_taken_34 ?_
        refine lv_iload_n hx hb dX11_taken_37 rfl (lv_at hl 1 rfl) ?_
        refine jcallV (As := [.int a1]) (rest := []) ⟨hx, hb, hml, hown, hts⟩ hK hP hA hS hZ (c_X9_ruleOn_50 l D cI cL ad zz hJ σ τ a1 (A1) t1) cw_RX11_318 (jc_50 cI cL ad σ τ) rfl ⟨Nat.le_of_ble_eq_true rfl, Nat.le_of_ble_eq_true rfl⟩ rfl rfl rfl hl.1 rfl (Nat.le_of_ble_eq_true rfl) dX11_taken_38 ⟨Nat.zero_le _, Nat.zero_le _⟩ (fun r27 σ26 τ26 H locs h26 hP hS => ?_)
        obtain ⟨⟨rfl, rfl⟩, h26⟩ := h26
        refine lv_istore_n (lv' := [(3, .int r27), (0, .ref (ad 0)), (1, .int a1), (2, .int a2)]) hx hb dX11_taken_41 rfl hl (by decide) rfl (fun ls hl => ?_)
        refine lv_iload_n hx hb dX11_taken_42 rfl (lv_at hl 0 rfl) ?_
        refine lv_if_lt (tgt := 61) hx hb dX11_taken_43 (by decide) (fun c28 => ?_) (fun c28 => ?_)
        · have kc28 := jlt c28 rfl jz_0
          refine lv_bipush (v := (-12)) hx hb dX11_taken_61 (by decide) ?_
          exact hret (-12) σ τ _ _ _ _ rfl ⟨⟨rfl, rfl⟩, trivial⟩ hP hS dX11_taken_63
        · have kc28 := jnlt c28 rfl jz_0
          refine lv_aload_n hx hb dX11_taken_46 rfl (lv_at hl 1 rfl) ?_
          refine va_get (D := D) hx hb hts inlX11 hown hK hP 0 (jc_0 cI cL ad σ τ) rfl 7 (by decide) (hts _ kw_2_17) (fun _ h9 => h9) rfl dX11_taken_47 ?_
          refine lv_iload_n hx hb dX11_taken_50 rfl (lv_at hl 0 rfl) ?_
          have I29 : jI38 σ := ⟨(by omega), (by omega), w3⟩
          refine jcallV (As := [.int r27]) (rest := []) ⟨hx, hb, hml, hown, hts⟩ hK hP hA hS hZ (c_X8_kindOf_38 l D cI cL ad zz hJ σ τ r27 (r27.toInt) rfl I29) cw_RX11_183 (jc_38 cI cL ad σ τ) rfl ⟨Nat.le_of_ble_eq_true rfl, Nat.le_of_ble_eq_true rfl⟩ rfl rfl rfl hl.1 rfl (Nat.le_of_ble_eq_true rfl) dX11_taken_51 ⟨Nat.zero_le _, Nat.zero_le _⟩ (fun r31 σ30 τ30 H locs h30 hP hS => ?_)
          obtain ⟨⟨rfl, rfl⟩, h30⟩ := h30
          have h32 := h30
          obtain ⟨q34, k33⟩ := h32
          refine lv_iload_n hx hb dX11_taken_54 rfl (lv_at hl 3 rfl) ?_
          refine jcallS (As := [.int r31, .int a2]) (rest := []) ⟨hx, hb, hml, hown, hts⟩ hK hP hA hS hZ (c_X8_isUnder l D cI cL ad zz hJ σ τ r31 (r31.toInt) rfl a2 (A2) t2) cw_RX11_321 ⟨Nat.le_of_ble_eq_true rfl, Nat.le_of_ble_eq_true rfl⟩ rfl rfl rfl hl.1 rfl (Nat.le_of_ble_eq_true rfl) dX11_taken_55 ⟨Nat.zero_le _, Nat.zero_le _⟩ (fun r36 σ35 τ35 H locs h35 hP hS => ?_)
          obtain ⟨⟨rfl, rfl⟩, h35⟩ := h35
          refine lv_if_ne (tgt := 64) hx hb dX11_taken_58 (by decide) (fun c37 => ?_) (fun c37 => ?_)
          · have kc37 := jne c37 rfl jz_0
            refine lv_aload_n hx hb dX11_taken_64 rfl (lv_at hl 1 rfl) ?_
            refine va_get (D := D) hx hb hts inlX11 hown hK hP 0 (jc_0 cI cL ad σ τ) rfl 7 (by decide) (hts _ kw_2_17) (fun _ h9 => h9) rfl dX11_taken_65 ?_
            refine lv_iload_n hx hb dX11_taken_68 rfl (lv_at hl 0 rfl) ?_
            refine jcallV (As := [.int r27]) (rest := []) ⟨hx, hb, hml, hown, hts⟩ hK hP hA hS hZ (c_X8_kindOf_38 l D cI cL ad zz hJ σ τ r27 (r27.toInt) rfl I29) cw_RX11_183 (jc_38 cI cL ad σ τ) rfl ⟨Nat.le_of_ble_eq_true rfl, Nat.le_of_ble_eq_true rfl⟩ rfl rfl rfl hl.1 rfl (Nat.le_of_ble_eq_true rfl) dX11_taken_69 ⟨Nat.zero_le _, Nat.zero_le _⟩ (fun r39 σ38 τ38 H locs h38 hP hS => ?_)
            obtain ⟨⟨rfl, rfl⟩, h38⟩ := h38
            have h40 := h38
            obtain ⟨q42, k41⟩ := h40
            exact hret r39 σ τ _ _ _ _ rfl ⟨⟨rfl, rfl⟩, trivial⟩ hP hS dX11_taken_72
          · have kc37 := jeq c37 rfl jz_0
            refine lv_bipush (v := (-12)) hx hb dX11_taken_61 (by decide) ?_
            exact hret (-12) σ τ _ _ _ _ rfl ⟨⟨rfl, rfl⟩, trivial⟩ hP hS dX11_taken_63
      · obtain ⟨q44, k43⟩ := h23
        have q44 := q44.symm
        subst q44
        refine lv_if_eq (tgt := 33) hx hb dX11_taken_27 (by decide) (fun c => absurd c (by decide)) (fun _ => ?_)
        refine lv_bipush (v := (-11)) hx hb dX11_taken_30 (by decide) ?_
        exact hret (-11) σ τ _ _ _ _ rfl ⟨⟨rfl, rfl⟩, trivial⟩ hP hS dX11_taken_32
set_option maxHeartbeats 4000000 in
set_option maxRecDepth 100000 in
theorem c_X11_count (l : Launch) (D : va_G) (cI cL : ClassId) (ad zz : Nat → Nat) (hJ : jD ad) (σ : Nat → Nat → Int32) (τ : Nat → Nat → Int64) (a1 : Int32) (A1 : Int) (t1 : a1.toInt = A1) (hI2 : jI2 σ) (hI9 : jI9 σ) (hI38 : jI38 σ) (hI47 : jI47 σ) : jM l yX11_count cX11_count 2 (some .int) ({ frames := 0, cells := 0, slots := 0, locals := 0 }) D cI cL ad zz [.ref (ad 0), .int a1] σ τ (fun r σ' τ' => (σ = σ' ∧ τ = τ') ∧ True) := by
  refine jM.of hJ (by decide +kernel) (nt := .int) rfl (Nat.le_of_ble_eq_true rfl) ?_
  intro p e s m args below meth c Q ls hC hret hl hP
  obtain ⟨hx, hb, hr, hml, hown, hts, hK, -, hlocks, hZ⟩ := hC
  have hown : s.vm.findClass RX11 = some m.cls := hown
  have hS : va_S (jA ad) s.heap s.heap [] := va_S.rf
  have hA : ∀ q, jA ad q → jA ad q := fun _ h => h
  have hl : lv_has ls 2 [(0, .ref (ad 0)), (1, .int a1)] := hl
  have g1 := jrg t1
  obtain ⟨i1, i2, i3, i4, i5, w6⟩ : (0 ≤ (σ 2 0).toInt ∧ (σ 2 0).toInt ≤ 4) ∧ (0 ≤ (σ 2 1).toInt ∧ (σ 2 1).toInt ≤ 3) ∧ (0 ≤ (σ 2 2).toInt) ∧ (0 ≤ (σ 2 3).toInt) ∧ ((σ 2 2).toInt + (σ 2 3).toInt ≤ 40) ∧ (∀ k : Nat, k < 40 → 0 ≤ (σ 6 k).toInt ∧ (σ 6 k).toInt ≤ 67) := id hI2
  obtain ⟨i7, w8, w9⟩ : (0 ≤ (σ 9 0).toInt ∧ (σ 9 0).toInt ≤ 80) ∧ (∀ k : Nat, k < 80 → 0 ≤ (σ 10 k).toInt ∧ (σ 10 k).toInt ≤ 255) ∧ (∀ k : Nat, k < 8 → 0 ≤ (σ 11 k).toInt ∧ (σ 11 k).toInt ≤ 3) := id hI9
  obtain ⟨i10, i11, w12⟩ : (0 ≤ (σ 38 0).toInt ∧ (σ 38 0).toInt ≤ 20) ∧ (0 ≤ (σ 38 1).toInt ∧ (σ 38 1).toInt ≤ 1000) ∧ (∀ k : Nat, k < 20 → 0 ≤ (σ 39 k).toInt ∧ (σ 39 k).toInt ≤ 6) := id hI38
  obtain ⟨i13, w14⟩ : (0 ≤ (σ 47 0).toInt ∧ (σ 47 0).toInt ≤ 12) ∧ (∀ k : Nat, k < 12 → 0 ≤ (σ 49 k).toInt ∧ (σ 49 k).toInt ≤ 1) := id hI47
  refine lv_iload_n hx hb dX11_count_0 rfl (lv_at hl 1 rfl) ?_
  by_cases c15 : a1 = 0
  · have kc15 := jeq c15 t1 jz_0
    refine jtopr c15 ?_
    refine lv_tableIn (off := 39) (tgt := 40) hx hb dX11_count_1 (by decide) (by decide) (by decide) (by decide) ?_
    refine lv_aload_n hx hb dX11_count_40 rfl (lv_at hl 0 rfl) ?_
    refine va_get (D := D) hx hb hts inlX11 hown hK hP 0 (jc_0 cI cL ad σ τ) rfl 0 (by decide) (hts _ kw_1_16) (fun _ h9 => h9) rfl dX11_count_41 ?_
    refine va_get (D := D) hx hb hts inlX4 hown hK hP 2 (jc_2 cI cL ad σ τ) rfl 0 (by decide) (hts _ kw_8_21) (fun _ h9 => h9) rfl dX11_count_44 ?_
    exact hret (σ 2 0) σ τ _ _ _ _ rfl ⟨⟨rfl, rfl⟩, trivial⟩ hP hS dX11_count_47
  have kc15 := jne c15 t1 jz_0
  by_cases c16 : a1 = 1
  · have kc16 := jeq c16 t1 jz_1
    refine jtopr c16 ?_
    refine lv_tableIn (off := 47) (tgt := 48) hx hb dX11_count_1 (by decide) (by decide) (by decide) (by decide) ?_
    refine lv_aload_n hx hb dX11_count_48 rfl (lv_at hl 0 rfl) ?_
    refine va_get (D := D) hx hb hts inlX11 hown hK hP 0 (jc_0 cI cL ad σ τ) rfl 7 (by decide) (hts _ kw_2_17) (fun _ h9 => h9) rfl dX11_count_49 ?_
    refine va_get (D := D) hx hb hts inlX8 hown hK hP 38 (jc_38 cI cL ad σ τ) rfl 0 (by decide) (hts _ kw_24_8) (fun _ h9 => h9) rfl dX11_count_52 ?_
    exact hret (σ 38 0) σ τ _ _ _ _ rfl ⟨⟨rfl, rfl⟩, trivial⟩ hP hS dX11_count_55
  have kc16 := jne c16 t1 jz_1
  by_cases c17 : a1 = 2
  · have kc17 := jeq c17 t1 jz_2
    refine jtopr c17 ?_
    refine lv_tableIn (off := 55) (tgt := 56) hx hb dX11_count_1 (by decide) (by decide) (by decide) (by decide) ?_
    refine lv_aload_n hx hb dX11_count_56 rfl (lv_at hl 0 rfl) ?_
    refine va_get (D := D) hx hb hts inlX11 hown hK hP 0 (jc_0 cI cL ad σ τ) rfl 1 (by decide) (hts _ kw_1_20) (fun _ h9 => h9) rfl dX11_count_57 ?_
    refine va_get (D := D) hx hb hts inlX7 hown hK hP 9 (jc_9 cI cL ad σ τ) rfl 0 (by decide) (hts _ kw_12_19) (fun _ h9 => h9) rfl dX11_count_60 ?_
    exact hret (σ 9 0) σ τ _ _ _ _ rfl ⟨⟨rfl, rfl⟩, trivial⟩ hP hS dX11_count_63
  have kc17 := jne c17 t1 jz_2
  by_cases c18 : a1 = 3
  · have kc18 := jeq c18 t1 jz_3
    refine jtopr c18 ?_
    refine lv_tableIn (off := 63) (tgt := 64) hx hb dX11_count_1 (by decide) (by decide) (by decide) (by decide) ?_
    refine lv_aload_n hx hb dX11_count_64 rfl (lv_at hl 0 rfl) ?_
    refine va_get (D := D) hx hb hts inlX11 hown hK hP 0 (jc_0 cI cL ad σ τ) rfl 9 (by decide) (hts _ kw_3_1) (fun _ h9 => h9) rfl dX11_count_65 ?_
    refine va_get (D := D) hx hb hts inlX2 hown hK hP 47 (jc_47 cI cL ad σ τ) rfl 0 (by decide) (hts _ kw_13_11) (fun _ h9 => h9) rfl dX11_count_68 ?_
    exact hret (σ 47 0) σ τ _ _ _ _ rfl ⟨⟨rfl, rfl⟩, trivial⟩ hP hS dX11_count_71
  have kc18 := jne c18 t1 jz_3
  by_cases c19 : a1 = 4
  · have kc19 := jeq c19 t1 jz_4
    refine jtopr c19 ?_
    refine lv_tableIn (off := 71) (tgt := 72) hx hb dX11_count_1 (by decide) (by decide) (by decide) (by decide) ?_
    refine lv_aload_n hx hb dX11_count_72 rfl (lv_at hl 0 rfl) ?_
    refine va_get (D := D) hx hb hts inlX11 hown hK hP 0 (jc_0 cI cL ad σ τ) rfl 0 (by decide) (hts _ kw_1_16) (fun _ h9 => h9) rfl dX11_count_73 ?_
    refine va_get (D := D) hx hb hts inlX4 hown hK hP 2 (jc_2 cI cL ad σ τ) rfl 2 (by decide) (hts _ kw_47_8) (fun _ h9 => h9) rfl dX11_count_76 ?_
    exact hret (σ 2 2) σ τ _ _ _ _ rfl ⟨⟨rfl, rfl⟩, trivial⟩ hP hS dX11_count_79
  have kc19 := jne c19 t1 jz_4
  by_cases c20 : a1 = 5
  · have kc20 := jeq c20 t1 jz_5
    refine jtopr c20 ?_
    refine lv_tableIn (off := 79) (tgt := 80) hx hb dX11_count_1 (by decide) (by decide) (by decide) (by decide) ?_
    refine lv_aload_n hx hb dX11_count_80 rfl (lv_at hl 0 rfl) ?_
    refine va_get (D := D) hx hb hts inlX11 hown hK hP 0 (jc_0 cI cL ad σ τ) rfl 7 (by decide) (hts _ kw_2_17) (fun _ h9 => h9) rfl dX11_count_81 ?_
    refine va_get (D := D) hx hb hts inlX8 hown hK hP 38 (jc_38 cI cL ad σ τ) rfl 1 (by decide) (hts _ kw_48_10) (fun _ h9 => h9) rfl dX11_count_84 ?_
    exact hret (σ 38 1) σ τ _ _ _ _ rfl ⟨⟨rfl, rfl⟩, trivial⟩ hP hS dX11_count_87
  have kc20 := jne c20 t1 jz_5
  refine lv_tableOut (tgt := 88) hx hb dX11_count_1 (by rw [t1]; omega) (by decide) ?_
  refine lv_iconst (v := (-1)) hx hb dX11_count_88 (by decide) ?_
  exact hret (-1) σ τ _ _ _ _ rfl ⟨⟨rfl, rfl⟩, trivial⟩ hP hS dX11_count_89
