set_option maxHeartbeats 4000000 in
set_option maxRecDepth 100000 in
theorem c_X7_grammar_op_g (l : Launch) (D : va_G) (cI cL : ClassId) (ad zz : Nat → Nat) (hJ : jD ad) (n : Nat) (h_op : ∀ (σ : Nat → Nat → Int32) (τ : Nat → Nat → Int64) (a1 : Int32) (A1 : Int) (t1 : a1.toInt = A1) (hI9 : jI9 σ) (hI91 : jI91 σ) (hI92 : jI92 σ) (hI12 : jI12 σ) (hp0 : 0 ≤ A1 ∧ A1 ≤ 6) (hp1 : -A1 + 6 ≤ (((n) : Nat) : Int)), jMv l yX7_operand cX7_operand 3 none ({ frames := (10 + 8 * (n)), cells := 0, slots := 0, locals := (400 + 360 * (n)) }) D cI cL ad zz [.ref (ad 9), .int a1] σ τ (fun σ' τ' => τ = τ' ∧ (∀ i : Nat, (i < 9 ∨ 9 < i) ∧ (i < 12 ∨ 13 < i) → σ' i = σ i) ∧ (∀ k : Nat, (k < 1 ∨ 1 < k) ∧ (k < 2 ∨ 2 < k) → σ' 9 k = σ 9 k) ∧ (∀ k : Nat, (k < 0 ∨ 0 < k) ∧ (k < 1 ∨ 1 < k) → σ' 12 k = σ 12 k) ∧ (jI9 σ') ∧ (jI91 σ') ∧ (jI92 σ') ∧ (jI12 σ') ∧ True)) (h_p0 : ∀ (σ : Nat → Nat → Int32) (τ : Nat → Nat → Int64) (a2 : Int32) (A2 : Int) (t2 : a2.toInt = A2) (hI9 : jI9 σ) (hI91 : jI91 σ) (hI92 : jI92 σ) (hI12 : jI12 σ) (hp0 : 0 ≤ A2 ∧ A2 ≤ 6) (hp1 : -A2 + 6 ≤ (((n) : Nat) : Int)), jMv l yX7_part cX7_part 5 none ({ frames := (16 + 8 * (n)), cells := 0, slots := 0, locals := (640 + 360 * (n)) }) D cI cL ad zz [.ref (ad 9), .int 0, .int a2] σ τ (fun σ' τ' => τ = τ' ∧ (∀ i : Nat, (i < 9 ∨ 9 < i) ∧ (i < 12 ∨ 13 < i) → σ' i = σ i) ∧ (∀ k : Nat, (k < 1 ∨ 1 < k) ∧ (k < 2 ∨ 2 < k) → σ' 9 k = σ 9 k) ∧ (∀ k : Nat, (k < 0 ∨ 0 < k) ∧ (k < 1 ∨ 1 < k) → σ' 12 k = σ 12 k) ∧ (jI9 σ') ∧ (jI91 σ') ∧ (jI92 σ') ∧ (jI12 σ') ∧ True)) (σ : Nat → Nat → Int32) (τ : Nat → Nat → Int64) (a1 : Int32) (A1 : Int) (t1 : a1.toInt = A1) (hI9 : jI9 σ) (hI91 : jI91 σ) (hI92 : jI92 σ) (hI12 : jI12 σ) (hp0 : 0 ≤ A1 ∧ A1 ≤ 6) (hp1 : -A1 + 6 ≤ (((n + 1) : Nat) : Int)) : jMv l yX7_operand cX7_operand 3 none ({ frames := (10 + 8 * (n + 1)), cells := 0, slots := 0, locals := (400 + 360 * (n + 1)) }) D cI cL ad zz [.ref (ad 9), .int a1] σ τ (fun σ' τ' => τ = τ' ∧ (∀ i : Nat, (i < 9 ∨ 9 < i) ∧ (i < 12 ∨ 13 < i) → σ' i = σ i) ∧ (∀ k : Nat, (k < 1 ∨ 1 < k) ∧ (k < 2 ∨ 2 < k) → σ' 9 k = σ 9 k) ∧ (∀ k : Nat, (k < 0 ∨ 0 < k) ∧ (k < 1 ∨ 1 < k) → σ' 12 k = σ 12 k) ∧ (jI9 σ') ∧ (jI91 σ') ∧ (jI92 σ') ∧ (jI12 σ') ∧ True) := by
  refine jMv.of hJ (by decide +kernel) rfl (Nat.le_of_ble_eq_true rfl) ?_
  intro p e s m args below meth c Q ls hC hret hl hP
  obtain ⟨hx, hb, hr, hml, hown, hts, hK, -, hlocks, hZ⟩ := hC
  have hown : s.vm.findClass RX7 = some m.cls := hown
  have hS : va_S (jA ad) s.heap s.heap [] := va_S.rf
  have hA : ∀ q, jA ad q → jA ad q := fun _ h => h
  have hl : lv_has ls 3 [(0, .ref (ad 9)), (1, .int a1)] := hl
  have g1 := jrg t1
  obtain ⟨i1, w2, w3⟩ : (0 ≤ (σ 9 0).toInt ∧ (σ 9 0).toInt ≤ 80) ∧ (∀ k : Nat, k < 80 → 0 ≤ (σ 10 k).toInt ∧ (σ 10 k).toInt ≤ 255) ∧ (∀ k : Nat, k < 8 → 0 ≤ (σ 11 k).toInt ∧ (σ 11 k).toInt ≤ 3) := id hI9
  obtain ⟨i4, i5⟩ : (0 ≤ (σ 9 1).toInt) ∧ ((σ 9 1).toInt ≤ (σ 9 0).toInt) := id hI91
  have i6 : (-1) ≤ (σ 9 2).toInt := hI92
  refine lv_aload_n hx hb dX7_operand_0 rfl (lv_at hl 0 rfl) ?_
  refine va_get (D := D) hx hb hts inlX7 hown hK hP 9 (jc_9 cI cL ad σ τ) rfl 2 (by decide) (hts _ kw_14_6) (fun _ h9 => h9) rfl dX7_operand_1 ?_
  refine lv_iconst (v := (-1)) hx hb dX7_operand_4 (by decide) ?_
  refine lv_icmp_eq (tgt := 9) hx hb dX7_operand_5 (by decide) (fun c7 => ?_) (fun c7 => ?_)
  · have kc7 := jeq c7 rfl jz_m1
    refine lv_aload_n hx hb dX7_operand_9 rfl (lv_at hl 0 rfl) ?_
    refine jcallV (As := []) (rest := []) ⟨hx, hb, hml, hown, hts⟩ hK hP hA hS hZ (c_X7_sign_9 l D cI cL ad zz hJ σ τ hI9) cw_RX7_35 (jc_9 cI cL ad σ τ) rfl ⟨by dsimp only; omega, by dsimp only; omega⟩ rfl rfl rfl hl.1 rfl (Nat.le_of_ble_eq_true rfl) dX7_operand_10 ⟨Nat.zero_le _, Nat.zero_le _⟩ (fun r9 σ8 τ8 H locs h8 hP hS => ?_)
    obtain ⟨⟨rfl, rfl⟩, h8⟩ := h8
    rcases h8 with h10 | h11
    · obtain ⟨q14, k12, k13⟩ := h10
      have q15 : r9 = (σ 10 (σ 9 1).toNatClampNeg) := q14.trans rfl
      have q15 := q15.symm
      subst q15
      refine lv_istore_n (lv' := [(2, .int (σ 10 (σ 9 1).toNatClampNeg)), (0, .ref (ad 9)), (1, .int a1)]) hx hb dX7_operand_13 rfl hl (by decide) rfl (fun ls hl => ?_)
      refine lv_iload_n hx hb dX7_operand_14 rfl (lv_at hl 0 rfl) ?_
      refine jcallS (As := [.int (σ 10 (σ 9 1).toNatClampNeg)]) (rest := []) ⟨hx, hb, hml, hown, hts⟩ hK hP hA hS hZ (c_X7_isDigit l D cI cL ad zz hJ σ τ (σ 10 (σ 9 1).toNatClampNeg) ((σ 10 (σ 9 1).toNatClampNeg).toInt) rfl) cw_RX7_39 ⟨by dsimp only; omega, by dsimp only; omega⟩ rfl rfl rfl hl.1 rfl (Nat.le_of_ble_eq_true rfl) dX7_operand_15 ⟨Nat.zero_le _, Nat.zero_le _⟩ (fun r17 σ16 τ16 H locs h16 hP hS => ?_)
      obtain ⟨⟨rfl, rfl⟩, h16⟩ := h16
      rcases h16 with h18 | h19
      · obtain ⟨q21, k20⟩ := h18
        have q21 := q21.symm
        subst q21
        refine lv_if_eq (tgt := 36) hx hb dX7_operand_18 (by decide) (fun c => absurd c (by decide)) (fun _ => ?_)
        refine lv_aload_n hx hb dX7_operand_21 rfl (lv_at hl 1 rfl) ?_
        refine va_get (D := D) hx hb hts inlX7 hown hK hP 9 (jc_9 cI cL ad σ τ) rfl 5 (by decide) (hts _ kw_3_23) (fun _ h9 => h9) rfl dX7_operand_22 ?_
        refine lv_aload_n hx hb dX7_operand_25 rfl (lv_at hl 1 rfl) ?_
        refine lv_iconst (v := 4) hx hb dX7_operand_26 (by decide) ?_
        refine jcallV (As := [.int 4]) (rest := [.ref (ad 12)]) ⟨hx, hb, hml, hown, hts⟩ hK hP hA hS hZ (c_X7_number_4 l D cI cL ad zz hJ σ τ hI9 hI91 hI92) cw_RX7_53 (jc_9 cI cL ad σ τ) rfl ⟨by dsimp only; omega, by dsimp only; omega⟩ rfl rfl rfl hl.1 rfl (Nat.le_of_ble_eq_true rfl) dX7_operand_27 ⟨Nat.zero_le _, Nat.zero_le _⟩ (fun r23 σ22 τ22 H locs h22 hP hS => ?_)
        obtain ⟨rfl, f24, f25, I26, I27, I28, h22⟩ := h22
        obtain ⟨i29, w30, w31⟩ : (0 ≤ (σ22 9 0).toInt ∧ (σ22 9 0).toInt ≤ 80) ∧ (∀ k : Nat, k < 80 → 0 ≤ (σ22 10 k).toInt ∧ (σ22 10 k).toInt ≤ 255) ∧ (∀ k : Nat, k < 8 → 0 ≤ (σ22 11 k).toInt ∧ (σ22 11 k).toInt ≤ 3) := id I26
        obtain ⟨i32, i33⟩ : (0 ≤ (σ22 9 1).toInt) ∧ ((σ22 9 1).toInt ≤ (σ22 9 0).toInt) := id I27
        have i34 : (-1) ≤ (σ22 9 2).toInt := I28
        have z35 : (σ22 9 0).toInt = (σ 9 0).toInt := (congrArg Int32.toInt (show σ22 9 0 = (σ 9 0) from (f25 0 (by decide))))
        obtain ⟨k36, h22⟩ := h22
        have h37 := h22
        obtain ⟨q39, k38⟩ := h37
        have I40 : jI12 σ22 := jI12_fr (congrFun (f24 12 (by decide)) 0) (f24 13 (by decide)) hI12
        refine jcallVv (As := [.int r23]) (rest := []) ⟨hx, hb, hml, hown, hts⟩ hK hP hA hS hZ (c_X10_add_12 l D cI cL ad zz hJ σ22 τ r23 (r23.toInt) rfl I40 (by omega)) cw_RX7_86 (jc_12 cI cL ad σ22 τ) rfl ⟨by dsimp only; omega, by dsimp only; omega⟩ rfl rfl rfl hl.1 rfl (Nat.le_of_ble_eq_true rfl) dX7_operand_30 ⟨Nat.zero_le _, Nat.zero_le _⟩ (fun σ41 τ41 H locs h41 hP hS => ?_)
        obtain ⟨rfl, f43, f44, I45, h41⟩ := h41
        refine lv_goto (tgt := 191) hx hb dX7_operand_33 (by decide) ?_
        have I46 : jI9 σ41 := jI9_fr (congrFun (f43 9 (by decide)) 0) (f43 10 (by decide)) (f43 11 (by decide)) I26
        have I47 : jI91 σ41 := jI91_fr (congrFun (f43 9 (by decide)) 0) (congrFun (f43 9 (by decide)) 1) I27
        have I48 : jI92 σ41 := jI92_fr (congrFun (f43 9 (by decide)) 2) I28
        exact hret σ41 τ _ _ _ _ ⟨rfl, (fun i hi => ((f43 i (imp_57 i hi)).trans (f24 i (imp_58 i hi)))), (fun i hi => ((congrFun (f43 9 (by decide)) i).trans (f25 i hi))), (fun i hi => ((f44 i hi).trans (congrFun (f24 12 (by decide)) i))), I46, I47, I48, I45, trivial⟩ hP hS dX7_operand_191
      · obtain ⟨q50, k49⟩ := h19
        have q50 := q50.symm
        subst q50
        refine lv_if_eq (tgt := 36) hx hb dX7_operand_18 (by decide) (fun _ => ?_) (fun c => absurd (by decide) c)
        refine lv_iload_n hx hb dX7_operand_36 rfl (lv_at hl 0 rfl) ?_
        refine jcallS (As := [.int (σ 10 (σ 9 1).toNatClampNeg)]) (rest := []) ⟨hx, hb, hml, hown, hts⟩ hK hP hA hS hZ (c_X7_nameOf l D cI cL ad zz hJ σ τ (σ 10 (σ 9 1).toNatClampNeg) ((σ 10 (σ 9 1).toNatClampNeg).toInt) rfl) cw_RX7_101 ⟨by dsimp only; omega, by dsimp only; omega⟩ rfl rfl rfl hl.1 rfl (Nat.le_of_ble_eq_true rfl) dX7_operand_37 ⟨Nat.zero_le _, Nat.zero_le _⟩ (fun r52 σ51 τ51 H locs h51 hP hS => ?_)
        obtain ⟨⟨rfl, rfl⟩, h51⟩ := h51
        rcases h51 with h53 | h54
        · obtain ⟨q57, k55, k56⟩ := h53
          refine lv_if_lt (tgt := 71) hx hb dX7_operand_40 (by decide) (fun c => absurd (jlt c rfl jz_0) (by omega)) (fun c58 => ?_)
          have kc58 := jnlt c58 rfl jz_0
          refine lv_aload_n hx hb dX7_operand_43 rfl (lv_at hl 1 rfl) ?_
          refine va_get (D := D) hx hb hts inlX7 hown hK hP 9 (jc_9 cI cL ad σ τ) rfl 5 (by decide) (hts _ kw_3_23) (fun _ h9 => h9) rfl dX7_operand_44 ?_
          refine lv_sipush (v := 10000) hx hb dX7_operand_47 (by decide) ?_
          refine lv_iload_n hx hb dX7_operand_50 rfl (lv_at hl 0 rfl) ?_
          refine jcallS (As := [.int (σ 10 (σ 9 1).toNatClampNeg)]) (rest := [.int 10000, .ref (ad 12)]) ⟨hx, hb, hml, hown, hts⟩ hK hP hA hS hZ (c_X7_nameOf l D cI cL ad zz hJ σ τ (σ 10 (σ 9 1).toNatClampNeg) ((σ 10 (σ 9 1).toNatClampNeg).toInt) rfl) cw_RX7_101 ⟨by dsimp only; omega, by dsimp only; omega⟩ rfl rfl rfl hl.1 rfl (Nat.le_of_ble_eq_true rfl) dX7_operand_51 ⟨Nat.zero_le _, Nat.zero_le _⟩ (fun r60 σ59 τ59 H locs h59 hP hS => ?_)
          obtain ⟨⟨rfl, rfl⟩, h59⟩ := h59
          rcases h59 with h61 | h62
          · obtain ⟨q65, k63, k64⟩ := h61
            have g66 := jrg (rfl : r60.toInt = r60.toInt)
            refine lv_iadd hx hb dX7_operand_54 ?_
            refine lv_topi (fun x67 ex67 => ?_)
            have tx67 : x67.toInt = r60.toInt + 10000 := (jadd ex67 jz_10000 rfl (by omega) (by omega)).trans (by omega)
            refine jcallVv (As := [.int x67]) (rest := []) ⟨hx, hb, hml, hown, hts⟩ hK hP hA hS hZ (c_X10_add_12 l D cI cL ad zz hJ σ τ x67 (r60.toInt + 10000) tx67 hI12 (by omega)) cw_RX7_86 (jc_12 cI cL ad σ τ) rfl ⟨by dsimp only; omega, by dsimp only; omega⟩ rfl rfl rfl hl.1 rfl (Nat.le_of_ble_eq_true rfl) dX7_operand_55 ⟨Nat.zero_le _, Nat.zero_le _⟩ (fun σ68 τ68 H locs h68 hP hS => ?_)
            obtain ⟨rfl, f70, f71, I72, h68⟩ := h68
            refine lv_aload_n hx hb dX7_operand_58 rfl (lv_at hl 1 rfl) ?_
            refine lv_dup hx hb dX7_operand_59 rfl ?_
            refine va_get (D := D) hx hb hts inlX7 hown hK hP 9 (jc_9 cI cL ad σ68 τ) rfl 1 (by decide) (hts _ kw_13_17) (fun _ h9 => h9) rfl dX7_operand_60 ?_
            have m73 : σ68 9 1 = (σ 9 1) := (congrFun (f70 9 (by decide)) 1)
            refine jtopr m73 ?_
            refine lv_iconst (v := 1) hx hb dX7_operand_63 (by decide) ?_
            have g74 := jrg (rfl : (σ 9 1).toInt = (σ 9 1).toInt)
            refine lv_iadd hx hb dX7_operand_64 ?_
            refine lv_topi (fun x75 ex75 => ?_)
            have tx75 : x75.toInt = (σ 9 1).toInt + 1 := (jadd ex75 rfl jz_1 (by omega) (by omega)).trans (by omega)
            refine jput (ty := .int) hx hb hts inlX7 tyX7 tyX7_ok nmX7 hown hK hP hJ hA hS (jc_9 cI cL ad σ68 τ) rfl (k := 1) (by decide) (Nat.le_of_ble_eq_true rfl) (jp_9_1 cI cL ad σ68 τ x75) (hts _ kw_13_17) (fun _ h9 => h9) rfl (by decide +kernel) rfl rfl dX7_operand_65 (fun σ76 H locs eσ76 hP hS => ?_)
            refine lv_goto (tgt := 191) hx hb dX7_operand_68 (by decide) ?_
            have I77 : jI9 σ76 := jI9_fr ((jkp 0 eσ76 (by decide)).trans (congrFun (f70 9 (by decide)) 0)) ((jnp 10 eσ76 (by decide)).trans (f70 10 (by decide))) ((jnp 11 eσ76 (by decide)).trans (f70 11 (by decide))) hI9
            have z78 : (σ76 9 1).toInt = (σ 9 1).toInt + 1 := ((congrArg Int32.toInt (show σ76 9 1 = x75 from (jsp eσ76))).trans tx75)
            have z79 : (σ76 9 0).toInt = (σ 9 0).toInt := (congrArg Int32.toInt (show σ76 9 0 = (σ 9 0) from ((jkp 0 eσ76 (by decide)).trans (congrFun (f70 9 (by decide)) 0))))
            have I80 : jI91 σ76 := ⟨(by omega), (by omega)⟩
            have I81 : jI92 σ76 := jI92_fr ((jkp 2 eσ76 (by decide)).trans (congrFun (f70 9 (by decide)) 2)) hI92
            have I82 : jI12 σ76 := jI12_fr (congrFun (jnp 12 eσ76 (by decide)) 0) (jnp 13 eσ76 (by decide)) I72
            exact hret σ76 τ _ _ _ _ ⟨rfl, (fun i hi => ((jnp i eσ76 (imp_59 i hi)).trans (f70 i (imp_57 i hi)))), (fun i hi => ((jkp i eσ76 (imp_39 i hi)).trans (congrFun (f70 9 (by decide)) i))), (fun i hi => ((congrFun (jnp 12 eσ76 (by decide)) i).trans (f71 i hi))), I77, I80, I81, I82, trivial⟩ hP hS dX7_operand_191
          · obtain ⟨q84, k83⟩ := h62
            have q84 := q84.symm
            subst q84
            refine lv_iadd hx hb dX7_operand_54 ?_
            refine jtopr (y := 9999) (by decide) ?_
            refine jcallVv (As := [.int 9999]) (rest := []) ⟨hx, hb, hml, hown, hts⟩ hK hP hA hS hZ (c_X10_add_12 l D cI cL ad zz hJ σ τ 9999 (9999) jz_9999 hI12 (by omega)) cw_RX7_86 (jc_12 cI cL ad σ τ) rfl ⟨by dsimp only; omega, by dsimp only; omega⟩ rfl rfl rfl hl.1 rfl (Nat.le_of_ble_eq_true rfl) dX7_operand_55 ⟨Nat.zero_le _, Nat.zero_le _⟩ (fun σ85 τ85 H locs h85 hP hS => ?_)
            obtain ⟨rfl, f87, f88, I89, h85⟩ := h85
            refine lv_aload_n hx hb dX7_operand_58 rfl (lv_at hl 1 rfl) ?_
            refine lv_dup hx hb dX7_operand_59 rfl ?_
            refine va_get (D := D) hx hb hts inlX7 hown hK hP 9 (jc_9 cI cL ad σ85 τ) rfl 1 (by decide) (hts _ kw_13_17) (fun _ h9 => h9) rfl dX7_operand_60 ?_
            have m90 : σ85 9 1 = (σ 9 1) := (congrFun (f87 9 (by decide)) 1)
            refine jtopr m90 ?_
            refine lv_iconst (v := 1) hx hb dX7_operand_63 (by decide) ?_
            have g91 := jrg (rfl : (σ 9 1).toInt = (σ 9 1).toInt)
            refine lv_iadd hx hb dX7_operand_64 ?_
            refine lv_topi (fun x92 ex92 => ?_)
            have tx92 : x92.toInt = (σ 9 1).toInt + 1 := (jadd ex92 rfl jz_1 (by omega) (by omega)).trans (by omega)
            refine jput (ty := .int) hx hb hts inlX7 tyX7 tyX7_ok nmX7 hown hK hP hJ hA hS (jc_9 cI cL ad σ85 τ) rfl (k := 1) (by decide) (Nat.le_of_ble_eq_true rfl) (jp_9_1 cI cL ad σ85 τ x92) (hts _ kw_13_17) (fun _ h9 => h9) rfl (by decide +kernel) rfl rfl dX7_operand_65 (fun σ93 H locs eσ93 hP hS => ?_)
            refine lv_goto (tgt := 191) hx hb dX7_operand_68 (by decide) ?_
            have I94 : jI9 σ93 := jI9_fr ((jkp 0 eσ93 (by decide)).trans (congrFun (f87 9 (by decide)) 0)) ((jnp 10 eσ93 (by decide)).trans (f87 10 (by decide))) ((jnp 11 eσ93 (by decide)).trans (f87 11 (by decide))) hI9
            have z95 : (σ93 9 1).toInt = (σ 9 1).toInt + 1 := ((congrArg Int32.toInt (show σ93 9 1 = x92 from (jsp eσ93))).trans tx92)
            have z96 : (σ93 9 0).toInt = (σ 9 0).toInt := (congrArg Int32.toInt (show σ93 9 0 = (σ 9 0) from ((jkp 0 eσ93 (by decide)).trans (congrFun (f87 9 (by decide)) 0))))
            have I97 : jI91 σ93 := ⟨(by omega), (by omega)⟩
            have I98 : jI92 σ93 := jI92_fr ((jkp 2 eσ93 (by decide)).trans (congrFun (f87 9 (by decide)) 2)) hI92
            have I99 : jI12 σ93 := jI12_fr (congrFun (jnp 12 eσ93 (by decide)) 0) (jnp 13 eσ93 (by decide)) I89
            exact hret σ93 τ _ _ _ _ ⟨rfl, (fun i hi => ((jnp i eσ93 (imp_59 i hi)).trans (f87 i (imp_57 i hi)))), (fun i hi => ((jkp i eσ93 (imp_39 i hi)).trans (congrFun (f87 9 (by decide)) i))), (fun i hi => ((congrFun (jnp 12 eσ93 (by decide)) i).trans (f88 i hi))), I94, I97, I98, I99, trivial⟩ hP hS dX7_operand_191
        · obtain ⟨q101, k100⟩ := h54
          have q101 := q101.symm
          subst q101
          refine lv_if_lt (tgt := 71) hx hb dX7_operand_40 (by decide) (fun _ => ?_) (fun c => absurd (by decide) c)
          refine lv_iload_n hx hb dX7_operand_71 rfl (lv_at hl 2 rfl) ?_
          refine lv_bipush (v := 6) hx hb dX7_operand_72 (by decide) ?_
          refine lv_icmp_ge (tgt := 133) hx hb dX7_operand_74 (by decide) (fun c102 => ?_) (fun c102 => ?_)
          · have kc102 := jle c102 jz_6 t1
            refine lv_iload_n hx hb dX7_operand_133 rfl (lv_at hl 2 rfl) ?_
            refine lv_bipush (v := 6) hx hb dX7_operand_134 (by decide) ?_
            refine lv_icmp_ge (tgt := 183) hx hb dX7_operand_136 (by decide) (fun c103 => ?_) (fun c => absurd (jnle c jz_6 t1) (by omega))
            have kc103 := jle c103 jz_6 t1
            refine lv_aload_n hx hb dX7_operand_183 rfl (lv_at hl 1 rfl) ?_
            refine lv_aload_n hx hb dX7_operand_184 rfl (lv_at hl 1 rfl) ?_
            refine va_get (D := D) hx hb hts inlX7 hown hK hP 9 (jc_9 cI cL ad σ τ) rfl 1 (by decide) (hts _ kw_13_17) (fun _ h9 => h9) rfl dX7_operand_185 ?_
            refine jcallVv (As := [.int (σ 9 1)]) (rest := []) ⟨hx, hb, hml, hown, hts⟩ hK hP hA hS hZ (c_X7_fail_9 l D cI cL ad zz hJ σ τ (σ 9 1) ((σ 9 1).toInt) rfl hI92 (by omega)) cw_RX7_43 (jc_9 cI cL ad σ τ) rfl ⟨by dsimp only; omega, by dsimp only; omega⟩ rfl rfl rfl hl.1 rfl (Nat.le_of_ble_eq_true rfl) dX7_operand_188 ⟨Nat.zero_le _, Nat.zero_le _⟩ (fun σ104 τ104 H locs h104 hP hS => ?_)
            obtain ⟨rfl, f106, f107, h104⟩ := h104
            obtain ⟨k108, h104⟩ := h104
            have I109 : jI9 σ104 := jI9_fr (f107 0 (by decide)) (f106 10 (by decide)) (f106 11 (by decide)) hI9
            have I110 : jI91 σ104 := jI91_fr (f107 0 (by decide)) (f107 1 (by decide)) hI91
            have I111 : jI92 σ104 := (show (-1) ≤ (σ104 9 2).toInt by omega)
            have I112 : jI12 σ104 := jI12_fr (congrFun (f106 12 (by decide)) 0) (f106 13 (by decide)) hI12
            exact hret σ104 τ _ _ _ _ ⟨rfl, (fun i hi => (f106 i (imp_58 i hi))), (fun i hi => (f107 i (imp_43 i hi))), (fun i hi => (congrFun (f106 12 (by decide)) i)), I109, I110, I111, I112, trivial⟩ hP hS dX7_operand_191
          · have kc102 := jnle c102 jz_6 t1
            refine lv_iload_n hx hb dX7_operand_77 rfl (lv_at hl 0 rfl) ?_
            refine lv_bipush (v := 33) hx hb dX7_operand_78 (by decide) ?_
            refine lv_icmp_eq (tgt := 89) hx hb dX7_operand_80 (by decide) (fun c113 => ?_) (fun c113 => ?_)
            · have kc113 := jeq c113 rfl jz_33
              refine lv_aload_n hx hb dX7_operand_89 rfl (lv_at hl 1 rfl) ?_
              refine lv_dup hx hb dX7_operand_90 rfl ?_
              refine va_get (D := D) hx hb hts inlX7 hown hK hP 9 (jc_9 cI cL ad σ τ) rfl 1 (by decide) (hts _ kw_13_17) (fun _ h9 => h9) rfl dX7_operand_91 ?_
              refine lv_iconst (v := 1) hx hb dX7_operand_94 (by decide) ?_
              have g114 := jrg (rfl : (σ 9 1).toInt = (σ 9 1).toInt)
              refine lv_iadd hx hb dX7_operand_95 ?_
              refine lv_topi (fun x115 ex115 => ?_)
              have tx115 : x115.toInt = (σ 9 1).toInt + 1 := (jadd ex115 rfl jz_1 (by omega) (by omega)).trans (by omega)
              refine jput (ty := .int) hx hb hts inlX7 tyX7 tyX7_ok nmX7 hown hK hP hJ hA hS (jc_9 cI cL ad σ τ) rfl (k := 1) (by decide) (Nat.le_of_ble_eq_true rfl) (jp_9_1 cI cL ad σ τ x115) (hts _ kw_13_17) (fun _ h9 => h9) rfl (by decide +kernel) rfl rfl dX7_operand_96 (fun σ116 H locs eσ116 hP hS => ?_)
              refine lv_aload_n hx hb dX7_operand_99 rfl (lv_at hl 1 rfl) ?_
              refine lv_iload_n hx hb dX7_operand_100 rfl (lv_at hl 2 rfl) ?_
              refine lv_iconst (v := 1) hx hb dX7_operand_101 (by decide) ?_
              refine lv_iadd hx hb dX7_operand_102 ?_
              refine lv_topi (fun x117 ex117 => ?_)
              have tx117 : x117.toInt = A1 + 1 := (jadd ex117 t1 jz_1 (by omega) (by omega)).trans (by omega)
              have I118 : jI9 σ116 := jI9_fr (jkp 0 eσ116 (by decide)) (jnp 10 eσ116 (by decide)) (jnp 11 eσ116 (by decide)) hI9
              have z119 : (σ116 9 1).toInt = (σ 9 1).toInt + 1 := ((congrArg Int32.toInt (show σ116 9 1 = x115 from (jsp eσ116))).trans tx115)
              have z120 : (σ116 9 0).toInt = (σ 9 0).toInt := (congrArg Int32.toInt (show σ116 9 0 = (σ 9 0) from (jkp 0 eσ116 (by decide))))
              have I121 : jI91 σ116 := ⟨(by omega), (by omega)⟩
              have I122 : jI92 σ116 := jI92_fr (jkp 2 eσ116 (by decide)) hI92
              have I123 : jI12 σ116 := jI12_fr (congrFun (jnp 12 eσ116 (by decide)) 0) (jnp 13 eσ116 (by decide)) hI12
              refine jcallVv (As := [.int x117]) (rest := []) ⟨hx, hb, hml, hown, hts⟩ hK hP hA hS hZ (h_op σ116 τ x117 (A1 + 1) tx117 I118 I121 I122 I123 (by omega) (by omega)) cw_RX7_95 (jc_9 cI cL ad σ116 τ) rfl ⟨by dsimp only; omega, by dsimp only; omega⟩ rfl rfl rfl hl.1 rfl (Nat.le_of_ble_eq_true rfl) dX7_operand_103 ⟨Nat.zero_le _, Nat.zero_le _⟩ (fun σ124 τ124 H locs h124 hP hS => ?_)
              obtain ⟨rfl, f126, f127, f128, I129, I130, I131, I132, h124⟩ := h124
              obtain ⟨i133, w134, w135⟩ : (0 ≤ (σ124 9 0).toInt ∧ (σ124 9 0).toInt ≤ 80) ∧ (∀ k : Nat, k < 80 → 0 ≤ (σ124 10 k).toInt ∧ (σ124 10 k).toInt ≤ 255) ∧ (∀ k : Nat, k < 8 → 0 ≤ (σ124 11 k).toInt ∧ (σ124 11 k).toInt ≤ 3) := id I129
              obtain ⟨i136, i137⟩ : (0 ≤ (σ124 9 1).toInt) ∧ ((σ124 9 1).toInt ≤ (σ124 9 0).toInt) := id I130
              have i138 : (-1) ≤ (σ124 9 2).toInt := I131
              have z139 : (σ124 9 0).toInt = (σ 9 0).toInt := (congrArg Int32.toInt (show σ124 9 0 = (σ 9 0) from ((f127 0 (by decide)).trans (jkp 0 eσ116 (by decide)))))
              refine lv_aload_n hx hb dX7_operand_106 rfl (lv_at hl 1 rfl) ?_
              refine va_get (D := D) hx hb hts inlX7 hown hK hP 9 (jc_9 cI cL ad σ124 τ) rfl 5 (by decide) (hts _ kw_3_23) (fun _ h9 => h9) rfl dX7_operand_107 ?_
              refine lv_sipush (v := 20000) hx hb dX7_operand_110 (by decide) ?_
              refine lv_iload_n hx hb dX7_operand_113 rfl (lv_at hl 0 rfl) ?_
              refine lv_bipush (v := 33) hx hb dX7_operand_114 (by decide) ?_
              refine lv_icmp_ne (tgt := 124) hx hb dX7_operand_116 (by decide) (fun c => absurd (jne c rfl jz_33) (by omega)) (fun c140 => ?_)
              have kc140 := jeq c140 rfl jz_33
              refine lv_bipush (v := 33) hx hb dX7_operand_119 (by decide) ?_
              refine lv_goto (tgt := 126) hx hb dX7_operand_121 (by decide) ?_
              refine lv_iadd hx hb dX7_operand_126 ?_
              refine jtopr (y := 20033) (by decide) ?_
              refine jcallVv (As := [.int 20033]) (rest := []) ⟨hx, hb, hml, hown, hts⟩ hK hP hA hS hZ (c_X10_add_12 l D cI cL ad zz hJ σ124 τ 20033 (20033) jz_20033 I132 (by omega)) cw_RX7_86 (jc_12 cI cL ad σ124 τ) rfl ⟨by dsimp only; omega, by dsimp only; omega⟩ rfl rfl rfl hl.1 rfl (Nat.le_of_ble_eq_true rfl) dX7_operand_127 ⟨Nat.zero_le _, Nat.zero_le _⟩ (fun σ141 τ141 H locs h141 hP hS => ?_)
              obtain ⟨rfl, f143, f144, I145, h141⟩ := h141
              refine lv_goto (tgt := 191) hx hb dX7_operand_130 (by decide) ?_
              have I146 : jI9 σ141 := jI9_fr (congrFun (f143 9 (by decide)) 0) (f143 10 (by decide)) (f143 11 (by decide)) I129
              have I147 : jI91 σ141 := jI91_fr (congrFun (f143 9 (by decide)) 0) (congrFun (f143 9 (by decide)) 1) I130
              have I148 : jI92 σ141 := jI92_fr (congrFun (f143 9 (by decide)) 2) I131
              exact hret σ141 τ _ _ _ _ ⟨rfl, (fun i hi => ((f143 i (imp_57 i hi)).trans ((f126 i hi).trans (jnp i eσ116 (imp_59 i hi))))), (fun i hi => ((congrFun (f143 9 (by decide)) i).trans ((f127 i hi).trans (jkp i eσ116 (imp_39 i hi))))), (fun i hi => ((f144 i hi).trans ((f128 i hi).trans (congrFun (jnp 12 eσ116 (by decide)) i)))), I146, I147, I148, I145, trivial⟩ hP hS dX7_operand_191
            · have kc113 := jne c113 rfl jz_33
              refine lv_iload_n hx hb dX7_operand_83 rfl (lv_at hl 0 rfl) ?_
              refine lv_bipush (v := 45) hx hb dX7_operand_84 (by decide) ?_
              refine lv_icmp_ne (tgt := 133) hx hb dX7_operand_86 (by decide) (fun c149 => ?_) (fun c149 => ?_)
              · have kc149 := jne c149 rfl jz_45
                refine lv_iload_n hx hb dX7_operand_133 rfl (lv_at hl 2 rfl) ?_
                refine lv_bipush (v := 6) hx hb dX7_operand_134 (by decide) ?_
                refine lv_icmp_ge (tgt := 183) hx hb dX7_operand_136 (by decide) (fun c => absurd (jle c jz_6 t1) (by omega)) (fun c150 => ?_)
                have kc150 := jnle c150 jz_6 t1
                refine lv_iload_n hx hb dX7_operand_139 rfl (lv_at hl 0 rfl) ?_
                refine lv_bipush (v := 40) hx hb dX7_operand_140 (by decide) ?_
                refine lv_icmp_ne (tgt := 183) hx hb dX7_operand_142 (by decide) (fun c151 => ?_) (fun c151 => ?_)
                · have kc151 := jne c151 rfl jz_40
                  refine lv_aload_n hx hb dX7_operand_183 rfl (lv_at hl 1 rfl) ?_
                  refine lv_aload_n hx hb dX7_operand_184 rfl (lv_at hl 1 rfl) ?_
                  refine va_get (D := D) hx hb hts inlX7 hown hK hP 9 (jc_9 cI cL ad σ τ) rfl 1 (by decide) (hts _ kw_13_17) (fun _ h9 => h9) rfl dX7_operand_185 ?_
                  refine jcallVv (As := [.int (σ 9 1)]) (rest := []) ⟨hx, hb, hml, hown, hts⟩ hK hP hA hS hZ (c_X7_fail_9 l D cI cL ad zz hJ σ τ (σ 9 1) ((σ 9 1).toInt) rfl hI92 (by omega)) cw_RX7_43 (jc_9 cI cL ad σ τ) rfl ⟨by dsimp only; omega, by dsimp only; omega⟩ rfl rfl rfl hl.1 rfl (Nat.le_of_ble_eq_true rfl) dX7_operand_188 ⟨Nat.zero_le _, Nat.zero_le _⟩ (fun σ152 τ152 H locs h152 hP hS => ?_)
                  obtain ⟨rfl, f154, f155, h152⟩ := h152
                  obtain ⟨k156, h152⟩ := h152
                  have I157 : jI9 σ152 := jI9_fr (f155 0 (by decide)) (f154 10 (by decide)) (f154 11 (by decide)) hI9
                  have I158 : jI91 σ152 := jI91_fr (f155 0 (by decide)) (f155 1 (by decide)) hI91
                  have I159 : jI92 σ152 := (show (-1) ≤ (σ152 9 2).toInt by omega)
                  have I160 : jI12 σ152 := jI12_fr (congrFun (f154 12 (by decide)) 0) (f154 13 (by decide)) hI12
                  exact hret σ152 τ _ _ _ _ ⟨rfl, (fun i hi => (f154 i (imp_58 i hi))), (fun i hi => (f155 i (imp_43 i hi))), (fun i hi => (congrFun (f154 12 (by decide)) i)), I157, I158, I159, I160, trivial⟩ hP hS dX7_operand_191
                · have kc151 := jeq c151 rfl jz_40
                  refine lv_aload_n hx hb dX7_operand_145 rfl (lv_at hl 1 rfl) ?_
                  refine lv_dup hx hb dX7_operand_146 rfl ?_
                  refine va_get (D := D) hx hb hts inlX7 hown hK hP 9 (jc_9 cI cL ad σ τ) rfl 1 (by decide) (hts _ kw_13_17) (fun _ h9 => h9) rfl dX7_operand_147 ?_
                  refine lv_iconst (v := 1) hx hb dX7_operand_150 (by decide) ?_
                  have g161 := jrg (rfl : (σ 9 1).toInt = (σ 9 1).toInt)
                  refine lv_iadd hx hb dX7_operand_151 ?_
                  refine lv_topi (fun x162 ex162 => ?_)
                  have tx162 : x162.toInt = (σ 9 1).toInt + 1 := (jadd ex162 rfl jz_1 (by omega) (by omega)).trans (by omega)
                  refine jput (ty := .int) hx hb hts inlX7 tyX7 tyX7_ok nmX7 hown hK hP hJ hA hS (jc_9 cI cL ad σ τ) rfl (k := 1) (by decide) (Nat.le_of_ble_eq_true rfl) (jp_9_1 cI cL ad σ τ x162) (hts _ kw_13_17) (fun _ h9 => h9) rfl (by decide +kernel) rfl rfl dX7_operand_152 (fun σ163 H locs eσ163 hP hS => ?_)
                  refine lv_aload_n hx hb dX7_operand_155 rfl (lv_at hl 1 rfl) ?_
                  refine lv_iconst (v := 0) hx hb dX7_operand_156 (by decide) ?_
                  refine lv_iload_n hx hb dX7_operand_157 rfl (lv_at hl 2 rfl) ?_
                  refine lv_iconst (v := 1) hx hb dX7_operand_158 (by decide) ?_
                  refine lv_iadd hx hb dX7_operand_159 ?_
                  refine lv_topi (fun x164 ex164 => ?_)
                  have tx164 : x164.toInt = A1 + 1 := (jadd ex164 t1 jz_1 (by omega) (by omega)).trans (by omega)
                  have I165 : jI9 σ163 := jI9_fr (jkp 0 eσ163 (by decide)) (jnp 10 eσ163 (by decide)) (jnp 11 eσ163 (by decide)) hI9
                  have z166 : (σ163 9 1).toInt = (σ 9 1).toInt + 1 := ((congrArg Int32.toInt (show σ163 9 1 = x162 from (jsp eσ163))).trans tx162)
                  have z167 : (σ163 9 0).toInt = (σ 9 0).toInt := (congrArg Int32.toInt (show σ163 9 0 = (σ 9 0) from (jkp 0 eσ163 (by decide))))
                  have I168 : jI91 σ163 := ⟨(by omega), (by omega)⟩
                  have I169 : jI92 σ163 := jI92_fr (jkp 2 eσ163 (by decide)) hI92
                  have I170 : jI12 σ163 := jI12_fr (congrFun (jnp 12 eσ163 (by decide)) 0) (jnp 13 eσ163 (by decide)) hI12
                  refine jcallVv (As := [.int 0, .int x164]) (rest := []) ⟨hx, hb, hml, hown, hts⟩ hK hP hA hS hZ (h_p0 σ163 τ x164 (A1 + 1) tx164 I165 I168 I169 I170 (by omega) (by omega)) cw_RX7_82 (jc_9 cI cL ad σ163 τ) rfl ⟨by dsimp only; omega, by dsimp only; omega⟩ rfl rfl rfl hl.1 rfl (Nat.le_of_ble_eq_true rfl) dX7_operand_160 ⟨Nat.zero_le _, Nat.zero_le _⟩ (fun σ171 τ171 H locs h171 hP hS => ?_)
                  obtain ⟨rfl, f173, f174, f175, I176, I177, I178, I179, h171⟩ := h171
                  obtain ⟨i180, w181, w182⟩ : (0 ≤ (σ171 9 0).toInt ∧ (σ171 9 0).toInt ≤ 80) ∧ (∀ k : Nat, k < 80 → 0 ≤ (σ171 10 k).toInt ∧ (σ171 10 k).toInt ≤ 255) ∧ (∀ k : Nat, k < 8 → 0 ≤ (σ171 11 k).toInt ∧ (σ171 11 k).toInt ≤ 3) := id I176
                  obtain ⟨i183, i184⟩ : (0 ≤ (σ171 9 1).toInt) ∧ ((σ171 9 1).toInt ≤ (σ171 9 0).toInt) := id I177
                  have i185 : (-1) ≤ (σ171 9 2).toInt := I178
                  have z186 : (σ171 9 0).toInt = (σ 9 0).toInt := (congrArg Int32.toInt (show σ171 9 0 = (σ 9 0) from ((f174 0 (by decide)).trans (jkp 0 eσ163 (by decide)))))
                  refine lv_aload_n hx hb dX7_operand_163 rfl (lv_at hl 1 rfl) ?_
                  refine lv_bipush (v := 41) hx hb dX7_operand_164 (by decide) ?_
                  refine jcallV (As := [.int 41]) (rest := []) ⟨hx, hb, hml, hown, hts⟩ hK hP hA hS hZ (c_X7_skip_9 l D cI cL ad zz hJ σ171 τ 41 (41) jz_41 I176 I177 I178 (by omega)) cw_RX7_50 (jc_9 cI cL ad σ171 τ) rfl ⟨by dsimp only; omega, by dsimp only; omega⟩ rfl rfl rfl hl.1 rfl (Nat.le_of_ble_eq_true rfl) dX7_operand_166 ⟨Nat.zero_le _, Nat.zero_le _⟩ (fun r188 σ187 τ187 H locs h187 hP hS => ?_)
                  obtain ⟨rfl, f189, f190, I191, I192, I193, h187⟩ := h187
                  obtain ⟨i194, w195, w196⟩ : (0 ≤ (σ187 9 0).toInt ∧ (σ187 9 0).toInt ≤ 80) ∧ (∀ k : Nat, k < 80 → 0 ≤ (σ187 10 k).toInt ∧ (σ187 10 k).toInt ≤ 255) ∧ (∀ k : Nat, k < 8 → 0 ≤ (σ187 11 k).toInt ∧ (σ187 11 k).toInt ≤ 3) := id I191
                  obtain ⟨i197, i198⟩ : (0 ≤ (σ187 9 1).toInt) ∧ ((σ187 9 1).toInt ≤ (σ187 9 0).toInt) := id I192
                  have i199 : (-1) ≤ (σ187 9 2).toInt := I193
                  have z200 : (σ187 9 0).toInt = (σ 9 0).toInt := (congrArg Int32.toInt (show σ187 9 0 = (σ 9 0) from ((f190 0 (by decide)).trans ((f174 0 (by decide)).trans (jkp 0 eσ163 (by decide))))))
                  have z201 : (σ187 9 2).toInt = (σ171 9 2).toInt := (congrArg Int32.toInt (show σ187 9 2 = (σ171 9 2) from (f190 2 (by decide))))
                  refine lv_if_ne (tgt := 191) hx hb dX7_operand_169 (by decide) (fun c202 => ?_) (fun c202 => ?_)
                  · have kc202 := jne c202 rfl jz_0
                    have I203 : jI12 σ187 := jI12_fr (congrFun (f189 12 (by decide)) 0) (f189 13 (by decide)) I179
                    exact hret σ187 τ _ _ _ _ ⟨rfl, (fun i hi => ((f189 i (imp_58 i hi)).trans ((f173 i hi).trans (jnp i eσ163 (imp_59 i hi))))), (fun i hi => ((f190 i (imp_60 i hi)).trans ((f174 i hi).trans (jkp i eσ163 (imp_39 i hi))))), (fun i hi => ((congrFun (f189 12 (by decide)) i).trans ((f175 i hi).trans (congrFun (jnp 12 eσ163 (by decide)) i)))), I191, I192, I193, I203, trivial⟩ hP hS dX7_operand_191
                  · have kc202 := jeq c202 rfl jz_0
                    refine lv_aload_n hx hb dX7_operand_172 rfl (lv_at hl 1 rfl) ?_
                    refine lv_aload_n hx hb dX7_operand_173 rfl (lv_at hl 1 rfl) ?_
                    refine va_get (D := D) hx hb hts inlX7 hown hK hP 9 (jc_9 cI cL ad σ187 τ) rfl 1 (by decide) (hts _ kw_13_17) (fun _ h9 => h9) rfl dX7_operand_174 ?_
                    refine jcallVv (As := [.int (σ187 9 1)]) (rest := []) ⟨hx, hb, hml, hown, hts⟩ hK hP hA hS hZ (c_X7_fail_9 l D cI cL ad zz hJ σ187 τ (σ187 9 1) ((σ187 9 1).toInt) rfl I193 (by omega)) cw_RX7_43 (jc_9 cI cL ad σ187 τ) rfl ⟨by dsimp only; omega, by dsimp only; omega⟩ rfl rfl rfl hl.1 rfl (Nat.le_of_ble_eq_true rfl) dX7_operand_177 ⟨Nat.zero_le _, Nat.zero_le _⟩ (fun σ204 τ204 H locs h204 hP hS => ?_)
                    obtain ⟨rfl, f206, f207, h204⟩ := h204
                    obtain ⟨k208, h204⟩ := h204
                    refine lv_goto (tgt := 191) hx hb dX7_operand_180 (by decide) ?_
                    have I209 : jI9 σ204 := jI9_fr (f207 0 (by decide)) (f206 10 (by decide)) (f206 11 (by decide)) I191
                    have I210 : jI91 σ204 := jI91_fr (f207 0 (by decide)) (f207 1 (by decide)) I192
                    have I211 : jI92 σ204 := (show (-1) ≤ (σ204 9 2).toInt by omega)
                    have I212 : jI12 σ204 := jI12_fr ((congrFun (f206 12 (by decide)) 0).trans (congrFun (f189 12 (by decide)) 0)) ((f206 13 (by decide)).trans (f189 13 (by decide))) I179
                    exact hret σ204 τ _ _ _ _ ⟨rfl, (fun i hi => ((f206 i (imp_58 i hi)).trans ((f189 i (imp_58 i hi)).trans ((f173 i hi).trans (jnp i eσ163 (imp_59 i hi)))))), (fun i hi => ((f207 i (imp_43 i hi)).trans ((f190 i (imp_60 i hi)).trans ((f174 i hi).trans (jkp i eσ163 (imp_39 i hi)))))), (fun i hi => ((congrFun (f206 12 (by decide)) i).trans ((congrFun (f189 12 (by decide)) i).trans ((f175 i hi).trans (congrFun (jnp 12 eσ163 (by decide)) i))))), I209, I210, I211, I212, trivial⟩ hP hS dX7_operand_191
              · have kc149 := jeq c149 rfl jz_45
                refine lv_aload_n hx hb dX7_operand_89 rfl (lv_at hl 1 rfl) ?_
                refine lv_dup hx hb dX7_operand_90 rfl ?_
                refine va_get (D := D) hx hb hts inlX7 hown hK hP 9 (jc_9 cI cL ad σ τ) rfl 1 (by decide) (hts _ kw_13_17) (fun _ h9 => h9) rfl dX7_operand_91 ?_
                refine lv_iconst (v := 1) hx hb dX7_operand_94 (by decide) ?_
                have g213 := jrg (rfl : (σ 9 1).toInt = (σ 9 1).toInt)
                refine lv_iadd hx hb dX7_operand_95 ?_
                refine lv_topi (fun x214 ex214 => ?_)
                have tx214 : x214.toInt = (σ 9 1).toInt + 1 := (jadd ex214 rfl jz_1 (by omega) (by omega)).trans (by omega)
                refine jput (ty := .int) hx hb hts inlX7 tyX7 tyX7_ok nmX7 hown hK hP hJ hA hS (jc_9 cI cL ad σ τ) rfl (k := 1) (by decide) (Nat.le_of_ble_eq_true rfl) (jp_9_1 cI cL ad σ τ x214) (hts _ kw_13_17) (fun _ h9 => h9) rfl (by decide +kernel) rfl rfl dX7_operand_96 (fun σ215 H locs eσ215 hP hS => ?_)
                refine lv_aload_n hx hb dX7_operand_99 rfl (lv_at hl 1 rfl) ?_
                refine lv_iload_n hx hb dX7_operand_100 rfl (lv_at hl 2 rfl) ?_
                refine lv_iconst (v := 1) hx hb dX7_operand_101 (by decide) ?_
                refine lv_iadd hx hb dX7_operand_102 ?_
                refine lv_topi (fun x216 ex216 => ?_)
                have tx216 : x216.toInt = A1 + 1 := (jadd ex216 t1 jz_1 (by omega) (by omega)).trans (by omega)
                have I217 : jI9 σ215 := jI9_fr (jkp 0 eσ215 (by decide)) (jnp 10 eσ215 (by decide)) (jnp 11 eσ215 (by decide)) hI9
                have z218 : (σ215 9 1).toInt = (σ 9 1).toInt + 1 := ((congrArg Int32.toInt (show σ215 9 1 = x214 from (jsp eσ215))).trans tx214)
                have z219 : (σ215 9 0).toInt = (σ 9 0).toInt := (congrArg Int32.toInt (show σ215 9 0 = (σ 9 0) from (jkp 0 eσ215 (by decide))))
                have I220 : jI91 σ215 := ⟨(by omega), (by omega)⟩
                have I221 : jI92 σ215 := jI92_fr (jkp 2 eσ215 (by decide)) hI92
                have I222 : jI12 σ215 := jI12_fr (congrFun (jnp 12 eσ215 (by decide)) 0) (jnp 13 eσ215 (by decide)) hI12
                refine jcallVv (As := [.int x216]) (rest := []) ⟨hx, hb, hml, hown, hts⟩ hK hP hA hS hZ (h_op σ215 τ x216 (A1 + 1) tx216 I217 I220 I221 I222 (by omega) (by omega)) cw_RX7_95 (jc_9 cI cL ad σ215 τ) rfl ⟨by dsimp only; omega, by dsimp only; omega⟩ rfl rfl rfl hl.1 rfl (Nat.le_of_ble_eq_true rfl) dX7_operand_103 ⟨Nat.zero_le _, Nat.zero_le _⟩ (fun σ223 τ223 H locs h223 hP hS => ?_)
                obtain ⟨rfl, f225, f226, f227, I228, I229, I230, I231, h223⟩ := h223
                obtain ⟨i232, w233, w234⟩ : (0 ≤ (σ223 9 0).toInt ∧ (σ223 9 0).toInt ≤ 80) ∧ (∀ k : Nat, k < 80 → 0 ≤ (σ223 10 k).toInt ∧ (σ223 10 k).toInt ≤ 255) ∧ (∀ k : Nat, k < 8 → 0 ≤ (σ223 11 k).toInt ∧ (σ223 11 k).toInt ≤ 3) := id I228
                obtain ⟨i235, i236⟩ : (0 ≤ (σ223 9 1).toInt) ∧ ((σ223 9 1).toInt ≤ (σ223 9 0).toInt) := id I229
                have i237 : (-1) ≤ (σ223 9 2).toInt := I230
                have z238 : (σ223 9 0).toInt = (σ 9 0).toInt := (congrArg Int32.toInt (show σ223 9 0 = (σ 9 0) from ((f226 0 (by decide)).trans (jkp 0 eσ215 (by decide)))))
                refine lv_aload_n hx hb dX7_operand_106 rfl (lv_at hl 1 rfl) ?_
                refine va_get (D := D) hx hb hts inlX7 hown hK hP 9 (jc_9 cI cL ad σ223 τ) rfl 5 (by decide) (hts _ kw_3_23) (fun _ h9 => h9) rfl dX7_operand_107 ?_
                refine lv_sipush (v := 20000) hx hb dX7_operand_110 (by decide) ?_
                refine lv_iload_n hx hb dX7_operand_113 rfl (lv_at hl 0 rfl) ?_
                refine lv_bipush (v := 33) hx hb dX7_operand_114 (by decide) ?_
                refine lv_icmp_ne (tgt := 124) hx hb dX7_operand_116 (by decide) (fun c239 => ?_) (fun c => absurd (jeq c rfl jz_33) (by omega))
                have kc239 := jne c239 rfl jz_33
                refine lv_bipush (v := 126) hx hb dX7_operand_124 (by decide) ?_
                refine lv_iadd hx hb dX7_operand_126 ?_
                refine jtopr (y := 20126) (by decide) ?_
                refine jcallVv (As := [.int 20126]) (rest := []) ⟨hx, hb, hml, hown, hts⟩ hK hP hA hS hZ (c_X10_add_12 l D cI cL ad zz hJ σ223 τ 20126 (20126) jz_20126 I231 (by omega)) cw_RX7_86 (jc_12 cI cL ad σ223 τ) rfl ⟨by dsimp only; omega, by dsimp only; omega⟩ rfl rfl rfl hl.1 rfl (Nat.le_of_ble_eq_true rfl) dX7_operand_127 ⟨Nat.zero_le _, Nat.zero_le _⟩ (fun σ240 τ240 H locs h240 hP hS => ?_)
                obtain ⟨rfl, f242, f243, I244, h240⟩ := h240
                refine lv_goto (tgt := 191) hx hb dX7_operand_130 (by decide) ?_
                have I245 : jI9 σ240 := jI9_fr (congrFun (f242 9 (by decide)) 0) (f242 10 (by decide)) (f242 11 (by decide)) I228
                have I246 : jI91 σ240 := jI91_fr (congrFun (f242 9 (by decide)) 0) (congrFun (f242 9 (by decide)) 1) I229
                have I247 : jI92 σ240 := jI92_fr (congrFun (f242 9 (by decide)) 2) I230
                exact hret σ240 τ _ _ _ _ ⟨rfl, (fun i hi => ((f242 i (imp_57 i hi)).trans ((f225 i hi).trans (jnp i eσ215 (imp_59 i hi))))), (fun i hi => ((congrFun (f242 9 (by decide)) i).trans ((f226 i hi).trans (jkp i eσ215 (imp_39 i hi))))), (fun i hi => ((f243 i hi).trans ((f227 i hi).trans (congrFun (jnp 12 eσ215 (by decide)) i)))), I245, I246, I247, I244, trivial⟩ hP hS dX7_operand_191
    · obtain ⟨q249, k248⟩ := h11
      have q249 := q249.symm
      subst q249
      refine lv_istore_n (lv' := [(2, .int (-1)), (0, .ref (ad 9)), (1, .int a1)]) hx hb dX7_operand_13 rfl hl (by decide) rfl (fun ls hl => ?_)
      refine lv_iload_n hx hb dX7_operand_14 rfl (lv_at hl 0 rfl) ?_
      refine jcallS (As := [.int (-1)]) (rest := []) ⟨hx, hb, hml, hown, hts⟩ hK hP hA hS hZ (c_X7_isDigit l D cI cL ad zz hJ σ τ (-1) ((-1)) jz_m1) cw_RX7_39 ⟨by dsimp only; omega, by dsimp only; omega⟩ rfl rfl rfl hl.1 rfl (Nat.le_of_ble_eq_true rfl) dX7_operand_15 ⟨Nat.zero_le _, Nat.zero_le _⟩ (fun r251 σ250 τ250 H locs h250 hP hS => ?_)
      obtain ⟨⟨rfl, rfl⟩, h250⟩ := h250
      rcases h250 with h252 | h253
      · obtain ⟨q255, k254⟩ := h252
        exact absurd (by omega : False) id
      · obtain ⟨q257, k256⟩ := h253
        have q257 := q257.symm
        subst q257
        refine lv_if_eq (tgt := 36) hx hb dX7_operand_18 (by decide) (fun _ => ?_) (fun c => absurd (by decide) c)
        refine lv_iload_n hx hb dX7_operand_36 rfl (lv_at hl 0 rfl) ?_
        refine jcallS (As := [.int (-1)]) (rest := []) ⟨hx, hb, hml, hown, hts⟩ hK hP hA hS hZ (c_X7_nameOf l D cI cL ad zz hJ σ τ (-1) ((-1)) jz_m1) cw_RX7_101 ⟨by dsimp only; omega, by dsimp only; omega⟩ rfl rfl rfl hl.1 rfl (Nat.le_of_ble_eq_true rfl) dX7_operand_37 ⟨Nat.zero_le _, Nat.zero_le _⟩ (fun r259 σ258 τ258 H locs h258 hP hS => ?_)
        obtain ⟨⟨rfl, rfl⟩, h258⟩ := h258
        rcases h258 with h260 | h261
        · obtain ⟨q264, k262, k263⟩ := h260
          exact absurd (by omega : False) id
        · obtain ⟨q266, k265⟩ := h261
          have q266 := q266.symm
          subst q266
          refine lv_if_lt (tgt := 71) hx hb dX7_operand_40 (by decide) (fun _ => ?_) (fun c => absurd (by decide) c)
          refine lv_iload_n hx hb dX7_operand_71 rfl (lv_at hl 2 rfl) ?_
          refine lv_bipush (v := 6) hx hb dX7_operand_72 (by decide) ?_
          refine lv_icmp_ge (tgt := 133) hx hb dX7_operand_74 (by decide) (fun c267 => ?_) (fun c267 => ?_)
          · have kc267 := jle c267 jz_6 t1
            refine lv_iload_n hx hb dX7_operand_133 rfl (lv_at hl 2 rfl) ?_
            refine lv_bipush (v := 6) hx hb dX7_operand_134 (by decide) ?_
            refine lv_icmp_ge (tgt := 183) hx hb dX7_operand_136 (by decide) (fun c268 => ?_) (fun c => absurd (jnle c jz_6 t1) (by omega))
            have kc268 := jle c268 jz_6 t1
            refine lv_aload_n hx hb dX7_operand_183 rfl (lv_at hl 1 rfl) ?_
            refine lv_aload_n hx hb dX7_operand_184 rfl (lv_at hl 1 rfl) ?_
            refine va_get (D := D) hx hb hts inlX7 hown hK hP 9 (jc_9 cI cL ad σ τ) rfl 1 (by decide) (hts _ kw_13_17) (fun _ h9 => h9) rfl dX7_operand_185 ?_
            refine jcallVv (As := [.int (σ 9 1)]) (rest := []) ⟨hx, hb, hml, hown, hts⟩ hK hP hA hS hZ (c_X7_fail_9 l D cI cL ad zz hJ σ τ (σ 9 1) ((σ 9 1).toInt) rfl hI92 (by omega)) cw_RX7_43 (jc_9 cI cL ad σ τ) rfl ⟨by dsimp only; omega, by dsimp only; omega⟩ rfl rfl rfl hl.1 rfl (Nat.le_of_ble_eq_true rfl) dX7_operand_188 ⟨Nat.zero_le _, Nat.zero_le _⟩ (fun σ269 τ269 H locs h269 hP hS => ?_)
            obtain ⟨rfl, f271, f272, h269⟩ := h269
            obtain ⟨k273, h269⟩ := h269
            have I274 : jI9 σ269 := jI9_fr (f272 0 (by decide)) (f271 10 (by decide)) (f271 11 (by decide)) hI9
            have I275 : jI91 σ269 := jI91_fr (f272 0 (by decide)) (f272 1 (by decide)) hI91
            have I276 : jI92 σ269 := (show (-1) ≤ (σ269 9 2).toInt by omega)
            have I277 : jI12 σ269 := jI12_fr (congrFun (f271 12 (by decide)) 0) (f271 13 (by decide)) hI12
            exact hret σ269 τ _ _ _ _ ⟨rfl, (fun i hi => (f271 i (imp_58 i hi))), (fun i hi => (f272 i (imp_43 i hi))), (fun i hi => (congrFun (f271 12 (by decide)) i)), I274, I275, I276, I277, trivial⟩ hP hS dX7_operand_191
          · have kc267 := jnle c267 jz_6 t1
            refine lv_iload_n hx hb dX7_operand_77 rfl (lv_at hl 0 rfl) ?_
            refine lv_bipush (v := 33) hx hb dX7_operand_78 (by decide) ?_
            refine lv_icmp_eq (tgt := 89) hx hb dX7_operand_80 (by decide) (fun c => absurd c (by decide)) (fun _ => ?_)
            refine lv_iload_n hx hb dX7_operand_83 rfl (lv_at hl 0 rfl) ?_
            refine lv_bipush (v := 45) hx hb dX7_operand_84 (by decide) ?_
            refine lv_icmp_ne (tgt := 133) hx hb dX7_operand_86 (by decide) (fun _ => ?_) (fun c => absurd c (by decide))
            refine lv_iload_n hx hb dX7_operand_133 rfl (lv_at hl 2 rfl) ?_
            refine lv_bipush (v := 6) hx hb dX7_operand_134 (by decide) ?_
            refine lv_icmp_ge (tgt := 183) hx hb dX7_operand_136 (by decide) (fun c => absurd (jle c jz_6 t1) (by omega)) (fun c278 => ?_)
            have kc278 := jnle c278 jz_6 t1
            refine lv_iload_n hx hb dX7_operand_139 rfl (lv_at hl 0 rfl) ?_
            refine lv_bipush (v := 40) hx hb dX7_operand_140 (by decide) ?_
            refine lv_icmp_ne (tgt := 183) hx hb dX7_operand_142 (by decide) (fun _ => ?_) (fun c => absurd c (by decide))
            refine lv_aload_n hx hb dX7_operand_183 rfl (lv_at hl 1 rfl) ?_
            refine lv_aload_n hx hb dX7_operand_184 rfl (lv_at hl 1 rfl) ?_
            refine va_get (D := D) hx hb hts inlX7 hown hK hP 9 (jc_9 cI cL ad σ τ) rfl 1 (by decide) (hts _ kw_13_17) (fun _ h9 => h9) rfl dX7_operand_185 ?_
            refine jcallVv (As := [.int (σ 9 1)]) (rest := []) ⟨hx, hb, hml, hown, hts⟩ hK hP hA hS hZ (c_X7_fail_9 l D cI cL ad zz hJ σ τ (σ 9 1) ((σ 9 1).toInt) rfl hI92 (by omega)) cw_RX7_43 (jc_9 cI cL ad σ τ) rfl ⟨by dsimp only; omega, by dsimp only; omega⟩ rfl rfl rfl hl.1 rfl (Nat.le_of_ble_eq_true rfl) dX7_operand_188 ⟨Nat.zero_le _, Nat.zero_le _⟩ (fun σ279 τ279 H locs h279 hP hS => ?_)
            obtain ⟨rfl, f281, f282, h279⟩ := h279
            obtain ⟨k283, h279⟩ := h279
            have I284 : jI9 σ279 := jI9_fr (f282 0 (by decide)) (f281 10 (by decide)) (f281 11 (by decide)) hI9
            have I285 : jI91 σ279 := jI91_fr (f282 0 (by decide)) (f282 1 (by decide)) hI91
            have I286 : jI92 σ279 := (show (-1) ≤ (σ279 9 2).toInt by omega)
            have I287 : jI12 σ279 := jI12_fr (congrFun (f281 12 (by decide)) 0) (f281 13 (by decide)) hI12
            exact hret σ279 τ _ _ _ _ ⟨rfl, (fun i hi => (f281 i (imp_58 i hi))), (fun i hi => (f282 i (imp_43 i hi))), (fun i hi => (congrFun (f281 12 (by decide)) i)), I284, I285, I286, I287, trivial⟩ hP hS dX7_operand_191
  · have kc7 := jne c7 rfl jz_m1
    exact hret σ τ _ _ _ _ ⟨rfl, (fun _ _ => rfl), (fun _ _ => rfl), (fun _ _ => rfl), hI9, hI91, hI92, hI12, trivial⟩ hP hS dX7_operand_8
set_option maxHeartbeats 4000000 in
set_option maxRecDepth 100000 in
theorem c_X7_grammar_op_z (l : Launch) (D : va_G) (cI cL : ClassId) (ad zz : Nat → Nat) (hJ : jD ad) (σ : Nat → Nat → Int32) (τ : Nat → Nat → Int64) (a1 : Int32) (A1 : Int) (t1 : a1.toInt = A1) (hI9 : jI9 σ) (hI91 : jI91 σ) (hI92 : jI92 σ) (hI12 : jI12 σ) (hp0 : 0 ≤ A1 ∧ A1 ≤ 6) (hp1 : -A1 + 6 ≤ (((0) : Nat) : Int)) : jMv l yX7_operand cX7_operand 3 none ({ frames := (10 + 8 * (0)), cells := 0, slots := 0, locals := (400 + 360 * (0)) }) D cI cL ad zz [.ref (ad 9), .int a1] σ τ (fun σ' τ' => τ = τ' ∧ (∀ i : Nat, (i < 9 ∨ 9 < i) ∧ (i < 12 ∨ 13 < i) → σ' i = σ i) ∧ (∀ k : Nat, (k < 1 ∨ 1 < k) ∧ (k < 2 ∨ 2 < k) → σ' 9 k = σ 9 k) ∧ (∀ k : Nat, (k < 0 ∨ 0 < k) ∧ (k < 1 ∨ 1 < k) → σ' 12 k = σ 12 k) ∧ (jI9 σ') ∧ (jI91 σ') ∧ (jI92 σ') ∧ (jI12 σ') ∧ True) := by
  refine jMv.of hJ (by decide +kernel) rfl (Nat.le_of_ble_eq_true rfl) ?_
  intro p e s m args below meth c Q ls hC hret hl hP
  obtain ⟨hx, hb, hr, hml, hown, hts, hK, -, hlocks, hZ⟩ := hC
  have hown : s.vm.findClass RX7 = some m.cls := hown
  have hS : va_S (jA ad) s.heap s.heap [] := va_S.rf
  have hA : ∀ q, jA ad q → jA ad q := fun _ h => h
  have hl : lv_has ls 3 [(0, .ref (ad 9)), (1, .int a1)] := hl
  have g1 := jrg t1
  obtain ⟨i1, w2, w3⟩ : (0 ≤ (σ 9 0).toInt ∧ (σ 9 0).toInt ≤ 80) ∧ (∀ k : Nat, k < 80 → 0 ≤ (σ 10 k).toInt ∧ (σ 10 k).toInt ≤ 255) ∧ (∀ k : Nat, k < 8 → 0 ≤ (σ 11 k).toInt ∧ (σ 11 k).toInt ≤ 3) := id hI9
  obtain ⟨i4, i5⟩ : (0 ≤ (σ 9 1).toInt) ∧ ((σ 9 1).toInt ≤ (σ 9 0).toInt) := id hI91
  have i6 : (-1) ≤ (σ 9 2).toInt := hI92
  refine lv_aload_n hx hb dX7_operand_0 rfl (lv_at hl 0 rfl) ?_
  refine va_get (D := D) hx hb hts inlX7 hown hK hP 9 (jc_9 cI cL ad σ τ) rfl 2 (by decide) (hts _ kw_14_6) (fun _ h9 => h9) rfl dX7_operand_1 ?_
  refine lv_iconst (v := (-1)) hx hb dX7_operand_4 (by decide) ?_
  refine lv_icmp_eq (tgt := 9) hx hb dX7_operand_5 (by decide) (fun c7 => ?_) (fun c7 => ?_)
  · have kc7 := jeq c7 rfl jz_m1
    refine lv_aload_n hx hb dX7_operand_9 rfl (lv_at hl 0 rfl) ?_
    refine jcallV (As := []) (rest := []) ⟨hx, hb, hml, hown, hts⟩ hK hP hA hS hZ (c_X7_sign_9 l D cI cL ad zz hJ σ τ hI9) cw_RX7_35 (jc_9 cI cL ad σ τ) rfl ⟨by dsimp only; omega, by dsimp only; omega⟩ rfl rfl rfl hl.1 rfl (Nat.le_of_ble_eq_true rfl) dX7_operand_10 ⟨Nat.zero_le _, Nat.zero_le _⟩ (fun r9 σ8 τ8 H locs h8 hP hS => ?_)
    obtain ⟨⟨rfl, rfl⟩, h8⟩ := h8
    rcases h8 with h10 | h11
    · obtain ⟨q14, k12, k13⟩ := h10
      have q15 : r9 = (σ 10 (σ 9 1).toNatClampNeg) := q14.trans rfl
      have q15 := q15.symm
      subst q15
      refine lv_istore_n (lv' := [(2, .int (σ 10 (σ 9 1).toNatClampNeg)), (0, .ref (ad 9)), (1, .int a1)]) hx hb dX7_operand_13 rfl hl (by decide) rfl (fun ls hl => ?_)
      refine lv_iload_n hx hb dX7_operand_14 rfl (lv_at hl 0 rfl) ?_
      refine jcallS (As := [.int (σ 10 (σ 9 1).toNatClampNeg)]) (rest := []) ⟨hx, hb, hml, hown, hts⟩ hK hP hA hS hZ (c_X7_isDigit l D cI cL ad zz hJ σ τ (σ 10 (σ 9 1).toNatClampNeg) ((σ 10 (σ 9 1).toNatClampNeg).toInt) rfl) cw_RX7_39 ⟨by dsimp only; omega, by dsimp only; omega⟩ rfl rfl rfl hl.1 rfl (Nat.le_of_ble_eq_true rfl) dX7_operand_15 ⟨Nat.zero_le _, Nat.zero_le _⟩ (fun r17 σ16 τ16 H locs h16 hP hS => ?_)
      obtain ⟨⟨rfl, rfl⟩, h16⟩ := h16
      rcases h16 with h18 | h19
      · obtain ⟨q21, k20⟩ := h18
        have q21 := q21.symm
        subst q21
        refine lv_if_eq (tgt := 36) hx hb dX7_operand_18 (by decide) (fun c => absurd c (by decide)) (fun _ => ?_)
        refine lv_aload_n hx hb dX7_operand_21 rfl (lv_at hl 1 rfl) ?_
        refine va_get (D := D) hx hb hts inlX7 hown hK hP 9 (jc_9 cI cL ad σ τ) rfl 5 (by decide) (hts _ kw_3_23) (fun _ h9 => h9) rfl dX7_operand_22 ?_
        refine lv_aload_n hx hb dX7_operand_25 rfl (lv_at hl 1 rfl) ?_
        refine lv_iconst (v := 4) hx hb dX7_operand_26 (by decide) ?_
        refine jcallV (As := [.int 4]) (rest := [.ref (ad 12)]) ⟨hx, hb, hml, hown, hts⟩ hK hP hA hS hZ (c_X7_number_4 l D cI cL ad zz hJ σ τ hI9 hI91 hI92) cw_RX7_53 (jc_9 cI cL ad σ τ) rfl ⟨by dsimp only; omega, by dsimp only; omega⟩ rfl rfl rfl hl.1 rfl (Nat.le_of_ble_eq_true rfl) dX7_operand_27 ⟨Nat.zero_le _, Nat.zero_le _⟩ (fun r23 σ22 τ22 H locs h22 hP hS => ?_)
        obtain ⟨rfl, f24, f25, I26, I27, I28, h22⟩ := h22
        obtain ⟨i29, w30, w31⟩ : (0 ≤ (σ22 9 0).toInt ∧ (σ22 9 0).toInt ≤ 80) ∧ (∀ k : Nat, k < 80 → 0 ≤ (σ22 10 k).toInt ∧ (σ22 10 k).toInt ≤ 255) ∧ (∀ k : Nat, k < 8 → 0 ≤ (σ22 11 k).toInt ∧ (σ22 11 k).toInt ≤ 3) := id I26
        obtain ⟨i32, i33⟩ : (0 ≤ (σ22 9 1).toInt) ∧ ((σ22 9 1).toInt ≤ (σ22 9 0).toInt) := id I27
        have i34 : (-1) ≤ (σ22 9 2).toInt := I28
        have z35 : (σ22 9 0).toInt = (σ 9 0).toInt := (congrArg Int32.toInt (show σ22 9 0 = (σ 9 0) from (f25 0 (by decide))))
        obtain ⟨k36, h22⟩ := h22
        have h37 := h22
        obtain ⟨q39, k38⟩ := h37
        have I40 : jI12 σ22 := jI12_fr (congrFun (f24 12 (by decide)) 0) (f24 13 (by decide)) hI12
        refine jcallVv (As := [.int r23]) (rest := []) ⟨hx, hb, hml, hown, hts⟩ hK hP hA hS hZ (c_X10_add_12 l D cI cL ad zz hJ σ22 τ r23 (r23.toInt) rfl I40 (by omega)) cw_RX7_86 (jc_12 cI cL ad σ22 τ) rfl ⟨by dsimp only; omega, by dsimp only; omega⟩ rfl rfl rfl hl.1 rfl (Nat.le_of_ble_eq_true rfl) dX7_operand_30 ⟨Nat.zero_le _, Nat.zero_le _⟩ (fun σ41 τ41 H locs h41 hP hS => ?_)
        obtain ⟨rfl, f43, f44, I45, h41⟩ := h41
        refine lv_goto (tgt := 191) hx hb dX7_operand_33 (by decide) ?_
        have I46 : jI9 σ41 := jI9_fr (congrFun (f43 9 (by decide)) 0) (f43 10 (by decide)) (f43 11 (by decide)) I26
        have I47 : jI91 σ41 := jI91_fr (congrFun (f43 9 (by decide)) 0) (congrFun (f43 9 (by decide)) 1) I27
        have I48 : jI92 σ41 := jI92_fr (congrFun (f43 9 (by decide)) 2) I28
        exact hret σ41 τ _ _ _ _ ⟨rfl, (fun i hi => ((f43 i (imp_57 i hi)).trans (f24 i (imp_58 i hi)))), (fun i hi => ((congrFun (f43 9 (by decide)) i).trans (f25 i hi))), (fun i hi => ((f44 i hi).trans (congrFun (f24 12 (by decide)) i))), I46, I47, I48, I45, trivial⟩ hP hS dX7_operand_191
      · obtain ⟨q50, k49⟩ := h19
        have q50 := q50.symm
        subst q50
        refine lv_if_eq (tgt := 36) hx hb dX7_operand_18 (by decide) (fun _ => ?_) (fun c => absurd (by decide) c)
        refine lv_iload_n hx hb dX7_operand_36 rfl (lv_at hl 0 rfl) ?_
        refine jcallS (As := [.int (σ 10 (σ 9 1).toNatClampNeg)]) (rest := []) ⟨hx, hb, hml, hown, hts⟩ hK hP hA hS hZ (c_X7_nameOf l D cI cL ad zz hJ σ τ (σ 10 (σ 9 1).toNatClampNeg) ((σ 10 (σ 9 1).toNatClampNeg).toInt) rfl) cw_RX7_101 ⟨by dsimp only; omega, by dsimp only; omega⟩ rfl rfl rfl hl.1 rfl (Nat.le_of_ble_eq_true rfl) dX7_operand_37 ⟨Nat.zero_le _, Nat.zero_le _⟩ (fun r52 σ51 τ51 H locs h51 hP hS => ?_)
        obtain ⟨⟨rfl, rfl⟩, h51⟩ := h51
        rcases h51 with h53 | h54
        · obtain ⟨q57, k55, k56⟩ := h53
          refine lv_if_lt (tgt := 71) hx hb dX7_operand_40 (by decide) (fun c => absurd (jlt c rfl jz_0) (by omega)) (fun c58 => ?_)
          have kc58 := jnlt c58 rfl jz_0
          refine lv_aload_n hx hb dX7_operand_43 rfl (lv_at hl 1 rfl) ?_
          refine va_get (D := D) hx hb hts inlX7 hown hK hP 9 (jc_9 cI cL ad σ τ) rfl 5 (by decide) (hts _ kw_3_23) (fun _ h9 => h9) rfl dX7_operand_44 ?_
          refine lv_sipush (v := 10000) hx hb dX7_operand_47 (by decide) ?_
          refine lv_iload_n hx hb dX7_operand_50 rfl (lv_at hl 0 rfl) ?_
          refine jcallS (As := [.int (σ 10 (σ 9 1).toNatClampNeg)]) (rest := [.int 10000, .ref (ad 12)]) ⟨hx, hb, hml, hown, hts⟩ hK hP hA hS hZ (c_X7_nameOf l D cI cL ad zz hJ σ τ (σ 10 (σ 9 1).toNatClampNeg) ((σ 10 (σ 9 1).toNatClampNeg).toInt) rfl) cw_RX7_101 ⟨by dsimp only; omega, by dsimp only; omega⟩ rfl rfl rfl hl.1 rfl (Nat.le_of_ble_eq_true rfl) dX7_operand_51 ⟨Nat.zero_le _, Nat.zero_le _⟩ (fun r60 σ59 τ59 H locs h59 hP hS => ?_)
          obtain ⟨⟨rfl, rfl⟩, h59⟩ := h59
          rcases h59 with h61 | h62
          · obtain ⟨q65, k63, k64⟩ := h61
            have g66 := jrg (rfl : r60.toInt = r60.toInt)
            refine lv_iadd hx hb dX7_operand_54 ?_
            refine lv_topi (fun x67 ex67 => ?_)
            have tx67 : x67.toInt = r60.toInt + 10000 := (jadd ex67 jz_10000 rfl (by omega) (by omega)).trans (by omega)
            refine jcallVv (As := [.int x67]) (rest := []) ⟨hx, hb, hml, hown, hts⟩ hK hP hA hS hZ (c_X10_add_12 l D cI cL ad zz hJ σ τ x67 (r60.toInt + 10000) tx67 hI12 (by omega)) cw_RX7_86 (jc_12 cI cL ad σ τ) rfl ⟨by dsimp only; omega, by dsimp only; omega⟩ rfl rfl rfl hl.1 rfl (Nat.le_of_ble_eq_true rfl) dX7_operand_55 ⟨Nat.zero_le _, Nat.zero_le _⟩ (fun σ68 τ68 H locs h68 hP hS => ?_)
            obtain ⟨rfl, f70, f71, I72, h68⟩ := h68
            refine lv_aload_n hx hb dX7_operand_58 rfl (lv_at hl 1 rfl) ?_
            refine lv_dup hx hb dX7_operand_59 rfl ?_
            refine va_get (D := D) hx hb hts inlX7 hown hK hP 9 (jc_9 cI cL ad σ68 τ) rfl 1 (by decide) (hts _ kw_13_17) (fun _ h9 => h9) rfl dX7_operand_60 ?_
            have m73 : σ68 9 1 = (σ 9 1) := (congrFun (f70 9 (by decide)) 1)
            refine jtopr m73 ?_
            refine lv_iconst (v := 1) hx hb dX7_operand_63 (by decide) ?_
            have g74 := jrg (rfl : (σ 9 1).toInt = (σ 9 1).toInt)
            refine lv_iadd hx hb dX7_operand_64 ?_
            refine lv_topi (fun x75 ex75 => ?_)
            have tx75 : x75.toInt = (σ 9 1).toInt + 1 := (jadd ex75 rfl jz_1 (by omega) (by omega)).trans (by omega)
            refine jput (ty := .int) hx hb hts inlX7 tyX7 tyX7_ok nmX7 hown hK hP hJ hA hS (jc_9 cI cL ad σ68 τ) rfl (k := 1) (by decide) (Nat.le_of_ble_eq_true rfl) (jp_9_1 cI cL ad σ68 τ x75) (hts _ kw_13_17) (fun _ h9 => h9) rfl (by decide +kernel) rfl rfl dX7_operand_65 (fun σ76 H locs eσ76 hP hS => ?_)
            refine lv_goto (tgt := 191) hx hb dX7_operand_68 (by decide) ?_
            have I77 : jI9 σ76 := jI9_fr ((jkp 0 eσ76 (by decide)).trans (congrFun (f70 9 (by decide)) 0)) ((jnp 10 eσ76 (by decide)).trans (f70 10 (by decide))) ((jnp 11 eσ76 (by decide)).trans (f70 11 (by decide))) hI9
            have z78 : (σ76 9 1).toInt = (σ 9 1).toInt + 1 := ((congrArg Int32.toInt (show σ76 9 1 = x75 from (jsp eσ76))).trans tx75)
            have z79 : (σ76 9 0).toInt = (σ 9 0).toInt := (congrArg Int32.toInt (show σ76 9 0 = (σ 9 0) from ((jkp 0 eσ76 (by decide)).trans (congrFun (f70 9 (by decide)) 0))))
            have I80 : jI91 σ76 := ⟨(by omega), (by omega)⟩
            have I81 : jI92 σ76 := jI92_fr ((jkp 2 eσ76 (by decide)).trans (congrFun (f70 9 (by decide)) 2)) hI92
            have I82 : jI12 σ76 := jI12_fr (congrFun (jnp 12 eσ76 (by decide)) 0) (jnp 13 eσ76 (by decide)) I72
            exact hret σ76 τ _ _ _ _ ⟨rfl, (fun i hi => ((jnp i eσ76 (imp_59 i hi)).trans (f70 i (imp_57 i hi)))), (fun i hi => ((jkp i eσ76 (imp_39 i hi)).trans (congrFun (f70 9 (by decide)) i))), (fun i hi => ((congrFun (jnp 12 eσ76 (by decide)) i).trans (f71 i hi))), I77, I80, I81, I82, trivial⟩ hP hS dX7_operand_191
          · obtain ⟨q84, k83⟩ := h62
            have q84 := q84.symm
            subst q84
            refine lv_iadd hx hb dX7_operand_54 ?_
            refine jtopr (y := 9999) (by decide) ?_
            refine jcallVv (As := [.int 9999]) (rest := []) ⟨hx, hb, hml, hown, hts⟩ hK hP hA hS hZ (c_X10_add_12 l D cI cL ad zz hJ σ τ 9999 (9999) jz_9999 hI12 (by omega)) cw_RX7_86 (jc_12 cI cL ad σ τ) rfl ⟨by dsimp only; omega, by dsimp only; omega⟩ rfl rfl rfl hl.1 rfl (Nat.le_of_ble_eq_true rfl) dX7_operand_55 ⟨Nat.zero_le _, Nat.zero_le _⟩ (fun σ85 τ85 H locs h85 hP hS => ?_)
            obtain ⟨rfl, f87, f88, I89, h85⟩ := h85
            refine lv_aload_n hx hb dX7_operand_58 rfl (lv_at hl 1 rfl) ?_
            refine lv_dup hx hb dX7_operand_59 rfl ?_
            refine va_get (D := D) hx hb hts inlX7 hown hK hP 9 (jc_9 cI cL ad σ85 τ) rfl 1 (by decide) (hts _ kw_13_17) (fun _ h9 => h9) rfl dX7_operand_60 ?_
            have m90 : σ85 9 1 = (σ 9 1) := (congrFun (f87 9 (by decide)) 1)
            refine jtopr m90 ?_
            refine lv_iconst (v := 1) hx hb dX7_operand_63 (by decide) ?_
            have g91 := jrg (rfl : (σ 9 1).toInt = (σ 9 1).toInt)
            refine lv_iadd hx hb dX7_operand_64 ?_
            refine lv_topi (fun x92 ex92 => ?_)
            have tx92 : x92.toInt = (σ 9 1).toInt + 1 := (jadd ex92 rfl jz_1 (by omega) (by omega)).trans (by omega)
            refine jput (ty := .int) hx hb hts inlX7 tyX7 tyX7_ok nmX7 hown hK hP hJ hA hS (jc_9 cI cL ad σ85 τ) rfl (k := 1) (by decide) (Nat.le_of_ble_eq_true rfl) (jp_9_1 cI cL ad σ85 τ x92) (hts _ kw_13_17) (fun _ h9 => h9) rfl (by decide +kernel) rfl rfl dX7_operand_65 (fun σ93 H locs eσ93 hP hS => ?_)
            refine lv_goto (tgt := 191) hx hb dX7_operand_68 (by decide) ?_
            have I94 : jI9 σ93 := jI9_fr ((jkp 0 eσ93 (by decide)).trans (congrFun (f87 9 (by decide)) 0)) ((jnp 10 eσ93 (by decide)).trans (f87 10 (by decide))) ((jnp 11 eσ93 (by decide)).trans (f87 11 (by decide))) hI9
            have z95 : (σ93 9 1).toInt = (σ 9 1).toInt + 1 := ((congrArg Int32.toInt (show σ93 9 1 = x92 from (jsp eσ93))).trans tx92)
            have z96 : (σ93 9 0).toInt = (σ 9 0).toInt := (congrArg Int32.toInt (show σ93 9 0 = (σ 9 0) from ((jkp 0 eσ93 (by decide)).trans (congrFun (f87 9 (by decide)) 0))))
            have I97 : jI91 σ93 := ⟨(by omega), (by omega)⟩
            have I98 : jI92 σ93 := jI92_fr ((jkp 2 eσ93 (by decide)).trans (congrFun (f87 9 (by decide)) 2)) hI92
            have I99 : jI12 σ93 := jI12_fr (congrFun (jnp 12 eσ93 (by decide)) 0) (jnp 13 eσ93 (by decide)) I89
            exact hret σ93 τ _ _ _ _ ⟨rfl, (fun i hi => ((jnp i eσ93 (imp_59 i hi)).trans (f87 i (imp_57 i hi)))), (fun i hi => ((jkp i eσ93 (imp_39 i hi)).trans (congrFun (f87 9 (by decide)) i))), (fun i hi => ((congrFun (jnp 12 eσ93 (by decide)) i).trans (f88 i hi))), I94, I97, I98, I99, trivial⟩ hP hS dX7_operand_191
        · obtain ⟨q101, k100⟩ := h54
          have q101 := q101.symm
          subst q101
          refine lv_if_lt (tgt := 71) hx hb dX7_operand_40 (by decide) (fun _ => ?_) (fun c => absurd (by decide) c)
          refine lv_iload_n hx hb dX7_operand_71 rfl (lv_at hl 2 rfl) ?_
          refine lv_bipush (v := 6) hx hb dX7_operand_72 (by decide) ?_
          refine lv_icmp_ge (tgt := 133) hx hb dX7_operand_74 (by decide) (fun c102 => ?_) (fun c => absurd (jnle c jz_6 t1) (by omega))
          have kc102 := jle c102 jz_6 t1
          refine lv_iload_n hx hb dX7_operand_133 rfl (lv_at hl 2 rfl) ?_
          refine lv_bipush (v := 6) hx hb dX7_operand_134 (by decide) ?_
          refine lv_icmp_ge (tgt := 183) hx hb dX7_operand_136 (by decide) (fun c103 => ?_) (fun c => absurd (jnle c jz_6 t1) (by omega))
          have kc103 := jle c103 jz_6 t1
          refine lv_aload_n hx hb dX7_operand_183 rfl (lv_at hl 1 rfl) ?_
          refine lv_aload_n hx hb dX7_operand_184 rfl (lv_at hl 1 rfl) ?_
          refine va_get (D := D) hx hb hts inlX7 hown hK hP 9 (jc_9 cI cL ad σ τ) rfl 1 (by decide) (hts _ kw_13_17) (fun _ h9 => h9) rfl dX7_operand_185 ?_
          refine jcallVv (As := [.int (σ 9 1)]) (rest := []) ⟨hx, hb, hml, hown, hts⟩ hK hP hA hS hZ (c_X7_fail_9 l D cI cL ad zz hJ σ τ (σ 9 1) ((σ 9 1).toInt) rfl hI92 (by omega)) cw_RX7_43 (jc_9 cI cL ad σ τ) rfl ⟨by dsimp only; omega, by dsimp only; omega⟩ rfl rfl rfl hl.1 rfl (Nat.le_of_ble_eq_true rfl) dX7_operand_188 ⟨Nat.zero_le _, Nat.zero_le _⟩ (fun σ104 τ104 H locs h104 hP hS => ?_)
          obtain ⟨rfl, f106, f107, h104⟩ := h104
          obtain ⟨k108, h104⟩ := h104
          have I109 : jI9 σ104 := jI9_fr (f107 0 (by decide)) (f106 10 (by decide)) (f106 11 (by decide)) hI9
          have I110 : jI91 σ104 := jI91_fr (f107 0 (by decide)) (f107 1 (by decide)) hI91
          have I111 : jI92 σ104 := (show (-1) ≤ (σ104 9 2).toInt by omega)
          have I112 : jI12 σ104 := jI12_fr (congrFun (f106 12 (by decide)) 0) (f106 13 (by decide)) hI12
          exact hret σ104 τ _ _ _ _ ⟨rfl, (fun i hi => (f106 i (imp_58 i hi))), (fun i hi => (f107 i (imp_43 i hi))), (fun i hi => (congrFun (f106 12 (by decide)) i)), I109, I110, I111, I112, trivial⟩ hP hS dX7_operand_191
    · obtain ⟨q114, k113⟩ := h11
      have q114 := q114.symm
      subst q114
      refine lv_istore_n (lv' := [(2, .int (-1)), (0, .ref (ad 9)), (1, .int a1)]) hx hb dX7_operand_13 rfl hl (by decide) rfl (fun ls hl => ?_)
      refine lv_iload_n hx hb dX7_operand_14 rfl (lv_at hl 0 rfl) ?_
      refine jcallS (As := [.int (-1)]) (rest := []) ⟨hx, hb, hml, hown, hts⟩ hK hP hA hS hZ (c_X7_isDigit l D cI cL ad zz hJ σ τ (-1) ((-1)) jz_m1) cw_RX7_39 ⟨by dsimp only; omega, by dsimp only; omega⟩ rfl rfl rfl hl.1 rfl (Nat.le_of_ble_eq_true rfl) dX7_operand_15 ⟨Nat.zero_le _, Nat.zero_le _⟩ (fun r116 σ115 τ115 H locs h115 hP hS => ?_)
      obtain ⟨⟨rfl, rfl⟩, h115⟩ := h115
      rcases h115 with h117 | h118
      · obtain ⟨q120, k119⟩ := h117
        exact absurd (by omega : False) id
      · obtain ⟨q122, k121⟩ := h118
        have q122 := q122.symm
        subst q122
        refine lv_if_eq (tgt := 36) hx hb dX7_operand_18 (by decide) (fun _ => ?_) (fun c => absurd (by decide) c)
        refine lv_iload_n hx hb dX7_operand_36 rfl (lv_at hl 0 rfl) ?_
        refine jcallS (As := [.int (-1)]) (rest := []) ⟨hx, hb, hml, hown, hts⟩ hK hP hA hS hZ (c_X7_nameOf l D cI cL ad zz hJ σ τ (-1) ((-1)) jz_m1) cw_RX7_101 ⟨by dsimp only; omega, by dsimp only; omega⟩ rfl rfl rfl hl.1 rfl (Nat.le_of_ble_eq_true rfl) dX7_operand_37 ⟨Nat.zero_le _, Nat.zero_le _⟩ (fun r124 σ123 τ123 H locs h123 hP hS => ?_)
        obtain ⟨⟨rfl, rfl⟩, h123⟩ := h123
        rcases h123 with h125 | h126
        · obtain ⟨q129, k127, k128⟩ := h125
          exact absurd (by omega : False) id
        · obtain ⟨q131, k130⟩ := h126
          have q131 := q131.symm
          subst q131
          refine lv_if_lt (tgt := 71) hx hb dX7_operand_40 (by decide) (fun _ => ?_) (fun c => absurd (by decide) c)
          refine lv_iload_n hx hb dX7_operand_71 rfl (lv_at hl 2 rfl) ?_
          refine lv_bipush (v := 6) hx hb dX7_operand_72 (by decide) ?_
          refine lv_icmp_ge (tgt := 133) hx hb dX7_operand_74 (by decide) (fun c132 => ?_) (fun c => absurd (jnle c jz_6 t1) (by omega))
          have kc132 := jle c132 jz_6 t1
          refine lv_iload_n hx hb dX7_operand_133 rfl (lv_at hl 2 rfl) ?_
          refine lv_bipush (v := 6) hx hb dX7_operand_134 (by decide) ?_
          refine lv_icmp_ge (tgt := 183) hx hb dX7_operand_136 (by decide) (fun c133 => ?_) (fun c => absurd (jnle c jz_6 t1) (by omega))
          have kc133 := jle c133 jz_6 t1
          refine lv_aload_n hx hb dX7_operand_183 rfl (lv_at hl 1 rfl) ?_
          refine lv_aload_n hx hb dX7_operand_184 rfl (lv_at hl 1 rfl) ?_
          refine va_get (D := D) hx hb hts inlX7 hown hK hP 9 (jc_9 cI cL ad σ τ) rfl 1 (by decide) (hts _ kw_13_17) (fun _ h9 => h9) rfl dX7_operand_185 ?_
          refine jcallVv (As := [.int (σ 9 1)]) (rest := []) ⟨hx, hb, hml, hown, hts⟩ hK hP hA hS hZ (c_X7_fail_9 l D cI cL ad zz hJ σ τ (σ 9 1) ((σ 9 1).toInt) rfl hI92 (by omega)) cw_RX7_43 (jc_9 cI cL ad σ τ) rfl ⟨by dsimp only; omega, by dsimp only; omega⟩ rfl rfl rfl hl.1 rfl (Nat.le_of_ble_eq_true rfl) dX7_operand_188 ⟨Nat.zero_le _, Nat.zero_le _⟩ (fun σ134 τ134 H locs h134 hP hS => ?_)
          obtain ⟨rfl, f136, f137, h134⟩ := h134
          obtain ⟨k138, h134⟩ := h134
          have I139 : jI9 σ134 := jI9_fr (f137 0 (by decide)) (f136 10 (by decide)) (f136 11 (by decide)) hI9
          have I140 : jI91 σ134 := jI91_fr (f137 0 (by decide)) (f137 1 (by decide)) hI91
          have I141 : jI92 σ134 := (show (-1) ≤ (σ134 9 2).toInt by omega)
          have I142 : jI12 σ134 := jI12_fr (congrFun (f136 12 (by decide)) 0) (f136 13 (by decide)) hI12
          exact hret σ134 τ _ _ _ _ ⟨rfl, (fun i hi => (f136 i (imp_58 i hi))), (fun i hi => (f137 i (imp_43 i hi))), (fun i hi => (congrFun (f136 12 (by decide)) i)), I139, I140, I141, I142, trivial⟩ hP hS dX7_operand_191
  · have kc7 := jne c7 rfl jz_m1
    exact hret σ τ _ _ _ _ ⟨rfl, (fun _ _ => rfl), (fun _ _ => rfl), (fun _ _ => rfl), hI9, hI91, hI92, hI12, trivial⟩ hP hS dX7_operand_8
set_option maxHeartbeats 4000000 in
set_option maxRecDepth 100000 in
theorem c_X7_grammar_p5_g (l : Launch) (D : va_G) (cI cL : ClassId) (ad zz : Nat → Nat) (hJ : jD ad) (n : Nat) (h_op : ∀ (σ : Nat → Nat → Int32) (τ : Nat → Nat → Int64) (a1 : Int32) (A1 : Int) (t1 : a1.toInt = A1) (hI9 : jI9 σ) (hI91 : jI91 σ) (hI92 : jI92 σ) (hI12 : jI12 σ) (hp0 : 0 ≤ A1 ∧ A1 ≤ 6) (hp1 : -A1 + 6 ≤ (((n) : Nat) : Int)), jMv l yX7_operand cX7_operand 3 none ({ frames := (10 + 8 * (n)), cells := 0, slots := 0, locals := (400 + 360 * (n)) }) D cI cL ad zz [.ref (ad 9), .int a1] σ τ (fun σ' τ' => τ = τ' ∧ (∀ i : Nat, (i < 9 ∨ 9 < i) ∧ (i < 12 ∨ 13 < i) → σ' i = σ i) ∧ (∀ k : Nat, (k < 1 ∨ 1 < k) ∧ (k < 2 ∨ 2 < k) → σ' 9 k = σ 9 k) ∧ (∀ k : Nat, (k < 0 ∨ 0 < k) ∧ (k < 1 ∨ 1 < k) → σ' 12 k = σ 12 k) ∧ (jI9 σ') ∧ (jI91 σ') ∧ (jI92 σ') ∧ (jI12 σ') ∧ True)) (σ : Nat → Nat → Int32) (τ : Nat → Nat → Int64) (a2 : Int32) (A2 : Int) (t2 : a2.toInt = A2) (hI9 : jI9 σ) (hI91 : jI91 σ) (hI92 : jI92 σ) (hI12 : jI12 σ) (hp0 : 0 ≤ A2 ∧ A2 ≤ 6) (hp1 : -A2 + 6 ≤ (((n) : Nat) : Int)) : jMv l yX7_part cX7_part 5 none ({ frames := (11 + 8 * (n)), cells := 0, slots := 0, locals := (440 + 360 * (n)) }) D cI cL ad zz [.ref (ad 9), .int 5, .int a2] σ τ (fun σ' τ' => τ = τ' ∧ (∀ i : Nat, (i < 9 ∨ 9 < i) ∧ (i < 12 ∨ 13 < i) → σ' i = σ i) ∧ (∀ k : Nat, (k < 1 ∨ 1 < k) ∧ (k < 2 ∨ 2 < k) → σ' 9 k = σ 9 k) ∧ (∀ k : Nat, (k < 0 ∨ 0 < k) ∧ (k < 1 ∨ 1 < k) → σ' 12 k = σ 12 k) ∧ (jI9 σ') ∧ (jI91 σ') ∧ (jI92 σ') ∧ (jI12 σ') ∧ True) := by
  refine jMv.of hJ (by decide +kernel) rfl (Nat.le_of_ble_eq_true rfl) ?_
  intro p e s m args below meth c Q ls hC hret hl hP
  obtain ⟨hx, hb, hr, hml, hown, hts, hK, -, hlocks, hZ⟩ := hC
  have hown : s.vm.findClass RX7 = some m.cls := hown
  have hS : va_S (jA ad) s.heap s.heap [] := va_S.rf
  have hA : ∀ q, jA ad q → jA ad q := fun _ h => h
  have hl : lv_has ls 5 [(0, .ref (ad 9)), (1, .int 5), (2, .int a2)] := hl
  have g2 := jrg t2
  obtain ⟨i1, w2, w3⟩ : (0 ≤ (σ 9 0).toInt ∧ (σ 9 0).toInt ≤ 80) ∧ (∀ k : Nat, k < 80 → 0 ≤ (σ 10 k).toInt ∧ (σ 10 k).toInt ≤ 255) ∧ (∀ k : Nat, k < 8 → 0 ≤ (σ 11 k).toInt ∧ (σ 11 k).toInt ≤ 3) := id hI9
  obtain ⟨i4, i5⟩ : (0 ≤ (σ 9 1).toInt) ∧ ((σ 9 1).toInt ≤ (σ 9 0).toInt) := id hI91
  have i6 : (-1) ≤ (σ 9 2).toInt := hI92
  refine lv_iload_n hx hb dX7_part_0 rfl (lv_at hl 1 rfl) ?_
  refine lv_iconst (v := 5) hx hb dX7_part_1 (by decide) ?_
  refine lv_icmp_lt (tgt := 11) hx hb dX7_part_2 (by decide) (fun c => absurd c (by decide)) (fun _ => ?_)
  refine lv_aload_n hx hb dX7_part_5 rfl (lv_at hl 0 rfl) ?_
  refine lv_iload_n hx hb dX7_part_6 rfl (lv_at hl 2 rfl) ?_
  refine jcallVv (As := [.int a2]) (rest := []) ⟨hx, hb, hml, hown, hts⟩ hK hP hA hS hZ (h_op σ τ a2 (A2) t2 hI9 hI91 hI92 hI12 (by omega) (by omega)) cw_RX7_95 (jc_9 cI cL ad σ τ) rfl ⟨by dsimp only; omega, by dsimp only; omega⟩ rfl rfl rfl hl.1 rfl (Nat.le_of_ble_eq_true rfl) dX7_part_7 ⟨Nat.zero_le _, Nat.zero_le _⟩ (fun σ7 τ7 H locs h7 hP hS => ?_)
  obtain ⟨rfl, f9, f10, f11, I12, I13, I14, I15, h7⟩ := h7
  obtain ⟨i16, w17, w18⟩ : (0 ≤ (σ7 9 0).toInt ∧ (σ7 9 0).toInt ≤ 80) ∧ (∀ k : Nat, k < 80 → 0 ≤ (σ7 10 k).toInt ∧ (σ7 10 k).toInt ≤ 255) ∧ (∀ k : Nat, k < 8 → 0 ≤ (σ7 11 k).toInt ∧ (σ7 11 k).toInt ≤ 3) := id I12
  obtain ⟨i19, i20⟩ : (0 ≤ (σ7 9 1).toInt) ∧ ((σ7 9 1).toInt ≤ (σ7 9 0).toInt) := id I13
  have i21 : (-1) ≤ (σ7 9 2).toInt := I14
  have z22 : (σ7 9 0).toInt = (σ 9 0).toInt := (congrArg Int32.toInt (show σ7 9 0 = (σ 9 0) from (f10 0 (by decide))))
  exact hret σ7 τ _ _ _ _ ⟨rfl, (fun i hi => (f9 i hi)), (fun i hi => (f10 i hi)), (fun i hi => (f11 i hi)), I12, I13, I14, I15, trivial⟩ hP hS dX7_part_10
set_option maxHeartbeats 4000000 in
set_option maxRecDepth 100000 in
theorem c_X7_grammar_p4_g (l : Launch) (D : va_G) (cI cL : ClassId) (ad zz : Nat → Nat) (hJ : jD ad) (n : Nat) (h_p5 : ∀ (σ : Nat → Nat → Int32) (τ : Nat → Nat → Int64) (a2 : Int32) (A2 : Int) (t2 : a2.toInt = A2) (hI9 : jI9 σ) (hI91 : jI91 σ) (hI92 : jI92 σ) (hI12 : jI12 σ) (hp0 : 0 ≤ A2 ∧ A2 ≤ 6) (hp1 : -A2 + 6 ≤ (((n) : Nat) : Int)), jMv l yX7_part cX7_part 5 none ({ frames := (11 + 8 * (n)), cells := 0, slots := 0, locals := (440 + 360 * (n)) }) D cI cL ad zz [.ref (ad 9), .int 5, .int a2] σ τ (fun σ' τ' => τ = τ' ∧ (∀ i : Nat, (i < 9 ∨ 9 < i) ∧ (i < 12 ∨ 13 < i) → σ' i = σ i) ∧ (∀ k : Nat, (k < 1 ∨ 1 < k) ∧ (k < 2 ∨ 2 < k) → σ' 9 k = σ 9 k) ∧ (∀ k : Nat, (k < 0 ∨ 0 < k) ∧ (k < 1 ∨ 1 < k) → σ' 12 k = σ 12 k) ∧ (jI9 σ') ∧ (jI91 σ') ∧ (jI92 σ') ∧ (jI12 σ') ∧ True)) (σ : Nat → Nat → Int32) (τ : Nat → Nat → Int64) (a2 : Int32) (A2 : Int) (t2 : a2.toInt = A2) (hI9 : jI9 σ) (hI91 : jI91 σ) (hI92 : jI92 σ) (hI12 : jI12 σ) (hp0 : 0 ≤ A2 ∧ A2 ≤ 6) (hp1 : -A2 + 6 ≤ (((n) : Nat) : Int)) : jMv l yX7_part cX7_part 5 none ({ frames := (12 + 8 * (n)), cells := 0, slots := 0, locals := (480 + 360 * (n)) }) D cI cL ad zz [.ref (ad 9), .int 4, .int a2] σ τ (fun σ' τ' => τ = τ' ∧ (∀ i : Nat, (i < 9 ∨ 9 < i) ∧ (i < 12 ∨ 13 < i) → σ' i = σ i) ∧ (∀ k : Nat, (k < 1 ∨ 1 < k) ∧ (k < 2 ∨ 2 < k) → σ' 9 k = σ 9 k) ∧ (∀ k : Nat, (k < 0 ∨ 0 < k) ∧ (k < 1 ∨ 1 < k) → σ' 12 k = σ 12 k) ∧ (jI9 σ') ∧ (jI91 σ') ∧ (jI92 σ') ∧ (jI12 σ') ∧ True) := by
  refine jMv.of hJ (by decide +kernel) rfl (Nat.le_of_ble_eq_true rfl) ?_
  intro p e s m args below meth c Q ls hC hret hl hP
  obtain ⟨hx, hb, hr, hml, hown, hts, hK, -, hlocks, hZ⟩ := hC
  have hown : s.vm.findClass RX7 = some m.cls := hown
  have hS : va_S (jA ad) s.heap s.heap [] := va_S.rf
  have hA : ∀ q, jA ad q → jA ad q := fun _ h => h
  have hl : lv_has ls 5 [(0, .ref (ad 9)), (1, .int 4), (2, .int a2)] := hl
  have g2 := jrg t2
  obtain ⟨i1, w2, w3⟩ : (0 ≤ (σ 9 0).toInt ∧ (σ 9 0).toInt ≤ 80) ∧ (∀ k : Nat, k < 80 → 0 ≤ (σ 10 k).toInt ∧ (σ 10 k).toInt ≤ 255) ∧ (∀ k : Nat, k < 8 → 0 ≤ (σ 11 k).toInt ∧ (σ 11 k).toInt ≤ 3) := id hI9
  obtain ⟨i4, i5⟩ : (0 ≤ (σ 9 1).toInt) ∧ ((σ 9 1).toInt ≤ (σ 9 0).toInt) := id hI91
  have i6 : (-1) ≤ (σ 9 2).toInt := hI92
  refine lv_iload_n hx hb dX7_part_0 rfl (lv_at hl 1 rfl) ?_
  refine lv_iconst (v := 5) hx hb dX7_part_1 (by decide) ?_
  refine lv_icmp_lt (tgt := 11) hx hb dX7_part_2 (by decide) (fun _ => ?_) (fun c => absurd (by decide) c)
  refine lv_aload_n hx hb dX7_part_11 rfl (lv_at hl 0 rfl) ?_
  refine lv_iload_n hx hb dX7_part_12 rfl (lv_at hl 1 rfl) ?_
  refine lv_iconst (v := 1) hx hb dX7_part_13 (by decide) ?_
  refine lv_iadd hx hb dX7_part_14 ?_
  refine jtopr (y := 5) (by decide) ?_
  refine lv_iload_n hx hb dX7_part_15 rfl (lv_at hl 2 rfl) ?_
  refine jcallVv (As := [.int 5, .int a2]) (rest := []) ⟨hx, hb, hml, hown, hts⟩ hK hP hA hS hZ (h_p5 σ τ a2 (A2) t2 hI9 hI91 hI92 hI12 (by omega) (by omega)) cw_RX7_82 (jc_9 cI cL ad σ τ) rfl ⟨by dsimp only; omega, by dsimp only; omega⟩ rfl rfl rfl hl.1 rfl (Nat.le_of_ble_eq_true rfl) dX7_part_16 ⟨Nat.zero_le _, Nat.zero_le _⟩ (fun σ7 τ7 H locs h7 hP hS => ?_)
  obtain ⟨rfl, f9, f10, f11, I12, I13, I14, I15, h7⟩ := h7
  obtain ⟨i16, w17, w18⟩ : (0 ≤ (σ7 9 0).toInt ∧ (σ7 9 0).toInt ≤ 80) ∧ (∀ k : Nat, k < 80 → 0 ≤ (σ7 10 k).toInt ∧ (σ7 10 k).toInt ≤ 255) ∧ (∀ k : Nat, k < 8 → 0 ≤ (σ7 11 k).toInt ∧ (σ7 11 k).toInt ≤ 3) := id I12
  obtain ⟨i19, i20⟩ : (0 ≤ (σ7 9 1).toInt) ∧ ((σ7 9 1).toInt ≤ (σ7 9 0).toInt) := id I13
  have i21 : (-1) ≤ (σ7 9 2).toInt := I14
  have z22 : (σ7 9 0).toInt = (σ 9 0).toInt := (congrArg Int32.toInt (show σ7 9 0 = (σ 9 0) from (f10 0 (by decide))))
  refine lv_iconst (v := 0) hx hb dX7_part_19 (by decide) ?_
  refine lv_istore_n (lv' := [(3, .int 0), (0, .ref (ad 9)), (1, .int 4), (2, .int a2)]) hx hb dX7_part_20 rfl hl (by decide) rfl (fun ls hl => ?_)
  have lp23 : ∀ (n24 : Nat) (x25 : Int32) (σ27 : Nat → Nat → Int32) (H : Heap) (locs : List Loc) (ls : Array Slot), (-x25.toInt + 80 : Int) < n24 → 0 ≤ x25.toInt → x25.toInt ≤ 80 → 0 ≤ (σ27 9 1).toInt → (σ27 9 1).toInt ≤ (σ27 9 0).toInt → (-1) ≤ (σ27 9 2).toInt → (∀ i : Nat, (i < 9 ∨ 9 < i) ∧ (i < 12 ∨ 13 < i) → σ27 i = σ7 i) → (∀ k : Nat, (k < 1 ∨ 1 < k) ∧ (k < 2 ∨ 2 < k) → σ27 9 k = σ7 9 k) → (∀ k : Nat, (k < 0 ∨ 0 < k) ∧ (k < 1 ∨ 1 < k) → σ27 12 k = σ7 12 k) → jI12 σ27 → jH D cI cL ad σ27 τ H → va_S (jA ad) s.heap H locs → lv_has ls 5 [(3, .int x25), (0, .ref (ad 9)), (1, .int 4), (2, .int a2)] → W p l e ({ frames := (12 + 8 * (n)), cells := 0, slots := 0, locals := (480 + 360 * (n)) }) s m args below meth c H locs 0 0 Q (F0 m 21 ls []) := by
    intro n24
    induction n24 with
    | zero => intro x25 σ27 H locs ls h28 h29 h30 h31 h32 h33; exact absurd h28 (by omega)
    | succ n24 ihlp23 =>
      intro x25 σ27 H locs ls h28 h29 h30 h31 h32 h33 f34 f35 f36 p37 hP hS hl
      have z38 : (σ27 9 0).toInt = (σ 9 0).toInt := (congrArg Int32.toInt (show σ27 9 0 = (σ 9 0) from ((f35 0 (by decide)).trans (f10 0 (by decide)))))
      refine lv_iload_n hx hb dX7_part_21 rfl (lv_at hl 0 rfl) ?_
      refine lv_bipush (v := 80) hx hb dX7_part_22 (by decide) ?_
      refine lv_icmp_ge (tgt := 95) hx hb dX7_part_24 (by decide) (fun c39 => ?_) (fun c39 => ?_)
      · have kc39 := jle c39 jz_80 rfl
        have I40 : jI9 σ27 := jI9_fr (f35 0 (by decide)) (f34 10 (by decide)) (f34 11 (by decide)) I12
        have I41 : jI91 σ27 := ⟨(by omega), (by omega)⟩
        have I42 : jI92 σ27 := (show (-1) ≤ (σ27 9 2).toInt by omega)
        exact hret σ27 τ _ _ _ _ ⟨rfl, (fun i hi => ((f34 i hi).trans (f9 i hi))), (fun i hi => ((f35 i hi).trans (f10 i hi))), (fun i hi => ((f36 i hi).trans (f11 i hi))), I40, I41, I42, p37, trivial⟩ hP hS dX7_part_95
      · have kc39 := jnle c39 jz_80 rfl
        refine lv_aload_n hx hb dX7_part_27 rfl (lv_at hl 1 rfl) ?_
        refine va_get (D := D) hx hb hts inlX7 hown hK hP 9 (jc_9 cI cL ad σ27 τ) rfl 2 (by decide) (hts _ kw_14_6) (fun _ h9 => h9) rfl dX7_part_28 ?_
        refine lv_iconst (v := (-1)) hx hb dX7_part_31 (by decide) ?_
        refine lv_icmp_ne (tgt := 95) hx hb dX7_part_32 (by decide) (fun c43 => ?_) (fun c43 => ?_)
        · have kc43 := jne c43 rfl jz_m1
          have I44 : jI9 σ27 := jI9_fr (f35 0 (by decide)) (f34 10 (by decide)) (f34 11 (by decide)) I12
          have I45 : jI91 σ27 := ⟨(by omega), (by omega)⟩
          have I46 : jI92 σ27 := (show (-1) ≤ (σ27 9 2).toInt by omega)
          exact hret σ27 τ _ _ _ _ ⟨rfl, (fun i hi => ((f34 i hi).trans (f9 i hi))), (fun i hi => ((f35 i hi).trans (f10 i hi))), (fun i hi => ((f36 i hi).trans (f11 i hi))), I44, I45, I46, p37, trivial⟩ hP hS dX7_part_95
        · have kc43 := jeq c43 rfl jz_m1
          refine lv_aload_n hx hb dX7_part_35 rfl (lv_at hl 1 rfl) ?_
          have I47 : jI9 σ27 := jI9_fr (f35 0 (by decide)) (f34 10 (by decide)) (f34 11 (by decide)) I12
          refine jcallV (As := []) (rest := []) ⟨hx, hb, hml, hown, hts⟩ hK hP hA hS hZ (c_X7_sign_9 l D cI cL ad zz hJ σ27 τ I47) cw_RX7_35 (jc_9 cI cL ad σ27 τ) rfl ⟨by dsimp only; omega, by dsimp only; omega⟩ rfl rfl rfl hl.1 rfl (Nat.le_of_ble_eq_true rfl) dX7_part_36 ⟨Nat.zero_le _, Nat.zero_le _⟩ (fun r49 σ48 τ48 H locs h48 hP hS => ?_)
          obtain ⟨⟨rfl, rfl⟩, h48⟩ := h48
          rcases h48 with h50 | h51
          · obtain ⟨q54, k52, k53⟩ := h50
            have q55 : r49 = (σ 10 (σ27 9 1).toNatClampNeg) := q54.trans (by rw [f34 10 (by decide), f9 10 (by decide)])
            have q55e : (σ27 10 (σ27 9 1).toNatClampNeg).toInt = (σ 10 (σ27 9 1).toNatClampNeg).toInt := by rw [← q54, ← q55]
            have q55 := q55.symm
            subst q55
            refine jcallS (As := [.int (σ 10 (σ27 9 1).toNatClampNeg)]) (rest := []) ⟨hx, hb, hml, hown, hts⟩ hK hP hA hS hZ (c_X7_levelOf l D cI cL ad zz hJ σ27 τ (σ 10 (σ27 9 1).toNatClampNeg) ((σ 10 (σ27 9 1).toNatClampNeg).toInt) rfl) cw_RX7_98 ⟨by dsimp only; omega, by dsimp only; omega⟩ rfl rfl rfl hl.1 rfl (Nat.le_of_ble_eq_true rfl) dX7_part_39 ⟨Nat.zero_le _, Nat.zero_le _⟩ (fun r57 σ56 τ56 H locs h56 hP hS => ?_)
            obtain ⟨⟨rfl, rfl⟩, h56⟩ := h56
            rcases h56 with h58 | h59 | h60 | h61 | h62 | h63 | h64 | h65 | h66 | h67 | h68
            · obtain ⟨q70, k69⟩ := h58
              have q70 := q70.symm
              subst q70
              refine lv_iload_n hx hb dX7_part_42 rfl (lv_at hl 2 rfl) ?_
              refine lv_icmp_ne (tgt := 95) hx hb dX7_part_43 (by decide) (fun _ => ?_) (fun c => absurd c (by decide))
              have I71 : jI91 σ27 := ⟨(by omega), (by omega)⟩
              have I72 : jI92 σ27 := (show (-1) ≤ (σ27 9 2).toInt by omega)
              exact hret σ27 τ _ _ _ _ ⟨rfl, (fun i hi => ((f34 i hi).trans (f9 i hi))), (fun i hi => ((f35 i hi).trans (f10 i hi))), (fun i hi => ((f36 i hi).trans (f11 i hi))), I47, I71, I72, p37, trivial⟩ hP hS dX7_part_95
            · obtain ⟨q74, k73⟩ := h59
              have q74 := q74.symm
              subst q74
              refine lv_iload_n hx hb dX7_part_42 rfl (lv_at hl 2 rfl) ?_
              refine lv_icmp_ne (tgt := 95) hx hb dX7_part_43 (by decide) (fun _ => ?_) (fun c => absurd c (by decide))
              have I75 : jI91 σ27 := ⟨(by omega), (by omega)⟩
              have I76 : jI92 σ27 := (show (-1) ≤ (σ27 9 2).toInt by omega)
              exact hret σ27 τ _ _ _ _ ⟨rfl, (fun i hi => ((f34 i hi).trans (f9 i hi))), (fun i hi => ((f35 i hi).trans (f10 i hi))), (fun i hi => ((f36 i hi).trans (f11 i hi))), I47, I75, I76, p37, trivial⟩ hP hS dX7_part_95
            · obtain ⟨q78, k77⟩ := h60
              have q78 := q78.symm
              subst q78
              refine lv_iload_n hx hb dX7_part_42 rfl (lv_at hl 2 rfl) ?_
              refine lv_icmp_ne (tgt := 95) hx hb dX7_part_43 (by decide) (fun _ => ?_) (fun c => absurd c (by decide))
              have I79 : jI91 σ27 := ⟨(by omega), (by omega)⟩
              have I80 : jI92 σ27 := (show (-1) ≤ (σ27 9 2).toInt by omega)
              exact hret σ27 τ _ _ _ _ ⟨rfl, (fun i hi => ((f34 i hi).trans (f9 i hi))), (fun i hi => ((f35 i hi).trans (f10 i hi))), (fun i hi => ((f36 i hi).trans (f11 i hi))), I47, I79, I80, p37, trivial⟩ hP hS dX7_part_95
            · obtain ⟨q82, k81⟩ := h61
              have q82 := q82.symm
              subst q82
              refine lv_iload_n hx hb dX7_part_42 rfl (lv_at hl 2 rfl) ?_
              refine lv_icmp_ne (tgt := 95) hx hb dX7_part_43 (by decide) (fun _ => ?_) (fun c => absurd c (by decide))
              have I83 : jI91 σ27 := ⟨(by omega), (by omega)⟩
              have I84 : jI92 σ27 := (show (-1) ≤ (σ27 9 2).toInt by omega)
              exact hret σ27 τ _ _ _ _ ⟨rfl, (fun i hi => ((f34 i hi).trans (f9 i hi))), (fun i hi => ((f35 i hi).trans (f10 i hi))), (fun i hi => ((f36 i hi).trans (f11 i hi))), I47, I83, I84, p37, trivial⟩ hP hS dX7_part_95
            · obtain ⟨q86, k85⟩ := h62
              have q86 := q86.symm
              subst q86
              refine lv_iload_n hx hb dX7_part_42 rfl (lv_at hl 2 rfl) ?_
              refine lv_icmp_ne (tgt := 95) hx hb dX7_part_43 (by decide) (fun _ => ?_) (fun c => absurd c (by decide))
              have I87 : jI91 σ27 := ⟨(by omega), (by omega)⟩
              have I88 : jI92 σ27 := (show (-1) ≤ (σ27 9 2).toInt by omega)
              exact hret σ27 τ _ _ _ _ ⟨rfl, (fun i hi => ((f34 i hi).trans (f9 i hi))), (fun i hi => ((f35 i hi).trans (f10 i hi))), (fun i hi => ((f36 i hi).trans (f11 i hi))), I47, I87, I88, p37, trivial⟩ hP hS dX7_part_95
            · obtain ⟨q90, k89⟩ := h63
              have q90 := q90.symm
              subst q90
              refine lv_iload_n hx hb dX7_part_42 rfl (lv_at hl 2 rfl) ?_
              refine lv_icmp_ne (tgt := 95) hx hb dX7_part_43 (by decide) (fun _ => ?_) (fun c => absurd c (by decide))
              have I91 : jI91 σ27 := ⟨(by omega), (by omega)⟩
              have I92 : jI92 σ27 := (show (-1) ≤ (σ27 9 2).toInt by omega)
              exact hret σ27 τ _ _ _ _ ⟨rfl, (fun i hi => ((f34 i hi).trans (f9 i hi))), (fun i hi => ((f35 i hi).trans (f10 i hi))), (fun i hi => ((f36 i hi).trans (f11 i hi))), I47, I91, I92, p37, trivial⟩ hP hS dX7_part_95
            · obtain ⟨q94, k93⟩ := h64
              have q94 := q94.symm
              subst q94
              refine lv_iload_n hx hb dX7_part_42 rfl (lv_at hl 2 rfl) ?_
              refine lv_icmp_ne (tgt := 95) hx hb dX7_part_43 (by decide) (fun _ => ?_) (fun c => absurd c (by decide))
              have I95 : jI91 σ27 := ⟨(by omega), (by omega)⟩
              have I96 : jI92 σ27 := (show (-1) ≤ (σ27 9 2).toInt by omega)
              exact hret σ27 τ _ _ _ _ ⟨rfl, (fun i hi => ((f34 i hi).trans (f9 i hi))), (fun i hi => ((f35 i hi).trans (f10 i hi))), (fun i hi => ((f36 i hi).trans (f11 i hi))), I47, I95, I96, p37, trivial⟩ hP hS dX7_part_95
            · obtain ⟨q98, k97⟩ := h65
              have q98 := q98.symm
              subst q98
              refine lv_iload_n hx hb dX7_part_42 rfl (lv_at hl 2 rfl) ?_
              refine lv_icmp_ne (tgt := 95) hx hb dX7_part_43 (by decide) (fun c => absurd (by decide) c) (fun _ => ?_)
              refine lv_aload_n hx hb dX7_part_46 rfl (lv_at hl 1 rfl) ?_
              refine jcallV (As := []) (rest := []) ⟨hx, hb, hml, hown, hts⟩ hK hP hA hS hZ (c_X7_sign_9 l D cI cL ad zz hJ σ27 τ I47) cw_RX7_35 (jc_9 cI cL ad σ27 τ) rfl ⟨by dsimp only; omega, by dsimp only; omega⟩ rfl rfl rfl hl.1 rfl (Nat.le_of_ble_eq_true rfl) dX7_part_47 ⟨Nat.zero_le _, Nat.zero_le _⟩ (fun r100 σ99 τ99 H locs h99 hP hS => ?_)
              obtain ⟨⟨rfl, rfl⟩, h99⟩ := h99
              rcases h99 with h101 | h102
              · obtain ⟨q105, k103, k104⟩ := h101
                have q106 : r100 = (σ 10 (σ27 9 1).toNatClampNeg) := q105.trans (by rw [f34 10 (by decide), f9 10 (by decide)])
                have q106e : (σ27 10 (σ27 9 1).toNatClampNeg).toInt = (σ 10 (σ27 9 1).toNatClampNeg).toInt := by rw [← q105, ← q106]
                have q106 := q106.symm
                subst q106
                refine lv_istore (lv' := [(4, .int (σ 10 (σ27 9 1).toNatClampNeg)), (3, .int x25), (0, .ref (ad 9)), (1, .int 4), (2, .int a2)]) hx hb dX7_part_50 hl (by decide) rfl (fun ls hl => ?_)
                refine lv_aload_n hx hb dX7_part_52 rfl (lv_at hl 2 rfl) ?_
                refine lv_dup hx hb dX7_part_53 rfl ?_
                refine va_get (D := D) hx hb hts inlX7 hown hK hP 9 (jc_9 cI cL ad σ27 τ) rfl 1 (by decide) (hts _ kw_13_17) (fun _ h9 => h9) rfl dX7_part_54 ?_
                refine lv_iconst (v := 1) hx hb dX7_part_57 (by decide) ?_
                have g107 := jrg (rfl : (σ27 9 1).toInt = (σ27 9 1).toInt)
                refine lv_iadd hx hb dX7_part_58 ?_
                refine lv_topi (fun x108 ex108 => ?_)
                have tx108 : x108.toInt = (σ27 9 1).toInt + 1 := (jadd ex108 rfl jz_1 (by omega) (by omega)).trans (by omega)
                refine jput (ty := .int) hx hb hts inlX7 tyX7 tyX7_ok nmX7 hown hK hP hJ hA hS (jc_9 cI cL ad σ27 τ) rfl (k := 1) (by decide) (Nat.le_of_ble_eq_true rfl) (jp_9_1 cI cL ad σ27 τ x108) (hts _ kw_13_17) (fun _ h9 => h9) rfl (by decide +kernel) rfl rfl dX7_part_59 (fun σ109 H locs eσ109 hP hS => ?_)
                refine lv_aload_n hx hb dX7_part_62 rfl (lv_at hl 2 rfl) ?_
                refine lv_iload_n hx hb dX7_part_63 rfl (lv_at hl 3 rfl) ?_
                refine lv_iconst (v := 1) hx hb dX7_part_64 (by decide) ?_
                refine lv_iadd hx hb dX7_part_65 ?_
                refine jtopr (y := 5) (by decide) ?_
                refine lv_iload_n hx hb dX7_part_66 rfl (lv_at hl 4 rfl) ?_
                have I110 : jI9 σ109 := jI9_fr (jkp 0 eσ109 (by decide)) (jnp 10 eσ109 (by decide)) (jnp 11 eσ109 (by decide)) I47
                have z111 : (σ109 9 1).toInt = (σ27 9 1).toInt + 1 := ((congrArg Int32.toInt (show σ109 9 1 = x108 from (jsp eσ109))).trans tx108)
                have z112 : (σ109 9 0).toInt = (σ 9 0).toInt := (congrArg Int32.toInt (show σ109 9 0 = (σ 9 0) from ((jkp 0 eσ109 (by decide)).trans ((f35 0 (by decide)).trans (f10 0 (by decide))))))
                have I113 : jI91 σ109 := ⟨(by omega), (by omega)⟩
                have z114 : (σ109 9 2).toInt = (σ27 9 2).toInt := (congrArg Int32.toInt (show σ109 9 2 = (σ27 9 2) from (jkp 2 eσ109 (by decide))))
                have I115 : jI92 σ109 := (show (-1) ≤ (σ109 9 2).toInt by omega)
                have I116 : jI12 σ109 := jI12_fr (congrFun (jnp 12 eσ109 (by decide)) 0) (jnp 13 eσ109 (by decide)) p37
                refine jcallVv (As := [.int 5, .int a2]) (rest := []) ⟨hx, hb, hml, hown, hts⟩ hK hP hA hS hZ (h_p5 σ109 τ a2 (A2) t2 I110 I113 I115 I116 (by omega) (by omega)) cw_RX7_82 (jc_9 cI cL ad σ109 τ) rfl ⟨by dsimp only; omega, by dsimp only; omega⟩ rfl rfl rfl hl.1 rfl (Nat.le_of_ble_eq_true rfl) dX7_part_67 ⟨Nat.zero_le _, Nat.zero_le _⟩ (fun σ117 τ117 H locs h117 hP hS => ?_)
                obtain ⟨rfl, f119, f120, f121, I122, I123, I124, I125, h117⟩ := h117
                obtain ⟨i126, w127, w128⟩ : (0 ≤ (σ117 9 0).toInt ∧ (σ117 9 0).toInt ≤ 80) ∧ (∀ k : Nat, k < 80 → 0 ≤ (σ117 10 k).toInt ∧ (σ117 10 k).toInt ≤ 255) ∧ (∀ k : Nat, k < 8 → 0 ≤ (σ117 11 k).toInt ∧ (σ117 11 k).toInt ≤ 3) := id I122
                obtain ⟨i129, i130⟩ : (0 ≤ (σ117 9 1).toInt) ∧ ((σ117 9 1).toInt ≤ (σ117 9 0).toInt) := id I123
                have i131 : (-1) ≤ (σ117 9 2).toInt := I124
                have z132 : (σ117 9 0).toInt = (σ 9 0).toInt := (congrArg Int32.toInt (show σ117 9 0 = (σ 9 0) from ((f120 0 (by decide)).trans ((jkp 0 eσ109 (by decide)).trans ((f35 0 (by decide)).trans (f10 0 (by decide)))))))
                refine lv_aload_n hx hb dX7_part_70 rfl (lv_at hl 2 rfl) ?_
                refine va_get (D := D) hx hb hts inlX7 hown hK hP 9 (jc_9 cI cL ad σ117 τ) rfl 5 (by decide) (hts _ kw_3_23) (fun _ h9 => h9) rfl dX7_part_71 ?_
                refine lv_sipush (v := 20000) hx hb dX7_part_74 (by decide) ?_
                refine lv_iload hx hb dX7_part_77 (lv_at hl 0 rfl) ?_
                have g133 := jrg (rfl : (σ 10 (σ27 9 1).toNatClampNeg).toInt = (σ 10 (σ27 9 1).toNatClampNeg).toInt)
                refine lv_iadd hx hb dX7_part_79 ?_
                refine lv_topi (fun x134 ex134 => ?_)
                have tx134 : x134.toInt = (σ 10 (σ27 9 1).toNatClampNeg).toInt + 20000 := (jadd ex134 jz_20000 rfl (by omega) (by omega)).trans (by omega)
                refine jcallVv (As := [.int x134]) (rest := []) ⟨hx, hb, hml, hown, hts⟩ hK hP hA hS hZ (c_X10_add_12 l D cI cL ad zz hJ σ117 τ x134 ((σ 10 (σ27 9 1).toNatClampNeg).toInt + 20000) tx134 I125 (by omega)) cw_RX7_86 (jc_12 cI cL ad σ117 τ) rfl ⟨by dsimp only; omega, by dsimp only; omega⟩ rfl rfl rfl hl.1 rfl (Nat.le_of_ble_eq_true rfl) dX7_part_80 ⟨Nat.zero_le _, Nat.zero_le _⟩ (fun σ135 τ135 H locs h135 hP hS => ?_)
                obtain ⟨rfl, f137, f138, I139, h135⟩ := h135
                refine lv_iload_n hx hb dX7_part_83 rfl (lv_at hl 3 rfl) ?_
                refine lv_iconst (v := 2) hx hb dX7_part_84 (by decide) ?_
                refine lv_icmp_ne (tgt := 89) hx hb dX7_part_85 (by decide) (fun _ => ?_) (fun c => absurd c (by decide))
                obtain ⟨x140, ex140⟩ : ∃ y : Int32, y = x25 + 1 := ⟨_, rfl⟩
                have tx140 : x140.toInt = x25.toInt + 1 := (jadd ex140 rfl jz_1 (by omega) (by omega)).trans (by omega)
                refine lv_iinc (v := x140) (lv' := [(3, .int x140), (4, .int (σ 10 (σ27 9 1).toNatClampNeg)), (0, .ref (ad 9)), (1, .int 4), (2, .int a2)]) hx hb dX7_part_89 hl (k := 1) rfl (by rw [ex140]; rfl) (by decide) rfl (fun ls hl => ?_)
                refine lv_goto (tgt := 21) hx hb dX7_part_92 (by decide) ?_
                have z141 : (σ135 9 1).toInt = (σ117 9 1).toInt := (congrArg Int32.toInt (show σ135 9 1 = (σ117 9 1) from (congrFun (f137 9 (by decide)) 1)))
                have z142 : (σ135 9 0).toInt = (σ 9 0).toInt := (congrArg Int32.toInt (show σ135 9 0 = (σ 9 0) from ((congrFun (f137 9 (by decide)) 0).trans ((f120 0 (by decide)).trans ((jkp 0 eσ109 (by decide)).trans ((f35 0 (by decide)).trans (f10 0 (by decide))))))))
                have z143 : (σ135 9 2).toInt = (σ117 9 2).toInt := (congrArg Int32.toInt (show σ135 9 2 = (σ117 9 2) from (congrFun (f137 9 (by decide)) 2)))
                exact ihlp23 x140 σ135 _ _ ls (by have h90 := tx140; omega) (by have h90 := tx140; omega) (by have h90 := tx140; omega) (by have h90 := tx140; omega) (by have h90 := tx140; omega) (by have h90 := tx140; omega) (fun i hi => ((f137 i (imp_57 i hi)).trans ((f119 i hi).trans ((jnp i eσ109 (imp_59 i hi)).trans (f34 i hi))))) (fun i hi => ((congrFun (f137 9 (by decide)) i).trans ((f120 i hi).trans ((jkp i eσ109 (imp_39 i hi)).trans (f35 i hi))))) (fun i hi => ((f138 i hi).trans ((f121 i hi).trans ((congrFun (jnp 12 eσ109 (by decide)) i).trans (f36 i hi)))))  I139 hP hS (lv_sub hl [0, 2, 3, 4] rfl)
              · obtain ⟨q145, k144⟩ := h102
                exact absurd (by omega : False) id
            · obtain ⟨q147, k146⟩ := h66
              have q147 := q147.symm
              subst q147
              refine lv_iload_n hx hb dX7_part_42 rfl (lv_at hl 2 rfl) ?_
              refine lv_icmp_ne (tgt := 95) hx hb dX7_part_43 (by decide) (fun c => absurd (by decide) c) (fun _ => ?_)
              refine lv_aload_n hx hb dX7_part_46 rfl (lv_at hl 1 rfl) ?_
              refine jcallV (As := []) (rest := []) ⟨hx, hb, hml, hown, hts⟩ hK hP hA hS hZ (c_X7_sign_9 l D cI cL ad zz hJ σ27 τ I47) cw_RX7_35 (jc_9 cI cL ad σ27 τ) rfl ⟨by dsimp only; omega, by dsimp only; omega⟩ rfl rfl rfl hl.1 rfl (Nat.le_of_ble_eq_true rfl) dX7_part_47 ⟨Nat.zero_le _, Nat.zero_le _⟩ (fun r149 σ148 τ148 H locs h148 hP hS => ?_)
              obtain ⟨⟨rfl, rfl⟩, h148⟩ := h148
              rcases h148 with h150 | h151
              · obtain ⟨q154, k152, k153⟩ := h150
                have q155 : r149 = (σ 10 (σ27 9 1).toNatClampNeg) := q154.trans (by rw [f34 10 (by decide), f9 10 (by decide)])
                have q155e : (σ27 10 (σ27 9 1).toNatClampNeg).toInt = (σ 10 (σ27 9 1).toNatClampNeg).toInt := by rw [← q154, ← q155]
                have q155 := q155.symm
                subst q155
                refine lv_istore (lv' := [(4, .int (σ 10 (σ27 9 1).toNatClampNeg)), (3, .int x25), (0, .ref (ad 9)), (1, .int 4), (2, .int a2)]) hx hb dX7_part_50 hl (by decide) rfl (fun ls hl => ?_)
                refine lv_aload_n hx hb dX7_part_52 rfl (lv_at hl 2 rfl) ?_
                refine lv_dup hx hb dX7_part_53 rfl ?_
                refine va_get (D := D) hx hb hts inlX7 hown hK hP 9 (jc_9 cI cL ad σ27 τ) rfl 1 (by decide) (hts _ kw_13_17) (fun _ h9 => h9) rfl dX7_part_54 ?_
                refine lv_iconst (v := 1) hx hb dX7_part_57 (by decide) ?_
                have g156 := jrg (rfl : (σ27 9 1).toInt = (σ27 9 1).toInt)
                refine lv_iadd hx hb dX7_part_58 ?_
                refine lv_topi (fun x157 ex157 => ?_)
                have tx157 : x157.toInt = (σ27 9 1).toInt + 1 := (jadd ex157 rfl jz_1 (by omega) (by omega)).trans (by omega)
                refine jput (ty := .int) hx hb hts inlX7 tyX7 tyX7_ok nmX7 hown hK hP hJ hA hS (jc_9 cI cL ad σ27 τ) rfl (k := 1) (by decide) (Nat.le_of_ble_eq_true rfl) (jp_9_1 cI cL ad σ27 τ x157) (hts _ kw_13_17) (fun _ h9 => h9) rfl (by decide +kernel) rfl rfl dX7_part_59 (fun σ158 H locs eσ158 hP hS => ?_)
                refine lv_aload_n hx hb dX7_part_62 rfl (lv_at hl 2 rfl) ?_
                refine lv_iload_n hx hb dX7_part_63 rfl (lv_at hl 3 rfl) ?_
                refine lv_iconst (v := 1) hx hb dX7_part_64 (by decide) ?_
                refine lv_iadd hx hb dX7_part_65 ?_
                refine jtopr (y := 5) (by decide) ?_
                refine lv_iload_n hx hb dX7_part_66 rfl (lv_at hl 4 rfl) ?_
                have I159 : jI9 σ158 := jI9_fr (jkp 0 eσ158 (by decide)) (jnp 10 eσ158 (by decide)) (jnp 11 eσ158 (by decide)) I47
                have z160 : (σ158 9 1).toInt = (σ27 9 1).toInt + 1 := ((congrArg Int32.toInt (show σ158 9 1 = x157 from (jsp eσ158))).trans tx157)
                have z161 : (σ158 9 0).toInt = (σ 9 0).toInt := (congrArg Int32.toInt (show σ158 9 0 = (σ 9 0) from ((jkp 0 eσ158 (by decide)).trans ((f35 0 (by decide)).trans (f10 0 (by decide))))))
                have I162 : jI91 σ158 := ⟨(by omega), (by omega)⟩
                have z163 : (σ158 9 2).toInt = (σ27 9 2).toInt := (congrArg Int32.toInt (show σ158 9 2 = (σ27 9 2) from (jkp 2 eσ158 (by decide))))
                have I164 : jI92 σ158 := (show (-1) ≤ (σ158 9 2).toInt by omega)
                have I165 : jI12 σ158 := jI12_fr (congrFun (jnp 12 eσ158 (by decide)) 0) (jnp 13 eσ158 (by decide)) p37
                refine jcallVv (As := [.int 5, .int a2]) (rest := []) ⟨hx, hb, hml, hown, hts⟩ hK hP hA hS hZ (h_p5 σ158 τ a2 (A2) t2 I159 I162 I164 I165 (by omega) (by omega)) cw_RX7_82 (jc_9 cI cL ad σ158 τ) rfl ⟨by dsimp only; omega, by dsimp only; omega⟩ rfl rfl rfl hl.1 rfl (Nat.le_of_ble_eq_true rfl) dX7_part_67 ⟨Nat.zero_le _, Nat.zero_le _⟩ (fun σ166 τ166 H locs h166 hP hS => ?_)
                obtain ⟨rfl, f168, f169, f170, I171, I172, I173, I174, h166⟩ := h166
                obtain ⟨i175, w176, w177⟩ : (0 ≤ (σ166 9 0).toInt ∧ (σ166 9 0).toInt ≤ 80) ∧ (∀ k : Nat, k < 80 → 0 ≤ (σ166 10 k).toInt ∧ (σ166 10 k).toInt ≤ 255) ∧ (∀ k : Nat, k < 8 → 0 ≤ (σ166 11 k).toInt ∧ (σ166 11 k).toInt ≤ 3) := id I171
                obtain ⟨i178, i179⟩ : (0 ≤ (σ166 9 1).toInt) ∧ ((σ166 9 1).toInt ≤ (σ166 9 0).toInt) := id I172
                have i180 : (-1) ≤ (σ166 9 2).toInt := I173
                have z181 : (σ166 9 0).toInt = (σ 9 0).toInt := (congrArg Int32.toInt (show σ166 9 0 = (σ 9 0) from ((f169 0 (by decide)).trans ((jkp 0 eσ158 (by decide)).trans ((f35 0 (by decide)).trans (f10 0 (by decide)))))))
                refine lv_aload_n hx hb dX7_part_70 rfl (lv_at hl 2 rfl) ?_
                refine va_get (D := D) hx hb hts inlX7 hown hK hP 9 (jc_9 cI cL ad σ166 τ) rfl 5 (by decide) (hts _ kw_3_23) (fun _ h9 => h9) rfl dX7_part_71 ?_
                refine lv_sipush (v := 20000) hx hb dX7_part_74 (by decide) ?_
                refine lv_iload hx hb dX7_part_77 (lv_at hl 0 rfl) ?_
                have g182 := jrg (rfl : (σ 10 (σ27 9 1).toNatClampNeg).toInt = (σ 10 (σ27 9 1).toNatClampNeg).toInt)
                refine lv_iadd hx hb dX7_part_79 ?_
                refine lv_topi (fun x183 ex183 => ?_)
                have tx183 : x183.toInt = (σ 10 (σ27 9 1).toNatClampNeg).toInt + 20000 := (jadd ex183 jz_20000 rfl (by omega) (by omega)).trans (by omega)
                refine jcallVv (As := [.int x183]) (rest := []) ⟨hx, hb, hml, hown, hts⟩ hK hP hA hS hZ (c_X10_add_12 l D cI cL ad zz hJ σ166 τ x183 ((σ 10 (σ27 9 1).toNatClampNeg).toInt + 20000) tx183 I174 (by omega)) cw_RX7_86 (jc_12 cI cL ad σ166 τ) rfl ⟨by dsimp only; omega, by dsimp only; omega⟩ rfl rfl rfl hl.1 rfl (Nat.le_of_ble_eq_true rfl) dX7_part_80 ⟨Nat.zero_le _, Nat.zero_le _⟩ (fun σ184 τ184 H locs h184 hP hS => ?_)
                obtain ⟨rfl, f186, f187, I188, h184⟩ := h184
                refine lv_iload_n hx hb dX7_part_83 rfl (lv_at hl 3 rfl) ?_
                refine lv_iconst (v := 2) hx hb dX7_part_84 (by decide) ?_
                refine lv_icmp_ne (tgt := 89) hx hb dX7_part_85 (by decide) (fun _ => ?_) (fun c => absurd c (by decide))
                obtain ⟨x189, ex189⟩ : ∃ y : Int32, y = x25 + 1 := ⟨_, rfl⟩
                have tx189 : x189.toInt = x25.toInt + 1 := (jadd ex189 rfl jz_1 (by omega) (by omega)).trans (by omega)
                refine lv_iinc (v := x189) (lv' := [(3, .int x189), (4, .int (σ 10 (σ27 9 1).toNatClampNeg)), (0, .ref (ad 9)), (1, .int 4), (2, .int a2)]) hx hb dX7_part_89 hl (k := 1) rfl (by rw [ex189]; rfl) (by decide) rfl (fun ls hl => ?_)
                refine lv_goto (tgt := 21) hx hb dX7_part_92 (by decide) ?_
                have z190 : (σ184 9 1).toInt = (σ166 9 1).toInt := (congrArg Int32.toInt (show σ184 9 1 = (σ166 9 1) from (congrFun (f186 9 (by decide)) 1)))
                have z191 : (σ184 9 0).toInt = (σ 9 0).toInt := (congrArg Int32.toInt (show σ184 9 0 = (σ 9 0) from ((congrFun (f186 9 (by decide)) 0).trans ((f169 0 (by decide)).trans ((jkp 0 eσ158 (by decide)).trans ((f35 0 (by decide)).trans (f10 0 (by decide))))))))
                have z192 : (σ184 9 2).toInt = (σ166 9 2).toInt := (congrArg Int32.toInt (show σ184 9 2 = (σ166 9 2) from (congrFun (f186 9 (by decide)) 2)))
                exact ihlp23 x189 σ184 _ _ ls (by have h90 := tx189; omega) (by have h90 := tx189; omega) (by have h90 := tx189; omega) (by have h90 := tx189; omega) (by have h90 := tx189; omega) (by have h90 := tx189; omega) (fun i hi => ((f186 i (imp_57 i hi)).trans ((f168 i hi).trans ((jnp i eσ158 (imp_59 i hi)).trans (f34 i hi))))) (fun i hi => ((congrFun (f186 9 (by decide)) i).trans ((f169 i hi).trans ((jkp i eσ158 (imp_39 i hi)).trans (f35 i hi))))) (fun i hi => ((f187 i hi).trans ((f170 i hi).trans ((congrFun (jnp 12 eσ158 (by decide)) i).trans (f36 i hi)))))  I188 hP hS (lv_sub hl [0, 2, 3, 4] rfl)
              · obtain ⟨q194, k193⟩ := h151
                exact absurd (by omega : False) id
            · obtain ⟨q196, k195⟩ := h67
              have q196 := q196.symm
              subst q196
              refine lv_iload_n hx hb dX7_part_42 rfl (lv_at hl 2 rfl) ?_
              refine lv_icmp_ne (tgt := 95) hx hb dX7_part_43 (by decide) (fun c => absurd (by decide) c) (fun _ => ?_)
              refine lv_aload_n hx hb dX7_part_46 rfl (lv_at hl 1 rfl) ?_
              refine jcallV (As := []) (rest := []) ⟨hx, hb, hml, hown, hts⟩ hK hP hA hS hZ (c_X7_sign_9 l D cI cL ad zz hJ σ27 τ I47) cw_RX7_35 (jc_9 cI cL ad σ27 τ) rfl ⟨by dsimp only; omega, by dsimp only; omega⟩ rfl rfl rfl hl.1 rfl (Nat.le_of_ble_eq_true rfl) dX7_part_47 ⟨Nat.zero_le _, Nat.zero_le _⟩ (fun r198 σ197 τ197 H locs h197 hP hS => ?_)
              obtain ⟨⟨rfl, rfl⟩, h197⟩ := h197
              rcases h197 with h199 | h200
              · obtain ⟨q203, k201, k202⟩ := h199
                have q204 : r198 = (σ 10 (σ27 9 1).toNatClampNeg) := q203.trans (by rw [f34 10 (by decide), f9 10 (by decide)])
                have q204e : (σ27 10 (σ27 9 1).toNatClampNeg).toInt = (σ 10 (σ27 9 1).toNatClampNeg).toInt := by rw [← q203, ← q204]
                have q204 := q204.symm
                subst q204
                refine lv_istore (lv' := [(4, .int (σ 10 (σ27 9 1).toNatClampNeg)), (3, .int x25), (0, .ref (ad 9)), (1, .int 4), (2, .int a2)]) hx hb dX7_part_50 hl (by decide) rfl (fun ls hl => ?_)
                refine lv_aload_n hx hb dX7_part_52 rfl (lv_at hl 2 rfl) ?_
                refine lv_dup hx hb dX7_part_53 rfl ?_
                refine va_get (D := D) hx hb hts inlX7 hown hK hP 9 (jc_9 cI cL ad σ27 τ) rfl 1 (by decide) (hts _ kw_13_17) (fun _ h9 => h9) rfl dX7_part_54 ?_
                refine lv_iconst (v := 1) hx hb dX7_part_57 (by decide) ?_
                have g205 := jrg (rfl : (σ27 9 1).toInt = (σ27 9 1).toInt)
                refine lv_iadd hx hb dX7_part_58 ?_
                refine lv_topi (fun x206 ex206 => ?_)
                have tx206 : x206.toInt = (σ27 9 1).toInt + 1 := (jadd ex206 rfl jz_1 (by omega) (by omega)).trans (by omega)
                refine jput (ty := .int) hx hb hts inlX7 tyX7 tyX7_ok nmX7 hown hK hP hJ hA hS (jc_9 cI cL ad σ27 τ) rfl (k := 1) (by decide) (Nat.le_of_ble_eq_true rfl) (jp_9_1 cI cL ad σ27 τ x206) (hts _ kw_13_17) (fun _ h9 => h9) rfl (by decide +kernel) rfl rfl dX7_part_59 (fun σ207 H locs eσ207 hP hS => ?_)
                refine lv_aload_n hx hb dX7_part_62 rfl (lv_at hl 2 rfl) ?_
                refine lv_iload_n hx hb dX7_part_63 rfl (lv_at hl 3 rfl) ?_
                refine lv_iconst (v := 1) hx hb dX7_part_64 (by decide) ?_
                refine lv_iadd hx hb dX7_part_65 ?_
                refine jtopr (y := 5) (by decide) ?_
                refine lv_iload_n hx hb dX7_part_66 rfl (lv_at hl 4 rfl) ?_
                have I208 : jI9 σ207 := jI9_fr (jkp 0 eσ207 (by decide)) (jnp 10 eσ207 (by decide)) (jnp 11 eσ207 (by decide)) I47
                have z209 : (σ207 9 1).toInt = (σ27 9 1).toInt + 1 := ((congrArg Int32.toInt (show σ207 9 1 = x206 from (jsp eσ207))).trans tx206)
                have z210 : (σ207 9 0).toInt = (σ 9 0).toInt := (congrArg Int32.toInt (show σ207 9 0 = (σ 9 0) from ((jkp 0 eσ207 (by decide)).trans ((f35 0 (by decide)).trans (f10 0 (by decide))))))
                have I211 : jI91 σ207 := ⟨(by omega), (by omega)⟩
                have z212 : (σ207 9 2).toInt = (σ27 9 2).toInt := (congrArg Int32.toInt (show σ207 9 2 = (σ27 9 2) from (jkp 2 eσ207 (by decide))))
                have I213 : jI92 σ207 := (show (-1) ≤ (σ207 9 2).toInt by omega)
                have I214 : jI12 σ207 := jI12_fr (congrFun (jnp 12 eσ207 (by decide)) 0) (jnp 13 eσ207 (by decide)) p37
                refine jcallVv (As := [.int 5, .int a2]) (rest := []) ⟨hx, hb, hml, hown, hts⟩ hK hP hA hS hZ (h_p5 σ207 τ a2 (A2) t2 I208 I211 I213 I214 (by omega) (by omega)) cw_RX7_82 (jc_9 cI cL ad σ207 τ) rfl ⟨by dsimp only; omega, by dsimp only; omega⟩ rfl rfl rfl hl.1 rfl (Nat.le_of_ble_eq_true rfl) dX7_part_67 ⟨Nat.zero_le _, Nat.zero_le _⟩ (fun σ215 τ215 H locs h215 hP hS => ?_)
                obtain ⟨rfl, f217, f218, f219, I220, I221, I222, I223, h215⟩ := h215
                obtain ⟨i224, w225, w226⟩ : (0 ≤ (σ215 9 0).toInt ∧ (σ215 9 0).toInt ≤ 80) ∧ (∀ k : Nat, k < 80 → 0 ≤ (σ215 10 k).toInt ∧ (σ215 10 k).toInt ≤ 255) ∧ (∀ k : Nat, k < 8 → 0 ≤ (σ215 11 k).toInt ∧ (σ215 11 k).toInt ≤ 3) := id I220
                obtain ⟨i227, i228⟩ : (0 ≤ (σ215 9 1).toInt) ∧ ((σ215 9 1).toInt ≤ (σ215 9 0).toInt) := id I221
                have i229 : (-1) ≤ (σ215 9 2).toInt := I222
                have z230 : (σ215 9 0).toInt = (σ 9 0).toInt := (congrArg Int32.toInt (show σ215 9 0 = (σ 9 0) from ((f218 0 (by decide)).trans ((jkp 0 eσ207 (by decide)).trans ((f35 0 (by decide)).trans (f10 0 (by decide)))))))
                refine lv_aload_n hx hb dX7_part_70 rfl (lv_at hl 2 rfl) ?_
                refine va_get (D := D) hx hb hts inlX7 hown hK hP 9 (jc_9 cI cL ad σ215 τ) rfl 5 (by decide) (hts _ kw_3_23) (fun _ h9 => h9) rfl dX7_part_71 ?_
                refine lv_sipush (v := 20000) hx hb dX7_part_74 (by decide) ?_
                refine lv_iload hx hb dX7_part_77 (lv_at hl 0 rfl) ?_
                have g231 := jrg (rfl : (σ 10 (σ27 9 1).toNatClampNeg).toInt = (σ 10 (σ27 9 1).toNatClampNeg).toInt)
                refine lv_iadd hx hb dX7_part_79 ?_
                refine lv_topi (fun x232 ex232 => ?_)
                have tx232 : x232.toInt = (σ 10 (σ27 9 1).toNatClampNeg).toInt + 20000 := (jadd ex232 jz_20000 rfl (by omega) (by omega)).trans (by omega)
                refine jcallVv (As := [.int x232]) (rest := []) ⟨hx, hb, hml, hown, hts⟩ hK hP hA hS hZ (c_X10_add_12 l D cI cL ad zz hJ σ215 τ x232 ((σ 10 (σ27 9 1).toNatClampNeg).toInt + 20000) tx232 I223 (by omega)) cw_RX7_86 (jc_12 cI cL ad σ215 τ) rfl ⟨by dsimp only; omega, by dsimp only; omega⟩ rfl rfl rfl hl.1 rfl (Nat.le_of_ble_eq_true rfl) dX7_part_80 ⟨Nat.zero_le _, Nat.zero_le _⟩ (fun σ233 τ233 H locs h233 hP hS => ?_)
                obtain ⟨rfl, f235, f236, I237, h233⟩ := h233
                refine lv_iload_n hx hb dX7_part_83 rfl (lv_at hl 3 rfl) ?_
                refine lv_iconst (v := 2) hx hb dX7_part_84 (by decide) ?_
                refine lv_icmp_ne (tgt := 89) hx hb dX7_part_85 (by decide) (fun _ => ?_) (fun c => absurd c (by decide))
                obtain ⟨x238, ex238⟩ : ∃ y : Int32, y = x25 + 1 := ⟨_, rfl⟩
                have tx238 : x238.toInt = x25.toInt + 1 := (jadd ex238 rfl jz_1 (by omega) (by omega)).trans (by omega)
                refine lv_iinc (v := x238) (lv' := [(3, .int x238), (4, .int (σ 10 (σ27 9 1).toNatClampNeg)), (0, .ref (ad 9)), (1, .int 4), (2, .int a2)]) hx hb dX7_part_89 hl (k := 1) rfl (by rw [ex238]; rfl) (by decide) rfl (fun ls hl => ?_)
                refine lv_goto (tgt := 21) hx hb dX7_part_92 (by decide) ?_
                have z239 : (σ233 9 1).toInt = (σ215 9 1).toInt := (congrArg Int32.toInt (show σ233 9 1 = (σ215 9 1) from (congrFun (f235 9 (by decide)) 1)))
                have z240 : (σ233 9 0).toInt = (σ 9 0).toInt := (congrArg Int32.toInt (show σ233 9 0 = (σ 9 0) from ((congrFun (f235 9 (by decide)) 0).trans ((f218 0 (by decide)).trans ((jkp 0 eσ207 (by decide)).trans ((f35 0 (by decide)).trans (f10 0 (by decide))))))))
                have z241 : (σ233 9 2).toInt = (σ215 9 2).toInt := (congrArg Int32.toInt (show σ233 9 2 = (σ215 9 2) from (congrFun (f235 9 (by decide)) 2)))
                exact ihlp23 x238 σ233 _ _ ls (by have h90 := tx238; omega) (by have h90 := tx238; omega) (by have h90 := tx238; omega) (by have h90 := tx238; omega) (by have h90 := tx238; omega) (by have h90 := tx238; omega) (fun i hi => ((f235 i (imp_57 i hi)).trans ((f217 i hi).trans ((jnp i eσ207 (imp_59 i hi)).trans (f34 i hi))))) (fun i hi => ((congrFun (f235 9 (by decide)) i).trans ((f218 i hi).trans ((jkp i eσ207 (imp_39 i hi)).trans (f35 i hi))))) (fun i hi => ((f236 i hi).trans ((f219 i hi).trans ((congrFun (jnp 12 eσ207 (by decide)) i).trans (f36 i hi)))))  I237 hP hS (lv_sub hl [0, 2, 3, 4] rfl)
              · obtain ⟨q243, k242⟩ := h200
                exact absurd (by omega : False) id
            · obtain ⟨q245, k244⟩ := h68
              have q245 := q245.symm
              subst q245
              refine lv_iload_n hx hb dX7_part_42 rfl (lv_at hl 2 rfl) ?_
              refine lv_icmp_ne (tgt := 95) hx hb dX7_part_43 (by decide) (fun _ => ?_) (fun c => absurd c (by decide))
              have I246 : jI91 σ27 := ⟨(by omega), (by omega)⟩
              have I247 : jI92 σ27 := (show (-1) ≤ (σ27 9 2).toInt by omega)
              exact hret σ27 τ _ _ _ _ ⟨rfl, (fun i hi => ((f34 i hi).trans (f9 i hi))), (fun i hi => ((f35 i hi).trans (f10 i hi))), (fun i hi => ((f36 i hi).trans (f11 i hi))), I47, I246, I247, p37, trivial⟩ hP hS dX7_part_95
          · obtain ⟨q249, k248⟩ := h51
            have q249 := q249.symm
            subst q249
            refine jcallS (As := [.int (-1)]) (rest := []) ⟨hx, hb, hml, hown, hts⟩ hK hP hA hS hZ (c_X7_levelOf l D cI cL ad zz hJ σ27 τ (-1) ((-1)) jz_m1) cw_RX7_98 ⟨by dsimp only; omega, by dsimp only; omega⟩ rfl rfl rfl hl.1 rfl (Nat.le_of_ble_eq_true rfl) dX7_part_39 ⟨Nat.zero_le _, Nat.zero_le _⟩ (fun r251 σ250 τ250 H locs h250 hP hS => ?_)
            obtain ⟨⟨rfl, rfl⟩, h250⟩ := h250
            rcases h250 with h252 | h253 | h254 | h255 | h256 | h257 | h258 | h259 | h260 | h261 | h262
            · obtain ⟨q264, k263⟩ := h252
              exact absurd (by omega : False) id
            · obtain ⟨q266, k265⟩ := h253
              exact absurd (by omega : False) id
            · obtain ⟨q268, k267⟩ := h254
              exact absurd (by omega : False) id
            · obtain ⟨q270, k269⟩ := h255
              exact absurd (by omega : False) id
            · obtain ⟨q272, k271⟩ := h256
              exact absurd (by omega : False) id
            · obtain ⟨q274, k273⟩ := h257
              exact absurd (by omega : False) id
            · obtain ⟨q276, k275⟩ := h258
              exact absurd (by omega : False) id
            · obtain ⟨q278, k277⟩ := h259
              exact absurd (by omega : False) id
            · obtain ⟨q280, k279⟩ := h260
              exact absurd (by omega : False) id
            · obtain ⟨q282, k281⟩ := h261
              exact absurd (by omega : False) id
            · obtain ⟨q284, k283⟩ := h262
              have q284 := q284.symm
              subst q284
              refine lv_iload_n hx hb dX7_part_42 rfl (lv_at hl 2 rfl) ?_
              refine lv_icmp_ne (tgt := 95) hx hb dX7_part_43 (by decide) (fun _ => ?_) (fun c => absurd c (by decide))
              have I285 : jI91 σ27 := ⟨(by omega), (by omega)⟩
              have I286 : jI92 σ27 := (show (-1) ≤ (σ27 9 2).toInt by omega)
              exact hret σ27 τ _ _ _ _ ⟨rfl, (fun i hi => ((f34 i hi).trans (f9 i hi))), (fun i hi => ((f35 i hi).trans (f10 i hi))), (fun i hi => ((f36 i hi).trans (f11 i hi))), I47, I285, I286, p37, trivial⟩ hP hS dX7_part_95
  exact lp23 1000000 0 σ7 _ _ ls (by have h90 := jz_0; omega) (by have h90 := jz_0; omega) (by have h90 := jz_0; omega) (by have h90 := jz_0; omega) (by have h90 := jz_0; omega) (by have h90 := jz_0; omega) (fun _ _ => rfl) (fun _ _ => rfl) (fun _ _ => rfl)  I15 hP hS hl
set_option maxHeartbeats 4000000 in
set_option maxRecDepth 100000 in
theorem c_X7_grammar_p3_g (l : Launch) (D : va_G) (cI cL : ClassId) (ad zz : Nat → Nat) (hJ : jD ad) (n : Nat) (h_p4 : ∀ (σ : Nat → Nat → Int32) (τ : Nat → Nat → Int64) (a2 : Int32) (A2 : Int) (t2 : a2.toInt = A2) (hI9 : jI9 σ) (hI91 : jI91 σ) (hI92 : jI92 σ) (hI12 : jI12 σ) (hp0 : 0 ≤ A2 ∧ A2 ≤ 6) (hp1 : -A2 + 6 ≤ (((n) : Nat) : Int)), jMv l yX7_part cX7_part 5 none ({ frames := (12 + 8 * (n)), cells := 0, slots := 0, locals := (480 + 360 * (n)) }) D cI cL ad zz [.ref (ad 9), .int 4, .int a2] σ τ (fun σ' τ' => τ = τ' ∧ (∀ i : Nat, (i < 9 ∨ 9 < i) ∧ (i < 12 ∨ 13 < i) → σ' i = σ i) ∧ (∀ k : Nat, (k < 1 ∨ 1 < k) ∧ (k < 2 ∨ 2 < k) → σ' 9 k = σ 9 k) ∧ (∀ k : Nat, (k < 0 ∨ 0 < k) ∧ (k < 1 ∨ 1 < k) → σ' 12 k = σ 12 k) ∧ (jI9 σ') ∧ (jI91 σ') ∧ (jI92 σ') ∧ (jI12 σ') ∧ True)) (σ : Nat → Nat → Int32) (τ : Nat → Nat → Int64) (a2 : Int32) (A2 : Int) (t2 : a2.toInt = A2) (hI9 : jI9 σ) (hI91 : jI91 σ) (hI92 : jI92 σ) (hI12 : jI12 σ) (hp0 : 0 ≤ A2 ∧ A2 ≤ 6) (hp1 : -A2 + 6 ≤ (((n) : Nat) : Int)) : jMv l yX7_part cX7_part 5 none ({ frames := (13 + 8 * (n)), cells := 0, slots := 0, locals := (520 + 360 * (n)) }) D cI cL ad zz [.ref (ad 9), .int 3, .int a2] σ τ (fun σ' τ' => τ = τ' ∧ (∀ i : Nat, (i < 9 ∨ 9 < i) ∧ (i < 12 ∨ 13 < i) → σ' i = σ i) ∧ (∀ k : Nat, (k < 1 ∨ 1 < k) ∧ (k < 2 ∨ 2 < k) → σ' 9 k = σ 9 k) ∧ (∀ k : Nat, (k < 0 ∨ 0 < k) ∧ (k < 1 ∨ 1 < k) → σ' 12 k = σ 12 k) ∧ (jI9 σ') ∧ (jI91 σ') ∧ (jI92 σ') ∧ (jI12 σ') ∧ True) := by
  refine jMv.of hJ (by decide +kernel) rfl (Nat.le_of_ble_eq_true rfl) ?_
  intro p e s m args below meth c Q ls hC hret hl hP
  obtain ⟨hx, hb, hr, hml, hown, hts, hK, -, hlocks, hZ⟩ := hC
  have hown : s.vm.findClass RX7 = some m.cls := hown
  have hS : va_S (jA ad) s.heap s.heap [] := va_S.rf
  have hA : ∀ q, jA ad q → jA ad q := fun _ h => h
  have hl : lv_has ls 5 [(0, .ref (ad 9)), (1, .int 3), (2, .int a2)] := hl
  have g2 := jrg t2
  obtain ⟨i1, w2, w3⟩ : (0 ≤ (σ 9 0).toInt ∧ (σ 9 0).toInt ≤ 80) ∧ (∀ k : Nat, k < 80 → 0 ≤ (σ 10 k).toInt ∧ (σ 10 k).toInt ≤ 255) ∧ (∀ k : Nat, k < 8 → 0 ≤ (σ 11 k).toInt ∧ (σ 11 k).toInt ≤ 3) := id hI9
  obtain ⟨i4, i5⟩ : (0 ≤ (σ 9 1).toInt) ∧ ((σ 9 1).toInt ≤ (σ 9 0).toInt) := id hI91
  have i6 : (-1) ≤ (σ 9 2).toInt := hI92
  refine lv_iload_n hx hb dX7_part_0 rfl (lv_at hl 1 rfl) ?_
  refine lv_iconst (v := 5) hx hb dX7_part_1 (by decide) ?_
  refine lv_icmp_lt (tgt := 11) hx hb dX7_part_2 (by decide) (fun _ => ?_) (fun c => absurd (by decide) c)
  refine lv_aload_n hx hb dX7_part_11 rfl (lv_at hl 0 rfl) ?_
  refine lv_iload_n hx hb dX7_part_12 rfl (lv_at hl 1 rfl) ?_
  refine lv_iconst (v := 1) hx hb dX7_part_13 (by decide) ?_
  refine lv_iadd hx hb dX7_part_14 ?_
  refine jtopr (y := 4) (by decide) ?_
  refine lv_iload_n hx hb dX7_part_15 rfl (lv_at hl 2 rfl) ?_
  refine jcallVv (As := [.int 4, .int a2]) (rest := []) ⟨hx, hb, hml, hown, hts⟩ hK hP hA hS hZ (h_p4 σ τ a2 (A2) t2 hI9 hI91 hI92 hI12 (by omega) (by omega)) cw_RX7_82 (jc_9 cI cL ad σ τ) rfl ⟨by dsimp only; omega, by dsimp only; omega⟩ rfl rfl rfl hl.1 rfl (Nat.le_of_ble_eq_true rfl) dX7_part_16 ⟨Nat.zero_le _, Nat.zero_le _⟩ (fun σ7 τ7 H locs h7 hP hS => ?_)
  obtain ⟨rfl, f9, f10, f11, I12, I13, I14, I15, h7⟩ := h7
  obtain ⟨i16, w17, w18⟩ : (0 ≤ (σ7 9 0).toInt ∧ (σ7 9 0).toInt ≤ 80) ∧ (∀ k : Nat, k < 80 → 0 ≤ (σ7 10 k).toInt ∧ (σ7 10 k).toInt ≤ 255) ∧ (∀ k : Nat, k < 8 → 0 ≤ (σ7 11 k).toInt ∧ (σ7 11 k).toInt ≤ 3) := id I12
  obtain ⟨i19, i20⟩ : (0 ≤ (σ7 9 1).toInt) ∧ ((σ7 9 1).toInt ≤ (σ7 9 0).toInt) := id I13
  have i21 : (-1) ≤ (σ7 9 2).toInt := I14
  have z22 : (σ7 9 0).toInt = (σ 9 0).toInt := (congrArg Int32.toInt (show σ7 9 0 = (σ 9 0) from (f10 0 (by decide))))
  refine lv_iconst (v := 0) hx hb dX7_part_19 (by decide) ?_
  refine lv_istore_n (lv' := [(3, .int 0), (0, .ref (ad 9)), (1, .int 3), (2, .int a2)]) hx hb dX7_part_20 rfl hl (by decide) rfl (fun ls hl => ?_)
  have lp23 : ∀ (n24 : Nat) (x25 : Int32) (σ27 : Nat → Nat → Int32) (H : Heap) (locs : List Loc) (ls : Array Slot), (-x25.toInt + 80 : Int) < n24 → 0 ≤ x25.toInt → x25.toInt ≤ 80 → 0 ≤ (σ27 9 1).toInt → (σ27 9 1).toInt ≤ (σ27 9 0).toInt → (-1) ≤ (σ27 9 2).toInt → (∀ i : Nat, (i < 9 ∨ 9 < i) ∧ (i < 12 ∨ 13 < i) → σ27 i = σ7 i) → (∀ k : Nat, (k < 1 ∨ 1 < k) ∧ (k < 2 ∨ 2 < k) → σ27 9 k = σ7 9 k) → (∀ k : Nat, (k < 0 ∨ 0 < k) ∧ (k < 1 ∨ 1 < k) → σ27 12 k = σ7 12 k) → jI12 σ27 → jH D cI cL ad σ27 τ H → va_S (jA ad) s.heap H locs → lv_has ls 5 [(3, .int x25), (0, .ref (ad 9)), (1, .int 3), (2, .int a2)] → W p l e ({ frames := (13 + 8 * (n)), cells := 0, slots := 0, locals := (520 + 360 * (n)) }) s m args below meth c H locs 0 0 Q (F0 m 21 ls []) := by
    intro n24
    induction n24 with
    | zero => intro x25 σ27 H locs ls h28 h29 h30 h31 h32 h33; exact absurd h28 (by omega)
    | succ n24 ihlp23 =>
      intro x25 σ27 H locs ls h28 h29 h30 h31 h32 h33 f34 f35 f36 p37 hP hS hl
      have z38 : (σ27 9 0).toInt = (σ 9 0).toInt := (congrArg Int32.toInt (show σ27 9 0 = (σ 9 0) from ((f35 0 (by decide)).trans (f10 0 (by decide)))))
      refine lv_iload_n hx hb dX7_part_21 rfl (lv_at hl 0 rfl) ?_
      refine lv_bipush (v := 80) hx hb dX7_part_22 (by decide) ?_
      refine lv_icmp_ge (tgt := 95) hx hb dX7_part_24 (by decide) (fun c39 => ?_) (fun c39 => ?_)
      · have kc39 := jle c39 jz_80 rfl
        have I40 : jI9 σ27 := jI9_fr (f35 0 (by decide)) (f34 10 (by decide)) (f34 11 (by decide)) I12
        have I41 : jI91 σ27 := ⟨(by omega), (by omega)⟩
        have I42 : jI92 σ27 := (show (-1) ≤ (σ27 9 2).toInt by omega)
        exact hret σ27 τ _ _ _ _ ⟨rfl, (fun i hi => ((f34 i hi).trans (f9 i hi))), (fun i hi => ((f35 i hi).trans (f10 i hi))), (fun i hi => ((f36 i hi).trans (f11 i hi))), I40, I41, I42, p37, trivial⟩ hP hS dX7_part_95
      · have kc39 := jnle c39 jz_80 rfl
        refine lv_aload_n hx hb dX7_part_27 rfl (lv_at hl 1 rfl) ?_
        refine va_get (D := D) hx hb hts inlX7 hown hK hP 9 (jc_9 cI cL ad σ27 τ) rfl 2 (by decide) (hts _ kw_14_6) (fun _ h9 => h9) rfl dX7_part_28 ?_
        refine lv_iconst (v := (-1)) hx hb dX7_part_31 (by decide) ?_
        refine lv_icmp_ne (tgt := 95) hx hb dX7_part_32 (by decide) (fun c43 => ?_) (fun c43 => ?_)
        · have kc43 := jne c43 rfl jz_m1
          have I44 : jI9 σ27 := jI9_fr (f35 0 (by decide)) (f34 10 (by decide)) (f34 11 (by decide)) I12
          have I45 : jI91 σ27 := ⟨(by omega), (by omega)⟩
          have I46 : jI92 σ27 := (show (-1) ≤ (σ27 9 2).toInt by omega)
          exact hret σ27 τ _ _ _ _ ⟨rfl, (fun i hi => ((f34 i hi).trans (f9 i hi))), (fun i hi => ((f35 i hi).trans (f10 i hi))), (fun i hi => ((f36 i hi).trans (f11 i hi))), I44, I45, I46, p37, trivial⟩ hP hS dX7_part_95
        · have kc43 := jeq c43 rfl jz_m1
          refine lv_aload_n hx hb dX7_part_35 rfl (lv_at hl 1 rfl) ?_
          have I47 : jI9 σ27 := jI9_fr (f35 0 (by decide)) (f34 10 (by decide)) (f34 11 (by decide)) I12
          refine jcallV (As := []) (rest := []) ⟨hx, hb, hml, hown, hts⟩ hK hP hA hS hZ (c_X7_sign_9 l D cI cL ad zz hJ σ27 τ I47) cw_RX7_35 (jc_9 cI cL ad σ27 τ) rfl ⟨by dsimp only; omega, by dsimp only; omega⟩ rfl rfl rfl hl.1 rfl (Nat.le_of_ble_eq_true rfl) dX7_part_36 ⟨Nat.zero_le _, Nat.zero_le _⟩ (fun r49 σ48 τ48 H locs h48 hP hS => ?_)
          obtain ⟨⟨rfl, rfl⟩, h48⟩ := h48
          rcases h48 with h50 | h51
          · obtain ⟨q54, k52, k53⟩ := h50
            have q55 : r49 = (σ 10 (σ27 9 1).toNatClampNeg) := q54.trans (by rw [f34 10 (by decide), f9 10 (by decide)])
            have q55e : (σ27 10 (σ27 9 1).toNatClampNeg).toInt = (σ 10 (σ27 9 1).toNatClampNeg).toInt := by rw [← q54, ← q55]
            have q55 := q55.symm
            subst q55
            refine jcallS (As := [.int (σ 10 (σ27 9 1).toNatClampNeg)]) (rest := []) ⟨hx, hb, hml, hown, hts⟩ hK hP hA hS hZ (c_X7_levelOf l D cI cL ad zz hJ σ27 τ (σ 10 (σ27 9 1).toNatClampNeg) ((σ 10 (σ27 9 1).toNatClampNeg).toInt) rfl) cw_RX7_98 ⟨by dsimp only; omega, by dsimp only; omega⟩ rfl rfl rfl hl.1 rfl (Nat.le_of_ble_eq_true rfl) dX7_part_39 ⟨Nat.zero_le _, Nat.zero_le _⟩ (fun r57 σ56 τ56 H locs h56 hP hS => ?_)
            obtain ⟨⟨rfl, rfl⟩, h56⟩ := h56
            rcases h56 with h58 | h59 | h60 | h61 | h62 | h63 | h64 | h65 | h66 | h67 | h68
            · obtain ⟨q70, k69⟩ := h58
              have q70 := q70.symm
              subst q70
              refine lv_iload_n hx hb dX7_part_42 rfl (lv_at hl 2 rfl) ?_
              refine lv_icmp_ne (tgt := 95) hx hb dX7_part_43 (by decide) (fun _ => ?_) (fun c => absurd c (by decide))
              have I71 : jI91 σ27 := ⟨(by omega), (by omega)⟩
              have I72 : jI92 σ27 := (show (-1) ≤ (σ27 9 2).toInt by omega)
              exact hret σ27 τ _ _ _ _ ⟨rfl, (fun i hi => ((f34 i hi).trans (f9 i hi))), (fun i hi => ((f35 i hi).trans (f10 i hi))), (fun i hi => ((f36 i hi).trans (f11 i hi))), I47, I71, I72, p37, trivial⟩ hP hS dX7_part_95
            · obtain ⟨q74, k73⟩ := h59
              have q74 := q74.symm
              subst q74
              refine lv_iload_n hx hb dX7_part_42 rfl (lv_at hl 2 rfl) ?_
              refine lv_icmp_ne (tgt := 95) hx hb dX7_part_43 (by decide) (fun _ => ?_) (fun c => absurd c (by decide))
              have I75 : jI91 σ27 := ⟨(by omega), (by omega)⟩
              have I76 : jI92 σ27 := (show (-1) ≤ (σ27 9 2).toInt by omega)
              exact hret σ27 τ _ _ _ _ ⟨rfl, (fun i hi => ((f34 i hi).trans (f9 i hi))), (fun i hi => ((f35 i hi).trans (f10 i hi))), (fun i hi => ((f36 i hi).trans (f11 i hi))), I47, I75, I76, p37, trivial⟩ hP hS dX7_part_95
            · obtain ⟨q78, k77⟩ := h60
              have q78 := q78.symm
              subst q78
              refine lv_iload_n hx hb dX7_part_42 rfl (lv_at hl 2 rfl) ?_
              refine lv_icmp_ne (tgt := 95) hx hb dX7_part_43 (by decide) (fun _ => ?_) (fun c => absurd c (by decide))
              have I79 : jI91 σ27 := ⟨(by omega), (by omega)⟩
              have I80 : jI92 σ27 := (show (-1) ≤ (σ27 9 2).toInt by omega)
              exact hret σ27 τ _ _ _ _ ⟨rfl, (fun i hi => ((f34 i hi).trans (f9 i hi))), (fun i hi => ((f35 i hi).trans (f10 i hi))), (fun i hi => ((f36 i hi).trans (f11 i hi))), I47, I79, I80, p37, trivial⟩ hP hS dX7_part_95
            · obtain ⟨q82, k81⟩ := h61
              have q82 := q82.symm
              subst q82
              refine lv_iload_n hx hb dX7_part_42 rfl (lv_at hl 2 rfl) ?_
              refine lv_icmp_ne (tgt := 95) hx hb dX7_part_43 (by decide) (fun _ => ?_) (fun c => absurd c (by decide))
              have I83 : jI91 σ27 := ⟨(by omega), (by omega)⟩
              have I84 : jI92 σ27 := (show (-1) ≤ (σ27 9 2).toInt by omega)
              exact hret σ27 τ _ _ _ _ ⟨rfl, (fun i hi => ((f34 i hi).trans (f9 i hi))), (fun i hi => ((f35 i hi).trans (f10 i hi))), (fun i hi => ((f36 i hi).trans (f11 i hi))), I47, I83, I84, p37, trivial⟩ hP hS dX7_part_95
            · obtain ⟨q86, k85⟩ := h62
              have q86 := q86.symm
              subst q86
              refine lv_iload_n hx hb dX7_part_42 rfl (lv_at hl 2 rfl) ?_
              refine lv_icmp_ne (tgt := 95) hx hb dX7_part_43 (by decide) (fun _ => ?_) (fun c => absurd c (by decide))
              have I87 : jI91 σ27 := ⟨(by omega), (by omega)⟩
              have I88 : jI92 σ27 := (show (-1) ≤ (σ27 9 2).toInt by omega)
              exact hret σ27 τ _ _ _ _ ⟨rfl, (fun i hi => ((f34 i hi).trans (f9 i hi))), (fun i hi => ((f35 i hi).trans (f10 i hi))), (fun i hi => ((f36 i hi).trans (f11 i hi))), I47, I87, I88, p37, trivial⟩ hP hS dX7_part_95
            · obtain ⟨q90, k89⟩ := h63
              have q90 := q90.symm
              subst q90
              refine lv_iload_n hx hb dX7_part_42 rfl (lv_at hl 2 rfl) ?_
              refine lv_icmp_ne (tgt := 95) hx hb dX7_part_43 (by decide) (fun c => absurd (by decide) c) (fun _ => ?_)
              refine lv_aload_n hx hb dX7_part_46 rfl (lv_at hl 1 rfl) ?_
              refine jcallV (As := []) (rest := []) ⟨hx, hb, hml, hown, hts⟩ hK hP hA hS hZ (c_X7_sign_9 l D cI cL ad zz hJ σ27 τ I47) cw_RX7_35 (jc_9 cI cL ad σ27 τ) rfl ⟨by dsimp only; omega, by dsimp only; omega⟩ rfl rfl rfl hl.1 rfl (Nat.le_of_ble_eq_true rfl) dX7_part_47 ⟨Nat.zero_le _, Nat.zero_le _⟩ (fun r92 σ91 τ91 H locs h91 hP hS => ?_)
              obtain ⟨⟨rfl, rfl⟩, h91⟩ := h91
              rcases h91 with h93 | h94
              · obtain ⟨q97, k95, k96⟩ := h93
                have q98 : r92 = (σ 10 (σ27 9 1).toNatClampNeg) := q97.trans (by rw [f34 10 (by decide), f9 10 (by decide)])
                have q98e : (σ27 10 (σ27 9 1).toNatClampNeg).toInt = (σ 10 (σ27 9 1).toNatClampNeg).toInt := by rw [← q97, ← q98]
                have q98 := q98.symm
                subst q98
                refine lv_istore (lv' := [(4, .int (σ 10 (σ27 9 1).toNatClampNeg)), (3, .int x25), (0, .ref (ad 9)), (1, .int 3), (2, .int a2)]) hx hb dX7_part_50 hl (by decide) rfl (fun ls hl => ?_)
                refine lv_aload_n hx hb dX7_part_52 rfl (lv_at hl 2 rfl) ?_
                refine lv_dup hx hb dX7_part_53 rfl ?_
                refine va_get (D := D) hx hb hts inlX7 hown hK hP 9 (jc_9 cI cL ad σ27 τ) rfl 1 (by decide) (hts _ kw_13_17) (fun _ h9 => h9) rfl dX7_part_54 ?_
                refine lv_iconst (v := 1) hx hb dX7_part_57 (by decide) ?_
                have g99 := jrg (rfl : (σ27 9 1).toInt = (σ27 9 1).toInt)
                refine lv_iadd hx hb dX7_part_58 ?_
                refine lv_topi (fun x100 ex100 => ?_)
                have tx100 : x100.toInt = (σ27 9 1).toInt + 1 := (jadd ex100 rfl jz_1 (by omega) (by omega)).trans (by omega)
                refine jput (ty := .int) hx hb hts inlX7 tyX7 tyX7_ok nmX7 hown hK hP hJ hA hS (jc_9 cI cL ad σ27 τ) rfl (k := 1) (by decide) (Nat.le_of_ble_eq_true rfl) (jp_9_1 cI cL ad σ27 τ x100) (hts _ kw_13_17) (fun _ h9 => h9) rfl (by decide +kernel) rfl rfl dX7_part_59 (fun σ101 H locs eσ101 hP hS => ?_)
                refine lv_aload_n hx hb dX7_part_62 rfl (lv_at hl 2 rfl) ?_
                refine lv_iload_n hx hb dX7_part_63 rfl (lv_at hl 3 rfl) ?_
                refine lv_iconst (v := 1) hx hb dX7_part_64 (by decide) ?_
                refine lv_iadd hx hb dX7_part_65 ?_
                refine jtopr (y := 4) (by decide) ?_
                refine lv_iload_n hx hb dX7_part_66 rfl (lv_at hl 4 rfl) ?_
                have I102 : jI9 σ101 := jI9_fr (jkp 0 eσ101 (by decide)) (jnp 10 eσ101 (by decide)) (jnp 11 eσ101 (by decide)) I47
                have z103 : (σ101 9 1).toInt = (σ27 9 1).toInt + 1 := ((congrArg Int32.toInt (show σ101 9 1 = x100 from (jsp eσ101))).trans tx100)
                have z104 : (σ101 9 0).toInt = (σ 9 0).toInt := (congrArg Int32.toInt (show σ101 9 0 = (σ 9 0) from ((jkp 0 eσ101 (by decide)).trans ((f35 0 (by decide)).trans (f10 0 (by decide))))))
                have I105 : jI91 σ101 := ⟨(by omega), (by omega)⟩
                have z106 : (σ101 9 2).toInt = (σ27 9 2).toInt := (congrArg Int32.toInt (show σ101 9 2 = (σ27 9 2) from (jkp 2 eσ101 (by decide))))
                have I107 : jI92 σ101 := (show (-1) ≤ (σ101 9 2).toInt by omega)
                have I108 : jI12 σ101 := jI12_fr (congrFun (jnp 12 eσ101 (by decide)) 0) (jnp 13 eσ101 (by decide)) p37
                refine jcallVv (As := [.int 4, .int a2]) (rest := []) ⟨hx, hb, hml, hown, hts⟩ hK hP hA hS hZ (h_p4 σ101 τ a2 (A2) t2 I102 I105 I107 I108 (by omega) (by omega)) cw_RX7_82 (jc_9 cI cL ad σ101 τ) rfl ⟨by dsimp only; omega, by dsimp only; omega⟩ rfl rfl rfl hl.1 rfl (Nat.le_of_ble_eq_true rfl) dX7_part_67 ⟨Nat.zero_le _, Nat.zero_le _⟩ (fun σ109 τ109 H locs h109 hP hS => ?_)
                obtain ⟨rfl, f111, f112, f113, I114, I115, I116, I117, h109⟩ := h109
                obtain ⟨i118, w119, w120⟩ : (0 ≤ (σ109 9 0).toInt ∧ (σ109 9 0).toInt ≤ 80) ∧ (∀ k : Nat, k < 80 → 0 ≤ (σ109 10 k).toInt ∧ (σ109 10 k).toInt ≤ 255) ∧ (∀ k : Nat, k < 8 → 0 ≤ (σ109 11 k).toInt ∧ (σ109 11 k).toInt ≤ 3) := id I114
                obtain ⟨i121, i122⟩ : (0 ≤ (σ109 9 1).toInt) ∧ ((σ109 9 1).toInt ≤ (σ109 9 0).toInt) := id I115
                have i123 : (-1) ≤ (σ109 9 2).toInt := I116
                have z124 : (σ109 9 0).toInt = (σ 9 0).toInt := (congrArg Int32.toInt (show σ109 9 0 = (σ 9 0) from ((f112 0 (by decide)).trans ((jkp 0 eσ101 (by decide)).trans ((f35 0 (by decide)).trans (f10 0 (by decide)))))))
                refine lv_aload_n hx hb dX7_part_70 rfl (lv_at hl 2 rfl) ?_
                refine va_get (D := D) hx hb hts inlX7 hown hK hP 9 (jc_9 cI cL ad σ109 τ) rfl 5 (by decide) (hts _ kw_3_23) (fun _ h9 => h9) rfl dX7_part_71 ?_
                refine lv_sipush (v := 20000) hx hb dX7_part_74 (by decide) ?_
                refine lv_iload hx hb dX7_part_77 (lv_at hl 0 rfl) ?_
                have g125 := jrg (rfl : (σ 10 (σ27 9 1).toNatClampNeg).toInt = (σ 10 (σ27 9 1).toNatClampNeg).toInt)
                refine lv_iadd hx hb dX7_part_79 ?_
                refine lv_topi (fun x126 ex126 => ?_)
                have tx126 : x126.toInt = (σ 10 (σ27 9 1).toNatClampNeg).toInt + 20000 := (jadd ex126 jz_20000 rfl (by omega) (by omega)).trans (by omega)
                refine jcallVv (As := [.int x126]) (rest := []) ⟨hx, hb, hml, hown, hts⟩ hK hP hA hS hZ (c_X10_add_12 l D cI cL ad zz hJ σ109 τ x126 ((σ 10 (σ27 9 1).toNatClampNeg).toInt + 20000) tx126 I117 (by omega)) cw_RX7_86 (jc_12 cI cL ad σ109 τ) rfl ⟨by dsimp only; omega, by dsimp only; omega⟩ rfl rfl rfl hl.1 rfl (Nat.le_of_ble_eq_true rfl) dX7_part_80 ⟨Nat.zero_le _, Nat.zero_le _⟩ (fun σ127 τ127 H locs h127 hP hS => ?_)
                obtain ⟨rfl, f129, f130, I131, h127⟩ := h127
                refine lv_iload_n hx hb dX7_part_83 rfl (lv_at hl 3 rfl) ?_
                refine lv_iconst (v := 2) hx hb dX7_part_84 (by decide) ?_
                refine lv_icmp_ne (tgt := 89) hx hb dX7_part_85 (by decide) (fun _ => ?_) (fun c => absurd c (by decide))
                obtain ⟨x132, ex132⟩ : ∃ y : Int32, y = x25 + 1 := ⟨_, rfl⟩
                have tx132 : x132.toInt = x25.toInt + 1 := (jadd ex132 rfl jz_1 (by omega) (by omega)).trans (by omega)
                refine lv_iinc (v := x132) (lv' := [(3, .int x132), (4, .int (σ 10 (σ27 9 1).toNatClampNeg)), (0, .ref (ad 9)), (1, .int 3), (2, .int a2)]) hx hb dX7_part_89 hl (k := 1) rfl (by rw [ex132]; rfl) (by decide) rfl (fun ls hl => ?_)
                refine lv_goto (tgt := 21) hx hb dX7_part_92 (by decide) ?_
                have z133 : (σ127 9 1).toInt = (σ109 9 1).toInt := (congrArg Int32.toInt (show σ127 9 1 = (σ109 9 1) from (congrFun (f129 9 (by decide)) 1)))
                have z134 : (σ127 9 0).toInt = (σ 9 0).toInt := (congrArg Int32.toInt (show σ127 9 0 = (σ 9 0) from ((congrFun (f129 9 (by decide)) 0).trans ((f112 0 (by decide)).trans ((jkp 0 eσ101 (by decide)).trans ((f35 0 (by decide)).trans (f10 0 (by decide))))))))
                have z135 : (σ127 9 2).toInt = (σ109 9 2).toInt := (congrArg Int32.toInt (show σ127 9 2 = (σ109 9 2) from (congrFun (f129 9 (by decide)) 2)))
                exact ihlp23 x132 σ127 _ _ ls (by have h90 := tx132; omega) (by have h90 := tx132; omega) (by have h90 := tx132; omega) (by have h90 := tx132; omega) (by have h90 := tx132; omega) (by have h90 := tx132; omega) (fun i hi => ((f129 i (imp_57 i hi)).trans ((f111 i hi).trans ((jnp i eσ101 (imp_59 i hi)).trans (f34 i hi))))) (fun i hi => ((congrFun (f129 9 (by decide)) i).trans ((f112 i hi).trans ((jkp i eσ101 (imp_39 i hi)).trans (f35 i hi))))) (fun i hi => ((f130 i hi).trans ((f113 i hi).trans ((congrFun (jnp 12 eσ101 (by decide)) i).trans (f36 i hi)))))  I131 hP hS (lv_sub hl [0, 2, 3, 4] rfl)
              · obtain ⟨q137, k136⟩ := h94
                exact absurd (by omega : False) id
            · obtain ⟨q139, k138⟩ := h64
              have q139 := q139.symm
              subst q139
              refine lv_iload_n hx hb dX7_part_42 rfl (lv_at hl 2 rfl) ?_
              refine lv_icmp_ne (tgt := 95) hx hb dX7_part_43 (by decide) (fun c => absurd (by decide) c) (fun _ => ?_)
              refine lv_aload_n hx hb dX7_part_46 rfl (lv_at hl 1 rfl) ?_
              refine jcallV (As := []) (rest := []) ⟨hx, hb, hml, hown, hts⟩ hK hP hA hS hZ (c_X7_sign_9 l D cI cL ad zz hJ σ27 τ I47) cw_RX7_35 (jc_9 cI cL ad σ27 τ) rfl ⟨by dsimp only; omega, by dsimp only; omega⟩ rfl rfl rfl hl.1 rfl (Nat.le_of_ble_eq_true rfl) dX7_part_47 ⟨Nat.zero_le _, Nat.zero_le _⟩ (fun r141 σ140 τ140 H locs h140 hP hS => ?_)
              obtain ⟨⟨rfl, rfl⟩, h140⟩ := h140
              rcases h140 with h142 | h143
              · obtain ⟨q146, k144, k145⟩ := h142
                have q147 : r141 = (σ 10 (σ27 9 1).toNatClampNeg) := q146.trans (by rw [f34 10 (by decide), f9 10 (by decide)])
                have q147e : (σ27 10 (σ27 9 1).toNatClampNeg).toInt = (σ 10 (σ27 9 1).toNatClampNeg).toInt := by rw [← q146, ← q147]
                have q147 := q147.symm
                subst q147
                refine lv_istore (lv' := [(4, .int (σ 10 (σ27 9 1).toNatClampNeg)), (3, .int x25), (0, .ref (ad 9)), (1, .int 3), (2, .int a2)]) hx hb dX7_part_50 hl (by decide) rfl (fun ls hl => ?_)
                refine lv_aload_n hx hb dX7_part_52 rfl (lv_at hl 2 rfl) ?_
                refine lv_dup hx hb dX7_part_53 rfl ?_
                refine va_get (D := D) hx hb hts inlX7 hown hK hP 9 (jc_9 cI cL ad σ27 τ) rfl 1 (by decide) (hts _ kw_13_17) (fun _ h9 => h9) rfl dX7_part_54 ?_
                refine lv_iconst (v := 1) hx hb dX7_part_57 (by decide) ?_
                have g148 := jrg (rfl : (σ27 9 1).toInt = (σ27 9 1).toInt)
                refine lv_iadd hx hb dX7_part_58 ?_
                refine lv_topi (fun x149 ex149 => ?_)
                have tx149 : x149.toInt = (σ27 9 1).toInt + 1 := (jadd ex149 rfl jz_1 (by omega) (by omega)).trans (by omega)
                refine jput (ty := .int) hx hb hts inlX7 tyX7 tyX7_ok nmX7 hown hK hP hJ hA hS (jc_9 cI cL ad σ27 τ) rfl (k := 1) (by decide) (Nat.le_of_ble_eq_true rfl) (jp_9_1 cI cL ad σ27 τ x149) (hts _ kw_13_17) (fun _ h9 => h9) rfl (by decide +kernel) rfl rfl dX7_part_59 (fun σ150 H locs eσ150 hP hS => ?_)
                refine lv_aload_n hx hb dX7_part_62 rfl (lv_at hl 2 rfl) ?_
                refine lv_iload_n hx hb dX7_part_63 rfl (lv_at hl 3 rfl) ?_
                refine lv_iconst (v := 1) hx hb dX7_part_64 (by decide) ?_
                refine lv_iadd hx hb dX7_part_65 ?_
                refine jtopr (y := 4) (by decide) ?_
                refine lv_iload_n hx hb dX7_part_66 rfl (lv_at hl 4 rfl) ?_
                have I151 : jI9 σ150 := jI9_fr (jkp 0 eσ150 (by decide)) (jnp 10 eσ150 (by decide)) (jnp 11 eσ150 (by decide)) I47
                have z152 : (σ150 9 1).toInt = (σ27 9 1).toInt + 1 := ((congrArg Int32.toInt (show σ150 9 1 = x149 from (jsp eσ150))).trans tx149)
                have z153 : (σ150 9 0).toInt = (σ 9 0).toInt := (congrArg Int32.toInt (show σ150 9 0 = (σ 9 0) from ((jkp 0 eσ150 (by decide)).trans ((f35 0 (by decide)).trans (f10 0 (by decide))))))
                have I154 : jI91 σ150 := ⟨(by omega), (by omega)⟩
                have z155 : (σ150 9 2).toInt = (σ27 9 2).toInt := (congrArg Int32.toInt (show σ150 9 2 = (σ27 9 2) from (jkp 2 eσ150 (by decide))))
                have I156 : jI92 σ150 := (show (-1) ≤ (σ150 9 2).toInt by omega)
                have I157 : jI12 σ150 := jI12_fr (congrFun (jnp 12 eσ150 (by decide)) 0) (jnp 13 eσ150 (by decide)) p37
                refine jcallVv (As := [.int 4, .int a2]) (rest := []) ⟨hx, hb, hml, hown, hts⟩ hK hP hA hS hZ (h_p4 σ150 τ a2 (A2) t2 I151 I154 I156 I157 (by omega) (by omega)) cw_RX7_82 (jc_9 cI cL ad σ150 τ) rfl ⟨by dsimp only; omega, by dsimp only; omega⟩ rfl rfl rfl hl.1 rfl (Nat.le_of_ble_eq_true rfl) dX7_part_67 ⟨Nat.zero_le _, Nat.zero_le _⟩ (fun σ158 τ158 H locs h158 hP hS => ?_)
                obtain ⟨rfl, f160, f161, f162, I163, I164, I165, I166, h158⟩ := h158
                obtain ⟨i167, w168, w169⟩ : (0 ≤ (σ158 9 0).toInt ∧ (σ158 9 0).toInt ≤ 80) ∧ (∀ k : Nat, k < 80 → 0 ≤ (σ158 10 k).toInt ∧ (σ158 10 k).toInt ≤ 255) ∧ (∀ k : Nat, k < 8 → 0 ≤ (σ158 11 k).toInt ∧ (σ158 11 k).toInt ≤ 3) := id I163
                obtain ⟨i170, i171⟩ : (0 ≤ (σ158 9 1).toInt) ∧ ((σ158 9 1).toInt ≤ (σ158 9 0).toInt) := id I164
                have i172 : (-1) ≤ (σ158 9 2).toInt := I165
                have z173 : (σ158 9 0).toInt = (σ 9 0).toInt := (congrArg Int32.toInt (show σ158 9 0 = (σ 9 0) from ((f161 0 (by decide)).trans ((jkp 0 eσ150 (by decide)).trans ((f35 0 (by decide)).trans (f10 0 (by decide)))))))
                refine lv_aload_n hx hb dX7_part_70 rfl (lv_at hl 2 rfl) ?_
                refine va_get (D := D) hx hb hts inlX7 hown hK hP 9 (jc_9 cI cL ad σ158 τ) rfl 5 (by decide) (hts _ kw_3_23) (fun _ h9 => h9) rfl dX7_part_71 ?_
                refine lv_sipush (v := 20000) hx hb dX7_part_74 (by decide) ?_
                refine lv_iload hx hb dX7_part_77 (lv_at hl 0 rfl) ?_
                have g174 := jrg (rfl : (σ 10 (σ27 9 1).toNatClampNeg).toInt = (σ 10 (σ27 9 1).toNatClampNeg).toInt)
                refine lv_iadd hx hb dX7_part_79 ?_
                refine lv_topi (fun x175 ex175 => ?_)
                have tx175 : x175.toInt = (σ 10 (σ27 9 1).toNatClampNeg).toInt + 20000 := (jadd ex175 jz_20000 rfl (by omega) (by omega)).trans (by omega)
                refine jcallVv (As := [.int x175]) (rest := []) ⟨hx, hb, hml, hown, hts⟩ hK hP hA hS hZ (c_X10_add_12 l D cI cL ad zz hJ σ158 τ x175 ((σ 10 (σ27 9 1).toNatClampNeg).toInt + 20000) tx175 I166 (by omega)) cw_RX7_86 (jc_12 cI cL ad σ158 τ) rfl ⟨by dsimp only; omega, by dsimp only; omega⟩ rfl rfl rfl hl.1 rfl (Nat.le_of_ble_eq_true rfl) dX7_part_80 ⟨Nat.zero_le _, Nat.zero_le _⟩ (fun σ176 τ176 H locs h176 hP hS => ?_)
                obtain ⟨rfl, f178, f179, I180, h176⟩ := h176
                refine lv_iload_n hx hb dX7_part_83 rfl (lv_at hl 3 rfl) ?_
                refine lv_iconst (v := 2) hx hb dX7_part_84 (by decide) ?_
                refine lv_icmp_ne (tgt := 89) hx hb dX7_part_85 (by decide) (fun _ => ?_) (fun c => absurd c (by decide))
                obtain ⟨x181, ex181⟩ : ∃ y : Int32, y = x25 + 1 := ⟨_, rfl⟩
                have tx181 : x181.toInt = x25.toInt + 1 := (jadd ex181 rfl jz_1 (by omega) (by omega)).trans (by omega)
                refine lv_iinc (v := x181) (lv' := [(3, .int x181), (4, .int (σ 10 (σ27 9 1).toNatClampNeg)), (0, .ref (ad 9)), (1, .int 3), (2, .int a2)]) hx hb dX7_part_89 hl (k := 1) rfl (by rw [ex181]; rfl) (by decide) rfl (fun ls hl => ?_)
                refine lv_goto (tgt := 21) hx hb dX7_part_92 (by decide) ?_
                have z182 : (σ176 9 1).toInt = (σ158 9 1).toInt := (congrArg Int32.toInt (show σ176 9 1 = (σ158 9 1) from (congrFun (f178 9 (by decide)) 1)))
                have z183 : (σ176 9 0).toInt = (σ 9 0).toInt := (congrArg Int32.toInt (show σ176 9 0 = (σ 9 0) from ((congrFun (f178 9 (by decide)) 0).trans ((f161 0 (by decide)).trans ((jkp 0 eσ150 (by decide)).trans ((f35 0 (by decide)).trans (f10 0 (by decide))))))))
                have z184 : (σ176 9 2).toInt = (σ158 9 2).toInt := (congrArg Int32.toInt (show σ176 9 2 = (σ158 9 2) from (congrFun (f178 9 (by decide)) 2)))
                exact ihlp23 x181 σ176 _ _ ls (by have h90 := tx181; omega) (by have h90 := tx181; omega) (by have h90 := tx181; omega) (by have h90 := tx181; omega) (by have h90 := tx181; omega) (by have h90 := tx181; omega) (fun i hi => ((f178 i (imp_57 i hi)).trans ((f160 i hi).trans ((jnp i eσ150 (imp_59 i hi)).trans (f34 i hi))))) (fun i hi => ((congrFun (f178 9 (by decide)) i).trans ((f161 i hi).trans ((jkp i eσ150 (imp_39 i hi)).trans (f35 i hi))))) (fun i hi => ((f179 i hi).trans ((f162 i hi).trans ((congrFun (jnp 12 eσ150 (by decide)) i).trans (f36 i hi)))))  I180 hP hS (lv_sub hl [0, 2, 3, 4] rfl)
              · obtain ⟨q186, k185⟩ := h143
                exact absurd (by omega : False) id
            · obtain ⟨q188, k187⟩ := h65
              have q188 := q188.symm
              subst q188
              refine lv_iload_n hx hb dX7_part_42 rfl (lv_at hl 2 rfl) ?_
              refine lv_icmp_ne (tgt := 95) hx hb dX7_part_43 (by decide) (fun _ => ?_) (fun c => absurd c (by decide))
              have I189 : jI91 σ27 := ⟨(by omega), (by omega)⟩
              have I190 : jI92 σ27 := (show (-1) ≤ (σ27 9 2).toInt by omega)
              exact hret σ27 τ _ _ _ _ ⟨rfl, (fun i hi => ((f34 i hi).trans (f9 i hi))), (fun i hi => ((f35 i hi).trans (f10 i hi))), (fun i hi => ((f36 i hi).trans (f11 i hi))), I47, I189, I190, p37, trivial⟩ hP hS dX7_part_95
            · obtain ⟨q192, k191⟩ := h66
              have q192 := q192.symm
              subst q192
              refine lv_iload_n hx hb dX7_part_42 rfl (lv_at hl 2 rfl) ?_
              refine lv_icmp_ne (tgt := 95) hx hb dX7_part_43 (by decide) (fun _ => ?_) (fun c => absurd c (by decide))
              have I193 : jI91 σ27 := ⟨(by omega), (by omega)⟩
              have I194 : jI92 σ27 := (show (-1) ≤ (σ27 9 2).toInt by omega)
              exact hret σ27 τ _ _ _ _ ⟨rfl, (fun i hi => ((f34 i hi).trans (f9 i hi))), (fun i hi => ((f35 i hi).trans (f10 i hi))), (fun i hi => ((f36 i hi).trans (f11 i hi))), I47, I193, I194, p37, trivial⟩ hP hS dX7_part_95
            · obtain ⟨q196, k195⟩ := h67
              have q196 := q196.symm
              subst q196
              refine lv_iload_n hx hb dX7_part_42 rfl (lv_at hl 2 rfl) ?_
              refine lv_icmp_ne (tgt := 95) hx hb dX7_part_43 (by decide) (fun _ => ?_) (fun c => absurd c (by decide))
              have I197 : jI91 σ27 := ⟨(by omega), (by omega)⟩
              have I198 : jI92 σ27 := (show (-1) ≤ (σ27 9 2).toInt by omega)
              exact hret σ27 τ _ _ _ _ ⟨rfl, (fun i hi => ((f34 i hi).trans (f9 i hi))), (fun i hi => ((f35 i hi).trans (f10 i hi))), (fun i hi => ((f36 i hi).trans (f11 i hi))), I47, I197, I198, p37, trivial⟩ hP hS dX7_part_95
            · obtain ⟨q200, k199⟩ := h68
              have q200 := q200.symm
              subst q200
              refine lv_iload_n hx hb dX7_part_42 rfl (lv_at hl 2 rfl) ?_
              refine lv_icmp_ne (tgt := 95) hx hb dX7_part_43 (by decide) (fun _ => ?_) (fun c => absurd c (by decide))
              have I201 : jI91 σ27 := ⟨(by omega), (by omega)⟩
              have I202 : jI92 σ27 := (show (-1) ≤ (σ27 9 2).toInt by omega)
              exact hret σ27 τ _ _ _ _ ⟨rfl, (fun i hi => ((f34 i hi).trans (f9 i hi))), (fun i hi => ((f35 i hi).trans (f10 i hi))), (fun i hi => ((f36 i hi).trans (f11 i hi))), I47, I201, I202, p37, trivial⟩ hP hS dX7_part_95
          · obtain ⟨q204, k203⟩ := h51
            have q204 := q204.symm
            subst q204
            refine jcallS (As := [.int (-1)]) (rest := []) ⟨hx, hb, hml, hown, hts⟩ hK hP hA hS hZ (c_X7_levelOf l D cI cL ad zz hJ σ27 τ (-1) ((-1)) jz_m1) cw_RX7_98 ⟨by dsimp only; omega, by dsimp only; omega⟩ rfl rfl rfl hl.1 rfl (Nat.le_of_ble_eq_true rfl) dX7_part_39 ⟨Nat.zero_le _, Nat.zero_le _⟩ (fun r206 σ205 τ205 H locs h205 hP hS => ?_)
            obtain ⟨⟨rfl, rfl⟩, h205⟩ := h205
            rcases h205 with h207 | h208 | h209 | h210 | h211 | h212 | h213 | h214 | h215 | h216 | h217
            · obtain ⟨q219, k218⟩ := h207
              exact absurd (by omega : False) id
            · obtain ⟨q221, k220⟩ := h208
              exact absurd (by omega : False) id
            · obtain ⟨q223, k222⟩ := h209
              exact absurd (by omega : False) id
            · obtain ⟨q225, k224⟩ := h210
              exact absurd (by omega : False) id
            · obtain ⟨q227, k226⟩ := h211
              exact absurd (by omega : False) id
            · obtain ⟨q229, k228⟩ := h212
              exact absurd (by omega : False) id
            · obtain ⟨q231, k230⟩ := h213
              exact absurd (by omega : False) id
            · obtain ⟨q233, k232⟩ := h214
              exact absurd (by omega : False) id
            · obtain ⟨q235, k234⟩ := h215
              exact absurd (by omega : False) id
            · obtain ⟨q237, k236⟩ := h216
              exact absurd (by omega : False) id
            · obtain ⟨q239, k238⟩ := h217
              have q239 := q239.symm
              subst q239
              refine lv_iload_n hx hb dX7_part_42 rfl (lv_at hl 2 rfl) ?_
              refine lv_icmp_ne (tgt := 95) hx hb dX7_part_43 (by decide) (fun _ => ?_) (fun c => absurd c (by decide))
              have I240 : jI91 σ27 := ⟨(by omega), (by omega)⟩
              have I241 : jI92 σ27 := (show (-1) ≤ (σ27 9 2).toInt by omega)
              exact hret σ27 τ _ _ _ _ ⟨rfl, (fun i hi => ((f34 i hi).trans (f9 i hi))), (fun i hi => ((f35 i hi).trans (f10 i hi))), (fun i hi => ((f36 i hi).trans (f11 i hi))), I47, I240, I241, p37, trivial⟩ hP hS dX7_part_95
  exact lp23 1000000 0 σ7 _ _ ls (by have h90 := jz_0; omega) (by have h90 := jz_0; omega) (by have h90 := jz_0; omega) (by have h90 := jz_0; omega) (by have h90 := jz_0; omega) (by have h90 := jz_0; omega) (fun _ _ => rfl) (fun _ _ => rfl) (fun _ _ => rfl)  I15 hP hS hl
set_option maxHeartbeats 4000000 in
set_option maxRecDepth 100000 in
theorem c_X7_grammar_p2_g (l : Launch) (D : va_G) (cI cL : ClassId) (ad zz : Nat → Nat) (hJ : jD ad) (n : Nat) (h_p3 : ∀ (σ : Nat → Nat → Int32) (τ : Nat → Nat → Int64) (a2 : Int32) (A2 : Int) (t2 : a2.toInt = A2) (hI9 : jI9 σ) (hI91 : jI91 σ) (hI92 : jI92 σ) (hI12 : jI12 σ) (hp0 : 0 ≤ A2 ∧ A2 ≤ 6) (hp1 : -A2 + 6 ≤ (((n) : Nat) : Int)), jMv l yX7_part cX7_part 5 none ({ frames := (13 + 8 * (n)), cells := 0, slots := 0, locals := (520 + 360 * (n)) }) D cI cL ad zz [.ref (ad 9), .int 3, .int a2] σ τ (fun σ' τ' => τ = τ' ∧ (∀ i : Nat, (i < 9 ∨ 9 < i) ∧ (i < 12 ∨ 13 < i) → σ' i = σ i) ∧ (∀ k : Nat, (k < 1 ∨ 1 < k) ∧ (k < 2 ∨ 2 < k) → σ' 9 k = σ 9 k) ∧ (∀ k : Nat, (k < 0 ∨ 0 < k) ∧ (k < 1 ∨ 1 < k) → σ' 12 k = σ 12 k) ∧ (jI9 σ') ∧ (jI91 σ') ∧ (jI92 σ') ∧ (jI12 σ') ∧ True)) (σ : Nat → Nat → Int32) (τ : Nat → Nat → Int64) (a2 : Int32) (A2 : Int) (t2 : a2.toInt = A2) (hI9 : jI9 σ) (hI91 : jI91 σ) (hI92 : jI92 σ) (hI12 : jI12 σ) (hp0 : 0 ≤ A2 ∧ A2 ≤ 6) (hp1 : -A2 + 6 ≤ (((n) : Nat) : Int)) : jMv l yX7_part cX7_part 5 none ({ frames := (14 + 8 * (n)), cells := 0, slots := 0, locals := (560 + 360 * (n)) }) D cI cL ad zz [.ref (ad 9), .int 2, .int a2] σ τ (fun σ' τ' => τ = τ' ∧ (∀ i : Nat, (i < 9 ∨ 9 < i) ∧ (i < 12 ∨ 13 < i) → σ' i = σ i) ∧ (∀ k : Nat, (k < 1 ∨ 1 < k) ∧ (k < 2 ∨ 2 < k) → σ' 9 k = σ 9 k) ∧ (∀ k : Nat, (k < 0 ∨ 0 < k) ∧ (k < 1 ∨ 1 < k) → σ' 12 k = σ 12 k) ∧ (jI9 σ') ∧ (jI91 σ') ∧ (jI92 σ') ∧ (jI12 σ') ∧ True) := by
  refine jMv.of hJ (by decide +kernel) rfl (Nat.le_of_ble_eq_true rfl) ?_
  intro p e s m args below meth c Q ls hC hret hl hP
  obtain ⟨hx, hb, hr, hml, hown, hts, hK, -, hlocks, hZ⟩ := hC
  have hown : s.vm.findClass RX7 = some m.cls := hown
  have hS : va_S (jA ad) s.heap s.heap [] := va_S.rf
  have hA : ∀ q, jA ad q → jA ad q := fun _ h => h
  have hl : lv_has ls 5 [(0, .ref (ad 9)), (1, .int 2), (2, .int a2)] := hl
  have g2 := jrg t2
  obtain ⟨i1, w2, w3⟩ : (0 ≤ (σ 9 0).toInt ∧ (σ 9 0).toInt ≤ 80) ∧ (∀ k : Nat, k < 80 → 0 ≤ (σ 10 k).toInt ∧ (σ 10 k).toInt ≤ 255) ∧ (∀ k : Nat, k < 8 → 0 ≤ (σ 11 k).toInt ∧ (σ 11 k).toInt ≤ 3) := id hI9
  obtain ⟨i4, i5⟩ : (0 ≤ (σ 9 1).toInt) ∧ ((σ 9 1).toInt ≤ (σ 9 0).toInt) := id hI91
  have i6 : (-1) ≤ (σ 9 2).toInt := hI92
  refine lv_iload_n hx hb dX7_part_0 rfl (lv_at hl 1 rfl) ?_
  refine lv_iconst (v := 5) hx hb dX7_part_1 (by decide) ?_
  refine lv_icmp_lt (tgt := 11) hx hb dX7_part_2 (by decide) (fun _ => ?_) (fun c => absurd (by decide) c)
  refine lv_aload_n hx hb dX7_part_11 rfl (lv_at hl 0 rfl) ?_
  refine lv_iload_n hx hb dX7_part_12 rfl (lv_at hl 1 rfl) ?_
  refine lv_iconst (v := 1) hx hb dX7_part_13 (by decide) ?_
  refine lv_iadd hx hb dX7_part_14 ?_
  refine jtopr (y := 3) (by decide) ?_
  refine lv_iload_n hx hb dX7_part_15 rfl (lv_at hl 2 rfl) ?_
  refine jcallVv (As := [.int 3, .int a2]) (rest := []) ⟨hx, hb, hml, hown, hts⟩ hK hP hA hS hZ (h_p3 σ τ a2 (A2) t2 hI9 hI91 hI92 hI12 (by omega) (by omega)) cw_RX7_82 (jc_9 cI cL ad σ τ) rfl ⟨by dsimp only; omega, by dsimp only; omega⟩ rfl rfl rfl hl.1 rfl (Nat.le_of_ble_eq_true rfl) dX7_part_16 ⟨Nat.zero_le _, Nat.zero_le _⟩ (fun σ7 τ7 H locs h7 hP hS => ?_)
  obtain ⟨rfl, f9, f10, f11, I12, I13, I14, I15, h7⟩ := h7
  obtain ⟨i16, w17, w18⟩ : (0 ≤ (σ7 9 0).toInt ∧ (σ7 9 0).toInt ≤ 80) ∧ (∀ k : Nat, k < 80 → 0 ≤ (σ7 10 k).toInt ∧ (σ7 10 k).toInt ≤ 255) ∧ (∀ k : Nat, k < 8 → 0 ≤ (σ7 11 k).toInt ∧ (σ7 11 k).toInt ≤ 3) := id I12
  obtain ⟨i19, i20⟩ : (0 ≤ (σ7 9 1).toInt) ∧ ((σ7 9 1).toInt ≤ (σ7 9 0).toInt) := id I13
  have i21 : (-1) ≤ (σ7 9 2).toInt := I14
  have z22 : (σ7 9 0).toInt = (σ 9 0).toInt := (congrArg Int32.toInt (show σ7 9 0 = (σ 9 0) from (f10 0 (by decide))))
  refine lv_iconst (v := 0) hx hb dX7_part_19 (by decide) ?_
  refine lv_istore_n (lv' := [(3, .int 0), (0, .ref (ad 9)), (1, .int 2), (2, .int a2)]) hx hb dX7_part_20 rfl hl (by decide) rfl (fun ls hl => ?_)
  have lp23 : ∀ (n24 : Nat) (x25 : Int32) (σ27 : Nat → Nat → Int32) (H : Heap) (locs : List Loc) (ls : Array Slot), (-x25.toInt + 80 : Int) < n24 → 0 ≤ x25.toInt → x25.toInt ≤ 80 → 0 ≤ (σ27 9 1).toInt → (σ27 9 1).toInt ≤ (σ27 9 0).toInt → (-1) ≤ (σ27 9 2).toInt → (∀ i : Nat, (i < 9 ∨ 9 < i) ∧ (i < 12 ∨ 13 < i) → σ27 i = σ7 i) → (∀ k : Nat, (k < 1 ∨ 1 < k) ∧ (k < 2 ∨ 2 < k) → σ27 9 k = σ7 9 k) → (∀ k : Nat, (k < 0 ∨ 0 < k) ∧ (k < 1 ∨ 1 < k) → σ27 12 k = σ7 12 k) → jI12 σ27 → jH D cI cL ad σ27 τ H → va_S (jA ad) s.heap H locs → lv_has ls 5 [(3, .int x25), (0, .ref (ad 9)), (1, .int 2), (2, .int a2)] → W p l e ({ frames := (14 + 8 * (n)), cells := 0, slots := 0, locals := (560 + 360 * (n)) }) s m args below meth c H locs 0 0 Q (F0 m 21 ls []) := by
    intro n24
    induction n24 with
    | zero => intro x25 σ27 H locs ls h28 h29 h30 h31 h32 h33; exact absurd h28 (by omega)
    | succ n24 ihlp23 =>
      intro x25 σ27 H locs ls h28 h29 h30 h31 h32 h33 f34 f35 f36 p37 hP hS hl
      have z38 : (σ27 9 0).toInt = (σ 9 0).toInt := (congrArg Int32.toInt (show σ27 9 0 = (σ 9 0) from ((f35 0 (by decide)).trans (f10 0 (by decide)))))
      refine lv_iload_n hx hb dX7_part_21 rfl (lv_at hl 0 rfl) ?_
      refine lv_bipush (v := 80) hx hb dX7_part_22 (by decide) ?_
      refine lv_icmp_ge (tgt := 95) hx hb dX7_part_24 (by decide) (fun c39 => ?_) (fun c39 => ?_)
      · have kc39 := jle c39 jz_80 rfl
        have I40 : jI9 σ27 := jI9_fr (f35 0 (by decide)) (f34 10 (by decide)) (f34 11 (by decide)) I12
        have I41 : jI91 σ27 := ⟨(by omega), (by omega)⟩
        have I42 : jI92 σ27 := (show (-1) ≤ (σ27 9 2).toInt by omega)
        exact hret σ27 τ _ _ _ _ ⟨rfl, (fun i hi => ((f34 i hi).trans (f9 i hi))), (fun i hi => ((f35 i hi).trans (f10 i hi))), (fun i hi => ((f36 i hi).trans (f11 i hi))), I40, I41, I42, p37, trivial⟩ hP hS dX7_part_95
      · have kc39 := jnle c39 jz_80 rfl
        refine lv_aload_n hx hb dX7_part_27 rfl (lv_at hl 1 rfl) ?_
        refine va_get (D := D) hx hb hts inlX7 hown hK hP 9 (jc_9 cI cL ad σ27 τ) rfl 2 (by decide) (hts _ kw_14_6) (fun _ h9 => h9) rfl dX7_part_28 ?_
        refine lv_iconst (v := (-1)) hx hb dX7_part_31 (by decide) ?_
        refine lv_icmp_ne (tgt := 95) hx hb dX7_part_32 (by decide) (fun c43 => ?_) (fun c43 => ?_)
        · have kc43 := jne c43 rfl jz_m1
          have I44 : jI9 σ27 := jI9_fr (f35 0 (by decide)) (f34 10 (by decide)) (f34 11 (by decide)) I12
          have I45 : jI91 σ27 := ⟨(by omega), (by omega)⟩
          have I46 : jI92 σ27 := (show (-1) ≤ (σ27 9 2).toInt by omega)
          exact hret σ27 τ _ _ _ _ ⟨rfl, (fun i hi => ((f34 i hi).trans (f9 i hi))), (fun i hi => ((f35 i hi).trans (f10 i hi))), (fun i hi => ((f36 i hi).trans (f11 i hi))), I44, I45, I46, p37, trivial⟩ hP hS dX7_part_95
        · have kc43 := jeq c43 rfl jz_m1
          refine lv_aload_n hx hb dX7_part_35 rfl (lv_at hl 1 rfl) ?_
          have I47 : jI9 σ27 := jI9_fr (f35 0 (by decide)) (f34 10 (by decide)) (f34 11 (by decide)) I12
          refine jcallV (As := []) (rest := []) ⟨hx, hb, hml, hown, hts⟩ hK hP hA hS hZ (c_X7_sign_9 l D cI cL ad zz hJ σ27 τ I47) cw_RX7_35 (jc_9 cI cL ad σ27 τ) rfl ⟨by dsimp only; omega, by dsimp only; omega⟩ rfl rfl rfl hl.1 rfl (Nat.le_of_ble_eq_true rfl) dX7_part_36 ⟨Nat.zero_le _, Nat.zero_le _⟩ (fun r49 σ48 τ48 H locs h48 hP hS => ?_)
          obtain ⟨⟨rfl, rfl⟩, h48⟩ := h48
          rcases h48 with h50 | h51
          · obtain ⟨q54, k52, k53⟩ := h50
            have q55 : r49 = (σ 10 (σ27 9 1).toNatClampNeg) := q54.trans (by rw [f34 10 (by decide), f9 10 (by decide)])
            have q55e : (σ27 10 (σ27 9 1).toNatClampNeg).toInt = (σ 10 (σ27 9 1).toNatClampNeg).toInt := by rw [← q54, ← q55]
            have q55 := q55.symm
            subst q55
            refine jcallS (As := [.int (σ 10 (σ27 9 1).toNatClampNeg)]) (rest := []) ⟨hx, hb, hml, hown, hts⟩ hK hP hA hS hZ (c_X7_levelOf l D cI cL ad zz hJ σ27 τ (σ 10 (σ27 9 1).toNatClampNeg) ((σ 10 (σ27 9 1).toNatClampNeg).toInt) rfl) cw_RX7_98 ⟨by dsimp only; omega, by dsimp only; omega⟩ rfl rfl rfl hl.1 rfl (Nat.le_of_ble_eq_true rfl) dX7_part_39 ⟨Nat.zero_le _, Nat.zero_le _⟩ (fun r57 σ56 τ56 H locs h56 hP hS => ?_)
            obtain ⟨⟨rfl, rfl⟩, h56⟩ := h56
            rcases h56 with h58 | h59 | h60 | h61 | h62 | h63 | h64 | h65 | h66 | h67 | h68
            · obtain ⟨q70, k69⟩ := h58
              have q70 := q70.symm
              subst q70
              refine lv_iload_n hx hb dX7_part_42 rfl (lv_at hl 2 rfl) ?_
              refine lv_icmp_ne (tgt := 95) hx hb dX7_part_43 (by decide) (fun _ => ?_) (fun c => absurd c (by decide))
              have I71 : jI91 σ27 := ⟨(by omega), (by omega)⟩
              have I72 : jI92 σ27 := (show (-1) ≤ (σ27 9 2).toInt by omega)
              exact hret σ27 τ _ _ _ _ ⟨rfl, (fun i hi => ((f34 i hi).trans (f9 i hi))), (fun i hi => ((f35 i hi).trans (f10 i hi))), (fun i hi => ((f36 i hi).trans (f11 i hi))), I47, I71, I72, p37, trivial⟩ hP hS dX7_part_95
            · obtain ⟨q74, k73⟩ := h59
              have q74 := q74.symm
              subst q74
              refine lv_iload_n hx hb dX7_part_42 rfl (lv_at hl 2 rfl) ?_
              refine lv_icmp_ne (tgt := 95) hx hb dX7_part_43 (by decide) (fun _ => ?_) (fun c => absurd c (by decide))
              have I75 : jI91 σ27 := ⟨(by omega), (by omega)⟩
              have I76 : jI92 σ27 := (show (-1) ≤ (σ27 9 2).toInt by omega)
              exact hret σ27 τ _ _ _ _ ⟨rfl, (fun i hi => ((f34 i hi).trans (f9 i hi))), (fun i hi => ((f35 i hi).trans (f10 i hi))), (fun i hi => ((f36 i hi).trans (f11 i hi))), I47, I75, I76, p37, trivial⟩ hP hS dX7_part_95
            · obtain ⟨q78, k77⟩ := h60
              have q78 := q78.symm
              subst q78
              refine lv_iload_n hx hb dX7_part_42 rfl (lv_at hl 2 rfl) ?_
              refine lv_icmp_ne (tgt := 95) hx hb dX7_part_43 (by decide) (fun c => absurd (by decide) c) (fun _ => ?_)
              refine lv_aload_n hx hb dX7_part_46 rfl (lv_at hl 1 rfl) ?_
              refine jcallV (As := []) (rest := []) ⟨hx, hb, hml, hown, hts⟩ hK hP hA hS hZ (c_X7_sign_9 l D cI cL ad zz hJ σ27 τ I47) cw_RX7_35 (jc_9 cI cL ad σ27 τ) rfl ⟨by dsimp only; omega, by dsimp only; omega⟩ rfl rfl rfl hl.1 rfl (Nat.le_of_ble_eq_true rfl) dX7_part_47 ⟨Nat.zero_le _, Nat.zero_le _⟩ (fun r80 σ79 τ79 H locs h79 hP hS => ?_)
              obtain ⟨⟨rfl, rfl⟩, h79⟩ := h79
              rcases h79 with h81 | h82
              · obtain ⟨q85, k83, k84⟩ := h81
                have q86 : r80 = (σ 10 (σ27 9 1).toNatClampNeg) := q85.trans (by rw [f34 10 (by decide), f9 10 (by decide)])
                have q86e : (σ27 10 (σ27 9 1).toNatClampNeg).toInt = (σ 10 (σ27 9 1).toNatClampNeg).toInt := by rw [← q85, ← q86]
                have q86 := q86.symm
                subst q86
                refine lv_istore (lv' := [(4, .int (σ 10 (σ27 9 1).toNatClampNeg)), (3, .int x25), (0, .ref (ad 9)), (1, .int 2), (2, .int a2)]) hx hb dX7_part_50 hl (by decide) rfl (fun ls hl => ?_)
                refine lv_aload_n hx hb dX7_part_52 rfl (lv_at hl 2 rfl) ?_
                refine lv_dup hx hb dX7_part_53 rfl ?_
                refine va_get (D := D) hx hb hts inlX7 hown hK hP 9 (jc_9 cI cL ad σ27 τ) rfl 1 (by decide) (hts _ kw_13_17) (fun _ h9 => h9) rfl dX7_part_54 ?_
                refine lv_iconst (v := 1) hx hb dX7_part_57 (by decide) ?_
                have g87 := jrg (rfl : (σ27 9 1).toInt = (σ27 9 1).toInt)
                refine lv_iadd hx hb dX7_part_58 ?_
                refine lv_topi (fun x88 ex88 => ?_)
                have tx88 : x88.toInt = (σ27 9 1).toInt + 1 := (jadd ex88 rfl jz_1 (by omega) (by omega)).trans (by omega)
                refine jput (ty := .int) hx hb hts inlX7 tyX7 tyX7_ok nmX7 hown hK hP hJ hA hS (jc_9 cI cL ad σ27 τ) rfl (k := 1) (by decide) (Nat.le_of_ble_eq_true rfl) (jp_9_1 cI cL ad σ27 τ x88) (hts _ kw_13_17) (fun _ h9 => h9) rfl (by decide +kernel) rfl rfl dX7_part_59 (fun σ89 H locs eσ89 hP hS => ?_)
                refine lv_aload_n hx hb dX7_part_62 rfl (lv_at hl 2 rfl) ?_
                refine lv_iload_n hx hb dX7_part_63 rfl (lv_at hl 3 rfl) ?_
                refine lv_iconst (v := 1) hx hb dX7_part_64 (by decide) ?_
                refine lv_iadd hx hb dX7_part_65 ?_
                refine jtopr (y := 3) (by decide) ?_
                refine lv_iload_n hx hb dX7_part_66 rfl (lv_at hl 4 rfl) ?_
                have I90 : jI9 σ89 := jI9_fr (jkp 0 eσ89 (by decide)) (jnp 10 eσ89 (by decide)) (jnp 11 eσ89 (by decide)) I47
                have z91 : (σ89 9 1).toInt = (σ27 9 1).toInt + 1 := ((congrArg Int32.toInt (show σ89 9 1 = x88 from (jsp eσ89))).trans tx88)
                have z92 : (σ89 9 0).toInt = (σ 9 0).toInt := (congrArg Int32.toInt (show σ89 9 0 = (σ 9 0) from ((jkp 0 eσ89 (by decide)).trans ((f35 0 (by decide)).trans (f10 0 (by decide))))))
                have I93 : jI91 σ89 := ⟨(by omega), (by omega)⟩
                have z94 : (σ89 9 2).toInt = (σ27 9 2).toInt := (congrArg Int32.toInt (show σ89 9 2 = (σ27 9 2) from (jkp 2 eσ89 (by decide))))
                have I95 : jI92 σ89 := (show (-1) ≤ (σ89 9 2).toInt by omega)
                have I96 : jI12 σ89 := jI12_fr (congrFun (jnp 12 eσ89 (by decide)) 0) (jnp 13 eσ89 (by decide)) p37
                refine jcallVv (As := [.int 3, .int a2]) (rest := []) ⟨hx, hb, hml, hown, hts⟩ hK hP hA hS hZ (h_p3 σ89 τ a2 (A2) t2 I90 I93 I95 I96 (by omega) (by omega)) cw_RX7_82 (jc_9 cI cL ad σ89 τ) rfl ⟨by dsimp only; omega, by dsimp only; omega⟩ rfl rfl rfl hl.1 rfl (Nat.le_of_ble_eq_true rfl) dX7_part_67 ⟨Nat.zero_le _, Nat.zero_le _⟩ (fun σ97 τ97 H locs h97 hP hS => ?_)
                obtain ⟨rfl, f99, f100, f101, I102, I103, I104, I105, h97⟩ := h97
                obtain ⟨i106, w107, w108⟩ : (0 ≤ (σ97 9 0).toInt ∧ (σ97 9 0).toInt ≤ 80) ∧ (∀ k : Nat, k < 80 → 0 ≤ (σ97 10 k).toInt ∧ (σ97 10 k).toInt ≤ 255) ∧ (∀ k : Nat, k < 8 → 0 ≤ (σ97 11 k).toInt ∧ (σ97 11 k).toInt ≤ 3) := id I102
                obtain ⟨i109, i110⟩ : (0 ≤ (σ97 9 1).toInt) ∧ ((σ97 9 1).toInt ≤ (σ97 9 0).toInt) := id I103
                have i111 : (-1) ≤ (σ97 9 2).toInt := I104
                have z112 : (σ97 9 0).toInt = (σ 9 0).toInt := (congrArg Int32.toInt (show σ97 9 0 = (σ 9 0) from ((f100 0 (by decide)).trans ((jkp 0 eσ89 (by decide)).trans ((f35 0 (by decide)).trans (f10 0 (by decide)))))))
                refine lv_aload_n hx hb dX7_part_70 rfl (lv_at hl 2 rfl) ?_
                refine va_get (D := D) hx hb hts inlX7 hown hK hP 9 (jc_9 cI cL ad σ97 τ) rfl 5 (by decide) (hts _ kw_3_23) (fun _ h9 => h9) rfl dX7_part_71 ?_
                refine lv_sipush (v := 20000) hx hb dX7_part_74 (by decide) ?_
                refine lv_iload hx hb dX7_part_77 (lv_at hl 0 rfl) ?_
                have g113 := jrg (rfl : (σ 10 (σ27 9 1).toNatClampNeg).toInt = (σ 10 (σ27 9 1).toNatClampNeg).toInt)
                refine lv_iadd hx hb dX7_part_79 ?_
                refine lv_topi (fun x114 ex114 => ?_)
                have tx114 : x114.toInt = (σ 10 (σ27 9 1).toNatClampNeg).toInt + 20000 := (jadd ex114 jz_20000 rfl (by omega) (by omega)).trans (by omega)
                refine jcallVv (As := [.int x114]) (rest := []) ⟨hx, hb, hml, hown, hts⟩ hK hP hA hS hZ (c_X10_add_12 l D cI cL ad zz hJ σ97 τ x114 ((σ 10 (σ27 9 1).toNatClampNeg).toInt + 20000) tx114 I105 (by omega)) cw_RX7_86 (jc_12 cI cL ad σ97 τ) rfl ⟨by dsimp only; omega, by dsimp only; omega⟩ rfl rfl rfl hl.1 rfl (Nat.le_of_ble_eq_true rfl) dX7_part_80 ⟨Nat.zero_le _, Nat.zero_le _⟩ (fun σ115 τ115 H locs h115 hP hS => ?_)
                obtain ⟨rfl, f117, f118, I119, h115⟩ := h115
                refine lv_iload_n hx hb dX7_part_83 rfl (lv_at hl 3 rfl) ?_
                refine lv_iconst (v := 2) hx hb dX7_part_84 (by decide) ?_
                refine lv_icmp_ne (tgt := 89) hx hb dX7_part_85 (by decide) (fun c => absurd (by decide) c) (fun _ => ?_)
                have I120 : jI9 σ115 := jI9_fr (congrFun (f117 9 (by decide)) 0) (f117 10 (by decide)) (f117 11 (by decide)) I102
                have I121 : jI91 σ115 := jI91_fr (congrFun (f117 9 (by decide)) 0) (congrFun (f117 9 (by decide)) 1) I103
                have I122 : jI92 σ115 := jI92_fr (congrFun (f117 9 (by decide)) 2) I104
                exact hret σ115 τ _ _ _ _ ⟨rfl, (fun i hi => ((f117 i (imp_57 i hi)).trans ((f99 i hi).trans ((jnp i eσ89 (imp_59 i hi)).trans ((f34 i hi).trans (f9 i hi)))))), (fun i hi => ((congrFun (f117 9 (by decide)) i).trans ((f100 i hi).trans ((jkp i eσ89 (imp_39 i hi)).trans ((f35 i hi).trans (f10 i hi)))))), (fun i hi => ((f118 i hi).trans ((f101 i hi).trans ((congrFun (jnp 12 eσ89 (by decide)) i).trans ((f36 i hi).trans (f11 i hi)))))), I120, I121, I122, I119, trivial⟩ hP hS dX7_part_88
              · obtain ⟨q124, k123⟩ := h82
                exact absurd (by omega : False) id
            · obtain ⟨q126, k125⟩ := h61
              have q126 := q126.symm
              subst q126
              refine lv_iload_n hx hb dX7_part_42 rfl (lv_at hl 2 rfl) ?_
              refine lv_icmp_ne (tgt := 95) hx hb dX7_part_43 (by decide) (fun c => absurd (by decide) c) (fun _ => ?_)
              refine lv_aload_n hx hb dX7_part_46 rfl (lv_at hl 1 rfl) ?_
              refine jcallV (As := []) (rest := []) ⟨hx, hb, hml, hown, hts⟩ hK hP hA hS hZ (c_X7_sign_9 l D cI cL ad zz hJ σ27 τ I47) cw_RX7_35 (jc_9 cI cL ad σ27 τ) rfl ⟨by dsimp only; omega, by dsimp only; omega⟩ rfl rfl rfl hl.1 rfl (Nat.le_of_ble_eq_true rfl) dX7_part_47 ⟨Nat.zero_le _, Nat.zero_le _⟩ (fun r128 σ127 τ127 H locs h127 hP hS => ?_)
              obtain ⟨⟨rfl, rfl⟩, h127⟩ := h127
              rcases h127 with h129 | h130
              · obtain ⟨q133, k131, k132⟩ := h129
                have q134 : r128 = (σ 10 (σ27 9 1).toNatClampNeg) := q133.trans (by rw [f34 10 (by decide), f9 10 (by decide)])
                have q134e : (σ27 10 (σ27 9 1).toNatClampNeg).toInt = (σ 10 (σ27 9 1).toNatClampNeg).toInt := by rw [← q133, ← q134]
                have q134 := q134.symm
                subst q134
                refine lv_istore (lv' := [(4, .int (σ 10 (σ27 9 1).toNatClampNeg)), (3, .int x25), (0, .ref (ad 9)), (1, .int 2), (2, .int a2)]) hx hb dX7_part_50 hl (by decide) rfl (fun ls hl => ?_)
                refine lv_aload_n hx hb dX7_part_52 rfl (lv_at hl 2 rfl) ?_
                refine lv_dup hx hb dX7_part_53 rfl ?_
                refine va_get (D := D) hx hb hts inlX7 hown hK hP 9 (jc_9 cI cL ad σ27 τ) rfl 1 (by decide) (hts _ kw_13_17) (fun _ h9 => h9) rfl dX7_part_54 ?_
                refine lv_iconst (v := 1) hx hb dX7_part_57 (by decide) ?_
                have g135 := jrg (rfl : (σ27 9 1).toInt = (σ27 9 1).toInt)
                refine lv_iadd hx hb dX7_part_58 ?_
                refine lv_topi (fun x136 ex136 => ?_)
                have tx136 : x136.toInt = (σ27 9 1).toInt + 1 := (jadd ex136 rfl jz_1 (by omega) (by omega)).trans (by omega)
                refine jput (ty := .int) hx hb hts inlX7 tyX7 tyX7_ok nmX7 hown hK hP hJ hA hS (jc_9 cI cL ad σ27 τ) rfl (k := 1) (by decide) (Nat.le_of_ble_eq_true rfl) (jp_9_1 cI cL ad σ27 τ x136) (hts _ kw_13_17) (fun _ h9 => h9) rfl (by decide +kernel) rfl rfl dX7_part_59 (fun σ137 H locs eσ137 hP hS => ?_)
                refine lv_aload_n hx hb dX7_part_62 rfl (lv_at hl 2 rfl) ?_
                refine lv_iload_n hx hb dX7_part_63 rfl (lv_at hl 3 rfl) ?_
                refine lv_iconst (v := 1) hx hb dX7_part_64 (by decide) ?_
                refine lv_iadd hx hb dX7_part_65 ?_
                refine jtopr (y := 3) (by decide) ?_
                refine lv_iload_n hx hb dX7_part_66 rfl (lv_at hl 4 rfl) ?_
                have I138 : jI9 σ137 := jI9_fr (jkp 0 eσ137 (by decide)) (jnp 10 eσ137 (by decide)) (jnp 11 eσ137 (by decide)) I47
                have z139 : (σ137 9 1).toInt = (σ27 9 1).toInt + 1 := ((congrArg Int32.toInt (show σ137 9 1 = x136 from (jsp eσ137))).trans tx136)
                have z140 : (σ137 9 0).toInt = (σ 9 0).toInt := (congrArg Int32.toInt (show σ137 9 0 = (σ 9 0) from ((jkp 0 eσ137 (by decide)).trans ((f35 0 (by decide)).trans (f10 0 (by decide))))))
                have I141 : jI91 σ137 := ⟨(by omega), (by omega)⟩
                have z142 : (σ137 9 2).toInt = (σ27 9 2).toInt := (congrArg Int32.toInt (show σ137 9 2 = (σ27 9 2) from (jkp 2 eσ137 (by decide))))
                have I143 : jI92 σ137 := (show (-1) ≤ (σ137 9 2).toInt by omega)
                have I144 : jI12 σ137 := jI12_fr (congrFun (jnp 12 eσ137 (by decide)) 0) (jnp 13 eσ137 (by decide)) p37
                refine jcallVv (As := [.int 3, .int a2]) (rest := []) ⟨hx, hb, hml, hown, hts⟩ hK hP hA hS hZ (h_p3 σ137 τ a2 (A2) t2 I138 I141 I143 I144 (by omega) (by omega)) cw_RX7_82 (jc_9 cI cL ad σ137 τ) rfl ⟨by dsimp only; omega, by dsimp only; omega⟩ rfl rfl rfl hl.1 rfl (Nat.le_of_ble_eq_true rfl) dX7_part_67 ⟨Nat.zero_le _, Nat.zero_le _⟩ (fun σ145 τ145 H locs h145 hP hS => ?_)
                obtain ⟨rfl, f147, f148, f149, I150, I151, I152, I153, h145⟩ := h145
                obtain ⟨i154, w155, w156⟩ : (0 ≤ (σ145 9 0).toInt ∧ (σ145 9 0).toInt ≤ 80) ∧ (∀ k : Nat, k < 80 → 0 ≤ (σ145 10 k).toInt ∧ (σ145 10 k).toInt ≤ 255) ∧ (∀ k : Nat, k < 8 → 0 ≤ (σ145 11 k).toInt ∧ (σ145 11 k).toInt ≤ 3) := id I150
                obtain ⟨i157, i158⟩ : (0 ≤ (σ145 9 1).toInt) ∧ ((σ145 9 1).toInt ≤ (σ145 9 0).toInt) := id I151
                have i159 : (-1) ≤ (σ145 9 2).toInt := I152
                have z160 : (σ145 9 0).toInt = (σ 9 0).toInt := (congrArg Int32.toInt (show σ145 9 0 = (σ 9 0) from ((f148 0 (by decide)).trans ((jkp 0 eσ137 (by decide)).trans ((f35 0 (by decide)).trans (f10 0 (by decide)))))))
                refine lv_aload_n hx hb dX7_part_70 rfl (lv_at hl 2 rfl) ?_
                refine va_get (D := D) hx hb hts inlX7 hown hK hP 9 (jc_9 cI cL ad σ145 τ) rfl 5 (by decide) (hts _ kw_3_23) (fun _ h9 => h9) rfl dX7_part_71 ?_
                refine lv_sipush (v := 20000) hx hb dX7_part_74 (by decide) ?_
                refine lv_iload hx hb dX7_part_77 (lv_at hl 0 rfl) ?_
                have g161 := jrg (rfl : (σ 10 (σ27 9 1).toNatClampNeg).toInt = (σ 10 (σ27 9 1).toNatClampNeg).toInt)
                refine lv_iadd hx hb dX7_part_79 ?_
                refine lv_topi (fun x162 ex162 => ?_)
                have tx162 : x162.toInt = (σ 10 (σ27 9 1).toNatClampNeg).toInt + 20000 := (jadd ex162 jz_20000 rfl (by omega) (by omega)).trans (by omega)
                refine jcallVv (As := [.int x162]) (rest := []) ⟨hx, hb, hml, hown, hts⟩ hK hP hA hS hZ (c_X10_add_12 l D cI cL ad zz hJ σ145 τ x162 ((σ 10 (σ27 9 1).toNatClampNeg).toInt + 20000) tx162 I153 (by omega)) cw_RX7_86 (jc_12 cI cL ad σ145 τ) rfl ⟨by dsimp only; omega, by dsimp only; omega⟩ rfl rfl rfl hl.1 rfl (Nat.le_of_ble_eq_true rfl) dX7_part_80 ⟨Nat.zero_le _, Nat.zero_le _⟩ (fun σ163 τ163 H locs h163 hP hS => ?_)
                obtain ⟨rfl, f165, f166, I167, h163⟩ := h163
                refine lv_iload_n hx hb dX7_part_83 rfl (lv_at hl 3 rfl) ?_
                refine lv_iconst (v := 2) hx hb dX7_part_84 (by decide) ?_
                refine lv_icmp_ne (tgt := 89) hx hb dX7_part_85 (by decide) (fun c => absurd (by decide) c) (fun _ => ?_)
                have I168 : jI9 σ163 := jI9_fr (congrFun (f165 9 (by decide)) 0) (f165 10 (by decide)) (f165 11 (by decide)) I150
                have I169 : jI91 σ163 := jI91_fr (congrFun (f165 9 (by decide)) 0) (congrFun (f165 9 (by decide)) 1) I151
                have I170 : jI92 σ163 := jI92_fr (congrFun (f165 9 (by decide)) 2) I152
                exact hret σ163 τ _ _ _ _ ⟨rfl, (fun i hi => ((f165 i (imp_57 i hi)).trans ((f147 i hi).trans ((jnp i eσ137 (imp_59 i hi)).trans ((f34 i hi).trans (f9 i hi)))))), (fun i hi => ((congrFun (f165 9 (by decide)) i).trans ((f148 i hi).trans ((jkp i eσ137 (imp_39 i hi)).trans ((f35 i hi).trans (f10 i hi)))))), (fun i hi => ((f166 i hi).trans ((f149 i hi).trans ((congrFun (jnp 12 eσ137 (by decide)) i).trans ((f36 i hi).trans (f11 i hi)))))), I168, I169, I170, I167, trivial⟩ hP hS dX7_part_88
              · obtain ⟨q172, k171⟩ := h130
                exact absurd (by omega : False) id
            · obtain ⟨q174, k173⟩ := h62
              have q174 := q174.symm
              subst q174
              refine lv_iload_n hx hb dX7_part_42 rfl (lv_at hl 2 rfl) ?_
              refine lv_icmp_ne (tgt := 95) hx hb dX7_part_43 (by decide) (fun c => absurd (by decide) c) (fun _ => ?_)
              refine lv_aload_n hx hb dX7_part_46 rfl (lv_at hl 1 rfl) ?_
              refine jcallV (As := []) (rest := []) ⟨hx, hb, hml, hown, hts⟩ hK hP hA hS hZ (c_X7_sign_9 l D cI cL ad zz hJ σ27 τ I47) cw_RX7_35 (jc_9 cI cL ad σ27 τ) rfl ⟨by dsimp only; omega, by dsimp only; omega⟩ rfl rfl rfl hl.1 rfl (Nat.le_of_ble_eq_true rfl) dX7_part_47 ⟨Nat.zero_le _, Nat.zero_le _⟩ (fun r176 σ175 τ175 H locs h175 hP hS => ?_)
              obtain ⟨⟨rfl, rfl⟩, h175⟩ := h175
              rcases h175 with h177 | h178
              · obtain ⟨q181, k179, k180⟩ := h177
                have q182 : r176 = (σ 10 (σ27 9 1).toNatClampNeg) := q181.trans (by rw [f34 10 (by decide), f9 10 (by decide)])
                have q182e : (σ27 10 (σ27 9 1).toNatClampNeg).toInt = (σ 10 (σ27 9 1).toNatClampNeg).toInt := by rw [← q181, ← q182]
                have q182 := q182.symm
                subst q182
                refine lv_istore (lv' := [(4, .int (σ 10 (σ27 9 1).toNatClampNeg)), (3, .int x25), (0, .ref (ad 9)), (1, .int 2), (2, .int a2)]) hx hb dX7_part_50 hl (by decide) rfl (fun ls hl => ?_)
                refine lv_aload_n hx hb dX7_part_52 rfl (lv_at hl 2 rfl) ?_
                refine lv_dup hx hb dX7_part_53 rfl ?_
                refine va_get (D := D) hx hb hts inlX7 hown hK hP 9 (jc_9 cI cL ad σ27 τ) rfl 1 (by decide) (hts _ kw_13_17) (fun _ h9 => h9) rfl dX7_part_54 ?_
                refine lv_iconst (v := 1) hx hb dX7_part_57 (by decide) ?_
                have g183 := jrg (rfl : (σ27 9 1).toInt = (σ27 9 1).toInt)
                refine lv_iadd hx hb dX7_part_58 ?_
                refine lv_topi (fun x184 ex184 => ?_)
                have tx184 : x184.toInt = (σ27 9 1).toInt + 1 := (jadd ex184 rfl jz_1 (by omega) (by omega)).trans (by omega)
                refine jput (ty := .int) hx hb hts inlX7 tyX7 tyX7_ok nmX7 hown hK hP hJ hA hS (jc_9 cI cL ad σ27 τ) rfl (k := 1) (by decide) (Nat.le_of_ble_eq_true rfl) (jp_9_1 cI cL ad σ27 τ x184) (hts _ kw_13_17) (fun _ h9 => h9) rfl (by decide +kernel) rfl rfl dX7_part_59 (fun σ185 H locs eσ185 hP hS => ?_)
                refine lv_aload_n hx hb dX7_part_62 rfl (lv_at hl 2 rfl) ?_
                refine lv_iload_n hx hb dX7_part_63 rfl (lv_at hl 3 rfl) ?_
                refine lv_iconst (v := 1) hx hb dX7_part_64 (by decide) ?_
                refine lv_iadd hx hb dX7_part_65 ?_
                refine jtopr (y := 3) (by decide) ?_
                refine lv_iload_n hx hb dX7_part_66 rfl (lv_at hl 4 rfl) ?_
                have I186 : jI9 σ185 := jI9_fr (jkp 0 eσ185 (by decide)) (jnp 10 eσ185 (by decide)) (jnp 11 eσ185 (by decide)) I47
                have z187 : (σ185 9 1).toInt = (σ27 9 1).toInt + 1 := ((congrArg Int32.toInt (show σ185 9 1 = x184 from (jsp eσ185))).trans tx184)
                have z188 : (σ185 9 0).toInt = (σ 9 0).toInt := (congrArg Int32.toInt (show σ185 9 0 = (σ 9 0) from ((jkp 0 eσ185 (by decide)).trans ((f35 0 (by decide)).trans (f10 0 (by decide))))))
                have I189 : jI91 σ185 := ⟨(by omega), (by omega)⟩
                have z190 : (σ185 9 2).toInt = (σ27 9 2).toInt := (congrArg Int32.toInt (show σ185 9 2 = (σ27 9 2) from (jkp 2 eσ185 (by decide))))
                have I191 : jI92 σ185 := (show (-1) ≤ (σ185 9 2).toInt by omega)
                have I192 : jI12 σ185 := jI12_fr (congrFun (jnp 12 eσ185 (by decide)) 0) (jnp 13 eσ185 (by decide)) p37
                refine jcallVv (As := [.int 3, .int a2]) (rest := []) ⟨hx, hb, hml, hown, hts⟩ hK hP hA hS hZ (h_p3 σ185 τ a2 (A2) t2 I186 I189 I191 I192 (by omega) (by omega)) cw_RX7_82 (jc_9 cI cL ad σ185 τ) rfl ⟨by dsimp only; omega, by dsimp only; omega⟩ rfl rfl rfl hl.1 rfl (Nat.le_of_ble_eq_true rfl) dX7_part_67 ⟨Nat.zero_le _, Nat.zero_le _⟩ (fun σ193 τ193 H locs h193 hP hS => ?_)
                obtain ⟨rfl, f195, f196, f197, I198, I199, I200, I201, h193⟩ := h193
                obtain ⟨i202, w203, w204⟩ : (0 ≤ (σ193 9 0).toInt ∧ (σ193 9 0).toInt ≤ 80) ∧ (∀ k : Nat, k < 80 → 0 ≤ (σ193 10 k).toInt ∧ (σ193 10 k).toInt ≤ 255) ∧ (∀ k : Nat, k < 8 → 0 ≤ (σ193 11 k).toInt ∧ (σ193 11 k).toInt ≤ 3) := id I198
                obtain ⟨i205, i206⟩ : (0 ≤ (σ193 9 1).toInt) ∧ ((σ193 9 1).toInt ≤ (σ193 9 0).toInt) := id I199
                have i207 : (-1) ≤ (σ193 9 2).toInt := I200
                have z208 : (σ193 9 0).toInt = (σ 9 0).toInt := (congrArg Int32.toInt (show σ193 9 0 = (σ 9 0) from ((f196 0 (by decide)).trans ((jkp 0 eσ185 (by decide)).trans ((f35 0 (by decide)).trans (f10 0 (by decide)))))))
                refine lv_aload_n hx hb dX7_part_70 rfl (lv_at hl 2 rfl) ?_
                refine va_get (D := D) hx hb hts inlX7 hown hK hP 9 (jc_9 cI cL ad σ193 τ) rfl 5 (by decide) (hts _ kw_3_23) (fun _ h9 => h9) rfl dX7_part_71 ?_
                refine lv_sipush (v := 20000) hx hb dX7_part_74 (by decide) ?_
                refine lv_iload hx hb dX7_part_77 (lv_at hl 0 rfl) ?_
                have g209 := jrg (rfl : (σ 10 (σ27 9 1).toNatClampNeg).toInt = (σ 10 (σ27 9 1).toNatClampNeg).toInt)
                refine lv_iadd hx hb dX7_part_79 ?_
                refine lv_topi (fun x210 ex210 => ?_)
                have tx210 : x210.toInt = (σ 10 (σ27 9 1).toNatClampNeg).toInt + 20000 := (jadd ex210 jz_20000 rfl (by omega) (by omega)).trans (by omega)
                refine jcallVv (As := [.int x210]) (rest := []) ⟨hx, hb, hml, hown, hts⟩ hK hP hA hS hZ (c_X10_add_12 l D cI cL ad zz hJ σ193 τ x210 ((σ 10 (σ27 9 1).toNatClampNeg).toInt + 20000) tx210 I201 (by omega)) cw_RX7_86 (jc_12 cI cL ad σ193 τ) rfl ⟨by dsimp only; omega, by dsimp only; omega⟩ rfl rfl rfl hl.1 rfl (Nat.le_of_ble_eq_true rfl) dX7_part_80 ⟨Nat.zero_le _, Nat.zero_le _⟩ (fun σ211 τ211 H locs h211 hP hS => ?_)
                obtain ⟨rfl, f213, f214, I215, h211⟩ := h211
                refine lv_iload_n hx hb dX7_part_83 rfl (lv_at hl 3 rfl) ?_
                refine lv_iconst (v := 2) hx hb dX7_part_84 (by decide) ?_
                refine lv_icmp_ne (tgt := 89) hx hb dX7_part_85 (by decide) (fun c => absurd (by decide) c) (fun _ => ?_)
                have I216 : jI9 σ211 := jI9_fr (congrFun (f213 9 (by decide)) 0) (f213 10 (by decide)) (f213 11 (by decide)) I198
                have I217 : jI91 σ211 := jI91_fr (congrFun (f213 9 (by decide)) 0) (congrFun (f213 9 (by decide)) 1) I199
                have I218 : jI92 σ211 := jI92_fr (congrFun (f213 9 (by decide)) 2) I200
                exact hret σ211 τ _ _ _ _ ⟨rfl, (fun i hi => ((f213 i (imp_57 i hi)).trans ((f195 i hi).trans ((jnp i eσ185 (imp_59 i hi)).trans ((f34 i hi).trans (f9 i hi)))))), (fun i hi => ((congrFun (f213 9 (by decide)) i).trans ((f196 i hi).trans ((jkp i eσ185 (imp_39 i hi)).trans ((f35 i hi).trans (f10 i hi)))))), (fun i hi => ((f214 i hi).trans ((f197 i hi).trans ((congrFun (jnp 12 eσ185 (by decide)) i).trans ((f36 i hi).trans (f11 i hi)))))), I216, I217, I218, I215, trivial⟩ hP hS dX7_part_88
              · obtain ⟨q220, k219⟩ := h178
                exact absurd (by omega : False) id
            · obtain ⟨q222, k221⟩ := h63
              have q222 := q222.symm
              subst q222
              refine lv_iload_n hx hb dX7_part_42 rfl (lv_at hl 2 rfl) ?_
              refine lv_icmp_ne (tgt := 95) hx hb dX7_part_43 (by decide) (fun _ => ?_) (fun c => absurd c (by decide))
              have I223 : jI91 σ27 := ⟨(by omega), (by omega)⟩
              have I224 : jI92 σ27 := (show (-1) ≤ (σ27 9 2).toInt by omega)
              exact hret σ27 τ _ _ _ _ ⟨rfl, (fun i hi => ((f34 i hi).trans (f9 i hi))), (fun i hi => ((f35 i hi).trans (f10 i hi))), (fun i hi => ((f36 i hi).trans (f11 i hi))), I47, I223, I224, p37, trivial⟩ hP hS dX7_part_95
            · obtain ⟨q226, k225⟩ := h64
              have q226 := q226.symm
              subst q226
              refine lv_iload_n hx hb dX7_part_42 rfl (lv_at hl 2 rfl) ?_
              refine lv_icmp_ne (tgt := 95) hx hb dX7_part_43 (by decide) (fun _ => ?_) (fun c => absurd c (by decide))
              have I227 : jI91 σ27 := ⟨(by omega), (by omega)⟩
              have I228 : jI92 σ27 := (show (-1) ≤ (σ27 9 2).toInt by omega)
              exact hret σ27 τ _ _ _ _ ⟨rfl, (fun i hi => ((f34 i hi).trans (f9 i hi))), (fun i hi => ((f35 i hi).trans (f10 i hi))), (fun i hi => ((f36 i hi).trans (f11 i hi))), I47, I227, I228, p37, trivial⟩ hP hS dX7_part_95
            · obtain ⟨q230, k229⟩ := h65
              have q230 := q230.symm
              subst q230
              refine lv_iload_n hx hb dX7_part_42 rfl (lv_at hl 2 rfl) ?_
              refine lv_icmp_ne (tgt := 95) hx hb dX7_part_43 (by decide) (fun _ => ?_) (fun c => absurd c (by decide))
              have I231 : jI91 σ27 := ⟨(by omega), (by omega)⟩
              have I232 : jI92 σ27 := (show (-1) ≤ (σ27 9 2).toInt by omega)
              exact hret σ27 τ _ _ _ _ ⟨rfl, (fun i hi => ((f34 i hi).trans (f9 i hi))), (fun i hi => ((f35 i hi).trans (f10 i hi))), (fun i hi => ((f36 i hi).trans (f11 i hi))), I47, I231, I232, p37, trivial⟩ hP hS dX7_part_95
            · obtain ⟨q234, k233⟩ := h66
              have q234 := q234.symm
              subst q234
              refine lv_iload_n hx hb dX7_part_42 rfl (lv_at hl 2 rfl) ?_
              refine lv_icmp_ne (tgt := 95) hx hb dX7_part_43 (by decide) (fun _ => ?_) (fun c => absurd c (by decide))
              have I235 : jI91 σ27 := ⟨(by omega), (by omega)⟩
              have I236 : jI92 σ27 := (show (-1) ≤ (σ27 9 2).toInt by omega)
              exact hret σ27 τ _ _ _ _ ⟨rfl, (fun i hi => ((f34 i hi).trans (f9 i hi))), (fun i hi => ((f35 i hi).trans (f10 i hi))), (fun i hi => ((f36 i hi).trans (f11 i hi))), I47, I235, I236, p37, trivial⟩ hP hS dX7_part_95
            · obtain ⟨q238, k237⟩ := h67
              have q238 := q238.symm
              subst q238
              refine lv_iload_n hx hb dX7_part_42 rfl (lv_at hl 2 rfl) ?_
              refine lv_icmp_ne (tgt := 95) hx hb dX7_part_43 (by decide) (fun _ => ?_) (fun c => absurd c (by decide))
              have I239 : jI91 σ27 := ⟨(by omega), (by omega)⟩
              have I240 : jI92 σ27 := (show (-1) ≤ (σ27 9 2).toInt by omega)
              exact hret σ27 τ _ _ _ _ ⟨rfl, (fun i hi => ((f34 i hi).trans (f9 i hi))), (fun i hi => ((f35 i hi).trans (f10 i hi))), (fun i hi => ((f36 i hi).trans (f11 i hi))), I47, I239, I240, p37, trivial⟩ hP hS dX7_part_95
            · obtain ⟨q242, k241⟩ := h68
              have q242 := q242.symm
              subst q242
              refine lv_iload_n hx hb dX7_part_42 rfl (lv_at hl 2 rfl) ?_
              refine lv_icmp_ne (tgt := 95) hx hb dX7_part_43 (by decide) (fun _ => ?_) (fun c => absurd c (by decide))
              have I243 : jI91 σ27 := ⟨(by omega), (by omega)⟩
              have I244 : jI92 σ27 := (show (-1) ≤ (σ27 9 2).toInt by omega)
              exact hret σ27 τ _ _ _ _ ⟨rfl, (fun i hi => ((f34 i hi).trans (f9 i hi))), (fun i hi => ((f35 i hi).trans (f10 i hi))), (fun i hi => ((f36 i hi).trans (f11 i hi))), I47, I243, I244, p37, trivial⟩ hP hS dX7_part_95
          · obtain ⟨q246, k245⟩ := h51
            have q246 := q246.symm
            subst q246
            refine jcallS (As := [.int (-1)]) (rest := []) ⟨hx, hb, hml, hown, hts⟩ hK hP hA hS hZ (c_X7_levelOf l D cI cL ad zz hJ σ27 τ (-1) ((-1)) jz_m1) cw_RX7_98 ⟨by dsimp only; omega, by dsimp only; omega⟩ rfl rfl rfl hl.1 rfl (Nat.le_of_ble_eq_true rfl) dX7_part_39 ⟨Nat.zero_le _, Nat.zero_le _⟩ (fun r248 σ247 τ247 H locs h247 hP hS => ?_)
            obtain ⟨⟨rfl, rfl⟩, h247⟩ := h247
            rcases h247 with h249 | h250 | h251 | h252 | h253 | h254 | h255 | h256 | h257 | h258 | h259
            · obtain ⟨q261, k260⟩ := h249
              exact absurd (by omega : False) id
            · obtain ⟨q263, k262⟩ := h250
              exact absurd (by omega : False) id
            · obtain ⟨q265, k264⟩ := h251
              exact absurd (by omega : False) id
            · obtain ⟨q267, k266⟩ := h252
              exact absurd (by omega : False) id
            · obtain ⟨q269, k268⟩ := h253
              exact absurd (by omega : False) id
            · obtain ⟨q271, k270⟩ := h254
              exact absurd (by omega : False) id
            · obtain ⟨q273, k272⟩ := h255
              exact absurd (by omega : False) id
            · obtain ⟨q275, k274⟩ := h256
              exact absurd (by omega : False) id
            · obtain ⟨q277, k276⟩ := h257
              exact absurd (by omega : False) id
            · obtain ⟨q279, k278⟩ := h258
              exact absurd (by omega : False) id
            · obtain ⟨q281, k280⟩ := h259
              have q281 := q281.symm
              subst q281
              refine lv_iload_n hx hb dX7_part_42 rfl (lv_at hl 2 rfl) ?_
              refine lv_icmp_ne (tgt := 95) hx hb dX7_part_43 (by decide) (fun _ => ?_) (fun c => absurd c (by decide))
              have I282 : jI91 σ27 := ⟨(by omega), (by omega)⟩
              have I283 : jI92 σ27 := (show (-1) ≤ (σ27 9 2).toInt by omega)
              exact hret σ27 τ _ _ _ _ ⟨rfl, (fun i hi => ((f34 i hi).trans (f9 i hi))), (fun i hi => ((f35 i hi).trans (f10 i hi))), (fun i hi => ((f36 i hi).trans (f11 i hi))), I47, I282, I283, p37, trivial⟩ hP hS dX7_part_95
  exact lp23 1000000 0 σ7 _ _ ls (by have h90 := jz_0; omega) (by have h90 := jz_0; omega) (by have h90 := jz_0; omega) (by have h90 := jz_0; omega) (by have h90 := jz_0; omega) (by have h90 := jz_0; omega) (fun _ _ => rfl) (fun _ _ => rfl) (fun _ _ => rfl)  I15 hP hS hl
set_option maxHeartbeats 4000000 in
set_option maxRecDepth 100000 in
theorem c_X7_grammar_p1_g (l : Launch) (D : va_G) (cI cL : ClassId) (ad zz : Nat → Nat) (hJ : jD ad) (n : Nat) (h_p2 : ∀ (σ : Nat → Nat → Int32) (τ : Nat → Nat → Int64) (a2 : Int32) (A2 : Int) (t2 : a2.toInt = A2) (hI9 : jI9 σ) (hI91 : jI91 σ) (hI92 : jI92 σ) (hI12 : jI12 σ) (hp0 : 0 ≤ A2 ∧ A2 ≤ 6) (hp1 : -A2 + 6 ≤ (((n) : Nat) : Int)), jMv l yX7_part cX7_part 5 none ({ frames := (14 + 8 * (n)), cells := 0, slots := 0, locals := (560 + 360 * (n)) }) D cI cL ad zz [.ref (ad 9), .int 2, .int a2] σ τ (fun σ' τ' => τ = τ' ∧ (∀ i : Nat, (i < 9 ∨ 9 < i) ∧ (i < 12 ∨ 13 < i) → σ' i = σ i) ∧ (∀ k : Nat, (k < 1 ∨ 1 < k) ∧ (k < 2 ∨ 2 < k) → σ' 9 k = σ 9 k) ∧ (∀ k : Nat, (k < 0 ∨ 0 < k) ∧ (k < 1 ∨ 1 < k) → σ' 12 k = σ 12 k) ∧ (jI9 σ') ∧ (jI91 σ') ∧ (jI92 σ') ∧ (jI12 σ') ∧ True)) (σ : Nat → Nat → Int32) (τ : Nat → Nat → Int64) (a2 : Int32) (A2 : Int) (t2 : a2.toInt = A2) (hI9 : jI9 σ) (hI91 : jI91 σ) (hI92 : jI92 σ) (hI12 : jI12 σ) (hp0 : 0 ≤ A2 ∧ A2 ≤ 6) (hp1 : -A2 + 6 ≤ (((n) : Nat) : Int)) : jMv l yX7_part cX7_part 5 none ({ frames := (15 + 8 * (n)), cells := 0, slots := 0, locals := (600 + 360 * (n)) }) D cI cL ad zz [.ref (ad 9), .int 1, .int a2] σ τ (fun σ' τ' => τ = τ' ∧ (∀ i : Nat, (i < 9 ∨ 9 < i) ∧ (i < 12 ∨ 13 < i) → σ' i = σ i) ∧ (∀ k : Nat, (k < 1 ∨ 1 < k) ∧ (k < 2 ∨ 2 < k) → σ' 9 k = σ 9 k) ∧ (∀ k : Nat, (k < 0 ∨ 0 < k) ∧ (k < 1 ∨ 1 < k) → σ' 12 k = σ 12 k) ∧ (jI9 σ') ∧ (jI91 σ') ∧ (jI92 σ') ∧ (jI12 σ') ∧ True) := by
  refine jMv.of hJ (by decide +kernel) rfl (Nat.le_of_ble_eq_true rfl) ?_
  intro p e s m args below meth c Q ls hC hret hl hP
  obtain ⟨hx, hb, hr, hml, hown, hts, hK, -, hlocks, hZ⟩ := hC
  have hown : s.vm.findClass RX7 = some m.cls := hown
  have hS : va_S (jA ad) s.heap s.heap [] := va_S.rf
  have hA : ∀ q, jA ad q → jA ad q := fun _ h => h
  have hl : lv_has ls 5 [(0, .ref (ad 9)), (1, .int 1), (2, .int a2)] := hl
  have g2 := jrg t2
  obtain ⟨i1, w2, w3⟩ : (0 ≤ (σ 9 0).toInt ∧ (σ 9 0).toInt ≤ 80) ∧ (∀ k : Nat, k < 80 → 0 ≤ (σ 10 k).toInt ∧ (σ 10 k).toInt ≤ 255) ∧ (∀ k : Nat, k < 8 → 0 ≤ (σ 11 k).toInt ∧ (σ 11 k).toInt ≤ 3) := id hI9
  obtain ⟨i4, i5⟩ : (0 ≤ (σ 9 1).toInt) ∧ ((σ 9 1).toInt ≤ (σ 9 0).toInt) := id hI91
  have i6 : (-1) ≤ (σ 9 2).toInt := hI92
  refine lv_iload_n hx hb dX7_part_0 rfl (lv_at hl 1 rfl) ?_
  refine lv_iconst (v := 5) hx hb dX7_part_1 (by decide) ?_
  refine lv_icmp_lt (tgt := 11) hx hb dX7_part_2 (by decide) (fun _ => ?_) (fun c => absurd (by decide) c)
  refine lv_aload_n hx hb dX7_part_11 rfl (lv_at hl 0 rfl) ?_
  refine lv_iload_n hx hb dX7_part_12 rfl (lv_at hl 1 rfl) ?_
  refine lv_iconst (v := 1) hx hb dX7_part_13 (by decide) ?_
  refine lv_iadd hx hb dX7_part_14 ?_
  refine jtopr (y := 2) (by decide) ?_
  refine lv_iload_n hx hb dX7_part_15 rfl (lv_at hl 2 rfl) ?_
  refine jcallVv (As := [.int 2, .int a2]) (rest := []) ⟨hx, hb, hml, hown, hts⟩ hK hP hA hS hZ (h_p2 σ τ a2 (A2) t2 hI9 hI91 hI92 hI12 (by omega) (by omega)) cw_RX7_82 (jc_9 cI cL ad σ τ) rfl ⟨by dsimp only; omega, by dsimp only; omega⟩ rfl rfl rfl hl.1 rfl (Nat.le_of_ble_eq_true rfl) dX7_part_16 ⟨Nat.zero_le _, Nat.zero_le _⟩ (fun σ7 τ7 H locs h7 hP hS => ?_)
  obtain ⟨rfl, f9, f10, f11, I12, I13, I14, I15, h7⟩ := h7
  obtain ⟨i16, w17, w18⟩ : (0 ≤ (σ7 9 0).toInt ∧ (σ7 9 0).toInt ≤ 80) ∧ (∀ k : Nat, k < 80 → 0 ≤ (σ7 10 k).toInt ∧ (σ7 10 k).toInt ≤ 255) ∧ (∀ k : Nat, k < 8 → 0 ≤ (σ7 11 k).toInt ∧ (σ7 11 k).toInt ≤ 3) := id I12
  obtain ⟨i19, i20⟩ : (0 ≤ (σ7 9 1).toInt) ∧ ((σ7 9 1).toInt ≤ (σ7 9 0).toInt) := id I13
  have i21 : (-1) ≤ (σ7 9 2).toInt := I14
  have z22 : (σ7 9 0).toInt = (σ 9 0).toInt := (congrArg Int32.toInt (show σ7 9 0 = (σ 9 0) from (f10 0 (by decide))))
  refine lv_iconst (v := 0) hx hb dX7_part_19 (by decide) ?_
  refine lv_istore_n (lv' := [(3, .int 0), (0, .ref (ad 9)), (1, .int 1), (2, .int a2)]) hx hb dX7_part_20 rfl hl (by decide) rfl (fun ls hl => ?_)
  have lp23 : ∀ (n24 : Nat) (x25 : Int32) (σ27 : Nat → Nat → Int32) (H : Heap) (locs : List Loc) (ls : Array Slot), (-x25.toInt + 80 : Int) < n24 → 0 ≤ x25.toInt → x25.toInt ≤ 80 → 0 ≤ (σ27 9 1).toInt → (σ27 9 1).toInt ≤ (σ27 9 0).toInt → (-1) ≤ (σ27 9 2).toInt → (∀ i : Nat, (i < 9 ∨ 9 < i) ∧ (i < 12 ∨ 13 < i) → σ27 i = σ7 i) → (∀ k : Nat, (k < 1 ∨ 1 < k) ∧ (k < 2 ∨ 2 < k) → σ27 9 k = σ7 9 k) → (∀ k : Nat, (k < 0 ∨ 0 < k) ∧ (k < 1 ∨ 1 < k) → σ27 12 k = σ7 12 k) → jI12 σ27 → jH D cI cL ad σ27 τ H → va_S (jA ad) s.heap H locs → lv_has ls 5 [(3, .int x25), (0, .ref (ad 9)), (1, .int 1), (2, .int a2)] → W p l e ({ frames := (15 + 8 * (n)), cells := 0, slots := 0, locals := (600 + 360 * (n)) }) s m args below meth c H locs 0 0 Q (F0 m 21 ls []) := by
    intro n24
    induction n24 with
    | zero => intro x25 σ27 H locs ls h28 h29 h30 h31 h32 h33; exact absurd h28 (by omega)
    | succ n24 ihlp23 =>
      intro x25 σ27 H locs ls h28 h29 h30 h31 h32 h33 f34 f35 f36 p37 hP hS hl
      have z38 : (σ27 9 0).toInt = (σ 9 0).toInt := (congrArg Int32.toInt (show σ27 9 0 = (σ 9 0) from ((f35 0 (by decide)).trans (f10 0 (by decide)))))
      refine lv_iload_n hx hb dX7_part_21 rfl (lv_at hl 0 rfl) ?_
      refine lv_bipush (v := 80) hx hb dX7_part_22 (by decide) ?_
      refine lv_icmp_ge (tgt := 95) hx hb dX7_part_24 (by decide) (fun c39 => ?_) (fun c39 => ?_)
      · have kc39 := jle c39 jz_80 rfl
        have I40 : jI9 σ27 := jI9_fr (f35 0 (by decide)) (f34 10 (by decide)) (f34 11 (by decide)) I12
        have I41 : jI91 σ27 := ⟨(by omega), (by omega)⟩
        have I42 : jI92 σ27 := (show (-1) ≤ (σ27 9 2).toInt by omega)
        exact hret σ27 τ _ _ _ _ ⟨rfl, (fun i hi => ((f34 i hi).trans (f9 i hi))), (fun i hi => ((f35 i hi).trans (f10 i hi))), (fun i hi => ((f36 i hi).trans (f11 i hi))), I40, I41, I42, p37, trivial⟩ hP hS dX7_part_95
      · have kc39 := jnle c39 jz_80 rfl
        refine lv_aload_n hx hb dX7_part_27 rfl (lv_at hl 1 rfl) ?_
        refine va_get (D := D) hx hb hts inlX7 hown hK hP 9 (jc_9 cI cL ad σ27 τ) rfl 2 (by decide) (hts _ kw_14_6) (fun _ h9 => h9) rfl dX7_part_28 ?_
        refine lv_iconst (v := (-1)) hx hb dX7_part_31 (by decide) ?_
        refine lv_icmp_ne (tgt := 95) hx hb dX7_part_32 (by decide) (fun c43 => ?_) (fun c43 => ?_)
        · have kc43 := jne c43 rfl jz_m1
          have I44 : jI9 σ27 := jI9_fr (f35 0 (by decide)) (f34 10 (by decide)) (f34 11 (by decide)) I12
          have I45 : jI91 σ27 := ⟨(by omega), (by omega)⟩
          have I46 : jI92 σ27 := (show (-1) ≤ (σ27 9 2).toInt by omega)
          exact hret σ27 τ _ _ _ _ ⟨rfl, (fun i hi => ((f34 i hi).trans (f9 i hi))), (fun i hi => ((f35 i hi).trans (f10 i hi))), (fun i hi => ((f36 i hi).trans (f11 i hi))), I44, I45, I46, p37, trivial⟩ hP hS dX7_part_95
        · have kc43 := jeq c43 rfl jz_m1
          refine lv_aload_n hx hb dX7_part_35 rfl (lv_at hl 1 rfl) ?_
          have I47 : jI9 σ27 := jI9_fr (f35 0 (by decide)) (f34 10 (by decide)) (f34 11 (by decide)) I12
          refine jcallV (As := []) (rest := []) ⟨hx, hb, hml, hown, hts⟩ hK hP hA hS hZ (c_X7_sign_9 l D cI cL ad zz hJ σ27 τ I47) cw_RX7_35 (jc_9 cI cL ad σ27 τ) rfl ⟨by dsimp only; omega, by dsimp only; omega⟩ rfl rfl rfl hl.1 rfl (Nat.le_of_ble_eq_true rfl) dX7_part_36 ⟨Nat.zero_le _, Nat.zero_le _⟩ (fun r49 σ48 τ48 H locs h48 hP hS => ?_)
          obtain ⟨⟨rfl, rfl⟩, h48⟩ := h48
          rcases h48 with h50 | h51
          · obtain ⟨q54, k52, k53⟩ := h50
            have q55 : r49 = (σ 10 (σ27 9 1).toNatClampNeg) := q54.trans (by rw [f34 10 (by decide), f9 10 (by decide)])
            have q55e : (σ27 10 (σ27 9 1).toNatClampNeg).toInt = (σ 10 (σ27 9 1).toNatClampNeg).toInt := by rw [← q54, ← q55]
            have q55 := q55.symm
            subst q55
            refine jcallS (As := [.int (σ 10 (σ27 9 1).toNatClampNeg)]) (rest := []) ⟨hx, hb, hml, hown, hts⟩ hK hP hA hS hZ (c_X7_levelOf l D cI cL ad zz hJ σ27 τ (σ 10 (σ27 9 1).toNatClampNeg) ((σ 10 (σ27 9 1).toNatClampNeg).toInt) rfl) cw_RX7_98 ⟨by dsimp only; omega, by dsimp only; omega⟩ rfl rfl rfl hl.1 rfl (Nat.le_of_ble_eq_true rfl) dX7_part_39 ⟨Nat.zero_le _, Nat.zero_le _⟩ (fun r57 σ56 τ56 H locs h56 hP hS => ?_)
            obtain ⟨⟨rfl, rfl⟩, h56⟩ := h56
            rcases h56 with h58 | h59 | h60 | h61 | h62 | h63 | h64 | h65 | h66 | h67 | h68
            · obtain ⟨q70, k69⟩ := h58
              have q70 := q70.symm
              subst q70
              refine lv_iload_n hx hb dX7_part_42 rfl (lv_at hl 2 rfl) ?_
              refine lv_icmp_ne (tgt := 95) hx hb dX7_part_43 (by decide) (fun _ => ?_) (fun c => absurd c (by decide))
              have I71 : jI91 σ27 := ⟨(by omega), (by omega)⟩
              have I72 : jI92 σ27 := (show (-1) ≤ (σ27 9 2).toInt by omega)
              exact hret σ27 τ _ _ _ _ ⟨rfl, (fun i hi => ((f34 i hi).trans (f9 i hi))), (fun i hi => ((f35 i hi).trans (f10 i hi))), (fun i hi => ((f36 i hi).trans (f11 i hi))), I47, I71, I72, p37, trivial⟩ hP hS dX7_part_95
            · obtain ⟨q74, k73⟩ := h59
              have q74 := q74.symm
              subst q74
              refine lv_iload_n hx hb dX7_part_42 rfl (lv_at hl 2 rfl) ?_
              refine lv_icmp_ne (tgt := 95) hx hb dX7_part_43 (by decide) (fun c => absurd (by decide) c) (fun _ => ?_)
              refine lv_aload_n hx hb dX7_part_46 rfl (lv_at hl 1 rfl) ?_
              refine jcallV (As := []) (rest := []) ⟨hx, hb, hml, hown, hts⟩ hK hP hA hS hZ (c_X7_sign_9 l D cI cL ad zz hJ σ27 τ I47) cw_RX7_35 (jc_9 cI cL ad σ27 τ) rfl ⟨by dsimp only; omega, by dsimp only; omega⟩ rfl rfl rfl hl.1 rfl (Nat.le_of_ble_eq_true rfl) dX7_part_47 ⟨Nat.zero_le _, Nat.zero_le _⟩ (fun r76 σ75 τ75 H locs h75 hP hS => ?_)
              obtain ⟨⟨rfl, rfl⟩, h75⟩ := h75
              rcases h75 with h77 | h78
              · obtain ⟨q81, k79, k80⟩ := h77
                have q82 : r76 = (σ 10 (σ27 9 1).toNatClampNeg) := q81.trans (by rw [f34 10 (by decide), f9 10 (by decide)])
                have q82e : (σ27 10 (σ27 9 1).toNatClampNeg).toInt = (σ 10 (σ27 9 1).toNatClampNeg).toInt := by rw [← q81, ← q82]
                have q82 := q82.symm
                subst q82
                refine lv_istore (lv' := [(4, .int (σ 10 (σ27 9 1).toNatClampNeg)), (3, .int x25), (0, .ref (ad 9)), (1, .int 1), (2, .int a2)]) hx hb dX7_part_50 hl (by decide) rfl (fun ls hl => ?_)
                refine lv_aload_n hx hb dX7_part_52 rfl (lv_at hl 2 rfl) ?_
                refine lv_dup hx hb dX7_part_53 rfl ?_
                refine va_get (D := D) hx hb hts inlX7 hown hK hP 9 (jc_9 cI cL ad σ27 τ) rfl 1 (by decide) (hts _ kw_13_17) (fun _ h9 => h9) rfl dX7_part_54 ?_
                refine lv_iconst (v := 1) hx hb dX7_part_57 (by decide) ?_
                have g83 := jrg (rfl : (σ27 9 1).toInt = (σ27 9 1).toInt)
                refine lv_iadd hx hb dX7_part_58 ?_
                refine lv_topi (fun x84 ex84 => ?_)
                have tx84 : x84.toInt = (σ27 9 1).toInt + 1 := (jadd ex84 rfl jz_1 (by omega) (by omega)).trans (by omega)
                refine jput (ty := .int) hx hb hts inlX7 tyX7 tyX7_ok nmX7 hown hK hP hJ hA hS (jc_9 cI cL ad σ27 τ) rfl (k := 1) (by decide) (Nat.le_of_ble_eq_true rfl) (jp_9_1 cI cL ad σ27 τ x84) (hts _ kw_13_17) (fun _ h9 => h9) rfl (by decide +kernel) rfl rfl dX7_part_59 (fun σ85 H locs eσ85 hP hS => ?_)
                refine lv_aload_n hx hb dX7_part_62 rfl (lv_at hl 2 rfl) ?_
                refine lv_iload_n hx hb dX7_part_63 rfl (lv_at hl 3 rfl) ?_
                refine lv_iconst (v := 1) hx hb dX7_part_64 (by decide) ?_
                refine lv_iadd hx hb dX7_part_65 ?_
                refine jtopr (y := 2) (by decide) ?_
                refine lv_iload_n hx hb dX7_part_66 rfl (lv_at hl 4 rfl) ?_
                have I86 : jI9 σ85 := jI9_fr (jkp 0 eσ85 (by decide)) (jnp 10 eσ85 (by decide)) (jnp 11 eσ85 (by decide)) I47
                have z87 : (σ85 9 1).toInt = (σ27 9 1).toInt + 1 := ((congrArg Int32.toInt (show σ85 9 1 = x84 from (jsp eσ85))).trans tx84)
                have z88 : (σ85 9 0).toInt = (σ 9 0).toInt := (congrArg Int32.toInt (show σ85 9 0 = (σ 9 0) from ((jkp 0 eσ85 (by decide)).trans ((f35 0 (by decide)).trans (f10 0 (by decide))))))
                have I89 : jI91 σ85 := ⟨(by omega), (by omega)⟩
                have z90 : (σ85 9 2).toInt = (σ27 9 2).toInt := (congrArg Int32.toInt (show σ85 9 2 = (σ27 9 2) from (jkp 2 eσ85 (by decide))))
                have I91 : jI92 σ85 := (show (-1) ≤ (σ85 9 2).toInt by omega)
                have I92 : jI12 σ85 := jI12_fr (congrFun (jnp 12 eσ85 (by decide)) 0) (jnp 13 eσ85 (by decide)) p37
                refine jcallVv (As := [.int 2, .int a2]) (rest := []) ⟨hx, hb, hml, hown, hts⟩ hK hP hA hS hZ (h_p2 σ85 τ a2 (A2) t2 I86 I89 I91 I92 (by omega) (by omega)) cw_RX7_82 (jc_9 cI cL ad σ85 τ) rfl ⟨by dsimp only; omega, by dsimp only; omega⟩ rfl rfl rfl hl.1 rfl (Nat.le_of_ble_eq_true rfl) dX7_part_67 ⟨Nat.zero_le _, Nat.zero_le _⟩ (fun σ93 τ93 H locs h93 hP hS => ?_)
                obtain ⟨rfl, f95, f96, f97, I98, I99, I100, I101, h93⟩ := h93
                obtain ⟨i102, w103, w104⟩ : (0 ≤ (σ93 9 0).toInt ∧ (σ93 9 0).toInt ≤ 80) ∧ (∀ k : Nat, k < 80 → 0 ≤ (σ93 10 k).toInt ∧ (σ93 10 k).toInt ≤ 255) ∧ (∀ k : Nat, k < 8 → 0 ≤ (σ93 11 k).toInt ∧ (σ93 11 k).toInt ≤ 3) := id I98
                obtain ⟨i105, i106⟩ : (0 ≤ (σ93 9 1).toInt) ∧ ((σ93 9 1).toInt ≤ (σ93 9 0).toInt) := id I99
                have i107 : (-1) ≤ (σ93 9 2).toInt := I100
                have z108 : (σ93 9 0).toInt = (σ 9 0).toInt := (congrArg Int32.toInt (show σ93 9 0 = (σ 9 0) from ((f96 0 (by decide)).trans ((jkp 0 eσ85 (by decide)).trans ((f35 0 (by decide)).trans (f10 0 (by decide)))))))
                refine lv_aload_n hx hb dX7_part_70 rfl (lv_at hl 2 rfl) ?_
                refine va_get (D := D) hx hb hts inlX7 hown hK hP 9 (jc_9 cI cL ad σ93 τ) rfl 5 (by decide) (hts _ kw_3_23) (fun _ h9 => h9) rfl dX7_part_71 ?_
                refine lv_sipush (v := 20000) hx hb dX7_part_74 (by decide) ?_
                refine lv_iload hx hb dX7_part_77 (lv_at hl 0 rfl) ?_
                have g109 := jrg (rfl : (σ 10 (σ27 9 1).toNatClampNeg).toInt = (σ 10 (σ27 9 1).toNatClampNeg).toInt)
                refine lv_iadd hx hb dX7_part_79 ?_
                refine lv_topi (fun x110 ex110 => ?_)
                have tx110 : x110.toInt = (σ 10 (σ27 9 1).toNatClampNeg).toInt + 20000 := (jadd ex110 jz_20000 rfl (by omega) (by omega)).trans (by omega)
                refine jcallVv (As := [.int x110]) (rest := []) ⟨hx, hb, hml, hown, hts⟩ hK hP hA hS hZ (c_X10_add_12 l D cI cL ad zz hJ σ93 τ x110 ((σ 10 (σ27 9 1).toNatClampNeg).toInt + 20000) tx110 I101 (by omega)) cw_RX7_86 (jc_12 cI cL ad σ93 τ) rfl ⟨by dsimp only; omega, by dsimp only; omega⟩ rfl rfl rfl hl.1 rfl (Nat.le_of_ble_eq_true rfl) dX7_part_80 ⟨Nat.zero_le _, Nat.zero_le _⟩ (fun σ111 τ111 H locs h111 hP hS => ?_)
                obtain ⟨rfl, f113, f114, I115, h111⟩ := h111
                refine lv_iload_n hx hb dX7_part_83 rfl (lv_at hl 3 rfl) ?_
                refine lv_iconst (v := 2) hx hb dX7_part_84 (by decide) ?_
                refine lv_icmp_ne (tgt := 89) hx hb dX7_part_85 (by decide) (fun _ => ?_) (fun c => absurd c (by decide))
                obtain ⟨x116, ex116⟩ : ∃ y : Int32, y = x25 + 1 := ⟨_, rfl⟩
                have tx116 : x116.toInt = x25.toInt + 1 := (jadd ex116 rfl jz_1 (by omega) (by omega)).trans (by omega)
                refine lv_iinc (v := x116) (lv' := [(3, .int x116), (4, .int (σ 10 (σ27 9 1).toNatClampNeg)), (0, .ref (ad 9)), (1, .int 1), (2, .int a2)]) hx hb dX7_part_89 hl (k := 1) rfl (by rw [ex116]; rfl) (by decide) rfl (fun ls hl => ?_)
                refine lv_goto (tgt := 21) hx hb dX7_part_92 (by decide) ?_
                have z117 : (σ111 9 1).toInt = (σ93 9 1).toInt := (congrArg Int32.toInt (show σ111 9 1 = (σ93 9 1) from (congrFun (f113 9 (by decide)) 1)))
                have z118 : (σ111 9 0).toInt = (σ 9 0).toInt := (congrArg Int32.toInt (show σ111 9 0 = (σ 9 0) from ((congrFun (f113 9 (by decide)) 0).trans ((f96 0 (by decide)).trans ((jkp 0 eσ85 (by decide)).trans ((f35 0 (by decide)).trans (f10 0 (by decide))))))))
                have z119 : (σ111 9 2).toInt = (σ93 9 2).toInt := (congrArg Int32.toInt (show σ111 9 2 = (σ93 9 2) from (congrFun (f113 9 (by decide)) 2)))
                exact ihlp23 x116 σ111 _ _ ls (by have h90 := tx116; omega) (by have h90 := tx116; omega) (by have h90 := tx116; omega) (by have h90 := tx116; omega) (by have h90 := tx116; omega) (by have h90 := tx116; omega) (fun i hi => ((f113 i (imp_57 i hi)).trans ((f95 i hi).trans ((jnp i eσ85 (imp_59 i hi)).trans (f34 i hi))))) (fun i hi => ((congrFun (f113 9 (by decide)) i).trans ((f96 i hi).trans ((jkp i eσ85 (imp_39 i hi)).trans (f35 i hi))))) (fun i hi => ((f114 i hi).trans ((f97 i hi).trans ((congrFun (jnp 12 eσ85 (by decide)) i).trans (f36 i hi)))))  I115 hP hS (lv_sub hl [0, 2, 3, 4] rfl)
              · obtain ⟨q121, k120⟩ := h78
                exact absurd (by omega : False) id
            · obtain ⟨q123, k122⟩ := h60
              have q123 := q123.symm
              subst q123
              refine lv_iload_n hx hb dX7_part_42 rfl (lv_at hl 2 rfl) ?_
              refine lv_icmp_ne (tgt := 95) hx hb dX7_part_43 (by decide) (fun _ => ?_) (fun c => absurd c (by decide))
              have I124 : jI91 σ27 := ⟨(by omega), (by omega)⟩
              have I125 : jI92 σ27 := (show (-1) ≤ (σ27 9 2).toInt by omega)
              exact hret σ27 τ _ _ _ _ ⟨rfl, (fun i hi => ((f34 i hi).trans (f9 i hi))), (fun i hi => ((f35 i hi).trans (f10 i hi))), (fun i hi => ((f36 i hi).trans (f11 i hi))), I47, I124, I125, p37, trivial⟩ hP hS dX7_part_95
            · obtain ⟨q127, k126⟩ := h61
              have q127 := q127.symm
              subst q127
              refine lv_iload_n hx hb dX7_part_42 rfl (lv_at hl 2 rfl) ?_
              refine lv_icmp_ne (tgt := 95) hx hb dX7_part_43 (by decide) (fun _ => ?_) (fun c => absurd c (by decide))
              have I128 : jI91 σ27 := ⟨(by omega), (by omega)⟩
              have I129 : jI92 σ27 := (show (-1) ≤ (σ27 9 2).toInt by omega)
              exact hret σ27 τ _ _ _ _ ⟨rfl, (fun i hi => ((f34 i hi).trans (f9 i hi))), (fun i hi => ((f35 i hi).trans (f10 i hi))), (fun i hi => ((f36 i hi).trans (f11 i hi))), I47, I128, I129, p37, trivial⟩ hP hS dX7_part_95
            · obtain ⟨q131, k130⟩ := h62
              have q131 := q131.symm
              subst q131
              refine lv_iload_n hx hb dX7_part_42 rfl (lv_at hl 2 rfl) ?_
              refine lv_icmp_ne (tgt := 95) hx hb dX7_part_43 (by decide) (fun _ => ?_) (fun c => absurd c (by decide))
              have I132 : jI91 σ27 := ⟨(by omega), (by omega)⟩
              have I133 : jI92 σ27 := (show (-1) ≤ (σ27 9 2).toInt by omega)
              exact hret σ27 τ _ _ _ _ ⟨rfl, (fun i hi => ((f34 i hi).trans (f9 i hi))), (fun i hi => ((f35 i hi).trans (f10 i hi))), (fun i hi => ((f36 i hi).trans (f11 i hi))), I47, I132, I133, p37, trivial⟩ hP hS dX7_part_95
            · obtain ⟨q135, k134⟩ := h63
              have q135 := q135.symm
              subst q135
              refine lv_iload_n hx hb dX7_part_42 rfl (lv_at hl 2 rfl) ?_
              refine lv_icmp_ne (tgt := 95) hx hb dX7_part_43 (by decide) (fun _ => ?_) (fun c => absurd c (by decide))
              have I136 : jI91 σ27 := ⟨(by omega), (by omega)⟩
              have I137 : jI92 σ27 := (show (-1) ≤ (σ27 9 2).toInt by omega)
              exact hret σ27 τ _ _ _ _ ⟨rfl, (fun i hi => ((f34 i hi).trans (f9 i hi))), (fun i hi => ((f35 i hi).trans (f10 i hi))), (fun i hi => ((f36 i hi).trans (f11 i hi))), I47, I136, I137, p37, trivial⟩ hP hS dX7_part_95
            · obtain ⟨q139, k138⟩ := h64
              have q139 := q139.symm
              subst q139
              refine lv_iload_n hx hb dX7_part_42 rfl (lv_at hl 2 rfl) ?_
              refine lv_icmp_ne (tgt := 95) hx hb dX7_part_43 (by decide) (fun _ => ?_) (fun c => absurd c (by decide))
              have I140 : jI91 σ27 := ⟨(by omega), (by omega)⟩
              have I141 : jI92 σ27 := (show (-1) ≤ (σ27 9 2).toInt by omega)
              exact hret σ27 τ _ _ _ _ ⟨rfl, (fun i hi => ((f34 i hi).trans (f9 i hi))), (fun i hi => ((f35 i hi).trans (f10 i hi))), (fun i hi => ((f36 i hi).trans (f11 i hi))), I47, I140, I141, p37, trivial⟩ hP hS dX7_part_95
            · obtain ⟨q143, k142⟩ := h65
              have q143 := q143.symm
              subst q143
              refine lv_iload_n hx hb dX7_part_42 rfl (lv_at hl 2 rfl) ?_
              refine lv_icmp_ne (tgt := 95) hx hb dX7_part_43 (by decide) (fun _ => ?_) (fun c => absurd c (by decide))
              have I144 : jI91 σ27 := ⟨(by omega), (by omega)⟩
              have I145 : jI92 σ27 := (show (-1) ≤ (σ27 9 2).toInt by omega)
              exact hret σ27 τ _ _ _ _ ⟨rfl, (fun i hi => ((f34 i hi).trans (f9 i hi))), (fun i hi => ((f35 i hi).trans (f10 i hi))), (fun i hi => ((f36 i hi).trans (f11 i hi))), I47, I144, I145, p37, trivial⟩ hP hS dX7_part_95
            · obtain ⟨q147, k146⟩ := h66
              have q147 := q147.symm
              subst q147
              refine lv_iload_n hx hb dX7_part_42 rfl (lv_at hl 2 rfl) ?_
              refine lv_icmp_ne (tgt := 95) hx hb dX7_part_43 (by decide) (fun _ => ?_) (fun c => absurd c (by decide))
              have I148 : jI91 σ27 := ⟨(by omega), (by omega)⟩
              have I149 : jI92 σ27 := (show (-1) ≤ (σ27 9 2).toInt by omega)
              exact hret σ27 τ _ _ _ _ ⟨rfl, (fun i hi => ((f34 i hi).trans (f9 i hi))), (fun i hi => ((f35 i hi).trans (f10 i hi))), (fun i hi => ((f36 i hi).trans (f11 i hi))), I47, I148, I149, p37, trivial⟩ hP hS dX7_part_95
            · obtain ⟨q151, k150⟩ := h67
              have q151 := q151.symm
              subst q151
              refine lv_iload_n hx hb dX7_part_42 rfl (lv_at hl 2 rfl) ?_
              refine lv_icmp_ne (tgt := 95) hx hb dX7_part_43 (by decide) (fun _ => ?_) (fun c => absurd c (by decide))
              have I152 : jI91 σ27 := ⟨(by omega), (by omega)⟩
              have I153 : jI92 σ27 := (show (-1) ≤ (σ27 9 2).toInt by omega)
              exact hret σ27 τ _ _ _ _ ⟨rfl, (fun i hi => ((f34 i hi).trans (f9 i hi))), (fun i hi => ((f35 i hi).trans (f10 i hi))), (fun i hi => ((f36 i hi).trans (f11 i hi))), I47, I152, I153, p37, trivial⟩ hP hS dX7_part_95
            · obtain ⟨q155, k154⟩ := h68
              have q155 := q155.symm
              subst q155
              refine lv_iload_n hx hb dX7_part_42 rfl (lv_at hl 2 rfl) ?_
              refine lv_icmp_ne (tgt := 95) hx hb dX7_part_43 (by decide) (fun _ => ?_) (fun c => absurd c (by decide))
              have I156 : jI91 σ27 := ⟨(by omega), (by omega)⟩
              have I157 : jI92 σ27 := (show (-1) ≤ (σ27 9 2).toInt by omega)
              exact hret σ27 τ _ _ _ _ ⟨rfl, (fun i hi => ((f34 i hi).trans (f9 i hi))), (fun i hi => ((f35 i hi).trans (f10 i hi))), (fun i hi => ((f36 i hi).trans (f11 i hi))), I47, I156, I157, p37, trivial⟩ hP hS dX7_part_95
          · obtain ⟨q159, k158⟩ := h51
            have q159 := q159.symm
            subst q159
            refine jcallS (As := [.int (-1)]) (rest := []) ⟨hx, hb, hml, hown, hts⟩ hK hP hA hS hZ (c_X7_levelOf l D cI cL ad zz hJ σ27 τ (-1) ((-1)) jz_m1) cw_RX7_98 ⟨by dsimp only; omega, by dsimp only; omega⟩ rfl rfl rfl hl.1 rfl (Nat.le_of_ble_eq_true rfl) dX7_part_39 ⟨Nat.zero_le _, Nat.zero_le _⟩ (fun r161 σ160 τ160 H locs h160 hP hS => ?_)
            obtain ⟨⟨rfl, rfl⟩, h160⟩ := h160
            rcases h160 with h162 | h163 | h164 | h165 | h166 | h167 | h168 | h169 | h170 | h171 | h172
            · obtain ⟨q174, k173⟩ := h162
              exact absurd (by omega : False) id
            · obtain ⟨q176, k175⟩ := h163
              exact absurd (by omega : False) id
            · obtain ⟨q178, k177⟩ := h164
              exact absurd (by omega : False) id
            · obtain ⟨q180, k179⟩ := h165
              exact absurd (by omega : False) id
            · obtain ⟨q182, k181⟩ := h166
              exact absurd (by omega : False) id
            · obtain ⟨q184, k183⟩ := h167
              exact absurd (by omega : False) id
            · obtain ⟨q186, k185⟩ := h168
              exact absurd (by omega : False) id
            · obtain ⟨q188, k187⟩ := h169
              exact absurd (by omega : False) id
            · obtain ⟨q190, k189⟩ := h170
              exact absurd (by omega : False) id
            · obtain ⟨q192, k191⟩ := h171
              exact absurd (by omega : False) id
            · obtain ⟨q194, k193⟩ := h172
              have q194 := q194.symm
              subst q194
              refine lv_iload_n hx hb dX7_part_42 rfl (lv_at hl 2 rfl) ?_
              refine lv_icmp_ne (tgt := 95) hx hb dX7_part_43 (by decide) (fun _ => ?_) (fun c => absurd c (by decide))
              have I195 : jI91 σ27 := ⟨(by omega), (by omega)⟩
              have I196 : jI92 σ27 := (show (-1) ≤ (σ27 9 2).toInt by omega)
              exact hret σ27 τ _ _ _ _ ⟨rfl, (fun i hi => ((f34 i hi).trans (f9 i hi))), (fun i hi => ((f35 i hi).trans (f10 i hi))), (fun i hi => ((f36 i hi).trans (f11 i hi))), I47, I195, I196, p37, trivial⟩ hP hS dX7_part_95
  exact lp23 1000000 0 σ7 _ _ ls (by have h90 := jz_0; omega) (by have h90 := jz_0; omega) (by have h90 := jz_0; omega) (by have h90 := jz_0; omega) (by have h90 := jz_0; omega) (by have h90 := jz_0; omega) (fun _ _ => rfl) (fun _ _ => rfl) (fun _ _ => rfl)  I15 hP hS hl
set_option maxHeartbeats 4000000 in
set_option maxRecDepth 100000 in
theorem c_X7_grammar_p0_g (l : Launch) (D : va_G) (cI cL : ClassId) (ad zz : Nat → Nat) (hJ : jD ad) (n : Nat) (h_p1 : ∀ (σ : Nat → Nat → Int32) (τ : Nat → Nat → Int64) (a2 : Int32) (A2 : Int) (t2 : a2.toInt = A2) (hI9 : jI9 σ) (hI91 : jI91 σ) (hI92 : jI92 σ) (hI12 : jI12 σ) (hp0 : 0 ≤ A2 ∧ A2 ≤ 6) (hp1 : -A2 + 6 ≤ (((n) : Nat) : Int)), jMv l yX7_part cX7_part 5 none ({ frames := (15 + 8 * (n)), cells := 0, slots := 0, locals := (600 + 360 * (n)) }) D cI cL ad zz [.ref (ad 9), .int 1, .int a2] σ τ (fun σ' τ' => τ = τ' ∧ (∀ i : Nat, (i < 9 ∨ 9 < i) ∧ (i < 12 ∨ 13 < i) → σ' i = σ i) ∧ (∀ k : Nat, (k < 1 ∨ 1 < k) ∧ (k < 2 ∨ 2 < k) → σ' 9 k = σ 9 k) ∧ (∀ k : Nat, (k < 0 ∨ 0 < k) ∧ (k < 1 ∨ 1 < k) → σ' 12 k = σ 12 k) ∧ (jI9 σ') ∧ (jI91 σ') ∧ (jI92 σ') ∧ (jI12 σ') ∧ True)) (σ : Nat → Nat → Int32) (τ : Nat → Nat → Int64) (a2 : Int32) (A2 : Int) (t2 : a2.toInt = A2) (hI9 : jI9 σ) (hI91 : jI91 σ) (hI92 : jI92 σ) (hI12 : jI12 σ) (hp0 : 0 ≤ A2 ∧ A2 ≤ 6) (hp1 : -A2 + 6 ≤ (((n) : Nat) : Int)) : jMv l yX7_part cX7_part 5 none ({ frames := (16 + 8 * (n)), cells := 0, slots := 0, locals := (640 + 360 * (n)) }) D cI cL ad zz [.ref (ad 9), .int 0, .int a2] σ τ (fun σ' τ' => τ = τ' ∧ (∀ i : Nat, (i < 9 ∨ 9 < i) ∧ (i < 12 ∨ 13 < i) → σ' i = σ i) ∧ (∀ k : Nat, (k < 1 ∨ 1 < k) ∧ (k < 2 ∨ 2 < k) → σ' 9 k = σ 9 k) ∧ (∀ k : Nat, (k < 0 ∨ 0 < k) ∧ (k < 1 ∨ 1 < k) → σ' 12 k = σ 12 k) ∧ (jI9 σ') ∧ (jI91 σ') ∧ (jI92 σ') ∧ (jI12 σ') ∧ True) := by
  refine jMv.of hJ (by decide +kernel) rfl (Nat.le_of_ble_eq_true rfl) ?_
  intro p e s m args below meth c Q ls hC hret hl hP
  obtain ⟨hx, hb, hr, hml, hown, hts, hK, -, hlocks, hZ⟩ := hC
  have hown : s.vm.findClass RX7 = some m.cls := hown
  have hS : va_S (jA ad) s.heap s.heap [] := va_S.rf
  have hA : ∀ q, jA ad q → jA ad q := fun _ h => h
  have hl : lv_has ls 5 [(0, .ref (ad 9)), (1, .int 0), (2, .int a2)] := hl
  have g2 := jrg t2
  obtain ⟨i1, w2, w3⟩ : (0 ≤ (σ 9 0).toInt ∧ (σ 9 0).toInt ≤ 80) ∧ (∀ k : Nat, k < 80 → 0 ≤ (σ 10 k).toInt ∧ (σ 10 k).toInt ≤ 255) ∧ (∀ k : Nat, k < 8 → 0 ≤ (σ 11 k).toInt ∧ (σ 11 k).toInt ≤ 3) := id hI9
  obtain ⟨i4, i5⟩ : (0 ≤ (σ 9 1).toInt) ∧ ((σ 9 1).toInt ≤ (σ 9 0).toInt) := id hI91
  have i6 : (-1) ≤ (σ 9 2).toInt := hI92
  refine lv_iload_n hx hb dX7_part_0 rfl (lv_at hl 1 rfl) ?_
  refine lv_iconst (v := 5) hx hb dX7_part_1 (by decide) ?_
  refine lv_icmp_lt (tgt := 11) hx hb dX7_part_2 (by decide) (fun _ => ?_) (fun c => absurd (by decide) c)
  refine lv_aload_n hx hb dX7_part_11 rfl (lv_at hl 0 rfl) ?_
  refine lv_iload_n hx hb dX7_part_12 rfl (lv_at hl 1 rfl) ?_
  refine lv_iconst (v := 1) hx hb dX7_part_13 (by decide) ?_
  refine lv_iadd hx hb dX7_part_14 ?_
  refine jtopr (y := 1) (by decide) ?_
  refine lv_iload_n hx hb dX7_part_15 rfl (lv_at hl 2 rfl) ?_
  refine jcallVv (As := [.int 1, .int a2]) (rest := []) ⟨hx, hb, hml, hown, hts⟩ hK hP hA hS hZ (h_p1 σ τ a2 (A2) t2 hI9 hI91 hI92 hI12 (by omega) (by omega)) cw_RX7_82 (jc_9 cI cL ad σ τ) rfl ⟨by dsimp only; omega, by dsimp only; omega⟩ rfl rfl rfl hl.1 rfl (Nat.le_of_ble_eq_true rfl) dX7_part_16 ⟨Nat.zero_le _, Nat.zero_le _⟩ (fun σ7 τ7 H locs h7 hP hS => ?_)
  obtain ⟨rfl, f9, f10, f11, I12, I13, I14, I15, h7⟩ := h7
  obtain ⟨i16, w17, w18⟩ : (0 ≤ (σ7 9 0).toInt ∧ (σ7 9 0).toInt ≤ 80) ∧ (∀ k : Nat, k < 80 → 0 ≤ (σ7 10 k).toInt ∧ (σ7 10 k).toInt ≤ 255) ∧ (∀ k : Nat, k < 8 → 0 ≤ (σ7 11 k).toInt ∧ (σ7 11 k).toInt ≤ 3) := id I12
  obtain ⟨i19, i20⟩ : (0 ≤ (σ7 9 1).toInt) ∧ ((σ7 9 1).toInt ≤ (σ7 9 0).toInt) := id I13
  have i21 : (-1) ≤ (σ7 9 2).toInt := I14
  have z22 : (σ7 9 0).toInt = (σ 9 0).toInt := (congrArg Int32.toInt (show σ7 9 0 = (σ 9 0) from (f10 0 (by decide))))
  refine lv_iconst (v := 0) hx hb dX7_part_19 (by decide) ?_
  refine lv_istore_n (lv' := [(3, .int 0), (0, .ref (ad 9)), (1, .int 0), (2, .int a2)]) hx hb dX7_part_20 rfl hl (by decide) rfl (fun ls hl => ?_)
  have lp23 : ∀ (n24 : Nat) (x25 : Int32) (σ27 : Nat → Nat → Int32) (H : Heap) (locs : List Loc) (ls : Array Slot), (-x25.toInt + 80 : Int) < n24 → 0 ≤ x25.toInt → x25.toInt ≤ 80 → 0 ≤ (σ27 9 1).toInt → (σ27 9 1).toInt ≤ (σ27 9 0).toInt → (-1) ≤ (σ27 9 2).toInt → (∀ i : Nat, (i < 9 ∨ 9 < i) ∧ (i < 12 ∨ 13 < i) → σ27 i = σ7 i) → (∀ k : Nat, (k < 1 ∨ 1 < k) ∧ (k < 2 ∨ 2 < k) → σ27 9 k = σ7 9 k) → (∀ k : Nat, (k < 0 ∨ 0 < k) ∧ (k < 1 ∨ 1 < k) → σ27 12 k = σ7 12 k) → jI12 σ27 → jH D cI cL ad σ27 τ H → va_S (jA ad) s.heap H locs → lv_has ls 5 [(3, .int x25), (0, .ref (ad 9)), (1, .int 0), (2, .int a2)] → W p l e ({ frames := (16 + 8 * (n)), cells := 0, slots := 0, locals := (640 + 360 * (n)) }) s m args below meth c H locs 0 0 Q (F0 m 21 ls []) := by
    intro n24
    induction n24 with
    | zero => intro x25 σ27 H locs ls h28 h29 h30 h31 h32 h33; exact absurd h28 (by omega)
    | succ n24 ihlp23 =>
      intro x25 σ27 H locs ls h28 h29 h30 h31 h32 h33 f34 f35 f36 p37 hP hS hl
      have z38 : (σ27 9 0).toInt = (σ 9 0).toInt := (congrArg Int32.toInt (show σ27 9 0 = (σ 9 0) from ((f35 0 (by decide)).trans (f10 0 (by decide)))))
      refine lv_iload_n hx hb dX7_part_21 rfl (lv_at hl 0 rfl) ?_
      refine lv_bipush (v := 80) hx hb dX7_part_22 (by decide) ?_
      refine lv_icmp_ge (tgt := 95) hx hb dX7_part_24 (by decide) (fun c39 => ?_) (fun c39 => ?_)
      · have kc39 := jle c39 jz_80 rfl
        have I40 : jI9 σ27 := jI9_fr (f35 0 (by decide)) (f34 10 (by decide)) (f34 11 (by decide)) I12
        have I41 : jI91 σ27 := ⟨(by omega), (by omega)⟩
        have I42 : jI92 σ27 := (show (-1) ≤ (σ27 9 2).toInt by omega)
        exact hret σ27 τ _ _ _ _ ⟨rfl, (fun i hi => ((f34 i hi).trans (f9 i hi))), (fun i hi => ((f35 i hi).trans (f10 i hi))), (fun i hi => ((f36 i hi).trans (f11 i hi))), I40, I41, I42, p37, trivial⟩ hP hS dX7_part_95
      · have kc39 := jnle c39 jz_80 rfl
        refine lv_aload_n hx hb dX7_part_27 rfl (lv_at hl 1 rfl) ?_
        refine va_get (D := D) hx hb hts inlX7 hown hK hP 9 (jc_9 cI cL ad σ27 τ) rfl 2 (by decide) (hts _ kw_14_6) (fun _ h9 => h9) rfl dX7_part_28 ?_
        refine lv_iconst (v := (-1)) hx hb dX7_part_31 (by decide) ?_
        refine lv_icmp_ne (tgt := 95) hx hb dX7_part_32 (by decide) (fun c43 => ?_) (fun c43 => ?_)
        · have kc43 := jne c43 rfl jz_m1
          have I44 : jI9 σ27 := jI9_fr (f35 0 (by decide)) (f34 10 (by decide)) (f34 11 (by decide)) I12
          have I45 : jI91 σ27 := ⟨(by omega), (by omega)⟩
          have I46 : jI92 σ27 := (show (-1) ≤ (σ27 9 2).toInt by omega)
          exact hret σ27 τ _ _ _ _ ⟨rfl, (fun i hi => ((f34 i hi).trans (f9 i hi))), (fun i hi => ((f35 i hi).trans (f10 i hi))), (fun i hi => ((f36 i hi).trans (f11 i hi))), I44, I45, I46, p37, trivial⟩ hP hS dX7_part_95
        · have kc43 := jeq c43 rfl jz_m1
          refine lv_aload_n hx hb dX7_part_35 rfl (lv_at hl 1 rfl) ?_
          have I47 : jI9 σ27 := jI9_fr (f35 0 (by decide)) (f34 10 (by decide)) (f34 11 (by decide)) I12
          refine jcallV (As := []) (rest := []) ⟨hx, hb, hml, hown, hts⟩ hK hP hA hS hZ (c_X7_sign_9 l D cI cL ad zz hJ σ27 τ I47) cw_RX7_35 (jc_9 cI cL ad σ27 τ) rfl ⟨by dsimp only; omega, by dsimp only; omega⟩ rfl rfl rfl hl.1 rfl (Nat.le_of_ble_eq_true rfl) dX7_part_36 ⟨Nat.zero_le _, Nat.zero_le _⟩ (fun r49 σ48 τ48 H locs h48 hP hS => ?_)
          obtain ⟨⟨rfl, rfl⟩, h48⟩ := h48
          rcases h48 with h50 | h51
          · obtain ⟨q54, k52, k53⟩ := h50
            have q55 : r49 = (σ 10 (σ27 9 1).toNatClampNeg) := q54.trans (by rw [f34 10 (by decide), f9 10 (by decide)])
            have q55e : (σ27 10 (σ27 9 1).toNatClampNeg).toInt = (σ 10 (σ27 9 1).toNatClampNeg).toInt := by rw [← q54, ← q55]
            have q55 := q55.symm
            subst q55
            refine jcallS (As := [.int (σ 10 (σ27 9 1).toNatClampNeg)]) (rest := []) ⟨hx, hb, hml, hown, hts⟩ hK hP hA hS hZ (c_X7_levelOf l D cI cL ad zz hJ σ27 τ (σ 10 (σ27 9 1).toNatClampNeg) ((σ 10 (σ27 9 1).toNatClampNeg).toInt) rfl) cw_RX7_98 ⟨by dsimp only; omega, by dsimp only; omega⟩ rfl rfl rfl hl.1 rfl (Nat.le_of_ble_eq_true rfl) dX7_part_39 ⟨Nat.zero_le _, Nat.zero_le _⟩ (fun r57 σ56 τ56 H locs h56 hP hS => ?_)
            obtain ⟨⟨rfl, rfl⟩, h56⟩ := h56
            rcases h56 with h58 | h59 | h60 | h61 | h62 | h63 | h64 | h65 | h66 | h67 | h68
            · obtain ⟨q70, k69⟩ := h58
              have q70 := q70.symm
              subst q70
              refine lv_iload_n hx hb dX7_part_42 rfl (lv_at hl 2 rfl) ?_
              refine lv_icmp_ne (tgt := 95) hx hb dX7_part_43 (by decide) (fun c => absurd (by decide) c) (fun _ => ?_)
              refine lv_aload_n hx hb dX7_part_46 rfl (lv_at hl 1 rfl) ?_
              refine jcallV (As := []) (rest := []) ⟨hx, hb, hml, hown, hts⟩ hK hP hA hS hZ (c_X7_sign_9 l D cI cL ad zz hJ σ27 τ I47) cw_RX7_35 (jc_9 cI cL ad σ27 τ) rfl ⟨by dsimp only; omega, by dsimp only; omega⟩ rfl rfl rfl hl.1 rfl (Nat.le_of_ble_eq_true rfl) dX7_part_47 ⟨Nat.zero_le _, Nat.zero_le _⟩ (fun r72 σ71 τ71 H locs h71 hP hS => ?_)
              obtain ⟨⟨rfl, rfl⟩, h71⟩ := h71
              rcases h71 with h73 | h74
              · obtain ⟨q77, k75, k76⟩ := h73
                have q78 : r72 = (σ 10 (σ27 9 1).toNatClampNeg) := q77.trans (by rw [f34 10 (by decide), f9 10 (by decide)])
                have q78e : (σ27 10 (σ27 9 1).toNatClampNeg).toInt = (σ 10 (σ27 9 1).toNatClampNeg).toInt := by rw [← q77, ← q78]
                have q78 := q78.symm
                subst q78
                refine lv_istore (lv' := [(4, .int (σ 10 (σ27 9 1).toNatClampNeg)), (3, .int x25), (0, .ref (ad 9)), (1, .int 0), (2, .int a2)]) hx hb dX7_part_50 hl (by decide) rfl (fun ls hl => ?_)
                refine lv_aload_n hx hb dX7_part_52 rfl (lv_at hl 2 rfl) ?_
                refine lv_dup hx hb dX7_part_53 rfl ?_
                refine va_get (D := D) hx hb hts inlX7 hown hK hP 9 (jc_9 cI cL ad σ27 τ) rfl 1 (by decide) (hts _ kw_13_17) (fun _ h9 => h9) rfl dX7_part_54 ?_
                refine lv_iconst (v := 1) hx hb dX7_part_57 (by decide) ?_
                have g79 := jrg (rfl : (σ27 9 1).toInt = (σ27 9 1).toInt)
                refine lv_iadd hx hb dX7_part_58 ?_
                refine lv_topi (fun x80 ex80 => ?_)
                have tx80 : x80.toInt = (σ27 9 1).toInt + 1 := (jadd ex80 rfl jz_1 (by omega) (by omega)).trans (by omega)
                refine jput (ty := .int) hx hb hts inlX7 tyX7 tyX7_ok nmX7 hown hK hP hJ hA hS (jc_9 cI cL ad σ27 τ) rfl (k := 1) (by decide) (Nat.le_of_ble_eq_true rfl) (jp_9_1 cI cL ad σ27 τ x80) (hts _ kw_13_17) (fun _ h9 => h9) rfl (by decide +kernel) rfl rfl dX7_part_59 (fun σ81 H locs eσ81 hP hS => ?_)
                refine lv_aload_n hx hb dX7_part_62 rfl (lv_at hl 2 rfl) ?_
                refine lv_iload_n hx hb dX7_part_63 rfl (lv_at hl 3 rfl) ?_
                refine lv_iconst (v := 1) hx hb dX7_part_64 (by decide) ?_
                refine lv_iadd hx hb dX7_part_65 ?_
                refine jtopr (y := 1) (by decide) ?_
                refine lv_iload_n hx hb dX7_part_66 rfl (lv_at hl 4 rfl) ?_
                have I82 : jI9 σ81 := jI9_fr (jkp 0 eσ81 (by decide)) (jnp 10 eσ81 (by decide)) (jnp 11 eσ81 (by decide)) I47
                have z83 : (σ81 9 1).toInt = (σ27 9 1).toInt + 1 := ((congrArg Int32.toInt (show σ81 9 1 = x80 from (jsp eσ81))).trans tx80)
                have z84 : (σ81 9 0).toInt = (σ 9 0).toInt := (congrArg Int32.toInt (show σ81 9 0 = (σ 9 0) from ((jkp 0 eσ81 (by decide)).trans ((f35 0 (by decide)).trans (f10 0 (by decide))))))
                have I85 : jI91 σ81 := ⟨(by omega), (by omega)⟩
                have z86 : (σ81 9 2).toInt = (σ27 9 2).toInt := (congrArg Int32.toInt (show σ81 9 2 = (σ27 9 2) from (jkp 2 eσ81 (by decide))))
                have I87 : jI92 σ81 := (show (-1) ≤ (σ81 9 2).toInt by omega)
                have I88 : jI12 σ81 := jI12_fr (congrFun (jnp 12 eσ81 (by decide)) 0) (jnp 13 eσ81 (by decide)) p37
                refine jcallVv (As := [.int 1, .int a2]) (rest := []) ⟨hx, hb, hml, hown, hts⟩ hK hP hA hS hZ (h_p1 σ81 τ a2 (A2) t2 I82 I85 I87 I88 (by omega) (by omega)) cw_RX7_82 (jc_9 cI cL ad σ81 τ) rfl ⟨by dsimp only; omega, by dsimp only; omega⟩ rfl rfl rfl hl.1 rfl (Nat.le_of_ble_eq_true rfl) dX7_part_67 ⟨Nat.zero_le _, Nat.zero_le _⟩ (fun σ89 τ89 H locs h89 hP hS => ?_)
                obtain ⟨rfl, f91, f92, f93, I94, I95, I96, I97, h89⟩ := h89
                obtain ⟨i98, w99, w100⟩ : (0 ≤ (σ89 9 0).toInt ∧ (σ89 9 0).toInt ≤ 80) ∧ (∀ k : Nat, k < 80 → 0 ≤ (σ89 10 k).toInt ∧ (σ89 10 k).toInt ≤ 255) ∧ (∀ k : Nat, k < 8 → 0 ≤ (σ89 11 k).toInt ∧ (σ89 11 k).toInt ≤ 3) := id I94
                obtain ⟨i101, i102⟩ : (0 ≤ (σ89 9 1).toInt) ∧ ((σ89 9 1).toInt ≤ (σ89 9 0).toInt) := id I95
                have i103 : (-1) ≤ (σ89 9 2).toInt := I96
                have z104 : (σ89 9 0).toInt = (σ 9 0).toInt := (congrArg Int32.toInt (show σ89 9 0 = (σ 9 0) from ((f92 0 (by decide)).trans ((jkp 0 eσ81 (by decide)).trans ((f35 0 (by decide)).trans (f10 0 (by decide)))))))
                refine lv_aload_n hx hb dX7_part_70 rfl (lv_at hl 2 rfl) ?_
                refine va_get (D := D) hx hb hts inlX7 hown hK hP 9 (jc_9 cI cL ad σ89 τ) rfl 5 (by decide) (hts _ kw_3_23) (fun _ h9 => h9) rfl dX7_part_71 ?_
                refine lv_sipush (v := 20000) hx hb dX7_part_74 (by decide) ?_
                refine lv_iload hx hb dX7_part_77 (lv_at hl 0 rfl) ?_
                have g105 := jrg (rfl : (σ 10 (σ27 9 1).toNatClampNeg).toInt = (σ 10 (σ27 9 1).toNatClampNeg).toInt)
                refine lv_iadd hx hb dX7_part_79 ?_
                refine lv_topi (fun x106 ex106 => ?_)
                have tx106 : x106.toInt = (σ 10 (σ27 9 1).toNatClampNeg).toInt + 20000 := (jadd ex106 jz_20000 rfl (by omega) (by omega)).trans (by omega)
                refine jcallVv (As := [.int x106]) (rest := []) ⟨hx, hb, hml, hown, hts⟩ hK hP hA hS hZ (c_X10_add_12 l D cI cL ad zz hJ σ89 τ x106 ((σ 10 (σ27 9 1).toNatClampNeg).toInt + 20000) tx106 I97 (by omega)) cw_RX7_86 (jc_12 cI cL ad σ89 τ) rfl ⟨by dsimp only; omega, by dsimp only; omega⟩ rfl rfl rfl hl.1 rfl (Nat.le_of_ble_eq_true rfl) dX7_part_80 ⟨Nat.zero_le _, Nat.zero_le _⟩ (fun σ107 τ107 H locs h107 hP hS => ?_)
                obtain ⟨rfl, f109, f110, I111, h107⟩ := h107
                refine lv_iload_n hx hb dX7_part_83 rfl (lv_at hl 3 rfl) ?_
                refine lv_iconst (v := 2) hx hb dX7_part_84 (by decide) ?_
                refine lv_icmp_ne (tgt := 89) hx hb dX7_part_85 (by decide) (fun _ => ?_) (fun c => absurd c (by decide))
                obtain ⟨x112, ex112⟩ : ∃ y : Int32, y = x25 + 1 := ⟨_, rfl⟩
                have tx112 : x112.toInt = x25.toInt + 1 := (jadd ex112 rfl jz_1 (by omega) (by omega)).trans (by omega)
                refine lv_iinc (v := x112) (lv' := [(3, .int x112), (4, .int (σ 10 (σ27 9 1).toNatClampNeg)), (0, .ref (ad 9)), (1, .int 0), (2, .int a2)]) hx hb dX7_part_89 hl (k := 1) rfl (by rw [ex112]; rfl) (by decide) rfl (fun ls hl => ?_)
                refine lv_goto (tgt := 21) hx hb dX7_part_92 (by decide) ?_
                have z113 : (σ107 9 1).toInt = (σ89 9 1).toInt := (congrArg Int32.toInt (show σ107 9 1 = (σ89 9 1) from (congrFun (f109 9 (by decide)) 1)))
                have z114 : (σ107 9 0).toInt = (σ 9 0).toInt := (congrArg Int32.toInt (show σ107 9 0 = (σ 9 0) from ((congrFun (f109 9 (by decide)) 0).trans ((f92 0 (by decide)).trans ((jkp 0 eσ81 (by decide)).trans ((f35 0 (by decide)).trans (f10 0 (by decide))))))))
                have z115 : (σ107 9 2).toInt = (σ89 9 2).toInt := (congrArg Int32.toInt (show σ107 9 2 = (σ89 9 2) from (congrFun (f109 9 (by decide)) 2)))
                exact ihlp23 x112 σ107 _ _ ls (by have h90 := tx112; omega) (by have h90 := tx112; omega) (by have h90 := tx112; omega) (by have h90 := tx112; omega) (by have h90 := tx112; omega) (by have h90 := tx112; omega) (fun i hi => ((f109 i (imp_57 i hi)).trans ((f91 i hi).trans ((jnp i eσ81 (imp_59 i hi)).trans (f34 i hi))))) (fun i hi => ((congrFun (f109 9 (by decide)) i).trans ((f92 i hi).trans ((jkp i eσ81 (imp_39 i hi)).trans (f35 i hi))))) (fun i hi => ((f110 i hi).trans ((f93 i hi).trans ((congrFun (jnp 12 eσ81 (by decide)) i).trans (f36 i hi)))))  I111 hP hS (lv_sub hl [0, 2, 3, 4] rfl)
              · obtain ⟨q117, k116⟩ := h74
                exact absurd (by omega : False) id
            · obtain ⟨q119, k118⟩ := h59
              have q119 := q119.symm
              subst q119
              refine lv_iload_n hx hb dX7_part_42 rfl (lv_at hl 2 rfl) ?_
              refine lv_icmp_ne (tgt := 95) hx hb dX7_part_43 (by decide) (fun _ => ?_) (fun c => absurd c (by decide))
              have I120 : jI91 σ27 := ⟨(by omega), (by omega)⟩
              have I121 : jI92 σ27 := (show (-1) ≤ (σ27 9 2).toInt by omega)
              exact hret σ27 τ _ _ _ _ ⟨rfl, (fun i hi => ((f34 i hi).trans (f9 i hi))), (fun i hi => ((f35 i hi).trans (f10 i hi))), (fun i hi => ((f36 i hi).trans (f11 i hi))), I47, I120, I121, p37, trivial⟩ hP hS dX7_part_95
            · obtain ⟨q123, k122⟩ := h60
              have q123 := q123.symm
              subst q123
              refine lv_iload_n hx hb dX7_part_42 rfl (lv_at hl 2 rfl) ?_
              refine lv_icmp_ne (tgt := 95) hx hb dX7_part_43 (by decide) (fun _ => ?_) (fun c => absurd c (by decide))
              have I124 : jI91 σ27 := ⟨(by omega), (by omega)⟩
              have I125 : jI92 σ27 := (show (-1) ≤ (σ27 9 2).toInt by omega)
              exact hret σ27 τ _ _ _ _ ⟨rfl, (fun i hi => ((f34 i hi).trans (f9 i hi))), (fun i hi => ((f35 i hi).trans (f10 i hi))), (fun i hi => ((f36 i hi).trans (f11 i hi))), I47, I124, I125, p37, trivial⟩ hP hS dX7_part_95
            · obtain ⟨q127, k126⟩ := h61
              have q127 := q127.symm
              subst q127
              refine lv_iload_n hx hb dX7_part_42 rfl (lv_at hl 2 rfl) ?_
              refine lv_icmp_ne (tgt := 95) hx hb dX7_part_43 (by decide) (fun _ => ?_) (fun c => absurd c (by decide))
              have I128 : jI91 σ27 := ⟨(by omega), (by omega)⟩
              have I129 : jI92 σ27 := (show (-1) ≤ (σ27 9 2).toInt by omega)
              exact hret σ27 τ _ _ _ _ ⟨rfl, (fun i hi => ((f34 i hi).trans (f9 i hi))), (fun i hi => ((f35 i hi).trans (f10 i hi))), (fun i hi => ((f36 i hi).trans (f11 i hi))), I47, I128, I129, p37, trivial⟩ hP hS dX7_part_95
            · obtain ⟨q131, k130⟩ := h62
              have q131 := q131.symm
              subst q131
              refine lv_iload_n hx hb dX7_part_42 rfl (lv_at hl 2 rfl) ?_
              refine lv_icmp_ne (tgt := 95) hx hb dX7_part_43 (by decide) (fun _ => ?_) (fun c => absurd c (by decide))
              have I132 : jI91 σ27 := ⟨(by omega), (by omega)⟩
              have I133 : jI92 σ27 := (show (-1) ≤ (σ27 9 2).toInt by omega)
              exact hret σ27 τ _ _ _ _ ⟨rfl, (fun i hi => ((f34 i hi).trans (f9 i hi))), (fun i hi => ((f35 i hi).trans (f10 i hi))), (fun i hi => ((f36 i hi).trans (f11 i hi))), I47, I132, I133, p37, trivial⟩ hP hS dX7_part_95
            · obtain ⟨q135, k134⟩ := h63
              have q135 := q135.symm
              subst q135
              refine lv_iload_n hx hb dX7_part_42 rfl (lv_at hl 2 rfl) ?_
              refine lv_icmp_ne (tgt := 95) hx hb dX7_part_43 (by decide) (fun _ => ?_) (fun c => absurd c (by decide))
              have I136 : jI91 σ27 := ⟨(by omega), (by omega)⟩
              have I137 : jI92 σ27 := (show (-1) ≤ (σ27 9 2).toInt by omega)
              exact hret σ27 τ _ _ _ _ ⟨rfl, (fun i hi => ((f34 i hi).trans (f9 i hi))), (fun i hi => ((f35 i hi).trans (f10 i hi))), (fun i hi => ((f36 i hi).trans (f11 i hi))), I47, I136, I137, p37, trivial⟩ hP hS dX7_part_95
            · obtain ⟨q139, k138⟩ := h64
              have q139 := q139.symm
              subst q139
              refine lv_iload_n hx hb dX7_part_42 rfl (lv_at hl 2 rfl) ?_
              refine lv_icmp_ne (tgt := 95) hx hb dX7_part_43 (by decide) (fun _ => ?_) (fun c => absurd c (by decide))
              have I140 : jI91 σ27 := ⟨(by omega), (by omega)⟩
              have I141 : jI92 σ27 := (show (-1) ≤ (σ27 9 2).toInt by omega)
              exact hret σ27 τ _ _ _ _ ⟨rfl, (fun i hi => ((f34 i hi).trans (f9 i hi))), (fun i hi => ((f35 i hi).trans (f10 i hi))), (fun i hi => ((f36 i hi).trans (f11 i hi))), I47, I140, I141, p37, trivial⟩ hP hS dX7_part_95
            · obtain ⟨q143, k142⟩ := h65
              have q143 := q143.symm
              subst q143
              refine lv_iload_n hx hb dX7_part_42 rfl (lv_at hl 2 rfl) ?_
              refine lv_icmp_ne (tgt := 95) hx hb dX7_part_43 (by decide) (fun _ => ?_) (fun c => absurd c (by decide))
              have I144 : jI91 σ27 := ⟨(by omega), (by omega)⟩
              have I145 : jI92 σ27 := (show (-1) ≤ (σ27 9 2).toInt by omega)
              exact hret σ27 τ _ _ _ _ ⟨rfl, (fun i hi => ((f34 i hi).trans (f9 i hi))), (fun i hi => ((f35 i hi).trans (f10 i hi))), (fun i hi => ((f36 i hi).trans (f11 i hi))), I47, I144, I145, p37, trivial⟩ hP hS dX7_part_95
            · obtain ⟨q147, k146⟩ := h66
              have q147 := q147.symm
              subst q147
              refine lv_iload_n hx hb dX7_part_42 rfl (lv_at hl 2 rfl) ?_
              refine lv_icmp_ne (tgt := 95) hx hb dX7_part_43 (by decide) (fun _ => ?_) (fun c => absurd c (by decide))
              have I148 : jI91 σ27 := ⟨(by omega), (by omega)⟩
              have I149 : jI92 σ27 := (show (-1) ≤ (σ27 9 2).toInt by omega)
              exact hret σ27 τ _ _ _ _ ⟨rfl, (fun i hi => ((f34 i hi).trans (f9 i hi))), (fun i hi => ((f35 i hi).trans (f10 i hi))), (fun i hi => ((f36 i hi).trans (f11 i hi))), I47, I148, I149, p37, trivial⟩ hP hS dX7_part_95
            · obtain ⟨q151, k150⟩ := h67
              have q151 := q151.symm
              subst q151
              refine lv_iload_n hx hb dX7_part_42 rfl (lv_at hl 2 rfl) ?_
              refine lv_icmp_ne (tgt := 95) hx hb dX7_part_43 (by decide) (fun _ => ?_) (fun c => absurd c (by decide))
              have I152 : jI91 σ27 := ⟨(by omega), (by omega)⟩
              have I153 : jI92 σ27 := (show (-1) ≤ (σ27 9 2).toInt by omega)
              exact hret σ27 τ _ _ _ _ ⟨rfl, (fun i hi => ((f34 i hi).trans (f9 i hi))), (fun i hi => ((f35 i hi).trans (f10 i hi))), (fun i hi => ((f36 i hi).trans (f11 i hi))), I47, I152, I153, p37, trivial⟩ hP hS dX7_part_95
            · obtain ⟨q155, k154⟩ := h68
              have q155 := q155.symm
              subst q155
              refine lv_iload_n hx hb dX7_part_42 rfl (lv_at hl 2 rfl) ?_
              refine lv_icmp_ne (tgt := 95) hx hb dX7_part_43 (by decide) (fun _ => ?_) (fun c => absurd c (by decide))
              have I156 : jI91 σ27 := ⟨(by omega), (by omega)⟩
              have I157 : jI92 σ27 := (show (-1) ≤ (σ27 9 2).toInt by omega)
              exact hret σ27 τ _ _ _ _ ⟨rfl, (fun i hi => ((f34 i hi).trans (f9 i hi))), (fun i hi => ((f35 i hi).trans (f10 i hi))), (fun i hi => ((f36 i hi).trans (f11 i hi))), I47, I156, I157, p37, trivial⟩ hP hS dX7_part_95
          · obtain ⟨q159, k158⟩ := h51
            have q159 := q159.symm
            subst q159
            refine jcallS (As := [.int (-1)]) (rest := []) ⟨hx, hb, hml, hown, hts⟩ hK hP hA hS hZ (c_X7_levelOf l D cI cL ad zz hJ σ27 τ (-1) ((-1)) jz_m1) cw_RX7_98 ⟨by dsimp only; omega, by dsimp only; omega⟩ rfl rfl rfl hl.1 rfl (Nat.le_of_ble_eq_true rfl) dX7_part_39 ⟨Nat.zero_le _, Nat.zero_le _⟩ (fun r161 σ160 τ160 H locs h160 hP hS => ?_)
            obtain ⟨⟨rfl, rfl⟩, h160⟩ := h160
            rcases h160 with h162 | h163 | h164 | h165 | h166 | h167 | h168 | h169 | h170 | h171 | h172
            · obtain ⟨q174, k173⟩ := h162
              exact absurd (by omega : False) id
            · obtain ⟨q176, k175⟩ := h163
              exact absurd (by omega : False) id
            · obtain ⟨q178, k177⟩ := h164
              exact absurd (by omega : False) id
            · obtain ⟨q180, k179⟩ := h165
              exact absurd (by omega : False) id
            · obtain ⟨q182, k181⟩ := h166
              exact absurd (by omega : False) id
            · obtain ⟨q184, k183⟩ := h167
              exact absurd (by omega : False) id
            · obtain ⟨q186, k185⟩ := h168
              exact absurd (by omega : False) id
            · obtain ⟨q188, k187⟩ := h169
              exact absurd (by omega : False) id
            · obtain ⟨q190, k189⟩ := h170
              exact absurd (by omega : False) id
            · obtain ⟨q192, k191⟩ := h171
              exact absurd (by omega : False) id
            · obtain ⟨q194, k193⟩ := h172
              have q194 := q194.symm
              subst q194
              refine lv_iload_n hx hb dX7_part_42 rfl (lv_at hl 2 rfl) ?_
              refine lv_icmp_ne (tgt := 95) hx hb dX7_part_43 (by decide) (fun _ => ?_) (fun c => absurd c (by decide))
              have I195 : jI91 σ27 := ⟨(by omega), (by omega)⟩
              have I196 : jI92 σ27 := (show (-1) ≤ (σ27 9 2).toInt by omega)
              exact hret σ27 τ _ _ _ _ ⟨rfl, (fun i hi => ((f34 i hi).trans (f9 i hi))), (fun i hi => ((f35 i hi).trans (f10 i hi))), (fun i hi => ((f36 i hi).trans (f11 i hi))), I47, I195, I196, p37, trivial⟩ hP hS dX7_part_95
  exact lp23 1000000 0 σ7 _ _ ls (by have h90 := jz_0; omega) (by have h90 := jz_0; omega) (by have h90 := jz_0; omega) (by have h90 := jz_0; omega) (by have h90 := jz_0; omega) (by have h90 := jz_0; omega) (fun _ _ => rfl) (fun _ _ => rfl) (fun _ _ => rfl)  I15 hP hS hl
set_option maxHeartbeats 4000000 in
set_option maxRecDepth 100000 in
theorem c_X7_grammar (l : Launch) (D : va_G) (cI cL : ClassId) (ad zz : Nat → Nat) (hJ : jD ad) (n : Nat) : (∀ (σ : Nat → Nat → Int32) (τ : Nat → Nat → Int64) (a1 : Int32) (A1 : Int) (t1 : a1.toInt = A1) (hI9 : jI9 σ) (hI91 : jI91 σ) (hI92 : jI92 σ) (hI12 : jI12 σ) (hp0 : 0 ≤ A1 ∧ A1 ≤ 6) (hp1 : -A1 + 6 ≤ (((n) : Nat) : Int)), jMv l yX7_operand cX7_operand 3 none ({ frames := (10 + 8 * (n)), cells := 0, slots := 0, locals := (400 + 360 * (n)) }) D cI cL ad zz [.ref (ad 9), .int a1] σ τ (fun σ' τ' => τ = τ' ∧ (∀ i : Nat, (i < 9 ∨ 9 < i) ∧ (i < 12 ∨ 13 < i) → σ' i = σ i) ∧ (∀ k : Nat, (k < 1 ∨ 1 < k) ∧ (k < 2 ∨ 2 < k) → σ' 9 k = σ 9 k) ∧ (∀ k : Nat, (k < 0 ∨ 0 < k) ∧ (k < 1 ∨ 1 < k) → σ' 12 k = σ 12 k) ∧ (jI9 σ') ∧ (jI91 σ') ∧ (jI92 σ') ∧ (jI12 σ') ∧ True)) ∧ (∀ (σ : Nat → Nat → Int32) (τ : Nat → Nat → Int64) (a2 : Int32) (A2 : Int) (t2 : a2.toInt = A2) (hI9 : jI9 σ) (hI91 : jI91 σ) (hI92 : jI92 σ) (hI12 : jI12 σ) (hp0 : 0 ≤ A2 ∧ A2 ≤ 6) (hp1 : -A2 + 6 ≤ (((n) : Nat) : Int)), jMv l yX7_part cX7_part 5 none ({ frames := (11 + 8 * (n)), cells := 0, slots := 0, locals := (440 + 360 * (n)) }) D cI cL ad zz [.ref (ad 9), .int 5, .int a2] σ τ (fun σ' τ' => τ = τ' ∧ (∀ i : Nat, (i < 9 ∨ 9 < i) ∧ (i < 12 ∨ 13 < i) → σ' i = σ i) ∧ (∀ k : Nat, (k < 1 ∨ 1 < k) ∧ (k < 2 ∨ 2 < k) → σ' 9 k = σ 9 k) ∧ (∀ k : Nat, (k < 0 ∨ 0 < k) ∧ (k < 1 ∨ 1 < k) → σ' 12 k = σ 12 k) ∧ (jI9 σ') ∧ (jI91 σ') ∧ (jI92 σ') ∧ (jI12 σ') ∧ True)) ∧ (∀ (σ : Nat → Nat → Int32) (τ : Nat → Nat → Int64) (a2 : Int32) (A2 : Int) (t2 : a2.toInt = A2) (hI9 : jI9 σ) (hI91 : jI91 σ) (hI92 : jI92 σ) (hI12 : jI12 σ) (hp0 : 0 ≤ A2 ∧ A2 ≤ 6) (hp1 : -A2 + 6 ≤ (((n) : Nat) : Int)), jMv l yX7_part cX7_part 5 none ({ frames := (12 + 8 * (n)), cells := 0, slots := 0, locals := (480 + 360 * (n)) }) D cI cL ad zz [.ref (ad 9), .int 4, .int a2] σ τ (fun σ' τ' => τ = τ' ∧ (∀ i : Nat, (i < 9 ∨ 9 < i) ∧ (i < 12 ∨ 13 < i) → σ' i = σ i) ∧ (∀ k : Nat, (k < 1 ∨ 1 < k) ∧ (k < 2 ∨ 2 < k) → σ' 9 k = σ 9 k) ∧ (∀ k : Nat, (k < 0 ∨ 0 < k) ∧ (k < 1 ∨ 1 < k) → σ' 12 k = σ 12 k) ∧ (jI9 σ') ∧ (jI91 σ') ∧ (jI92 σ') ∧ (jI12 σ') ∧ True)) ∧ (∀ (σ : Nat → Nat → Int32) (τ : Nat → Nat → Int64) (a2 : Int32) (A2 : Int) (t2 : a2.toInt = A2) (hI9 : jI9 σ) (hI91 : jI91 σ) (hI92 : jI92 σ) (hI12 : jI12 σ) (hp0 : 0 ≤ A2 ∧ A2 ≤ 6) (hp1 : -A2 + 6 ≤ (((n) : Nat) : Int)), jMv l yX7_part cX7_part 5 none ({ frames := (13 + 8 * (n)), cells := 0, slots := 0, locals := (520 + 360 * (n)) }) D cI cL ad zz [.ref (ad 9), .int 3, .int a2] σ τ (fun σ' τ' => τ = τ' ∧ (∀ i : Nat, (i < 9 ∨ 9 < i) ∧ (i < 12 ∨ 13 < i) → σ' i = σ i) ∧ (∀ k : Nat, (k < 1 ∨ 1 < k) ∧ (k < 2 ∨ 2 < k) → σ' 9 k = σ 9 k) ∧ (∀ k : Nat, (k < 0 ∨ 0 < k) ∧ (k < 1 ∨ 1 < k) → σ' 12 k = σ 12 k) ∧ (jI9 σ') ∧ (jI91 σ') ∧ (jI92 σ') ∧ (jI12 σ') ∧ True)) ∧ (∀ (σ : Nat → Nat → Int32) (τ : Nat → Nat → Int64) (a2 : Int32) (A2 : Int) (t2 : a2.toInt = A2) (hI9 : jI9 σ) (hI91 : jI91 σ) (hI92 : jI92 σ) (hI12 : jI12 σ) (hp0 : 0 ≤ A2 ∧ A2 ≤ 6) (hp1 : -A2 + 6 ≤ (((n) : Nat) : Int)), jMv l yX7_part cX7_part 5 none ({ frames := (14 + 8 * (n)), cells := 0, slots := 0, locals := (560 + 360 * (n)) }) D cI cL ad zz [.ref (ad 9), .int 2, .int a2] σ τ (fun σ' τ' => τ = τ' ∧ (∀ i : Nat, (i < 9 ∨ 9 < i) ∧ (i < 12 ∨ 13 < i) → σ' i = σ i) ∧ (∀ k : Nat, (k < 1 ∨ 1 < k) ∧ (k < 2 ∨ 2 < k) → σ' 9 k = σ 9 k) ∧ (∀ k : Nat, (k < 0 ∨ 0 < k) ∧ (k < 1 ∨ 1 < k) → σ' 12 k = σ 12 k) ∧ (jI9 σ') ∧ (jI91 σ') ∧ (jI92 σ') ∧ (jI12 σ') ∧ True)) ∧ (∀ (σ : Nat → Nat → Int32) (τ : Nat → Nat → Int64) (a2 : Int32) (A2 : Int) (t2 : a2.toInt = A2) (hI9 : jI9 σ) (hI91 : jI91 σ) (hI92 : jI92 σ) (hI12 : jI12 σ) (hp0 : 0 ≤ A2 ∧ A2 ≤ 6) (hp1 : -A2 + 6 ≤ (((n) : Nat) : Int)), jMv l yX7_part cX7_part 5 none ({ frames := (15 + 8 * (n)), cells := 0, slots := 0, locals := (600 + 360 * (n)) }) D cI cL ad zz [.ref (ad 9), .int 1, .int a2] σ τ (fun σ' τ' => τ = τ' ∧ (∀ i : Nat, (i < 9 ∨ 9 < i) ∧ (i < 12 ∨ 13 < i) → σ' i = σ i) ∧ (∀ k : Nat, (k < 1 ∨ 1 < k) ∧ (k < 2 ∨ 2 < k) → σ' 9 k = σ 9 k) ∧ (∀ k : Nat, (k < 0 ∨ 0 < k) ∧ (k < 1 ∨ 1 < k) → σ' 12 k = σ 12 k) ∧ (jI9 σ') ∧ (jI91 σ') ∧ (jI92 σ') ∧ (jI12 σ') ∧ True)) ∧ (∀ (σ : Nat → Nat → Int32) (τ : Nat → Nat → Int64) (a2 : Int32) (A2 : Int) (t2 : a2.toInt = A2) (hI9 : jI9 σ) (hI91 : jI91 σ) (hI92 : jI92 σ) (hI12 : jI12 σ) (hp0 : 0 ≤ A2 ∧ A2 ≤ 6) (hp1 : -A2 + 6 ≤ (((n) : Nat) : Int)), jMv l yX7_part cX7_part 5 none ({ frames := (16 + 8 * (n)), cells := 0, slots := 0, locals := (640 + 360 * (n)) }) D cI cL ad zz [.ref (ad 9), .int 0, .int a2] σ τ (fun σ' τ' => τ = τ' ∧ (∀ i : Nat, (i < 9 ∨ 9 < i) ∧ (i < 12 ∨ 13 < i) → σ' i = σ i) ∧ (∀ k : Nat, (k < 1 ∨ 1 < k) ∧ (k < 2 ∨ 2 < k) → σ' 9 k = σ 9 k) ∧ (∀ k : Nat, (k < 0 ∨ 0 < k) ∧ (k < 1 ∨ 1 < k) → σ' 12 k = σ 12 k) ∧ (jI9 σ') ∧ (jI91 σ') ∧ (jI92 σ') ∧ (jI12 σ') ∧ True)) := by
  induction n with
  | zero =>
    have h_op := c_X7_grammar_op_z l D cI cL ad zz hJ
    have h_p5 := c_X7_grammar_p5_g l D cI cL ad zz hJ 0 h_op
    have h_p4 := c_X7_grammar_p4_g l D cI cL ad zz hJ 0 h_p5
    have h_p3 := c_X7_grammar_p3_g l D cI cL ad zz hJ 0 h_p4
    have h_p2 := c_X7_grammar_p2_g l D cI cL ad zz hJ 0 h_p3
    have h_p1 := c_X7_grammar_p1_g l D cI cL ad zz hJ 0 h_p2
    have h_p0 := c_X7_grammar_p0_g l D cI cL ad zz hJ 0 h_p1
    exact ⟨h_op, h_p5, h_p4, h_p3, h_p2, h_p1, h_p0⟩
  | succ n ih =>
    obtain ⟨g_op, g_p5, g_p4, g_p3, g_p2, g_p1, g_p0⟩ := ih
    have h_op := c_X7_grammar_op_g l D cI cL ad zz hJ n g_op g_p0
    have h_p5 := c_X7_grammar_p5_g l D cI cL ad zz hJ (n + 1) h_op
    have h_p4 := c_X7_grammar_p4_g l D cI cL ad zz hJ (n + 1) h_p5
    have h_p3 := c_X7_grammar_p3_g l D cI cL ad zz hJ (n + 1) h_p4
    have h_p2 := c_X7_grammar_p2_g l D cI cL ad zz hJ (n + 1) h_p3
    have h_p1 := c_X7_grammar_p1_g l D cI cL ad zz hJ (n + 1) h_p2
    have h_p0 := c_X7_grammar_p0_g l D cI cL ad zz hJ (n + 1) h_p1
    exact ⟨h_op, h_p5, h_p4, h_p3, h_p2, h_p1, h_p0⟩
set_option maxHeartbeats 4000000 in
set_option maxRecDepth 100000 in
theorem c_X7_readLine_9 (l : Launch) (D : va_G) (cI cL : ClassId) (ad zz : Nat → Nat) (hJ : jD ad) (σ : Nat → Nat → Int32) (τ : Nat → Nat → Int64) (hI9 : jI9 σ) (hI91 : jI91 σ) (hI92 : jI92 σ) (hI12 : jI12 σ) : jMv l yX7_readLine cX7_readLine 2 none ({ frames := 65, cells := 0, slots := 0, locals := 2824 }) D cI cL ad zz [.ref (ad 9)] σ τ (fun σ' τ' => τ = τ' ∧ (∀ i : Nat, (i < 9 ∨ 9 < i) ∧ (i < 12 ∨ 13 < i) → σ' i = σ i) ∧ (∀ k : Nat, (k < 1 ∨ 1 < k) ∧ (k < 2 ∨ 2 < k) → σ' 9 k = σ 9 k) ∧ (∀ k : Nat, (k < 0 ∨ 0 < k) ∧ (k < 1 ∨ 1 < k) → σ' 12 k = σ 12 k) ∧ (jI9 σ') ∧ (jI91 σ') ∧ (jI92 σ') ∧ (jI12 σ') ∧ True) := by
  refine jMv.of hJ (by decide +kernel) rfl (Nat.le_of_ble_eq_true rfl) ?_
  intro p e s m args below meth c Q ls hC hret hl hP
  obtain ⟨hx, hb, hr, hml, hown, hts, hK, -, hlocks, hZ⟩ := hC
  have hown : s.vm.findClass RX7 = some m.cls := hown
  have hS : va_S (jA ad) s.heap s.heap [] := va_S.rf
  have hA : ∀ q, jA ad q → jA ad q := fun _ h => h
  have hl : lv_has ls 2 [(0, .ref (ad 9))] := hl
  obtain ⟨i1, i2⟩ : (0 ≤ (σ 9 1).toInt) ∧ ((σ 9 1).toInt ≤ (σ 9 0).toInt) := id hI91
  have i3 : (-1) ≤ (σ 9 2).toInt := hI92
  obtain ⟨i4, w5⟩ : (0 ≤ (σ 12 0).toInt ∧ (σ 12 0).toInt ≤ 160) ∧ (∀ k : Nat, k < 160 → 0 ≤ (σ 13 k).toInt ∧ (σ 13 k).toInt ≤ 30000) := id hI12
  refine lv_aload_n hx hb dX7_readLine_0 rfl (lv_at hl 0 rfl) ?_
  refine lv_iconst (v := 0) hx hb dX7_readLine_1 (by decide) ?_
  refine lv_iconst (v := 0) hx hb dX7_readLine_2 (by decide) ?_
  refine jcallVv (As := [.int 0, .int 0]) (rest := []) ⟨hx, hb, hml, hown, hts⟩ hK hP hA hS hZ ((c_X7_grammar l D cI cL ad zz hJ 6).2.2.2.2.2.2 σ τ 0 (0) jz_0 hI9 hI91 hI92 hI12 (by omega) (by omega)) cw_RX7_82 (jc_9 cI cL ad σ τ) rfl ⟨Nat.le_of_ble_eq_true rfl, Nat.le_of_ble_eq_true rfl⟩ rfl rfl rfl hl.1 rfl (Nat.le_of_ble_eq_true rfl) dX7_readLine_3 ⟨Nat.zero_le _, Nat.zero_le _⟩ (fun σ6 τ6 H locs h6 hP hS => ?_)
  obtain ⟨rfl, f8, f9, f10, I11, I12, I13, I14, h6⟩ := h6
  obtain ⟨i15, i16⟩ : (0 ≤ (σ6 9 1).toInt) ∧ ((σ6 9 1).toInt ≤ (σ6 9 0).toInt) := id I12
  have i17 : (-1) ≤ (σ6 9 2).toInt := I13
  obtain ⟨i18, w19⟩ : (0 ≤ (σ6 12 0).toInt ∧ (σ6 12 0).toInt ≤ 160) ∧ (∀ k : Nat, k < 160 → 0 ≤ (σ6 13 k).toInt ∧ (σ6 13 k).toInt ≤ 30000) := id I14
  have z20 : (σ6 9 0).toInt = (σ 9 0).toInt := (congrArg Int32.toInt (show σ6 9 0 = (σ 9 0) from (f9 0 (by decide))))
  refine lv_iconst (v := (-1)) hx hb dX7_readLine_6 (by decide) ?_
  refine lv_istore_n (lv' := [(1, .int (-1)), (0, .ref (ad 9))]) hx hb dX7_readLine_7 rfl hl (by decide) rfl (fun ls hl => ?_)
  refine lv_aload_n hx hb dX7_readLine_8 rfl (lv_at hl 1 rfl) ?_
  refine lv_bipush (v := 63) hx hb dX7_readLine_9 (by decide) ?_
  refine jcallV (As := [.int 63]) (rest := []) ⟨hx, hb, hml, hown, hts⟩ hK hP hA hS hZ (c_X7_skip_9 l D cI cL ad zz hJ σ6 τ 63 (63) jz_63 I11 I12 I13 (by omega)) cw_RX7_50 (jc_9 cI cL ad σ6 τ) rfl ⟨Nat.le_of_ble_eq_true rfl, Nat.le_of_ble_eq_true rfl⟩ rfl rfl rfl hl.1 rfl (Nat.le_of_ble_eq_true rfl) dX7_readLine_11 ⟨Nat.zero_le _, Nat.zero_le _⟩ (fun r22 σ21 τ21 H locs h21 hP hS => ?_)
  obtain ⟨rfl, f23, f24, I25, I26, I27, h21⟩ := h21
  obtain ⟨i28, i29⟩ : (0 ≤ (σ21 9 1).toInt) ∧ ((σ21 9 1).toInt ≤ (σ21 9 0).toInt) := id I26
  have i30 : (-1) ≤ (σ21 9 2).toInt := I27
  have z31 : (σ21 9 0).toInt = (σ 9 0).toInt := (congrArg Int32.toInt (show σ21 9 0 = (σ 9 0) from ((f24 0 (by decide)).trans (f9 0 (by decide)))))
  have z32 : (σ21 9 2).toInt = (σ6 9 2).toInt := (congrArg Int32.toInt (show σ21 9 2 = (σ6 9 2) from (f24 2 (by decide))))
  refine lv_if_eq (tgt := 49) hx hb dX7_readLine_14 (by decide) (fun c33 => ?_) (fun c33 => ?_)
  · have kc33 := jeq c33 rfl jz_0
    refine lv_aload_n hx hb dX7_readLine_49 rfl (lv_at hl 1 rfl) ?_
    refine va_get (D := D) hx hb hts inlX7 hown hK hP 9 (jc_9 cI cL ad σ21 τ) rfl 5 (by decide) (hts _ kw_3_23) (fun _ h9 => h9) rfl dX7_readLine_50 ?_
    refine lv_sipush (v := 20059) hx hb dX7_readLine_53 (by decide) ?_
    have I34 : jI12 σ21 := jI12_fr (congrFun (f23 12 (by decide)) 0) (f23 13 (by decide)) I14
    refine jcallVv (As := [.int 20059]) (rest := []) ⟨hx, hb, hml, hown, hts⟩ hK hP hA hS hZ (c_X10_add_12 l D cI cL ad zz hJ σ21 τ 20059 (20059) jz_20059 I34 (by omega)) cw_RX7_86 (jc_12 cI cL ad σ21 τ) rfl ⟨Nat.le_of_ble_eq_true rfl, Nat.le_of_ble_eq_true rfl⟩ rfl rfl rfl hl.1 rfl (Nat.le_of_ble_eq_true rfl) dX7_readLine_56 ⟨Nat.zero_le _, Nat.zero_le _⟩ (fun σ35 τ35 H locs h35 hP hS => ?_)
    obtain ⟨rfl, f37, f38, I39, h35⟩ := h35
    obtain ⟨i40, w41⟩ : (0 ≤ (σ35 12 0).toInt ∧ (σ35 12 0).toInt ≤ 160) ∧ (∀ k : Nat, k < 160 → 0 ≤ (σ35 13 k).toInt ∧ (σ35 13 k).toInt ≤ 30000) := id I39
    refine lv_iload_n hx hb dX7_readLine_59 rfl (lv_at hl 0 rfl) ?_
    refine lv_if_lt (tgt := 86) hx hb dX7_readLine_60 (by decide) (fun _ => ?_) (fun c => absurd (by decide) c)
    have I42 : jI9 σ35 := jI9_fr (congrFun (f37 9 (by decide)) 0) (f37 10 (by decide)) (f37 11 (by decide)) I25
    have I43 : jI91 σ35 := jI91_fr (congrFun (f37 9 (by decide)) 0) (congrFun (f37 9 (by decide)) 1) I26
    have I44 : jI92 σ35 := jI92_fr (congrFun (f37 9 (by decide)) 2) I27
    exact hret σ35 τ _ _ _ _ ⟨rfl, (fun i hi => ((f37 i (imp_57 i hi)).trans ((f23 i (imp_58 i hi)).trans (f8 i hi)))), (fun i hi => ((congrFun (f37 9 (by decide)) i).trans ((f24 i (imp_60 i hi)).trans (f9 i hi)))), (fun i hi => ((f38 i hi).trans ((congrFun (f23 12 (by decide)) i).trans (f10 i hi)))), I42, I43, I44, I39, trivial⟩ hP hS dX7_readLine_86
  · have kc33 := jne c33 rfl jz_0
    refine lv_aload_n hx hb dX7_readLine_17 rfl (lv_at hl 1 rfl) ?_
    refine va_get (D := D) hx hb hts inlX7 hown hK hP 9 (jc_9 cI cL ad σ21 τ) rfl 5 (by decide) (hts _ kw_3_23) (fun _ h9 => h9) rfl dX7_readLine_18 ?_
    refine lv_sipush (v := 20063) hx hb dX7_readLine_21 (by decide) ?_
    have I45 : jI12 σ21 := jI12_fr (congrFun (f23 12 (by decide)) 0) (f23 13 (by decide)) I14
    refine jcallVv (As := [.int 20063]) (rest := []) ⟨hx, hb, hml, hown, hts⟩ hK hP hA hS hZ (c_X10_add_12 l D cI cL ad zz hJ σ21 τ 20063 (20063) jz_20063 I45 (by omega)) cw_RX7_86 (jc_12 cI cL ad σ21 τ) rfl ⟨Nat.le_of_ble_eq_true rfl, Nat.le_of_ble_eq_true rfl⟩ rfl rfl rfl hl.1 rfl (Nat.le_of_ble_eq_true rfl) dX7_readLine_24 ⟨Nat.zero_le _, Nat.zero_le _⟩ (fun σ46 τ46 H locs h46 hP hS => ?_)
    obtain ⟨rfl, f48, f49, I50, h46⟩ := h46
    obtain ⟨i51, w52⟩ : (0 ≤ (σ46 12 0).toInt ∧ (σ46 12 0).toInt ≤ 160) ∧ (∀ k : Nat, k < 160 → 0 ≤ (σ46 13 k).toInt ∧ (σ46 13 k).toInt ≤ 30000) := id I50
    refine lv_aload_n hx hb dX7_readLine_27 rfl (lv_at hl 1 rfl) ?_
    refine va_get (D := D) hx hb hts inlX7 hown hK hP 9 (jc_9 cI cL ad σ46 τ) rfl 5 (by decide) (hts _ kw_3_23) (fun _ h9 => h9) rfl dX7_readLine_28 ?_
    refine va_get (D := D) hx hb hts inlX10 hown hK hP 12 (jc_12 cI cL ad σ46 τ) rfl 0 (by decide) (hts _ kw_17_2) (fun _ h9 => h9) rfl dX7_readLine_31 ?_
    refine lv_istore_n (lv' := [(1, .int (σ46 12 0)), (0, .ref (ad 9))]) hx hb dX7_readLine_34 rfl hl (by decide) rfl (fun ls hl => ?_)
    refine lv_aload_n hx hb dX7_readLine_35 rfl (lv_at hl 1 rfl) ?_
    refine va_get (D := D) hx hb hts inlX7 hown hK hP 9 (jc_9 cI cL ad σ46 τ) rfl 5 (by decide) (hts _ kw_3_23) (fun _ h9 => h9) rfl dX7_readLine_36 ?_
    refine lv_iconst (v := 0) hx hb dX7_readLine_39 (by decide) ?_
    refine jcallVv (As := [.int 0]) (rest := []) ⟨hx, hb, hml, hown, hts⟩ hK hP hA hS hZ (c_X10_add_12 l D cI cL ad zz hJ σ46 τ 0 (0) jz_0 I50 (by omega)) cw_RX7_86 (jc_12 cI cL ad σ46 τ) rfl ⟨Nat.le_of_ble_eq_true rfl, Nat.le_of_ble_eq_true rfl⟩ rfl rfl rfl hl.1 rfl (Nat.le_of_ble_eq_true rfl) dX7_readLine_40 ⟨Nat.zero_le _, Nat.zero_le _⟩ (fun σ53 τ53 H locs h53 hP hS => ?_)
    obtain ⟨rfl, f55, f56, I57, h53⟩ := h53
    obtain ⟨i58, w59⟩ : (0 ≤ (σ53 12 0).toInt ∧ (σ53 12 0).toInt ≤ 160) ∧ (∀ k : Nat, k < 160 → 0 ≤ (σ53 13 k).toInt ∧ (σ53 13 k).toInt ≤ 30000) := id I57
    refine lv_aload_n hx hb dX7_readLine_43 rfl (lv_at hl 1 rfl) ?_
    refine lv_iconst (v := 0) hx hb dX7_readLine_44 (by decide) ?_
    refine lv_iconst (v := 0) hx hb dX7_readLine_45 (by decide) ?_
    have I60 : jI9 σ53 := jI9_fr ((congrFun (f55 9 (by decide)) 0).trans (congrFun (f48 9 (by decide)) 0)) ((f55 10 (by decide)).trans (f48 10 (by decide))) ((f55 11 (by decide)).trans (f48 11 (by decide))) I25
    have I61 : jI91 σ53 := jI91_fr ((congrFun (f55 9 (by decide)) 0).trans (congrFun (f48 9 (by decide)) 0)) ((congrFun (f55 9 (by decide)) 1).trans (congrFun (f48 9 (by decide)) 1)) I26
    have I62 : jI92 σ53 := jI92_fr ((congrFun (f55 9 (by decide)) 2).trans (congrFun (f48 9 (by decide)) 2)) I27
    refine jcallVv (As := [.int 0, .int 0]) (rest := []) ⟨hx, hb, hml, hown, hts⟩ hK hP hA hS hZ ((c_X7_grammar l D cI cL ad zz hJ 6).2.2.2.2.2.2 σ53 τ 0 (0) jz_0 I60 I61 I62 I57 (by omega) (by omega)) cw_RX7_82 (jc_9 cI cL ad σ53 τ) rfl ⟨Nat.le_of_ble_eq_true rfl, Nat.le_of_ble_eq_true rfl⟩ rfl rfl rfl hl.1 rfl (Nat.le_of_ble_eq_true rfl) dX7_readLine_46 ⟨Nat.zero_le _, Nat.zero_le _⟩ (fun σ63 τ63 H locs h63 hP hS => ?_)
    obtain ⟨rfl, f65, f66, f67, I68, I69, I70, I71, h63⟩ := h63
    obtain ⟨i72, i73⟩ : (0 ≤ (σ63 9 1).toInt) ∧ ((σ63 9 1).toInt ≤ (σ63 9 0).toInt) := id I69
    have i74 : (-1) ≤ (σ63 9 2).toInt := I70
    obtain ⟨i75, w76⟩ : (0 ≤ (σ63 12 0).toInt ∧ (σ63 12 0).toInt ≤ 160) ∧ (∀ k : Nat, k < 160 → 0 ≤ (σ63 13 k).toInt ∧ (σ63 13 k).toInt ≤ 30000) := id I71
    have z77 : (σ63 9 0).toInt = (σ 9 0).toInt := (congrArg Int32.toInt (show σ63 9 0 = (σ 9 0) from ((f66 0 (by decide)).trans ((congrFun (f55 9 (by decide)) 0).trans ((congrFun (f48 9 (by decide)) 0).trans ((f24 0 (by decide)).trans (f9 0 (by decide))))))))
    refine lv_aload_n hx hb dX7_readLine_49 rfl (lv_at hl 1 rfl) ?_
    refine va_get (D := D) hx hb hts inlX7 hown hK hP 9 (jc_9 cI cL ad σ63 τ) rfl 5 (by decide) (hts _ kw_3_23) (fun _ h9 => h9) rfl dX7_readLine_50 ?_
    refine lv_sipush (v := 20059) hx hb dX7_readLine_53 (by decide) ?_
    refine jcallVv (As := [.int 20059]) (rest := []) ⟨hx, hb, hml, hown, hts⟩ hK hP hA hS hZ (c_X10_add_12 l D cI cL ad zz hJ σ63 τ 20059 (20059) jz_20059 I71 (by omega)) cw_RX7_86 (jc_12 cI cL ad σ63 τ) rfl ⟨Nat.le_of_ble_eq_true rfl, Nat.le_of_ble_eq_true rfl⟩ rfl rfl rfl hl.1 rfl (Nat.le_of_ble_eq_true rfl) dX7_readLine_56 ⟨Nat.zero_le _, Nat.zero_le _⟩ (fun σ78 τ78 H locs h78 hP hS => ?_)
    obtain ⟨rfl, f80, f81, I82, h78⟩ := h78
    obtain ⟨i83, w84⟩ : (0 ≤ (σ78 12 0).toInt ∧ (σ78 12 0).toInt ≤ 160) ∧ (∀ k : Nat, k < 160 → 0 ≤ (σ78 13 k).toInt ∧ (σ78 13 k).toInt ≤ 30000) := id I82
    refine lv_iload_n hx hb dX7_readLine_59 rfl (lv_at hl 0 rfl) ?_
    refine lv_if_lt (tgt := 86) hx hb dX7_readLine_60 (by decide) (fun c => absurd (jlt c rfl jz_0) (by omega)) (fun c85 => ?_)
    have kc85 := jnlt c85 rfl jz_0
    refine lv_iload_n hx hb dX7_readLine_63 rfl (lv_at hl 0 rfl) ?_
    refine lv_sipush (v := 160) hx hb dX7_readLine_64 (by decide) ?_
    refine lv_icmp_ge (tgt := 86) hx hb dX7_readLine_67 (by decide) (fun c86 => ?_) (fun c86 => ?_)
    · have kc86 := jle c86 jz_160 rfl
      have I87 : jI9 σ78 := jI9_fr (congrFun (f80 9 (by decide)) 0) (f80 10 (by decide)) (f80 11 (by decide)) I68
      have I88 : jI91 σ78 := jI91_fr (congrFun (f80 9 (by decide)) 0) (congrFun (f80 9 (by decide)) 1) I69
      have I89 : jI92 σ78 := jI92_fr (congrFun (f80 9 (by decide)) 2) I70
      exact hret σ78 τ _ _ _ _ ⟨rfl, (fun i hi => ((f80 i (imp_57 i hi)).trans ((f65 i hi).trans ((f55 i (imp_57 i hi)).trans ((f48 i (imp_57 i hi)).trans ((f23 i (imp_58 i hi)).trans (f8 i hi))))))), (fun i hi => ((congrFun (f80 9 (by decide)) i).trans ((f66 i hi).trans ((congrFun (f55 9 (by decide)) i).trans ((congrFun (f48 9 (by decide)) i).trans ((f24 i (imp_60 i hi)).trans (f9 i hi))))))), (fun i hi => ((f81 i hi).trans ((f67 i hi).trans ((f56 i hi).trans ((f49 i hi).trans ((congrFun (f23 12 (by decide)) i).trans (f10 i hi))))))), I87, I88, I89, I82, trivial⟩ hP hS dX7_readLine_86
    · have kc86 := jnle c86 jz_160 rfl
      refine lv_aload_n hx hb dX7_readLine_70 rfl (lv_at hl 1 rfl) ?_
      refine va_get (D := D) hx hb hts inlX7 hown hK hP 9 (jc_9 cI cL ad σ78 τ) rfl 5 (by decide) (hts _ kw_3_23) (fun _ h9 => h9) rfl dX7_readLine_71 ?_
      refine va_get (D := D) hx hb hts inlX10 hown hK hP 12 (jc_12 cI cL ad σ78 τ) rfl 2 (by decide) (hts _ kw_17_3) (fun _ h9 => h9) rfl dX7_readLine_74 ?_
      refine lv_iload_n hx hb dX7_readLine_77 rfl (lv_at hl 0 rfl) ?_
      refine lv_aload_n hx hb dX7_readLine_78 rfl (lv_at hl 1 rfl) ?_
      refine va_get (D := D) hx hb hts inlX7 hown hK hP 9 (jc_9 cI cL ad σ78 τ) rfl 5 (by decide) (hts _ kw_3_23) (fun _ h9 => h9) rfl dX7_readLine_79 ?_
      refine va_get (D := D) hx hb hts inlX10 hown hK hP 12 (jc_12 cI cL ad σ78 τ) rfl 0 (by decide) (hts _ kw_17_2) (fun _ h9 => h9) rfl dX7_readLine_82 ?_
      refine jast hx hb hK hP hJ hA hS (jc_13 cI cL ad σ78 τ) (ja_13 cI cL ad σ78 τ _ _) (jin rfl (by omega) (by omega)) dX7_readLine_85 (fun σ90 H locs eσ90 hP hS => ?_)
      have I91 : jI9 σ90 := jI9_fr ((congrFun (jnp 9 eσ90 (by decide)) 0).trans (congrFun (f80 9 (by decide)) 0)) ((jnp 10 eσ90 (by decide)).trans (f80 10 (by decide))) ((jnp 11 eσ90 (by decide)).trans (f80 11 (by decide))) I68
      have I92 : jI91 σ90 := jI91_fr ((congrFun (jnp 9 eσ90 (by decide)) 0).trans (congrFun (f80 9 (by decide)) 0)) ((congrFun (jnp 9 eσ90 (by decide)) 1).trans (congrFun (f80 9 (by decide)) 1)) I69
      have I93 : jI92 σ90 := jI92_fr ((congrFun (jnp 9 eσ90 (by decide)) 2).trans (congrFun (f80 9 (by decide)) 2)) I70
      have z94 : (σ90 12 0).toInt = (σ78 12 0).toInt := (congrArg Int32.toInt (show σ90 12 0 = (σ78 12 0) from (congrFun (jnp 12 eσ90 (by decide)) 0)))
      have w95 : ∀ k : Nat, k < 160 → 0 ≤ (σ90 13 k).toInt ∧ (σ90 13 k).toInt ≤ 30000 := (by rw [eσ90]; exact jrr_up w84 (by omega) (by omega))
      have I96 : jI12 σ90 := ⟨(by omega), w95⟩
      exact hret σ90 τ _ _ _ _ ⟨rfl, (fun i hi => ((jnp i eσ90 (imp_61 i hi)).trans ((f80 i (imp_57 i hi)).trans ((f65 i hi).trans ((f55 i (imp_57 i hi)).trans ((f48 i (imp_57 i hi)).trans ((f23 i (imp_58 i hi)).trans (f8 i hi)))))))), (fun i hi => ((congrFun (jnp 9 eσ90 (by decide)) i).trans ((congrFun (f80 9 (by decide)) i).trans ((f66 i hi).trans ((congrFun (f55 9 (by decide)) i).trans ((congrFun (f48 9 (by decide)) i).trans ((f24 i (imp_60 i hi)).trans (f9 i hi)))))))), (fun i hi => ((congrFun (jnp 12 eσ90 (by decide)) i).trans ((f81 i hi).trans ((f67 i hi).trans ((f56 i hi).trans ((f49 i hi).trans ((congrFun (f23 12 (by decide)) i).trans (f10 i hi)))))))), I91, I92, I93, I96, trivial⟩ hP hS dX7_readLine_86
set_option maxHeartbeats 4000000 in
set_option maxRecDepth 100000 in
theorem c_X7_readText_9 (l : Launch) (D : va_G) (cI cL : ClassId) (ad zz : Nat → Nat) (hJ : jD ad) (σ : Nat → Nat → Int32) (τ : Nat → Nat → Int64) (hI9 : jI9 σ) (hI12 : jI12 σ) (hI18 : jI18 σ) : jM l yX7_readText cX7_readText 3 (some .int) ({ frames := 66, cells := 0, slots := 0, locals := 2845 }) D cI cL ad zz [.ref (ad 9), .ref (ad 18)] σ τ (fun r σ' τ' => τ = τ' ∧ (∀ i : Nat, (i < 9 ∨ 9 < i) ∧ (i < 12 ∨ 13 < i) ∧ (i < 18 ∨ 19 < i) → σ' i = σ i) ∧ (∀ k : Nat, (k < 0 ∨ 0 < k) ∧ (k < 1 ∨ 1 < k) ∧ (k < 2 ∨ 2 < k) → σ' 9 k = σ 9 k) ∧ (∀ k : Nat, (k < 0 ∨ 0 < k) ∧ (k < 1 ∨ 1 < k) → σ' 12 k = σ 12 k) ∧ (∀ k : Nat, (k < 0 ∨ 0 < k) ∧ (k < 1 ∨ 1 < k) → σ' 18 k = σ 18 k) ∧ (jI9 σ') ∧ (jI12 σ') ∧ (jI18 σ') ∧ ((σ' 9 0).toInt = 0) ∧ True) := by
  refine jM.of hJ (by decide +kernel) (nt := .int) rfl (Nat.le_of_ble_eq_true rfl) ?_
  intro p e s m args below meth c Q ls hC hret hl hP
  obtain ⟨hx, hb, hr, hml, hown, hts, hK, -, hlocks, hZ⟩ := hC
  have hown : s.vm.findClass RX7 = some m.cls := hown
  have hS : va_S (jA ad) s.heap s.heap [] := va_S.rf
  have hA : ∀ q, jA ad q → jA ad q := fun _ h => h
  have hl : lv_has ls 3 [(0, .ref (ad 9)), (1, .ref (ad 18))] := hl
  obtain ⟨i1, w2, w3⟩ : (0 ≤ (σ 9 0).toInt ∧ (σ 9 0).toInt ≤ 80) ∧ (∀ k : Nat, k < 80 → 0 ≤ (σ 10 k).toInt ∧ (σ 10 k).toInt ≤ 255) ∧ (∀ k : Nat, k < 8 → 0 ≤ (σ 11 k).toInt ∧ (σ 11 k).toInt ≤ 3) := id hI9
  refine lv_aload_n hx hb dX7_readText_0 rfl (lv_at hl 0 rfl) ?_
  refine jcallVv (As := []) (rest := []) ⟨hx, hb, hml, hown, hts⟩ hK hP hA hS hZ (c_X7_begin_9 l D cI cL ad zz hJ σ τ hI9) cw_RX7_47 (jc_9 cI cL ad σ τ) rfl ⟨Nat.le_of_ble_eq_true rfl, Nat.le_of_ble_eq_true rfl⟩ rfl rfl rfl hl.1 rfl (Nat.le_of_ble_eq_true rfl) dX7_readText_1 ⟨Nat.zero_le _, Nat.zero_le _⟩ (fun σ4 τ4 H locs h4 hP hS => ?_)
  obtain ⟨rfl, f6, f7, I8, I9, I10, h4⟩ := h4
  obtain ⟨i11, w12, w13⟩ : (0 ≤ (σ4 9 0).toInt ∧ (σ4 9 0).toInt ≤ 80) ∧ (∀ k : Nat, k < 80 → 0 ≤ (σ4 10 k).toInt ∧ (σ4 10 k).toInt ≤ 255) ∧ (∀ k : Nat, k < 8 → 0 ≤ (σ4 11 k).toInt ∧ (σ4 11 k).toInt ≤ 3) := id I8
  obtain ⟨i14, i15⟩ : (0 ≤ (σ4 9 1).toInt) ∧ ((σ4 9 1).toInt ≤ (σ4 9 0).toInt) := id I9
  have i16 : (-1) ≤ (σ4 9 2).toInt := I10
  have z17 : (σ4 9 0).toInt = (σ 9 0).toInt := (congrArg Int32.toInt (show σ4 9 0 = (σ 9 0) from (f7 0 (by decide))))
  refine lv_aload_n hx hb dX7_readText_4 rfl (lv_at hl 0 rfl) ?_
  refine va_get (D := D) hx hb hts inlX7 hown hK hP 9 (jc_9 cI cL ad σ4 τ) rfl 5 (by decide) (hts _ kw_3_23) (fun _ h9 => h9) rfl dX7_readText_5 ?_
  obtain ⟨i18, w19⟩ : (0 ≤ (σ 12 0).toInt ∧ (σ 12 0).toInt ≤ 160) ∧ (∀ k : Nat, k < 160 → 0 ≤ (σ 13 k).toInt ∧ (σ 13 k).toInt ≤ 30000) := id hI12
  have w20 : ∀ k : Nat, k < 160 → 0 ≤ (σ4 13 k).toInt ∧ (σ4 13 k).toInt ≤ 30000 := (jrr_fr (f6 13 (by decide)) w19)
  refine jcallVv (As := []) (rest := []) ⟨hx, hb, hml, hown, hts⟩ hK hP hA hS hZ (c_X10_begin_12 l D cI cL ad zz hJ σ4 τ w20) cw_RX7_74 (jc_12 cI cL ad σ4 τ) rfl ⟨Nat.le_of_ble_eq_true rfl, Nat.le_of_ble_eq_true rfl⟩ rfl rfl rfl hl.1 rfl (Nat.le_of_ble_eq_true rfl) dX7_readText_8 ⟨Nat.zero_le _, Nat.zero_le _⟩ (fun σ21 τ21 H locs h21 hP hS => ?_)
  obtain ⟨rfl, f23, f24, I25, h21⟩ := h21
  refine lv_aload_n hx hb dX7_readText_11 rfl (lv_at hl 0 rfl) ?_
  have I26 : jI9 σ21 := jI9_fr (congrFun (f23 9 (by decide)) 0) (f23 10 (by decide)) (f23 11 (by decide)) I8
  have I27 : jI91 σ21 := jI91_fr (congrFun (f23 9 (by decide)) 0) (congrFun (f23 9 (by decide)) 1) I9
  have I28 : jI92 σ21 := jI92_fr (congrFun (f23 9 (by decide)) 2) I10
  refine jcallVv (As := []) (rest := []) ⟨hx, hb, hml, hown, hts⟩ hK hP hA hS hZ (c_X7_readLine_9 l D cI cL ad zz hJ σ21 τ I26 I27 I28 I25) cw_RX7_75 (jc_9 cI cL ad σ21 τ) rfl ⟨Nat.le_of_ble_eq_true rfl, Nat.le_of_ble_eq_true rfl⟩ rfl rfl rfl hl.1 rfl (Nat.le_of_ble_eq_true rfl) dX7_readText_12 ⟨Nat.zero_le _, Nat.zero_le _⟩ (fun σ29 τ29 H locs h29 hP hS => ?_)
  obtain ⟨rfl, f31, f32, f33, I34, I35, I36, I37, h29⟩ := h29
  obtain ⟨i38, w39, w40⟩ : (0 ≤ (σ29 9 0).toInt ∧ (σ29 9 0).toInt ≤ 80) ∧ (∀ k : Nat, k < 80 → 0 ≤ (σ29 10 k).toInt ∧ (σ29 10 k).toInt ≤ 255) ∧ (∀ k : Nat, k < 8 → 0 ≤ (σ29 11 k).toInt ∧ (σ29 11 k).toInt ≤ 3) := id I34
  obtain ⟨i41, i42⟩ : (0 ≤ (σ29 9 1).toInt) ∧ ((σ29 9 1).toInt ≤ (σ29 9 0).toInt) := id I35
  have i43 : (-1) ≤ (σ29 9 2).toInt := I36
  have z44 : (σ29 9 0).toInt = (σ 9 0).toInt := (congrArg Int32.toInt (show σ29 9 0 = (σ 9 0) from ((f32 0 (by decide)).trans ((congrFun (f23 9 (by decide)) 0).trans (f7 0 (by decide))))))
  refine lv_iconst (v := 0) hx hb dX7_readText_15 (by decide) ?_
  refine lv_istore_n (lv' := [(2, .int 0), (0, .ref (ad 9)), (1, .ref (ad 18))]) hx hb dX7_readText_16 rfl hl (by decide) rfl (fun ls hl => ?_)
  have lp45 : ∀ (n46 : Nat) (x47 : Int32) (σ48 : Nat → Nat → Int32) (H : Heap) (locs : List Loc) (ls : Array Slot), (-x47.toInt + 80 : Int) < n46 → 0 ≤ x47.toInt → x47.toInt ≤ 80 → 0 ≤ (σ48 9 1).toInt → (σ48 9 1).toInt ≤ (σ48 9 0).toInt → (-1) ≤ (σ48 9 2).toInt → (∀ i : Nat, (i < 9 ∨ 9 < i) ∧ (i < 12 ∨ 13 < i) → σ48 i = σ29 i) → (∀ k : Nat, (k < 1 ∨ 1 < k) ∧ (k < 2 ∨ 2 < k) → σ48 9 k = σ29 9 k) → (∀ k : Nat, (k < 0 ∨ 0 < k) ∧ (k < 1 ∨ 1 < k) → σ48 12 k = σ29 12 k) → jI12 σ48 → jH D cI cL ad σ48 τ H → va_S (jA ad) s.heap H locs → lv_has ls 3 [(2, .int x47), (0, .ref (ad 9)), (1, .ref (ad 18))] → W p l e ({ frames := 66, cells := 0, slots := 0, locals := 2845 }) s m args below meth c H locs 0 0 Q (F0 m 17 ls []) := by
    intro n46
    induction n46 with
    | zero => intro x47 σ48 H locs ls h49 h50 h51 h52 h53 h54; exact absurd h49 (by omega)
    | succ n46 ihlp45 =>
      intro x47 σ48 H locs ls h49 h50 h51 h52 h53 h54 f55 f56 f57 p58 hP hS hl
      have z59 : (σ48 9 0).toInt = (σ 9 0).toInt := (congrArg Int32.toInt (show σ48 9 0 = (σ 9 0) from ((f56 0 (by decide)).trans ((f32 0 (by decide)).trans ((congrFun (f23 9 (by decide)) 0).trans (f7 0 (by decide)))))))
      refine lv_iload_n hx hb dX7_readText_17 rfl (lv_at hl 0 rfl) ?_
      refine lv_bipush (v := 80) hx hb dX7_readText_18 (by decide) ?_
      refine lv_icmp_ge (tgt := 42) hx hb dX7_readText_20 (by decide) (fun c60 => ?_) (fun c60 => ?_)
      · have kc60 := jle c60 jz_80 rfl
        refine lv_aload_n hx hb dX7_readText_42 rfl (lv_at hl 1 rfl) ?_
        have I61 : jI9 σ48 := jI9_fr (f56 0 (by decide)) (f55 10 (by decide)) (f55 11 (by decide)) I34
        have I62 : jI91 σ48 := ⟨(by omega), (by omega)⟩
        have I63 : jI92 σ48 := (show (-1) ≤ (σ48 9 2).toInt by omega)
        refine jcallV (As := []) (rest := []) ⟨hx, hb, hml, hown, hts⟩ hK hP hA hS hZ (c_X7_end_9 l D cI cL ad zz hJ σ48 τ I61 I62 I63) cw_RX7_57 (jc_9 cI cL ad σ48 τ) rfl ⟨Nat.le_of_ble_eq_true rfl, Nat.le_of_ble_eq_true rfl⟩ rfl rfl rfl hl.1 rfl (Nat.le_of_ble_eq_true rfl) dX7_readText_43 ⟨Nat.zero_le _, Nat.zero_le _⟩ (fun r65 σ64 τ64 H locs h64 hP hS => ?_)
        obtain ⟨rfl, f66, f67, I68, I69, h64⟩ := h64
        obtain ⟨i70, w71, w72⟩ : (0 ≤ (σ64 9 0).toInt ∧ (σ64 9 0).toInt ≤ 80) ∧ (∀ k : Nat, k < 80 → 0 ≤ (σ64 10 k).toInt ∧ (σ64 10 k).toInt ≤ 255) ∧ (∀ k : Nat, k < 8 → 0 ≤ (σ64 11 k).toInt ∧ (σ64 11 k).toInt ≤ 3) := id I68
        have i73 : (-1) ≤ (σ64 9 2).toInt := I69
        obtain ⟨k74, h64⟩ := h64
        rcases h64 with h75 | h76
        · obtain ⟨q78, k77⟩ := h75
          have q78 := q78.symm
          subst q78
          refine lv_istore_n (lv' := [(2, .int (-1)), (0, .ref (ad 9)), (1, .ref (ad 18))]) hx hb dX7_readText_46 rfl hl (by decide) rfl (fun ls hl => ?_)
          refine lv_iload_n hx hb dX7_readText_47 rfl (lv_at hl 0 rfl) ?_
          refine lv_iconst (v := (-1)) hx hb dX7_readText_48 (by decide) ?_
          refine lv_icmp_ne (tgt := 60) hx hb dX7_readText_49 (by decide) (fun c => absurd (by decide) c) (fun _ => ?_)
          refine lv_aload_n hx hb dX7_readText_52 rfl (lv_at hl 2 rfl) ?_
          refine lv_aload_n hx hb dX7_readText_53 rfl (lv_at hl 1 rfl) ?_
          refine va_get (D := D) hx hb hts inlX7 hown hK hP 9 (jc_9 cI cL ad σ64 τ) rfl 5 (by decide) (hts _ kw_3_23) (fun _ h9 => h9) rfl dX7_readText_54 ?_
          have I79 : jI12 σ64 := jI12_fr (congrFun (f66 12 (by decide)) 0) (f66 13 (by decide)) p58
          have I80 : jI18 σ64 := jI18_fr ((congrFun (f66 18 (by decide)) 0).trans ((congrFun (f55 18 (by decide)) 0).trans ((congrFun (f31 18 (by decide)) 0).trans ((congrFun (f23 18 (by decide)) 0).trans (congrFun (f6 18 (by decide)) 0))))) ((f66 19 (by decide)).trans ((f55 19 (by decide)).trans ((f31 19 (by decide)).trans ((f23 19 (by decide)).trans (f6 19 (by decide)))))) hI18
          refine jcallVv (As := [.ref (ad 12)]) (rest := []) ⟨hx, hb, hml, hown, hts⟩ hK hP hA hS hZ (c_X10_copyFrom_18 l D cI cL ad zz hJ σ64 τ I79 I80) cw_RX7_78 (jc_18 cI cL ad σ64 τ) rfl ⟨Nat.le_of_ble_eq_true rfl, Nat.le_of_ble_eq_true rfl⟩ rfl rfl rfl hl.1 rfl (Nat.le_of_ble_eq_true rfl) dX7_readText_57 ⟨Nat.zero_le _, Nat.zero_le _⟩ (fun σ81 τ81 H locs h81 hP hS => ?_)
          obtain ⟨rfl, f83, f84, I85, h81⟩ := h81
          refine lv_iload_n hx hb dX7_readText_60 rfl (lv_at hl 0 rfl) ?_
          have I86 : jI9 σ81 := jI9_fr (congrFun (f83 9 (by decide)) 0) (f83 10 (by decide)) (f83 11 (by decide)) I68
          have I87 : jI12 σ81 := jI12_fr (congrFun (f83 12 (by decide)) 0) (f83 13 (by decide)) I79
          have z88 : (σ81 9 0).toInt = (σ64 9 0).toInt := (congrArg Int32.toInt (show σ81 9 0 = (σ64 9 0) from (congrFun (f83 9 (by decide)) 0)))
          exact hret (-1) σ81 τ _ _ _ _ rfl ⟨rfl, (fun i hi => ((f83 i (imp_62 i hi)).trans ((f66 i (imp_63 i hi)).trans ((f55 i (imp_64 i hi)).trans ((f31 i (imp_64 i hi)).trans ((f23 i (imp_65 i hi)).trans (f6 i (imp_63 i hi)))))))), (fun i hi => ((congrFun (f83 9 (by decide)) i).trans ((f67 i (imp_48 i hi)).trans ((f56 i (imp_50 i hi)).trans ((f32 i (imp_50 i hi)).trans ((congrFun (f23 9 (by decide)) i).trans (f7 i (imp_50 i hi)))))))), (fun i hi => ((congrFun (f83 12 (by decide)) i).trans ((congrFun (f66 12 (by decide)) i).trans ((f57 i hi).trans ((f33 i hi).trans ((f24 i hi).trans (congrFun (f6 12 (by decide)) i))))))), (fun i hi => ((f84 i hi).trans ((congrFun (f66 18 (by decide)) i).trans ((congrFun (f55 18 (by decide)) i).trans ((congrFun (f31 18 (by decide)) i).trans ((congrFun (f23 18 (by decide)) i).trans (congrFun (f6 18 (by decide)) i))))))), I86, I87, I85, (by omega), trivial⟩ hP hS dX7_readText_61
        · obtain ⟨q90, k89⟩ := h76
          refine lv_istore_n (lv' := [(2, .int r65), (0, .ref (ad 9)), (1, .ref (ad 18))]) hx hb dX7_readText_46 rfl hl (by decide) rfl (fun ls hl => ?_)
          refine lv_iload_n hx hb dX7_readText_47 rfl (lv_at hl 0 rfl) ?_
          refine lv_iconst (v := (-1)) hx hb dX7_readText_48 (by decide) ?_
          refine lv_icmp_ne (tgt := 60) hx hb dX7_readText_49 (by decide) (fun c91 => ?_) (fun c => absurd (jeq c rfl jz_m1) (by omega))
          have kc91 := jne c91 rfl jz_m1
          refine lv_iload_n hx hb dX7_readText_60 rfl (lv_at hl 0 rfl) ?_
          have I92 : jI12 σ64 := jI12_fr (congrFun (f66 12 (by decide)) 0) (f66 13 (by decide)) p58
          have I93 : jI18 σ64 := jI18_fr ((congrFun (f66 18 (by decide)) 0).trans ((congrFun (f55 18 (by decide)) 0).trans ((congrFun (f31 18 (by decide)) 0).trans ((congrFun (f23 18 (by decide)) 0).trans (congrFun (f6 18 (by decide)) 0))))) ((f66 19 (by decide)).trans ((f55 19 (by decide)).trans ((f31 19 (by decide)).trans ((f23 19 (by decide)).trans (f6 19 (by decide)))))) hI18
          exact hret r65 σ64 τ _ _ _ _ rfl ⟨rfl, (fun i hi => ((f66 i (imp_63 i hi)).trans ((f55 i (imp_64 i hi)).trans ((f31 i (imp_64 i hi)).trans ((f23 i (imp_65 i hi)).trans (f6 i (imp_63 i hi))))))), (fun i hi => ((f67 i (imp_48 i hi)).trans ((f56 i (imp_50 i hi)).trans ((f32 i (imp_50 i hi)).trans ((congrFun (f23 9 (by decide)) i).trans (f7 i (imp_50 i hi))))))), (fun i hi => ((congrFun (f66 12 (by decide)) i).trans ((f57 i hi).trans ((f33 i hi).trans ((f24 i hi).trans (congrFun (f6 12 (by decide)) i)))))), (fun i hi => ((congrFun (f66 18 (by decide)) i).trans ((congrFun (f55 18 (by decide)) i).trans ((congrFun (f31 18 (by decide)) i).trans ((congrFun (f23 18 (by decide)) i).trans (congrFun (f6 18 (by decide)) i)))))), I68, I92, I93, (by omega), trivial⟩ hP hS dX7_readText_61
      · have kc60 := jnle c60 jz_80 rfl
        refine lv_aload_n hx hb dX7_readText_23 rfl (lv_at hl 1 rfl) ?_
        refine lv_bipush (v := 59) hx hb dX7_readText_24 (by decide) ?_
        have I94 : jI9 σ48 := jI9_fr (f56 0 (by decide)) (f55 10 (by decide)) (f55 11 (by decide)) I34
        have I95 : jI91 σ48 := ⟨(by omega), (by omega)⟩
        have I96 : jI92 σ48 := (show (-1) ≤ (σ48 9 2).toInt by omega)
        refine jcallV (As := [.int 59]) (rest := []) ⟨hx, hb, hml, hown, hts⟩ hK hP hA hS hZ (c_X7_skip_9 l D cI cL ad zz hJ σ48 τ 59 (59) jz_59 I94 I95 I96 (by omega)) cw_RX7_50 (jc_9 cI cL ad σ48 τ) rfl ⟨Nat.le_of_ble_eq_true rfl, Nat.le_of_ble_eq_true rfl⟩ rfl rfl rfl hl.1 rfl (Nat.le_of_ble_eq_true rfl) dX7_readText_26 ⟨Nat.zero_le _, Nat.zero_le _⟩ (fun r98 σ97 τ97 H locs h97 hP hS => ?_)
        obtain ⟨rfl, f99, f100, I101, I102, I103, h97⟩ := h97
        obtain ⟨i104, w105, w106⟩ : (0 ≤ (σ97 9 0).toInt ∧ (σ97 9 0).toInt ≤ 80) ∧ (∀ k : Nat, k < 80 → 0 ≤ (σ97 10 k).toInt ∧ (σ97 10 k).toInt ≤ 255) ∧ (∀ k : Nat, k < 8 → 0 ≤ (σ97 11 k).toInt ∧ (σ97 11 k).toInt ≤ 3) := id I101
        obtain ⟨i107, i108⟩ : (0 ≤ (σ97 9 1).toInt) ∧ ((σ97 9 1).toInt ≤ (σ97 9 0).toInt) := id I102
        have i109 : (-1) ≤ (σ97 9 2).toInt := I103
        have z110 : (σ97 9 0).toInt = (σ 9 0).toInt := (congrArg Int32.toInt (show σ97 9 0 = (σ 9 0) from ((f100 0 (by decide)).trans ((f56 0 (by decide)).trans ((f32 0 (by decide)).trans ((congrFun (f23 9 (by decide)) 0).trans (f7 0 (by decide))))))))
        have z111 : (σ97 9 2).toInt = (σ48 9 2).toInt := (congrArg Int32.toInt (show σ97 9 2 = (σ48 9 2) from (f100 2 (by decide))))
        refine lv_if_eq (tgt := 42) hx hb dX7_readText_29 (by decide) (fun c112 => ?_) (fun c112 => ?_)
        · have kc112 := jeq c112 rfl jz_0
          refine lv_aload_n hx hb dX7_readText_42 rfl (lv_at hl 1 rfl) ?_
          refine jcallV (As := []) (rest := []) ⟨hx, hb, hml, hown, hts⟩ hK hP hA hS hZ (c_X7_end_9 l D cI cL ad zz hJ σ97 τ I101 I102 I103) cw_RX7_57 (jc_9 cI cL ad σ97 τ) rfl ⟨Nat.le_of_ble_eq_true rfl, Nat.le_of_ble_eq_true rfl⟩ rfl rfl rfl hl.1 rfl (Nat.le_of_ble_eq_true rfl) dX7_readText_43 ⟨Nat.zero_le _, Nat.zero_le _⟩ (fun r114 σ113 τ113 H locs h113 hP hS => ?_)
          obtain ⟨rfl, f115, f116, I117, I118, h113⟩ := h113
          obtain ⟨i119, w120, w121⟩ : (0 ≤ (σ113 9 0).toInt ∧ (σ113 9 0).toInt ≤ 80) ∧ (∀ k : Nat, k < 80 → 0 ≤ (σ113 10 k).toInt ∧ (σ113 10 k).toInt ≤ 255) ∧ (∀ k : Nat, k < 8 → 0 ≤ (σ113 11 k).toInt ∧ (σ113 11 k).toInt ≤ 3) := id I117
          have i122 : (-1) ≤ (σ113 9 2).toInt := I118
          obtain ⟨k123, h113⟩ := h113
          rcases h113 with h124 | h125
          · obtain ⟨q127, k126⟩ := h124
            have q127 := q127.symm
            subst q127
            refine lv_istore_n (lv' := [(2, .int (-1)), (0, .ref (ad 9)), (1, .ref (ad 18))]) hx hb dX7_readText_46 rfl hl (by decide) rfl (fun ls hl => ?_)
            refine lv_iload_n hx hb dX7_readText_47 rfl (lv_at hl 0 rfl) ?_
            refine lv_iconst (v := (-1)) hx hb dX7_readText_48 (by decide) ?_
            refine lv_icmp_ne (tgt := 60) hx hb dX7_readText_49 (by decide) (fun c => absurd (by decide) c) (fun _ => ?_)
            refine lv_aload_n hx hb dX7_readText_52 rfl (lv_at hl 2 rfl) ?_
            refine lv_aload_n hx hb dX7_readText_53 rfl (lv_at hl 1 rfl) ?_
            refine va_get (D := D) hx hb hts inlX7 hown hK hP 9 (jc_9 cI cL ad σ113 τ) rfl 5 (by decide) (hts _ kw_3_23) (fun _ h9 => h9) rfl dX7_readText_54 ?_
            have I128 : jI12 σ113 := jI12_fr ((congrFun (f115 12 (by decide)) 0).trans (congrFun (f99 12 (by decide)) 0)) ((f115 13 (by decide)).trans (f99 13 (by decide))) p58
            have I129 : jI18 σ113 := jI18_fr ((congrFun (f115 18 (by decide)) 0).trans ((congrFun (f99 18 (by decide)) 0).trans ((congrFun (f55 18 (by decide)) 0).trans ((congrFun (f31 18 (by decide)) 0).trans ((congrFun (f23 18 (by decide)) 0).trans (congrFun (f6 18 (by decide)) 0)))))) ((f115 19 (by decide)).trans ((f99 19 (by decide)).trans ((f55 19 (by decide)).trans ((f31 19 (by decide)).trans ((f23 19 (by decide)).trans (f6 19 (by decide))))))) hI18
            refine jcallVv (As := [.ref (ad 12)]) (rest := []) ⟨hx, hb, hml, hown, hts⟩ hK hP hA hS hZ (c_X10_copyFrom_18 l D cI cL ad zz hJ σ113 τ I128 I129) cw_RX7_78 (jc_18 cI cL ad σ113 τ) rfl ⟨Nat.le_of_ble_eq_true rfl, Nat.le_of_ble_eq_true rfl⟩ rfl rfl rfl hl.1 rfl (Nat.le_of_ble_eq_true rfl) dX7_readText_57 ⟨Nat.zero_le _, Nat.zero_le _⟩ (fun σ130 τ130 H locs h130 hP hS => ?_)
            obtain ⟨rfl, f132, f133, I134, h130⟩ := h130
            refine lv_iload_n hx hb dX7_readText_60 rfl (lv_at hl 0 rfl) ?_
            have I135 : jI9 σ130 := jI9_fr (congrFun (f132 9 (by decide)) 0) (f132 10 (by decide)) (f132 11 (by decide)) I117
            have I136 : jI12 σ130 := jI12_fr (congrFun (f132 12 (by decide)) 0) (f132 13 (by decide)) I128
            have z137 : (σ130 9 0).toInt = (σ113 9 0).toInt := (congrArg Int32.toInt (show σ130 9 0 = (σ113 9 0) from (congrFun (f132 9 (by decide)) 0)))
            exact hret (-1) σ130 τ _ _ _ _ rfl ⟨rfl, (fun i hi => ((f132 i (imp_62 i hi)).trans ((f115 i (imp_63 i hi)).trans ((f99 i (imp_63 i hi)).trans ((f55 i (imp_64 i hi)).trans ((f31 i (imp_64 i hi)).trans ((f23 i (imp_65 i hi)).trans (f6 i (imp_63 i hi))))))))), (fun i hi => ((congrFun (f132 9 (by decide)) i).trans ((f116 i (imp_48 i hi)).trans ((f100 i (imp_49 i hi)).trans ((f56 i (imp_50 i hi)).trans ((f32 i (imp_50 i hi)).trans ((congrFun (f23 9 (by decide)) i).trans (f7 i (imp_50 i hi))))))))), (fun i hi => ((congrFun (f132 12 (by decide)) i).trans ((congrFun (f115 12 (by decide)) i).trans ((congrFun (f99 12 (by decide)) i).trans ((f57 i hi).trans ((f33 i hi).trans ((f24 i hi).trans (congrFun (f6 12 (by decide)) i)))))))), (fun i hi => ((f133 i hi).trans ((congrFun (f115 18 (by decide)) i).trans ((congrFun (f99 18 (by decide)) i).trans ((congrFun (f55 18 (by decide)) i).trans ((congrFun (f31 18 (by decide)) i).trans ((congrFun (f23 18 (by decide)) i).trans (congrFun (f6 18 (by decide)) i)))))))), I135, I136, I134, (by omega), trivial⟩ hP hS dX7_readText_61
          · obtain ⟨q139, k138⟩ := h125
            refine lv_istore_n (lv' := [(2, .int r114), (0, .ref (ad 9)), (1, .ref (ad 18))]) hx hb dX7_readText_46 rfl hl (by decide) rfl (fun ls hl => ?_)
            refine lv_iload_n hx hb dX7_readText_47 rfl (lv_at hl 0 rfl) ?_
            refine lv_iconst (v := (-1)) hx hb dX7_readText_48 (by decide) ?_
            refine lv_icmp_ne (tgt := 60) hx hb dX7_readText_49 (by decide) (fun c140 => ?_) (fun c => absurd (jeq c rfl jz_m1) (by omega))
            have kc140 := jne c140 rfl jz_m1
            refine lv_iload_n hx hb dX7_readText_60 rfl (lv_at hl 0 rfl) ?_
            have I141 : jI12 σ113 := jI12_fr ((congrFun (f115 12 (by decide)) 0).trans (congrFun (f99 12 (by decide)) 0)) ((f115 13 (by decide)).trans (f99 13 (by decide))) p58
            have I142 : jI18 σ113 := jI18_fr ((congrFun (f115 18 (by decide)) 0).trans ((congrFun (f99 18 (by decide)) 0).trans ((congrFun (f55 18 (by decide)) 0).trans ((congrFun (f31 18 (by decide)) 0).trans ((congrFun (f23 18 (by decide)) 0).trans (congrFun (f6 18 (by decide)) 0)))))) ((f115 19 (by decide)).trans ((f99 19 (by decide)).trans ((f55 19 (by decide)).trans ((f31 19 (by decide)).trans ((f23 19 (by decide)).trans (f6 19 (by decide))))))) hI18
            exact hret r114 σ113 τ _ _ _ _ rfl ⟨rfl, (fun i hi => ((f115 i (imp_63 i hi)).trans ((f99 i (imp_63 i hi)).trans ((f55 i (imp_64 i hi)).trans ((f31 i (imp_64 i hi)).trans ((f23 i (imp_65 i hi)).trans (f6 i (imp_63 i hi)))))))), (fun i hi => ((f116 i (imp_48 i hi)).trans ((f100 i (imp_49 i hi)).trans ((f56 i (imp_50 i hi)).trans ((f32 i (imp_50 i hi)).trans ((congrFun (f23 9 (by decide)) i).trans (f7 i (imp_50 i hi)))))))), (fun i hi => ((congrFun (f115 12 (by decide)) i).trans ((congrFun (f99 12 (by decide)) i).trans ((f57 i hi).trans ((f33 i hi).trans ((f24 i hi).trans (congrFun (f6 12 (by decide)) i))))))), (fun i hi => ((congrFun (f115 18 (by decide)) i).trans ((congrFun (f99 18 (by decide)) i).trans ((congrFun (f55 18 (by decide)) i).trans ((congrFun (f31 18 (by decide)) i).trans ((congrFun (f23 18 (by decide)) i).trans (congrFun (f6 18 (by decide)) i))))))), I117, I141, I142, (by omega), trivial⟩ hP hS dX7_readText_61
        · have kc112 := jne c112 rfl jz_0
          refine lv_aload_n hx hb dX7_readText_32 rfl (lv_at hl 1 rfl) ?_
          have I143 : jI12 σ97 := jI12_fr (congrFun (f99 12 (by decide)) 0) (f99 13 (by decide)) p58
          refine jcallVv (As := []) (rest := []) ⟨hx, hb, hml, hown, hts⟩ hK hP hA hS hZ (c_X7_readLine_9 l D cI cL ad zz hJ σ97 τ I101 I102 I103 I143) cw_RX7_75 (jc_9 cI cL ad σ97 τ) rfl ⟨Nat.le_of_ble_eq_true rfl, Nat.le_of_ble_eq_true rfl⟩ rfl rfl rfl hl.1 rfl (Nat.le_of_ble_eq_true rfl) dX7_readText_33 ⟨Nat.zero_le _, Nat.zero_le _⟩ (fun σ144 τ144 H locs h144 hP hS => ?_)
          obtain ⟨rfl, f146, f147, f148, I149, I150, I151, I152, h144⟩ := h144
          obtain ⟨i153, w154, w155⟩ : (0 ≤ (σ144 9 0).toInt ∧ (σ144 9 0).toInt ≤ 80) ∧ (∀ k : Nat, k < 80 → 0 ≤ (σ144 10 k).toInt ∧ (σ144 10 k).toInt ≤ 255) ∧ (∀ k : Nat, k < 8 → 0 ≤ (σ144 11 k).toInt ∧ (σ144 11 k).toInt ≤ 3) := id I149
          obtain ⟨i156, i157⟩ : (0 ≤ (σ144 9 1).toInt) ∧ ((σ144 9 1).toInt ≤ (σ144 9 0).toInt) := id I150
          have i158 : (-1) ≤ (σ144 9 2).toInt := I151
          have z159 : (σ144 9 0).toInt = (σ 9 0).toInt := (congrArg Int32.toInt (show σ144 9 0 = (σ 9 0) from ((f147 0 (by decide)).trans ((f100 0 (by decide)).trans ((f56 0 (by decide)).trans ((f32 0 (by decide)).trans ((congrFun (f23 9 (by decide)) 0).trans (f7 0 (by decide)))))))))
          obtain ⟨x160, ex160⟩ : ∃ y : Int32, y = x47 + 1 := ⟨_, rfl⟩
          have tx160 : x160.toInt = x47.toInt + 1 := (jadd ex160 rfl jz_1 (by omega) (by omega)).trans (by omega)
          refine lv_iinc (v := x160) (lv' := [(2, .int x160), (0, .ref (ad 9)), (1, .ref (ad 18))]) hx hb dX7_readText_36 hl (k := 0) rfl (by rw [ex160]; rfl) (by decide) rfl (fun ls hl => ?_)
          refine lv_goto (tgt := 17) hx hb dX7_readText_39 (by decide) ?_
          exact ihlp45 x160 σ144 _ _ ls (by have h90 := tx160; omega) (by have h90 := tx160; omega) (by have h90 := tx160; omega) (by have h90 := tx160; omega) (by have h90 := tx160; omega) (by have h90 := tx160; omega) (fun i hi => ((f146 i hi).trans ((f99 i (imp_58 i hi)).trans (f55 i hi)))) (fun i hi => ((f147 i hi).trans ((f100 i (imp_60 i hi)).trans (f56 i hi)))) (fun i hi => ((f148 i hi).trans ((congrFun (f99 12 (by decide)) i).trans (f57 i hi))))  I152 hP hS (lv_sub hl [0, 1, 2] rfl)
  exact lp45 1000000 0 σ29 _ _ ls (by have h90 := jz_0; omega) (by have h90 := jz_0; omega) (by have h90 := jz_0; omega) (by have h90 := jz_0; omega) (by have h90 := jz_0; omega) (by have h90 := jz_0; omega) (fun _ _ => rfl) (fun _ _ => rfl) (fun _ _ => rfl)  I37 hP hS hl
set_option maxHeartbeats 4000000 in
set_option maxRecDepth 100000 in
theorem c_X7_readText_9_v1 (l : Launch) (D : va_G) (cI cL : ClassId) (ad zz : Nat → Nat) (hJ : jD ad) (σ : Nat → Nat → Int32) (τ : Nat → Nat → Int64) (hI9 : jI9 σ) (hI12 : jI12 σ) (hI22 : jI22 σ) : jM l yX7_readText cX7_readText 3 (some .int) ({ frames := 66, cells := 0, slots := 0, locals := 2845 }) D cI cL ad zz [.ref (ad 9), .ref (ad 22)] σ τ (fun r σ' τ' => τ = τ' ∧ (∀ i : Nat, (i < 9 ∨ 9 < i) ∧ (i < 12 ∨ 13 < i) ∧ (i < 22 ∨ 23 < i) → σ' i = σ i) ∧ (∀ k : Nat, (k < 0 ∨ 0 < k) ∧ (k < 1 ∨ 1 < k) ∧ (k < 2 ∨ 2 < k) → σ' 9 k = σ 9 k) ∧ (∀ k : Nat, (k < 0 ∨ 0 < k) ∧ (k < 1 ∨ 1 < k) → σ' 12 k = σ 12 k) ∧ (∀ k : Nat, (k < 0 ∨ 0 < k) ∧ (k < 1 ∨ 1 < k) → σ' 22 k = σ 22 k) ∧ (jI9 σ') ∧ (jI12 σ') ∧ (jI22 σ') ∧ ((σ' 9 0).toInt = 0) ∧ True) := by
  refine jM.of hJ (by decide +kernel) (nt := .int) rfl (Nat.le_of_ble_eq_true rfl) ?_
  intro p e s m args below meth c Q ls hC hret hl hP
  obtain ⟨hx, hb, hr, hml, hown, hts, hK, -, hlocks, hZ⟩ := hC
  have hown : s.vm.findClass RX7 = some m.cls := hown
  have hS : va_S (jA ad) s.heap s.heap [] := va_S.rf
  have hA : ∀ q, jA ad q → jA ad q := fun _ h => h
  have hl : lv_has ls 3 [(0, .ref (ad 9)), (1, .ref (ad 22))] := hl
  obtain ⟨i1, w2, w3⟩ : (0 ≤ (σ 9 0).toInt ∧ (σ 9 0).toInt ≤ 80) ∧ (∀ k : Nat, k < 80 → 0 ≤ (σ 10 k).toInt ∧ (σ 10 k).toInt ≤ 255) ∧ (∀ k : Nat, k < 8 → 0 ≤ (σ 11 k).toInt ∧ (σ 11 k).toInt ≤ 3) := id hI9
  refine lv_aload_n hx hb dX7_readText_0 rfl (lv_at hl 0 rfl) ?_
  refine jcallVv (As := []) (rest := []) ⟨hx, hb, hml, hown, hts⟩ hK hP hA hS hZ (c_X7_begin_9 l D cI cL ad zz hJ σ τ hI9) cw_RX7_47 (jc_9 cI cL ad σ τ) rfl ⟨Nat.le_of_ble_eq_true rfl, Nat.le_of_ble_eq_true rfl⟩ rfl rfl rfl hl.1 rfl (Nat.le_of_ble_eq_true rfl) dX7_readText_1 ⟨Nat.zero_le _, Nat.zero_le _⟩ (fun σ4 τ4 H locs h4 hP hS => ?_)
  obtain ⟨rfl, f6, f7, I8, I9, I10, h4⟩ := h4
  obtain ⟨i11, w12, w13⟩ : (0 ≤ (σ4 9 0).toInt ∧ (σ4 9 0).toInt ≤ 80) ∧ (∀ k : Nat, k < 80 → 0 ≤ (σ4 10 k).toInt ∧ (σ4 10 k).toInt ≤ 255) ∧ (∀ k : Nat, k < 8 → 0 ≤ (σ4 11 k).toInt ∧ (σ4 11 k).toInt ≤ 3) := id I8
  obtain ⟨i14, i15⟩ : (0 ≤ (σ4 9 1).toInt) ∧ ((σ4 9 1).toInt ≤ (σ4 9 0).toInt) := id I9
  have i16 : (-1) ≤ (σ4 9 2).toInt := I10
  have z17 : (σ4 9 0).toInt = (σ 9 0).toInt := (congrArg Int32.toInt (show σ4 9 0 = (σ 9 0) from (f7 0 (by decide))))
  refine lv_aload_n hx hb dX7_readText_4 rfl (lv_at hl 0 rfl) ?_
  refine va_get (D := D) hx hb hts inlX7 hown hK hP 9 (jc_9 cI cL ad σ4 τ) rfl 5 (by decide) (hts _ kw_3_23) (fun _ h9 => h9) rfl dX7_readText_5 ?_
  obtain ⟨i18, w19⟩ : (0 ≤ (σ 12 0).toInt ∧ (σ 12 0).toInt ≤ 160) ∧ (∀ k : Nat, k < 160 → 0 ≤ (σ 13 k).toInt ∧ (σ 13 k).toInt ≤ 30000) := id hI12
  have w20 : ∀ k : Nat, k < 160 → 0 ≤ (σ4 13 k).toInt ∧ (σ4 13 k).toInt ≤ 30000 := (jrr_fr (f6 13 (by decide)) w19)
  refine jcallVv (As := []) (rest := []) ⟨hx, hb, hml, hown, hts⟩ hK hP hA hS hZ (c_X10_begin_12 l D cI cL ad zz hJ σ4 τ w20) cw_RX7_74 (jc_12 cI cL ad σ4 τ) rfl ⟨Nat.le_of_ble_eq_true rfl, Nat.le_of_ble_eq_true rfl⟩ rfl rfl rfl hl.1 rfl (Nat.le_of_ble_eq_true rfl) dX7_readText_8 ⟨Nat.zero_le _, Nat.zero_le _⟩ (fun σ21 τ21 H locs h21 hP hS => ?_)
  obtain ⟨rfl, f23, f24, I25, h21⟩ := h21
  refine lv_aload_n hx hb dX7_readText_11 rfl (lv_at hl 0 rfl) ?_
  have I26 : jI9 σ21 := jI9_fr (congrFun (f23 9 (by decide)) 0) (f23 10 (by decide)) (f23 11 (by decide)) I8
  have I27 : jI91 σ21 := jI91_fr (congrFun (f23 9 (by decide)) 0) (congrFun (f23 9 (by decide)) 1) I9
  have I28 : jI92 σ21 := jI92_fr (congrFun (f23 9 (by decide)) 2) I10
  refine jcallVv (As := []) (rest := []) ⟨hx, hb, hml, hown, hts⟩ hK hP hA hS hZ (c_X7_readLine_9 l D cI cL ad zz hJ σ21 τ I26 I27 I28 I25) cw_RX7_75 (jc_9 cI cL ad σ21 τ) rfl ⟨Nat.le_of_ble_eq_true rfl, Nat.le_of_ble_eq_true rfl⟩ rfl rfl rfl hl.1 rfl (Nat.le_of_ble_eq_true rfl) dX7_readText_12 ⟨Nat.zero_le _, Nat.zero_le _⟩ (fun σ29 τ29 H locs h29 hP hS => ?_)
  obtain ⟨rfl, f31, f32, f33, I34, I35, I36, I37, h29⟩ := h29
  obtain ⟨i38, w39, w40⟩ : (0 ≤ (σ29 9 0).toInt ∧ (σ29 9 0).toInt ≤ 80) ∧ (∀ k : Nat, k < 80 → 0 ≤ (σ29 10 k).toInt ∧ (σ29 10 k).toInt ≤ 255) ∧ (∀ k : Nat, k < 8 → 0 ≤ (σ29 11 k).toInt ∧ (σ29 11 k).toInt ≤ 3) := id I34
  obtain ⟨i41, i42⟩ : (0 ≤ (σ29 9 1).toInt) ∧ ((σ29 9 1).toInt ≤ (σ29 9 0).toInt) := id I35
  have i43 : (-1) ≤ (σ29 9 2).toInt := I36
  have z44 : (σ29 9 0).toInt = (σ 9 0).toInt := (congrArg Int32.toInt (show σ29 9 0 = (σ 9 0) from ((f32 0 (by decide)).trans ((congrFun (f23 9 (by decide)) 0).trans (f7 0 (by decide))))))
  refine lv_iconst (v := 0) hx hb dX7_readText_15 (by decide) ?_
  refine lv_istore_n (lv' := [(2, .int 0), (0, .ref (ad 9)), (1, .ref (ad 22))]) hx hb dX7_readText_16 rfl hl (by decide) rfl (fun ls hl => ?_)
  have lp45 : ∀ (n46 : Nat) (x47 : Int32) (σ48 : Nat → Nat → Int32) (H : Heap) (locs : List Loc) (ls : Array Slot), (-x47.toInt + 80 : Int) < n46 → 0 ≤ x47.toInt → x47.toInt ≤ 80 → 0 ≤ (σ48 9 1).toInt → (σ48 9 1).toInt ≤ (σ48 9 0).toInt → (-1) ≤ (σ48 9 2).toInt → (∀ i : Nat, (i < 9 ∨ 9 < i) ∧ (i < 12 ∨ 13 < i) → σ48 i = σ29 i) → (∀ k : Nat, (k < 1 ∨ 1 < k) ∧ (k < 2 ∨ 2 < k) → σ48 9 k = σ29 9 k) → (∀ k : Nat, (k < 0 ∨ 0 < k) ∧ (k < 1 ∨ 1 < k) → σ48 12 k = σ29 12 k) → jI12 σ48 → jH D cI cL ad σ48 τ H → va_S (jA ad) s.heap H locs → lv_has ls 3 [(2, .int x47), (0, .ref (ad 9)), (1, .ref (ad 22))] → W p l e ({ frames := 66, cells := 0, slots := 0, locals := 2845 }) s m args below meth c H locs 0 0 Q (F0 m 17 ls []) := by
    intro n46
    induction n46 with
    | zero => intro x47 σ48 H locs ls h49 h50 h51 h52 h53 h54; exact absurd h49 (by omega)
    | succ n46 ihlp45 =>
      intro x47 σ48 H locs ls h49 h50 h51 h52 h53 h54 f55 f56 f57 p58 hP hS hl
      have z59 : (σ48 9 0).toInt = (σ 9 0).toInt := (congrArg Int32.toInt (show σ48 9 0 = (σ 9 0) from ((f56 0 (by decide)).trans ((f32 0 (by decide)).trans ((congrFun (f23 9 (by decide)) 0).trans (f7 0 (by decide)))))))
      refine lv_iload_n hx hb dX7_readText_17 rfl (lv_at hl 0 rfl) ?_
      refine lv_bipush (v := 80) hx hb dX7_readText_18 (by decide) ?_
      refine lv_icmp_ge (tgt := 42) hx hb dX7_readText_20 (by decide) (fun c60 => ?_) (fun c60 => ?_)
      · have kc60 := jle c60 jz_80 rfl
        refine lv_aload_n hx hb dX7_readText_42 rfl (lv_at hl 1 rfl) ?_
        have I61 : jI9 σ48 := jI9_fr (f56 0 (by decide)) (f55 10 (by decide)) (f55 11 (by decide)) I34
        have I62 : jI91 σ48 := ⟨(by omega), (by omega)⟩
        have I63 : jI92 σ48 := (show (-1) ≤ (σ48 9 2).toInt by omega)
        refine jcallV (As := []) (rest := []) ⟨hx, hb, hml, hown, hts⟩ hK hP hA hS hZ (c_X7_end_9 l D cI cL ad zz hJ σ48 τ I61 I62 I63) cw_RX7_57 (jc_9 cI cL ad σ48 τ) rfl ⟨Nat.le_of_ble_eq_true rfl, Nat.le_of_ble_eq_true rfl⟩ rfl rfl rfl hl.1 rfl (Nat.le_of_ble_eq_true rfl) dX7_readText_43 ⟨Nat.zero_le _, Nat.zero_le _⟩ (fun r65 σ64 τ64 H locs h64 hP hS => ?_)
        obtain ⟨rfl, f66, f67, I68, I69, h64⟩ := h64
        obtain ⟨i70, w71, w72⟩ : (0 ≤ (σ64 9 0).toInt ∧ (σ64 9 0).toInt ≤ 80) ∧ (∀ k : Nat, k < 80 → 0 ≤ (σ64 10 k).toInt ∧ (σ64 10 k).toInt ≤ 255) ∧ (∀ k : Nat, k < 8 → 0 ≤ (σ64 11 k).toInt ∧ (σ64 11 k).toInt ≤ 3) := id I68
        have i73 : (-1) ≤ (σ64 9 2).toInt := I69
        obtain ⟨k74, h64⟩ := h64
        rcases h64 with h75 | h76
        · obtain ⟨q78, k77⟩ := h75
          have q78 := q78.symm
          subst q78
          refine lv_istore_n (lv' := [(2, .int (-1)), (0, .ref (ad 9)), (1, .ref (ad 22))]) hx hb dX7_readText_46 rfl hl (by decide) rfl (fun ls hl => ?_)
          refine lv_iload_n hx hb dX7_readText_47 rfl (lv_at hl 0 rfl) ?_
          refine lv_iconst (v := (-1)) hx hb dX7_readText_48 (by decide) ?_
          refine lv_icmp_ne (tgt := 60) hx hb dX7_readText_49 (by decide) (fun c => absurd (by decide) c) (fun _ => ?_)
          refine lv_aload_n hx hb dX7_readText_52 rfl (lv_at hl 2 rfl) ?_
          refine lv_aload_n hx hb dX7_readText_53 rfl (lv_at hl 1 rfl) ?_
          refine va_get (D := D) hx hb hts inlX7 hown hK hP 9 (jc_9 cI cL ad σ64 τ) rfl 5 (by decide) (hts _ kw_3_23) (fun _ h9 => h9) rfl dX7_readText_54 ?_
          have I79 : jI12 σ64 := jI12_fr (congrFun (f66 12 (by decide)) 0) (f66 13 (by decide)) p58
          have I80 : jI22 σ64 := jI22_fr ((congrFun (f66 22 (by decide)) 0).trans ((congrFun (f55 22 (by decide)) 0).trans ((congrFun (f31 22 (by decide)) 0).trans ((congrFun (f23 22 (by decide)) 0).trans (congrFun (f6 22 (by decide)) 0))))) ((f66 23 (by decide)).trans ((f55 23 (by decide)).trans ((f31 23 (by decide)).trans ((f23 23 (by decide)).trans (f6 23 (by decide)))))) hI22
          refine jcallVv (As := [.ref (ad 12)]) (rest := []) ⟨hx, hb, hml, hown, hts⟩ hK hP hA hS hZ (c_X10_copyFrom_22 l D cI cL ad zz hJ σ64 τ I79 I80) cw_RX7_78 (jc_22 cI cL ad σ64 τ) rfl ⟨Nat.le_of_ble_eq_true rfl, Nat.le_of_ble_eq_true rfl⟩ rfl rfl rfl hl.1 rfl (Nat.le_of_ble_eq_true rfl) dX7_readText_57 ⟨Nat.zero_le _, Nat.zero_le _⟩ (fun σ81 τ81 H locs h81 hP hS => ?_)
          obtain ⟨rfl, f83, f84, I85, h81⟩ := h81
          refine lv_iload_n hx hb dX7_readText_60 rfl (lv_at hl 0 rfl) ?_
          have I86 : jI9 σ81 := jI9_fr (congrFun (f83 9 (by decide)) 0) (f83 10 (by decide)) (f83 11 (by decide)) I68
          have I87 : jI12 σ81 := jI12_fr (congrFun (f83 12 (by decide)) 0) (f83 13 (by decide)) I79
          have z88 : (σ81 9 0).toInt = (σ64 9 0).toInt := (congrArg Int32.toInt (show σ81 9 0 = (σ64 9 0) from (congrFun (f83 9 (by decide)) 0)))
          exact hret (-1) σ81 τ _ _ _ _ rfl ⟨rfl, (fun i hi => ((f83 i (imp_66 i hi)).trans ((f66 i (imp_67 i hi)).trans ((f55 i (imp_68 i hi)).trans ((f31 i (imp_68 i hi)).trans ((f23 i (imp_69 i hi)).trans (f6 i (imp_67 i hi)))))))), (fun i hi => ((congrFun (f83 9 (by decide)) i).trans ((f67 i (imp_48 i hi)).trans ((f56 i (imp_50 i hi)).trans ((f32 i (imp_50 i hi)).trans ((congrFun (f23 9 (by decide)) i).trans (f7 i (imp_50 i hi)))))))), (fun i hi => ((congrFun (f83 12 (by decide)) i).trans ((congrFun (f66 12 (by decide)) i).trans ((f57 i hi).trans ((f33 i hi).trans ((f24 i hi).trans (congrFun (f6 12 (by decide)) i))))))), (fun i hi => ((f84 i hi).trans ((congrFun (f66 22 (by decide)) i).trans ((congrFun (f55 22 (by decide)) i).trans ((congrFun (f31 22 (by decide)) i).trans ((congrFun (f23 22 (by decide)) i).trans (congrFun (f6 22 (by decide)) i))))))), I86, I87, I85, (by omega), trivial⟩ hP hS dX7_readText_61
        · obtain ⟨q90, k89⟩ := h76
          refine lv_istore_n (lv' := [(2, .int r65), (0, .ref (ad 9)), (1, .ref (ad 22))]) hx hb dX7_readText_46 rfl hl (by decide) rfl (fun ls hl => ?_)
          refine lv_iload_n hx hb dX7_readText_47 rfl (lv_at hl 0 rfl) ?_
          refine lv_iconst (v := (-1)) hx hb dX7_readText_48 (by decide) ?_
          refine lv_icmp_ne (tgt := 60) hx hb dX7_readText_49 (by decide) (fun c91 => ?_) (fun c => absurd (jeq c rfl jz_m1) (by omega))
          have kc91 := jne c91 rfl jz_m1
          refine lv_iload_n hx hb dX7_readText_60 rfl (lv_at hl 0 rfl) ?_
          have I92 : jI12 σ64 := jI12_fr (congrFun (f66 12 (by decide)) 0) (f66 13 (by decide)) p58
          have I93 : jI22 σ64 := jI22_fr ((congrFun (f66 22 (by decide)) 0).trans ((congrFun (f55 22 (by decide)) 0).trans ((congrFun (f31 22 (by decide)) 0).trans ((congrFun (f23 22 (by decide)) 0).trans (congrFun (f6 22 (by decide)) 0))))) ((f66 23 (by decide)).trans ((f55 23 (by decide)).trans ((f31 23 (by decide)).trans ((f23 23 (by decide)).trans (f6 23 (by decide)))))) hI22
          exact hret r65 σ64 τ _ _ _ _ rfl ⟨rfl, (fun i hi => ((f66 i (imp_67 i hi)).trans ((f55 i (imp_68 i hi)).trans ((f31 i (imp_68 i hi)).trans ((f23 i (imp_69 i hi)).trans (f6 i (imp_67 i hi))))))), (fun i hi => ((f67 i (imp_48 i hi)).trans ((f56 i (imp_50 i hi)).trans ((f32 i (imp_50 i hi)).trans ((congrFun (f23 9 (by decide)) i).trans (f7 i (imp_50 i hi))))))), (fun i hi => ((congrFun (f66 12 (by decide)) i).trans ((f57 i hi).trans ((f33 i hi).trans ((f24 i hi).trans (congrFun (f6 12 (by decide)) i)))))), (fun i hi => ((congrFun (f66 22 (by decide)) i).trans ((congrFun (f55 22 (by decide)) i).trans ((congrFun (f31 22 (by decide)) i).trans ((congrFun (f23 22 (by decide)) i).trans (congrFun (f6 22 (by decide)) i)))))), I68, I92, I93, (by omega), trivial⟩ hP hS dX7_readText_61
      · have kc60 := jnle c60 jz_80 rfl
        refine lv_aload_n hx hb dX7_readText_23 rfl (lv_at hl 1 rfl) ?_
        refine lv_bipush (v := 59) hx hb dX7_readText_24 (by decide) ?_
        have I94 : jI9 σ48 := jI9_fr (f56 0 (by decide)) (f55 10 (by decide)) (f55 11 (by decide)) I34
        have I95 : jI91 σ48 := ⟨(by omega), (by omega)⟩
        have I96 : jI92 σ48 := (show (-1) ≤ (σ48 9 2).toInt by omega)
        refine jcallV (As := [.int 59]) (rest := []) ⟨hx, hb, hml, hown, hts⟩ hK hP hA hS hZ (c_X7_skip_9 l D cI cL ad zz hJ σ48 τ 59 (59) jz_59 I94 I95 I96 (by omega)) cw_RX7_50 (jc_9 cI cL ad σ48 τ) rfl ⟨Nat.le_of_ble_eq_true rfl, Nat.le_of_ble_eq_true rfl⟩ rfl rfl rfl hl.1 rfl (Nat.le_of_ble_eq_true rfl) dX7_readText_26 ⟨Nat.zero_le _, Nat.zero_le _⟩ (fun r98 σ97 τ97 H locs h97 hP hS => ?_)
        obtain ⟨rfl, f99, f100, I101, I102, I103, h97⟩ := h97
        obtain ⟨i104, w105, w106⟩ : (0 ≤ (σ97 9 0).toInt ∧ (σ97 9 0).toInt ≤ 80) ∧ (∀ k : Nat, k < 80 → 0 ≤ (σ97 10 k).toInt ∧ (σ97 10 k).toInt ≤ 255) ∧ (∀ k : Nat, k < 8 → 0 ≤ (σ97 11 k).toInt ∧ (σ97 11 k).toInt ≤ 3) := id I101
        obtain ⟨i107, i108⟩ : (0 ≤ (σ97 9 1).toInt) ∧ ((σ97 9 1).toInt ≤ (σ97 9 0).toInt) := id I102
        have i109 : (-1) ≤ (σ97 9 2).toInt := I103
        have z110 : (σ97 9 0).toInt = (σ 9 0).toInt := (congrArg Int32.toInt (show σ97 9 0 = (σ 9 0) from ((f100 0 (by decide)).trans ((f56 0 (by decide)).trans ((f32 0 (by decide)).trans ((congrFun (f23 9 (by decide)) 0).trans (f7 0 (by decide))))))))
        have z111 : (σ97 9 2).toInt = (σ48 9 2).toInt := (congrArg Int32.toInt (show σ97 9 2 = (σ48 9 2) from (f100 2 (by decide))))
        refine lv_if_eq (tgt := 42) hx hb dX7_readText_29 (by decide) (fun c112 => ?_) (fun c112 => ?_)
        · have kc112 := jeq c112 rfl jz_0
          refine lv_aload_n hx hb dX7_readText_42 rfl (lv_at hl 1 rfl) ?_
          refine jcallV (As := []) (rest := []) ⟨hx, hb, hml, hown, hts⟩ hK hP hA hS hZ (c_X7_end_9 l D cI cL ad zz hJ σ97 τ I101 I102 I103) cw_RX7_57 (jc_9 cI cL ad σ97 τ) rfl ⟨Nat.le_of_ble_eq_true rfl, Nat.le_of_ble_eq_true rfl⟩ rfl rfl rfl hl.1 rfl (Nat.le_of_ble_eq_true rfl) dX7_readText_43 ⟨Nat.zero_le _, Nat.zero_le _⟩ (fun r114 σ113 τ113 H locs h113 hP hS => ?_)
          obtain ⟨rfl, f115, f116, I117, I118, h113⟩ := h113
          obtain ⟨i119, w120, w121⟩ : (0 ≤ (σ113 9 0).toInt ∧ (σ113 9 0).toInt ≤ 80) ∧ (∀ k : Nat, k < 80 → 0 ≤ (σ113 10 k).toInt ∧ (σ113 10 k).toInt ≤ 255) ∧ (∀ k : Nat, k < 8 → 0 ≤ (σ113 11 k).toInt ∧ (σ113 11 k).toInt ≤ 3) := id I117
          have i122 : (-1) ≤ (σ113 9 2).toInt := I118
          obtain ⟨k123, h113⟩ := h113
          rcases h113 with h124 | h125
          · obtain ⟨q127, k126⟩ := h124
            have q127 := q127.symm
            subst q127
            refine lv_istore_n (lv' := [(2, .int (-1)), (0, .ref (ad 9)), (1, .ref (ad 22))]) hx hb dX7_readText_46 rfl hl (by decide) rfl (fun ls hl => ?_)
            refine lv_iload_n hx hb dX7_readText_47 rfl (lv_at hl 0 rfl) ?_
            refine lv_iconst (v := (-1)) hx hb dX7_readText_48 (by decide) ?_
            refine lv_icmp_ne (tgt := 60) hx hb dX7_readText_49 (by decide) (fun c => absurd (by decide) c) (fun _ => ?_)
            refine lv_aload_n hx hb dX7_readText_52 rfl (lv_at hl 2 rfl) ?_
            refine lv_aload_n hx hb dX7_readText_53 rfl (lv_at hl 1 rfl) ?_
            refine va_get (D := D) hx hb hts inlX7 hown hK hP 9 (jc_9 cI cL ad σ113 τ) rfl 5 (by decide) (hts _ kw_3_23) (fun _ h9 => h9) rfl dX7_readText_54 ?_
            have I128 : jI12 σ113 := jI12_fr ((congrFun (f115 12 (by decide)) 0).trans (congrFun (f99 12 (by decide)) 0)) ((f115 13 (by decide)).trans (f99 13 (by decide))) p58
            have I129 : jI22 σ113 := jI22_fr ((congrFun (f115 22 (by decide)) 0).trans ((congrFun (f99 22 (by decide)) 0).trans ((congrFun (f55 22 (by decide)) 0).trans ((congrFun (f31 22 (by decide)) 0).trans ((congrFun (f23 22 (by decide)) 0).trans (congrFun (f6 22 (by decide)) 0)))))) ((f115 23 (by decide)).trans ((f99 23 (by decide)).trans ((f55 23 (by decide)).trans ((f31 23 (by decide)).trans ((f23 23 (by decide)).trans (f6 23 (by decide))))))) hI22
            refine jcallVv (As := [.ref (ad 12)]) (rest := []) ⟨hx, hb, hml, hown, hts⟩ hK hP hA hS hZ (c_X10_copyFrom_22 l D cI cL ad zz hJ σ113 τ I128 I129) cw_RX7_78 (jc_22 cI cL ad σ113 τ) rfl ⟨Nat.le_of_ble_eq_true rfl, Nat.le_of_ble_eq_true rfl⟩ rfl rfl rfl hl.1 rfl (Nat.le_of_ble_eq_true rfl) dX7_readText_57 ⟨Nat.zero_le _, Nat.zero_le _⟩ (fun σ130 τ130 H locs h130 hP hS => ?_)
            obtain ⟨rfl, f132, f133, I134, h130⟩ := h130
            refine lv_iload_n hx hb dX7_readText_60 rfl (lv_at hl 0 rfl) ?_
            have I135 : jI9 σ130 := jI9_fr (congrFun (f132 9 (by decide)) 0) (f132 10 (by decide)) (f132 11 (by decide)) I117
            have I136 : jI12 σ130 := jI12_fr (congrFun (f132 12 (by decide)) 0) (f132 13 (by decide)) I128
            have z137 : (σ130 9 0).toInt = (σ113 9 0).toInt := (congrArg Int32.toInt (show σ130 9 0 = (σ113 9 0) from (congrFun (f132 9 (by decide)) 0)))
            exact hret (-1) σ130 τ _ _ _ _ rfl ⟨rfl, (fun i hi => ((f132 i (imp_66 i hi)).trans ((f115 i (imp_67 i hi)).trans ((f99 i (imp_67 i hi)).trans ((f55 i (imp_68 i hi)).trans ((f31 i (imp_68 i hi)).trans ((f23 i (imp_69 i hi)).trans (f6 i (imp_67 i hi))))))))), (fun i hi => ((congrFun (f132 9 (by decide)) i).trans ((f116 i (imp_48 i hi)).trans ((f100 i (imp_49 i hi)).trans ((f56 i (imp_50 i hi)).trans ((f32 i (imp_50 i hi)).trans ((congrFun (f23 9 (by decide)) i).trans (f7 i (imp_50 i hi))))))))), (fun i hi => ((congrFun (f132 12 (by decide)) i).trans ((congrFun (f115 12 (by decide)) i).trans ((congrFun (f99 12 (by decide)) i).trans ((f57 i hi).trans ((f33 i hi).trans ((f24 i hi).trans (congrFun (f6 12 (by decide)) i)))))))), (fun i hi => ((f133 i hi).trans ((congrFun (f115 22 (by decide)) i).trans ((congrFun (f99 22 (by decide)) i).trans ((congrFun (f55 22 (by decide)) i).trans ((congrFun (f31 22 (by decide)) i).trans ((congrFun (f23 22 (by decide)) i).trans (congrFun (f6 22 (by decide)) i)))))))), I135, I136, I134, (by omega), trivial⟩ hP hS dX7_readText_61
          · obtain ⟨q139, k138⟩ := h125
            refine lv_istore_n (lv' := [(2, .int r114), (0, .ref (ad 9)), (1, .ref (ad 22))]) hx hb dX7_readText_46 rfl hl (by decide) rfl (fun ls hl => ?_)
            refine lv_iload_n hx hb dX7_readText_47 rfl (lv_at hl 0 rfl) ?_
            refine lv_iconst (v := (-1)) hx hb dX7_readText_48 (by decide) ?_
            refine lv_icmp_ne (tgt := 60) hx hb dX7_readText_49 (by decide) (fun c140 => ?_) (fun c => absurd (jeq c rfl jz_m1) (by omega))
            have kc140 := jne c140 rfl jz_m1
            refine lv_iload_n hx hb dX7_readText_60 rfl (lv_at hl 0 rfl) ?_
            have I141 : jI12 σ113 := jI12_fr ((congrFun (f115 12 (by decide)) 0).trans (congrFun (f99 12 (by decide)) 0)) ((f115 13 (by decide)).trans (f99 13 (by decide))) p58
            have I142 : jI22 σ113 := jI22_fr ((congrFun (f115 22 (by decide)) 0).trans ((congrFun (f99 22 (by decide)) 0).trans ((congrFun (f55 22 (by decide)) 0).trans ((congrFun (f31 22 (by decide)) 0).trans ((congrFun (f23 22 (by decide)) 0).trans (congrFun (f6 22 (by decide)) 0)))))) ((f115 23 (by decide)).trans ((f99 23 (by decide)).trans ((f55 23 (by decide)).trans ((f31 23 (by decide)).trans ((f23 23 (by decide)).trans (f6 23 (by decide))))))) hI22
            exact hret r114 σ113 τ _ _ _ _ rfl ⟨rfl, (fun i hi => ((f115 i (imp_67 i hi)).trans ((f99 i (imp_67 i hi)).trans ((f55 i (imp_68 i hi)).trans ((f31 i (imp_68 i hi)).trans ((f23 i (imp_69 i hi)).trans (f6 i (imp_67 i hi)))))))), (fun i hi => ((f116 i (imp_48 i hi)).trans ((f100 i (imp_49 i hi)).trans ((f56 i (imp_50 i hi)).trans ((f32 i (imp_50 i hi)).trans ((congrFun (f23 9 (by decide)) i).trans (f7 i (imp_50 i hi)))))))), (fun i hi => ((congrFun (f115 12 (by decide)) i).trans ((congrFun (f99 12 (by decide)) i).trans ((f57 i hi).trans ((f33 i hi).trans ((f24 i hi).trans (congrFun (f6 12 (by decide)) i))))))), (fun i hi => ((congrFun (f115 22 (by decide)) i).trans ((congrFun (f99 22 (by decide)) i).trans ((congrFun (f55 22 (by decide)) i).trans ((congrFun (f31 22 (by decide)) i).trans ((congrFun (f23 22 (by decide)) i).trans (congrFun (f6 22 (by decide)) i))))))), I117, I141, I142, (by omega), trivial⟩ hP hS dX7_readText_61
        · have kc112 := jne c112 rfl jz_0
          refine lv_aload_n hx hb dX7_readText_32 rfl (lv_at hl 1 rfl) ?_
          have I143 : jI12 σ97 := jI12_fr (congrFun (f99 12 (by decide)) 0) (f99 13 (by decide)) p58
          refine jcallVv (As := []) (rest := []) ⟨hx, hb, hml, hown, hts⟩ hK hP hA hS hZ (c_X7_readLine_9 l D cI cL ad zz hJ σ97 τ I101 I102 I103 I143) cw_RX7_75 (jc_9 cI cL ad σ97 τ) rfl ⟨Nat.le_of_ble_eq_true rfl, Nat.le_of_ble_eq_true rfl⟩ rfl rfl rfl hl.1 rfl (Nat.le_of_ble_eq_true rfl) dX7_readText_33 ⟨Nat.zero_le _, Nat.zero_le _⟩ (fun σ144 τ144 H locs h144 hP hS => ?_)
          obtain ⟨rfl, f146, f147, f148, I149, I150, I151, I152, h144⟩ := h144
          obtain ⟨i153, w154, w155⟩ : (0 ≤ (σ144 9 0).toInt ∧ (σ144 9 0).toInt ≤ 80) ∧ (∀ k : Nat, k < 80 → 0 ≤ (σ144 10 k).toInt ∧ (σ144 10 k).toInt ≤ 255) ∧ (∀ k : Nat, k < 8 → 0 ≤ (σ144 11 k).toInt ∧ (σ144 11 k).toInt ≤ 3) := id I149
          obtain ⟨i156, i157⟩ : (0 ≤ (σ144 9 1).toInt) ∧ ((σ144 9 1).toInt ≤ (σ144 9 0).toInt) := id I150
          have i158 : (-1) ≤ (σ144 9 2).toInt := I151
          have z159 : (σ144 9 0).toInt = (σ 9 0).toInt := (congrArg Int32.toInt (show σ144 9 0 = (σ 9 0) from ((f147 0 (by decide)).trans ((f100 0 (by decide)).trans ((f56 0 (by decide)).trans ((f32 0 (by decide)).trans ((congrFun (f23 9 (by decide)) 0).trans (f7 0 (by decide)))))))))
          obtain ⟨x160, ex160⟩ : ∃ y : Int32, y = x47 + 1 := ⟨_, rfl⟩
          have tx160 : x160.toInt = x47.toInt + 1 := (jadd ex160 rfl jz_1 (by omega) (by omega)).trans (by omega)
          refine lv_iinc (v := x160) (lv' := [(2, .int x160), (0, .ref (ad 9)), (1, .ref (ad 22))]) hx hb dX7_readText_36 hl (k := 0) rfl (by rw [ex160]; rfl) (by decide) rfl (fun ls hl => ?_)
          refine lv_goto (tgt := 17) hx hb dX7_readText_39 (by decide) ?_
          exact ihlp45 x160 σ144 _ _ ls (by have h90 := tx160; omega) (by have h90 := tx160; omega) (by have h90 := tx160; omega) (by have h90 := tx160; omega) (by have h90 := tx160; omega) (by have h90 := tx160; omega) (fun i hi => ((f146 i hi).trans ((f99 i (imp_58 i hi)).trans (f55 i hi)))) (fun i hi => ((f147 i hi).trans ((f100 i (imp_60 i hi)).trans (f56 i hi)))) (fun i hi => ((f148 i hi).trans ((congrFun (f99 12 (by decide)) i).trans (f57 i hi))))  I152 hP hS (lv_sub hl [0, 1, 2] rfl)
  exact lp45 1000000 0 σ29 _ _ ls (by have h90 := jz_0; omega) (by have h90 := jz_0; omega) (by have h90 := jz_0; omega) (by have h90 := jz_0; omega) (by have h90 := jz_0; omega) (by have h90 := jz_0; omega) (fun _ _ => rfl) (fun _ _ => rfl) (fun _ _ => rfl)  I37 hP hS hl
