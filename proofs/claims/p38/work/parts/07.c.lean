set_option maxHeartbeats 4000000 in
set_option maxRecDepth 100000 in
theorem c_X7_grammar_op_g (l : Launch) (D : va_G) (cI cL : ClassId) (ad zz : Nat → Nat) (hJ : jD ad) (n : Nat) (h_op : ∀ (σ : Nat → Nat → Int32) (τ : Nat → Nat → Int64) (a1 : Int32) (A1 : Int) (t1 : a1.toInt = A1) (hI9 : jI9 σ) (hI91 : jI91 σ) (hI92 : jI92 σ) (hI12 : jI12 σ) (hp0 : 0 ≤ A1 ∧ A1 ≤ 6) (hp1 : -A1 + 6 ≤ (((n) : Nat) : Int)), jMv l yX7_operand cX7_operand 3 none ({ frames := (10 + 8 * (n)), cells := 0, slots := 0, locals := (400 + 360 * (n)) }) D cI cL ad zz [.ref (ad 9), .int a1] σ τ (fun σ' τ' => τ = τ' ∧ (∀ i : Nat, (i < 9 ∨ 9 < i) ∧ (i < 12 ∨ 13 < i) → σ' i = σ i) ∧ (∀ k : Nat, (k < 1 ∨ 1 < k) ∧ (k < 2 ∨ 2 < k) → σ' 9 k = σ 9 k) ∧ (∀ k : Nat, (k < 0 ∨ 0 < k) ∧ (k < 1 ∨ 1 < k) → σ' 12 k = σ 12 k) ∧ (jI9 σ') ∧ (jI91 σ') ∧ (jI92 σ') ∧ (jI12 σ') ∧ True)) (h_p0 : ∀ (σ : Nat → Nat → Int32) (τ : Nat → Nat → Int64) (a2 : Int32) (A2 : Int) (t2 : a2.toInt = A2) (hI9 : jI9 σ) (hI91 : jI91 σ) (hI92 : jI92 σ) (hI12 : jI12 σ) (hp0 : 0 ≤ A2 ∧ A2 ≤ 6) (hp1 : -A2 + 6 ≤ (((n) : Nat) : Int)), jMv l yX7_part cX7_part 5 none ({ frames := (16 + 8 * (n)), cells := 0, slots := 0, locals := (640 + 360 * (n)) }) D cI cL ad zz [.ref (ad 9), .int 0, .int a2] σ τ (fun σ' τ' => τ = τ' ∧ (∀ i : Nat, (i < 9 ∨ 9 < i) ∧ (i < 12 ∨ 13 < i) → σ' i = σ i) ∧ (∀ k : Nat, (k < 1 ∨ 1 < k) ∧ (k < 2 ∨ 2 < k) → σ' 9 k = σ 9 k) ∧ (∀ k : Nat, (k < 0 ∨ 0 < k) ∧ (k < 1 ∨ 1 < k) → σ' 12 k = σ 12 k) ∧ (jI9 σ') ∧ (jI91 σ') ∧ (jI92 σ') ∧ (jI12 σ') ∧ True)) (σ : Nat → Nat → Int32) (τ : Nat → Nat → Int64) (a1 : Int32) (A1 : Int) (t1 : a1.toInt = A1) (hI9 : jI9 σ) (hI91 : jI91 σ) (hI92 : jI92 σ) (hI12 : jI12 σ) (hp0 : 0 ≤ A1 ∧ A1 ≤ 6) (hp1 : -A1 + 6 ≤ (((n + 1) : Nat) : Int)) : jMv l yX7_operand cX7_operand 3 none ({ frames := (10 + 8 * (n + 1)), cells := 0, slots := 0, locals := (400 + 360 * (n + 1)) }) D cI cL ad zz [.ref (ad 9), .int a1] σ τ (fun σ' τ' => τ = τ' ∧ (∀ i : Nat, (i < 9 ∨ 9 < i) ∧ (i < 12 ∨ 13 < i) → σ' i = σ i) ∧ (∀ k : Nat, (k < 1 ∨ 1 < k) ∧ (k < 2 ∨ 2 < k) → σ' 9 k = σ 9 k) ∧ (∀ k : Nat, (k < 0 ∨ 0 < k) ∧ (k < 1 ∨ 1 < k) → σ' 12 k = σ 12 k) ∧ (jI9 σ') ∧ (jI91 σ') ∧ (jI92 σ') ∧ (jI12 σ') ∧ True) := by
  refine jMv.of hJ (by decide +kernel) rfl (Nat.le_of_ble_eq_true rfl) ?_
  intro p e s m args below meth c Q ls hC hret hl hP
  obtain ⟨hx, hb, hr, hml, hown, hts, hK, -, hlocks, hZ⟩ := hC
  have hown : s.vm.findClass RX7 = some m.cls := hown
  have hS : va_S (jA ad) s.heap s.heap [] := va_S.rf
  have hA : ∀ q, jA ad q → jA ad q := fun _ h => h
  have hl : lv_has ls 3 [(0, .ref (ad 9)), (1, .int a1)] := hl
  have g1 := jrg t1
  obtain ⟨i1, w2, w3⟩ : (0 ≤ (σ 9 0).toInt ∧ (σ 9 0).toInt ≤ 80) ∧ (∀ k : Nat, k < 80 → 0 ≤ (σ 10 k).toInt ∧ (σ 10 k).toInt ≤ 255) ∧ (∀ k : Nat, k < 8 → 0 ≤ (σ 11 k).toInt ∧ (σ 11 k).toInt ≤ 3) := id hI9
  obtain ⟨i4, i5⟩ : (0 ≤ (σ 9 1).toInt) ∧ ((σ 9 1).toInt ≤ (σ 9 0).toInt) := id hI91
  have i6 : (-1) ≤ (σ 9 2).toInt := hI92
  refine lv_aload_n hx hb dX7_operand_0 rfl (lv_at hl 0 rfl) ?_
  refine va_get (D := D) hx hb hts inlX7 hown hK hP 9 (jc_9 cI cL ad σ τ) rfl 2 (of_decide_eq_true rfl) (hts _ kw_14_6) (fun _ h9 => h9) rfl dX7_operand_1 ?_
  refine lv_iconst (v := (-1)) hx hb dX7_operand_4 (of_decide_eq_true rfl) ?_
  refine lv_icmp_eq (tgt := 9) hx hb dX7_operand_5 (of_decide_eq_true rfl) (fun c7 => ?_) (fun c7 => ?_)
  · have kc7 := jeq c7 rfl jz_m1
    refine lv_aload_n hx hb dX7_operand_9 rfl (lv_at hl 0 rfl) ?_
    refine jcallV (As := []) (rest := []) ⟨hx, hb, hml, hown, hts⟩ hK hP hA hS hZ (c_X7_sign_9 l D cI cL ad zz hJ σ τ hI9) cw_RX7_35 (jc_9 cI cL ad σ τ) rfl ⟨by dsimp only; omega, by dsimp only; omega⟩ rfl rfl rfl hl.1 rfl (Nat.le_of_ble_eq_true rfl) dX7_operand_10 ⟨Nat.zero_le _, Nat.zero_le _⟩ (fun r9 σ8 τ8 H locs h8 hP hS => ?_)
    obtain ⟨⟨rfl, rfl⟩, h8⟩ := h8
    rcases h8 with h10 | h11
    · obtain ⟨q14, k12, k13⟩ := h10
      have q15 : r9 = (σ 10 (σ 9 1).toNatClampNeg) := q14.trans rfl
      have q15 := q15.symm
      subst q15
      refine lv_istore_n (lv' := [(2, .int (σ 10 (σ 9 1).toNatClampNeg)), (0, .ref (ad 9)), (1, .int a1)]) hx hb dX7_operand_13 rfl hl (of_decide_eq_true rfl) rfl (fun ls hl => ?_)
      refine lv_iload_n hx hb dX7_operand_14 rfl (lv_at hl 0 rfl) ?_
      refine jcallS (As := [.int (σ 10 (σ 9 1).toNatClampNeg)]) (rest := []) ⟨hx, hb, hml, hown, hts⟩ hK hP hA hS hZ (c_X7_isDigit l D cI cL ad zz hJ σ τ (σ 10 (σ 9 1).toNatClampNeg) ((σ 10 (σ 9 1).toNatClampNeg).toInt) rfl) cw_RX7_39 ⟨by dsimp only; omega, by dsimp only; omega⟩ rfl rfl rfl hl.1 rfl (Nat.le_of_ble_eq_true rfl) dX7_operand_15 ⟨Nat.zero_le _, Nat.zero_le _⟩ (fun r17 σ16 τ16 H locs h16 hP hS => ?_)
      obtain ⟨⟨rfl, rfl⟩, h16⟩ := h16
      rcases h16 with h18 | h19
      · obtain ⟨q21, k20⟩ := h18
        have q21 := q21.symm
        subst q21
        refine lv_if_eq (tgt := 36) hx hb dX7_operand_18 (of_decide_eq_true rfl) (fun c => absurd c (of_decide_eq_true rfl)) (fun _ => ?_)
        refine lv_aload_n hx hb dX7_operand_21 rfl (lv_at hl 1 rfl) ?_
        refine va_get (D := D) hx hb hts inlX7 hown hK hP 9 (jc_9 cI cL ad σ τ) rfl 5 (of_decide_eq_true rfl) (hts _ kw_3_23) (fun _ h9 => h9) rfl dX7_operand_22 ?_
        refine lv_aload_n hx hb dX7_operand_25 rfl (lv_at hl 1 rfl) ?_
        refine lv_iconst (v := 4) hx hb dX7_operand_26 (of_decide_eq_true rfl) ?_
        refine jcallV (As := [.int 4]) (rest := [.ref (ad 12)]) ⟨hx, hb, hml, hown, hts⟩ hK hP hA hS hZ (c_X7_number_4 l D cI cL ad zz hJ σ τ hI9 hI91 hI92) cw_RX7_53 (jc_9 cI cL ad σ τ) rfl ⟨by dsimp only; omega, by dsimp only; omega⟩ rfl rfl rfl hl.1 rfl (Nat.le_of_ble_eq_true rfl) dX7_operand_27 ⟨Nat.zero_le _, Nat.zero_le _⟩ (fun r23 σ22 τ22 H locs h22 hP hS => ?_)
        obtain ⟨rfl, f24, f25, I26, I27, I28, h22⟩ := h22
        obtain ⟨i30, w31, w32⟩ : (0 ≤ (σ22 9 0).toInt ∧ (σ22 9 0).toInt ≤ 80) ∧ (∀ k : Nat, k < 80 → 0 ≤ (σ22 10 k).toInt ∧ (σ22 10 k).toInt ≤ 255) ∧ (∀ k : Nat, k < 8 → 0 ≤ (σ22 11 k).toInt ∧ (σ22 11 k).toInt ≤ 3) := id I26
        obtain ⟨i33, i34⟩ : (0 ≤ (σ22 9 1).toInt) ∧ ((σ22 9 1).toInt ≤ (σ22 9 0).toInt) := id I27
        have i35 : (-1) ≤ (σ22 9 2).toInt := I28
        have z36 : (σ22 9 0).toInt = (σ 9 0).toInt := (congrArg Int32.toInt (show σ22 9 0 = (σ 9 0) from (f25 0 (of_decide_eq_true rfl))))
        obtain ⟨k37, h22⟩ := h22
        have h38 := h22
        obtain ⟨q40, k39⟩ := h38
        have I41 : jI12 σ22 := jI12_fr (congrFun (f24 12 (of_decide_eq_true rfl)) 0) (f24 13 (of_decide_eq_true rfl)) hI12
        exact by
         refine jcallVv (As := [.int r23]) (rest := []) ⟨hx, hb, hml, hown, hts⟩ hK hP hA hS hZ (c_X10_add_12 l D cI cL ad zz hJ σ22 τ r23 (r23.toInt) rfl I41 (by omega)) cw_RX7_86 (jc_12 cI cL ad σ22 τ) rfl ⟨by dsimp only; omega, by dsimp only; omega⟩ rfl rfl rfl hl.1 rfl (Nat.le_of_ble_eq_true rfl) dX7_operand_30 ⟨Nat.zero_le _, Nat.zero_le _⟩ (fun σ42 τ42 H locs h42 hP hS => ?_)
         obtain ⟨rfl, f44, f45, I46, h42⟩ := h42
         refine lv_goto (tgt := 191) hx hb dX7_operand_33 (of_decide_eq_true rfl) ?_
         have I48 : jI9 σ42 := jI9_fr (congrFun (f44 9 (of_decide_eq_true rfl)) 0) (f44 10 (of_decide_eq_true rfl)) (f44 11 (of_decide_eq_true rfl)) I26
         have I49 : jI91 σ42 := jI91_fr (congrFun (f44 9 (of_decide_eq_true rfl)) 0) (congrFun (f44 9 (of_decide_eq_true rfl)) 1) I27
         have I50 : jI92 σ42 := jI92_fr (congrFun (f44 9 (of_decide_eq_true rfl)) 2) I28
         exact hret σ42 τ _ _ _ _ ⟨rfl, (fun i hi => ((f44 i (imp_58 i hi)).trans (f24 i (imp_59 i hi)))), (fun i hi => ((congrFun (f44 9 (of_decide_eq_true rfl)) i).trans (f25 i hi))), (fun i hi => ((f45 i hi).trans (congrFun (f24 12 (of_decide_eq_true rfl)) i))), I48, I49, I50, I46, trivial⟩ hP hS dX7_operand_191
      · obtain ⟨q52, k51⟩ := h19
        have q52 := q52.symm
        subst q52
        refine lv_if_eq (tgt := 36) hx hb dX7_operand_18 (of_decide_eq_true rfl) (fun _ => ?_) (fun c => absurd (of_decide_eq_true rfl) c)
        refine lv_iload_n hx hb dX7_operand_36 rfl (lv_at hl 0 rfl) ?_
        refine jcallS (As := [.int (σ 10 (σ 9 1).toNatClampNeg)]) (rest := []) ⟨hx, hb, hml, hown, hts⟩ hK hP hA hS hZ (c_X7_nameOf l D cI cL ad zz hJ σ τ (σ 10 (σ 9 1).toNatClampNeg) ((σ 10 (σ 9 1).toNatClampNeg).toInt) rfl) cw_RX7_101 ⟨by dsimp only; omega, by dsimp only; omega⟩ rfl rfl rfl hl.1 rfl (Nat.le_of_ble_eq_true rfl) dX7_operand_37 ⟨Nat.zero_le _, Nat.zero_le _⟩ (fun r54 σ53 τ53 H locs h53 hP hS => ?_)
        obtain ⟨⟨rfl, rfl⟩, h53⟩ := h53
        rcases h53 with h55 | h56
        · obtain ⟨q59, k57, k58⟩ := h55
          exact by
           refine lv_if_lt (tgt := 71) hx hb dX7_operand_40 (of_decide_eq_true rfl) (fun c => absurd (jlt c rfl jz_0) (by omega)) (fun c60 => ?_)
           have kc60 := jnlt c60 rfl jz_0
           refine lv_aload_n hx hb dX7_operand_43 rfl (lv_at hl 1 rfl) ?_
           refine va_get (D := D) hx hb hts inlX7 hown hK hP 9 (jc_9 cI cL ad σ τ) rfl 5 (of_decide_eq_true rfl) (hts _ kw_3_23) (fun _ h9 => h9) rfl dX7_operand_44 ?_
           refine lv_sipush (v := 10000) hx hb dX7_operand_47 (of_decide_eq_true rfl) ?_
           refine lv_iload_n hx hb dX7_operand_50 rfl (lv_at hl 0 rfl) ?_
           refine jcallS (As := [.int (σ 10 (σ 9 1).toNatClampNeg)]) (rest := [.int 10000, .ref (ad 12)]) ⟨hx, hb, hml, hown, hts⟩ hK hP hA hS hZ (c_X7_nameOf l D cI cL ad zz hJ σ τ (σ 10 (σ 9 1).toNatClampNeg) ((σ 10 (σ 9 1).toNatClampNeg).toInt) rfl) cw_RX7_101 ⟨by dsimp only; omega, by dsimp only; omega⟩ rfl rfl rfl hl.1 rfl (Nat.le_of_ble_eq_true rfl) dX7_operand_51 ⟨Nat.zero_le _, Nat.zero_le _⟩ (fun r62 σ61 τ61 H locs h61 hP hS => ?_)
           obtain ⟨⟨rfl, rfl⟩, h61⟩ := h61
           rcases h61 with h63 | h64
           · obtain ⟨q67, k65, k66⟩ := h63
             have g68 := jrg (rfl : r62.toInt = r62.toInt)
             refine lv_iadd hx hb dX7_operand_54 ?_
             refine lv_topi (fun x69 ex69 => ?_)
             exact by
              have tx69 : x69.toInt = r62.toInt + 10000 := (jadd ex69 jz_10000 rfl (by omega) (by omega)).trans (by omega)
              refine jcallVv (As := [.int x69]) (rest := []) ⟨hx, hb, hml, hown, hts⟩ hK hP hA hS hZ (c_X10_add_12 l D cI cL ad zz hJ σ τ x69 (r62.toInt + 10000) tx69 hI12 (by omega)) cw_RX7_86 (jc_12 cI cL ad σ τ) rfl ⟨by dsimp only; omega, by dsimp only; omega⟩ rfl rfl rfl hl.1 rfl (Nat.le_of_ble_eq_true rfl) dX7_operand_55 ⟨Nat.zero_le _, Nat.zero_le _⟩ (fun σ70 τ70 H locs h70 hP hS => ?_)
              obtain ⟨rfl, f72, f73, I74, h70⟩ := h70
              refine lv_aload_n hx hb dX7_operand_58 rfl (lv_at hl 1 rfl) ?_
              refine lv_dup hx hb dX7_operand_59 rfl ?_
              refine va_get (D := D) hx hb hts inlX7 hown hK hP 9 (jc_9 cI cL ad σ70 τ) rfl 1 (of_decide_eq_true rfl) (hts _ kw_13_17) (fun _ h9 => h9) rfl dX7_operand_60 ?_
              have m76 : σ70 9 1 = (σ 9 1) := (congrFun (f72 9 (of_decide_eq_true rfl)) 1)
              refine jtopr m76 ?_
              refine lv_iconst (v := 1) hx hb dX7_operand_63 (of_decide_eq_true rfl) ?_
              exact by
               have g77 := jrg (rfl : (σ 9 1).toInt = (σ 9 1).toInt)
               refine lv_iadd hx hb dX7_operand_64 ?_
               refine lv_topi (fun x78 ex78 => ?_)
               have tx78 : x78.toInt = (σ 9 1).toInt + 1 := (jadd ex78 rfl jz_1 (by omega) (by omega)).trans (by omega)
               refine jput (ty := .int) hx hb hts inlX7 tyX7 tyX7_ok nmX7 hown hK hP hJ hA hS (jc_9 cI cL ad σ70 τ) rfl (k := 1) (of_decide_eq_true rfl) (Nat.le_of_ble_eq_true rfl) (jp_9_1 cI cL ad σ70 τ x78) (hts _ kw_13_17) (fun _ h9 => h9) rfl (by decide +kernel) rfl rfl dX7_operand_65 (fun σ79 H locs eσ79 hP hS => ?_)
               refine lv_goto (tgt := 191) hx hb dX7_operand_68 (of_decide_eq_true rfl) ?_
               have I80 : jI9 σ79 := jI9_fr ((jkp 0 eσ79 (of_decide_eq_true rfl)).trans (congrFun (f72 9 (of_decide_eq_true rfl)) 0)) ((jnp 10 eσ79 (of_decide_eq_true rfl)).trans (f72 10 (of_decide_eq_true rfl))) ((jnp 11 eσ79 (of_decide_eq_true rfl)).trans (f72 11 (of_decide_eq_true rfl))) hI9
               have z81 : (σ79 9 1).toInt = (σ 9 1).toInt + 1 := ((congrArg Int32.toInt (show σ79 9 1 = x78 from (jsp eσ79))).trans tx78)
               have z82 : (σ79 9 0).toInt = (σ 9 0).toInt := (congrArg Int32.toInt (show σ79 9 0 = (σ 9 0) from ((jkp 0 eσ79 (of_decide_eq_true rfl)).trans (congrFun (f72 9 (of_decide_eq_true rfl)) 0))))
               exact by
                have I83 : jI91 σ79 := ⟨(by omega), (by omega)⟩
                have I84 : jI92 σ79 := jI92_fr ((jkp 2 eσ79 (of_decide_eq_true rfl)).trans (congrFun (f72 9 (of_decide_eq_true rfl)) 2)) hI92
                have I85 : jI12 σ79 := jI12_fr (congrFun (jnp 12 eσ79 (of_decide_eq_true rfl)) 0) (jnp 13 eσ79 (of_decide_eq_true rfl)) I74
                exact hret σ79 τ _ _ _ _ ⟨rfl, (fun i hi => ((jnp i eσ79 (imp_60 i hi)).trans (f72 i (imp_58 i hi)))), (fun i hi => ((jkp i eσ79 (imp_39 i hi)).trans (congrFun (f72 9 (of_decide_eq_true rfl)) i))), (fun i hi => ((congrFun (jnp 12 eσ79 (of_decide_eq_true rfl)) i).trans (f73 i hi))), I80, I83, I84, I85, trivial⟩ hP hS dX7_operand_191
           · obtain ⟨q87, k86⟩ := h64
             have q87 := q87.symm
             subst q87
             refine lv_iadd hx hb dX7_operand_54 ?_
             refine jtopr (y := 9999) (of_decide_eq_true rfl) ?_
             exact by
              refine jcallVv (As := [.int 9999]) (rest := []) ⟨hx, hb, hml, hown, hts⟩ hK hP hA hS hZ (c_X10_add_12 l D cI cL ad zz hJ σ τ 9999 (9999) jz_9999 hI12 (by omega)) cw_RX7_86 (jc_12 cI cL ad σ τ) rfl ⟨by dsimp only; omega, by dsimp only; omega⟩ rfl rfl rfl hl.1 rfl (Nat.le_of_ble_eq_true rfl) dX7_operand_55 ⟨Nat.zero_le _, Nat.zero_le _⟩ (fun σ88 τ88 H locs h88 hP hS => ?_)
              obtain ⟨rfl, f90, f91, I92, h88⟩ := h88
              refine lv_aload_n hx hb dX7_operand_58 rfl (lv_at hl 1 rfl) ?_
              refine lv_dup hx hb dX7_operand_59 rfl ?_
              refine va_get (D := D) hx hb hts inlX7 hown hK hP 9 (jc_9 cI cL ad σ88 τ) rfl 1 (of_decide_eq_true rfl) (hts _ kw_13_17) (fun _ h9 => h9) rfl dX7_operand_60 ?_
              have m94 : σ88 9 1 = (σ 9 1) := (congrFun (f90 9 (of_decide_eq_true rfl)) 1)
              refine jtopr m94 ?_
              refine lv_iconst (v := 1) hx hb dX7_operand_63 (of_decide_eq_true rfl) ?_
              have g95 := jrg (rfl : (σ 9 1).toInt = (σ 9 1).toInt)
              refine lv_iadd hx hb dX7_operand_64 ?_
              refine lv_topi (fun x96 ex96 => ?_)
              exact by
               have tx96 : x96.toInt = (σ 9 1).toInt + 1 := (jadd ex96 rfl jz_1 (by omega) (by omega)).trans (by omega)
               refine jput (ty := .int) hx hb hts inlX7 tyX7 tyX7_ok nmX7 hown hK hP hJ hA hS (jc_9 cI cL ad σ88 τ) rfl (k := 1) (of_decide_eq_true rfl) (Nat.le_of_ble_eq_true rfl) (jp_9_1 cI cL ad σ88 τ x96) (hts _ kw_13_17) (fun _ h9 => h9) rfl (by decide +kernel) rfl rfl dX7_operand_65 (fun σ97 H locs eσ97 hP hS => ?_)
               refine lv_goto (tgt := 191) hx hb dX7_operand_68 (of_decide_eq_true rfl) ?_
               have I98 : jI9 σ97 := jI9_fr ((jkp 0 eσ97 (of_decide_eq_true rfl)).trans (congrFun (f90 9 (of_decide_eq_true rfl)) 0)) ((jnp 10 eσ97 (of_decide_eq_true rfl)).trans (f90 10 (of_decide_eq_true rfl))) ((jnp 11 eσ97 (of_decide_eq_true rfl)).trans (f90 11 (of_decide_eq_true rfl))) hI9
               have z99 : (σ97 9 1).toInt = (σ 9 1).toInt + 1 := ((congrArg Int32.toInt (show σ97 9 1 = x96 from (jsp eσ97))).trans tx96)
               have z100 : (σ97 9 0).toInt = (σ 9 0).toInt := (congrArg Int32.toInt (show σ97 9 0 = (σ 9 0) from ((jkp 0 eσ97 (of_decide_eq_true rfl)).trans (congrFun (f90 9 (of_decide_eq_true rfl)) 0))))
               have I101 : jI91 σ97 := ⟨(by omega), (by omega)⟩
               have I102 : jI92 σ97 := jI92_fr ((jkp 2 eσ97 (of_decide_eq_true rfl)).trans (congrFun (f90 9 (of_decide_eq_true rfl)) 2)) hI92
               have I103 : jI12 σ97 := jI12_fr (congrFun (jnp 12 eσ97 (of_decide_eq_true rfl)) 0) (jnp 13 eσ97 (of_decide_eq_true rfl)) I92
               exact hret σ97 τ _ _ _ _ ⟨rfl, (fun i hi => ((jnp i eσ97 (imp_60 i hi)).trans (f90 i (imp_58 i hi)))), (fun i hi => ((jkp i eσ97 (imp_39 i hi)).trans (congrFun (f90 9 (of_decide_eq_true rfl)) i))), (fun i hi => ((congrFun (jnp 12 eσ97 (of_decide_eq_true rfl)) i).trans (f91 i hi))), I98, I101, I102, I103, trivial⟩ hP hS dX7_operand_191
        · exact by
           obtain ⟨q105, k104⟩ := h56
           have q105 := q105.symm
           subst q105
           refine lv_if_lt (tgt := 71) hx hb dX7_operand_40 (of_decide_eq_true rfl) (fun _ => ?_) (fun c => absurd (of_decide_eq_true rfl) c)
           refine lv_iload_n hx hb dX7_operand_71 rfl (lv_at hl 2 rfl) ?_
           refine lv_bipush (v := 6) hx hb dX7_operand_72 (of_decide_eq_true rfl) ?_
           refine lv_icmp_ge (tgt := 133) hx hb dX7_operand_74 (of_decide_eq_true rfl) (fun c106 => ?_) (fun c106 => ?_)
           · have kc106 := jle c106 jz_6 t1
             refine lv_iload_n hx hb dX7_operand_133 rfl (lv_at hl 2 rfl) ?_
             refine lv_bipush (v := 6) hx hb dX7_operand_134 (of_decide_eq_true rfl) ?_
             exact by
              refine lv_icmp_ge (tgt := 183) hx hb dX7_operand_136 (of_decide_eq_true rfl) (fun c107 => ?_) (fun c => absurd (jnle c jz_6 t1) (by omega))
              have kc107 := jle c107 jz_6 t1
              refine lv_aload_n hx hb dX7_operand_183 rfl (lv_at hl 1 rfl) ?_
              refine lv_aload_n hx hb dX7_operand_184 rfl (lv_at hl 1 rfl) ?_
              refine va_get (D := D) hx hb hts inlX7 hown hK hP 9 (jc_9 cI cL ad σ τ) rfl 1 (of_decide_eq_true rfl) (hts _ kw_13_17) (fun _ h9 => h9) rfl dX7_operand_185 ?_
              refine jcallVv (As := [.int (σ 9 1)]) (rest := []) ⟨hx, hb, hml, hown, hts⟩ hK hP hA hS hZ (c_X7_fail_9 l D cI cL ad zz hJ σ τ (σ 9 1) ((σ 9 1).toInt) rfl hI92 (by omega)) cw_RX7_43 (jc_9 cI cL ad σ τ) rfl ⟨by dsimp only; omega, by dsimp only; omega⟩ rfl rfl rfl hl.1 rfl (Nat.le_of_ble_eq_true rfl) dX7_operand_188 ⟨Nat.zero_le _, Nat.zero_le _⟩ (fun σ108 τ108 H locs h108 hP hS => ?_)
              obtain ⟨rfl, f110, f111, h108⟩ := h108
              obtain ⟨k113, k114, h108⟩ := h108
              have I115 : jI9 σ108 := jI9_fr (f111 0 (of_decide_eq_true rfl)) (f110 10 (of_decide_eq_true rfl)) (f110 11 (of_decide_eq_true rfl)) hI9
              exact by
               have I116 : jI91 σ108 := jI91_fr (f111 0 (of_decide_eq_true rfl)) (f111 1 (of_decide_eq_true rfl)) hI91
               have I117 : jI92 σ108 := (show (-1) ≤ (σ108 9 2).toInt by omega)
               have I118 : jI12 σ108 := jI12_fr (congrFun (f110 12 (of_decide_eq_true rfl)) 0) (f110 13 (of_decide_eq_true rfl)) hI12
               exact hret σ108 τ _ _ _ _ ⟨rfl, (fun i hi => (f110 i (imp_59 i hi))), (fun i hi => (f111 i (imp_43 i hi))), (fun i hi => (congrFun (f110 12 (of_decide_eq_true rfl)) i)), I115, I116, I117, I118, trivial⟩ hP hS dX7_operand_191
           · have kc106 := jnle c106 jz_6 t1
             refine lv_iload_n hx hb dX7_operand_77 rfl (lv_at hl 0 rfl) ?_
             refine lv_bipush (v := 33) hx hb dX7_operand_78 (of_decide_eq_true rfl) ?_
             refine lv_icmp_eq (tgt := 89) hx hb dX7_operand_80 (of_decide_eq_true rfl) (fun c119 => ?_) (fun c119 => ?_)
             · have kc119 := jeq c119 rfl jz_33
               refine lv_aload_n hx hb dX7_operand_89 rfl (lv_at hl 1 rfl) ?_
               refine lv_dup hx hb dX7_operand_90 rfl ?_
               refine va_get (D := D) hx hb hts inlX7 hown hK hP 9 (jc_9 cI cL ad σ τ) rfl 1 (of_decide_eq_true rfl) (hts _ kw_13_17) (fun _ h9 => h9) rfl dX7_operand_91 ?_
               refine lv_iconst (v := 1) hx hb dX7_operand_94 (of_decide_eq_true rfl) ?_
               have g120 := jrg (rfl : (σ 9 1).toInt = (σ 9 1).toInt)
               refine lv_iadd hx hb dX7_operand_95 ?_
               refine lv_topi (fun x121 ex121 => ?_)
               exact by
                have tx121 : x121.toInt = (σ 9 1).toInt + 1 := (jadd ex121 rfl jz_1 (by omega) (by omega)).trans (by omega)
                refine jput (ty := .int) hx hb hts inlX7 tyX7 tyX7_ok nmX7 hown hK hP hJ hA hS (jc_9 cI cL ad σ τ) rfl (k := 1) (of_decide_eq_true rfl) (Nat.le_of_ble_eq_true rfl) (jp_9_1 cI cL ad σ τ x121) (hts _ kw_13_17) (fun _ h9 => h9) rfl (by decide +kernel) rfl rfl dX7_operand_96 (fun σ122 H locs eσ122 hP hS => ?_)
                refine lv_aload_n hx hb dX7_operand_99 rfl (lv_at hl 1 rfl) ?_
                refine lv_iload_n hx hb dX7_operand_100 rfl (lv_at hl 2 rfl) ?_
                refine lv_iconst (v := 1) hx hb dX7_operand_101 (of_decide_eq_true rfl) ?_
                refine lv_iadd hx hb dX7_operand_102 ?_
                refine lv_topi (fun x123 ex123 => ?_)
                have tx123 : x123.toInt = A1 + 1 := (jadd ex123 t1 jz_1 (by omega) (by omega)).trans (by omega)
                have I124 : jI9 σ122 := jI9_fr (jkp 0 eσ122 (of_decide_eq_true rfl)) (jnp 10 eσ122 (of_decide_eq_true rfl)) (jnp 11 eσ122 (of_decide_eq_true rfl)) hI9
                exact by
                 have z125 : (σ122 9 1).toInt = (σ 9 1).toInt + 1 := ((congrArg Int32.toInt (show σ122 9 1 = x121 from (jsp eσ122))).trans tx121)
                 have z126 : (σ122 9 0).toInt = (σ 9 0).toInt := (congrArg Int32.toInt (show σ122 9 0 = (σ 9 0) from (jkp 0 eσ122 (of_decide_eq_true rfl))))
                 have I127 : jI91 σ122 := ⟨(by omega), (by omega)⟩
                 have I128 : jI92 σ122 := jI92_fr (jkp 2 eσ122 (of_decide_eq_true rfl)) hI92
                 have I129 : jI12 σ122 := jI12_fr (congrFun (jnp 12 eσ122 (of_decide_eq_true rfl)) 0) (jnp 13 eσ122 (of_decide_eq_true rfl)) hI12
                 refine jcallVv (As := [.int x123]) (rest := []) ⟨hx, hb, hml, hown, hts⟩ hK hP hA hS hZ (h_op σ122 τ x123 (A1 + 1) tx123 I124 I127 I128 I129 (by omega) (by omega)) cw_RX7_95 (jc_9 cI cL ad σ122 τ) rfl ⟨by dsimp only; omega, by dsimp only; omega⟩ rfl rfl rfl hl.1 rfl (Nat.le_of_ble_eq_true rfl) dX7_operand_103 ⟨Nat.zero_le _, Nat.zero_le _⟩ (fun σ130 τ130 H locs h130 hP hS => ?_)
                 obtain ⟨rfl, f132, f133, f134, I135, I136, I137, I138, h130⟩ := h130
                 obtain ⟨i140, w141, w142⟩ : (0 ≤ (σ130 9 0).toInt ∧ (σ130 9 0).toInt ≤ 80) ∧ (∀ k : Nat, k < 80 → 0 ≤ (σ130 10 k).toInt ∧ (σ130 10 k).toInt ≤ 255) ∧ (∀ k : Nat, k < 8 → 0 ≤ (σ130 11 k).toInt ∧ (σ130 11 k).toInt ≤ 3) := id I135
                 obtain ⟨i143, i144⟩ : (0 ≤ (σ130 9 1).toInt) ∧ ((σ130 9 1).toInt ≤ (σ130 9 0).toInt) := id I136
                 exact by
                  have i145 : (-1) ≤ (σ130 9 2).toInt := I137
                  have z146 : (σ130 9 0).toInt = (σ 9 0).toInt := (congrArg Int32.toInt (show σ130 9 0 = (σ 9 0) from ((f133 0 (of_decide_eq_true rfl)).trans (jkp 0 eσ122 (of_decide_eq_true rfl)))))
                  refine lv_aload_n hx hb dX7_operand_106 rfl (lv_at hl 1 rfl) ?_
                  refine va_get (D := D) hx hb hts inlX7 hown hK hP 9 (jc_9 cI cL ad σ130 τ) rfl 5 (of_decide_eq_true rfl) (hts _ kw_3_23) (fun _ h9 => h9) rfl dX7_operand_107 ?_
                  refine lv_sipush (v := 20000) hx hb dX7_operand_110 (of_decide_eq_true rfl) ?_
                  refine lv_iload_n hx hb dX7_operand_113 rfl (lv_at hl 0 rfl) ?_
                  refine lv_bipush (v := 33) hx hb dX7_operand_114 (of_decide_eq_true rfl) ?_
                  refine lv_icmp_ne (tgt := 124) hx hb dX7_operand_116 (of_decide_eq_true rfl) (fun c => absurd (jne c rfl jz_33) (by omega)) (fun c147 => ?_)
                  have kc147 := jeq c147 rfl jz_33
                  exact by
                   refine lv_bipush (v := 33) hx hb dX7_operand_119 (of_decide_eq_true rfl) ?_
                   refine lv_goto (tgt := 126) hx hb dX7_operand_121 (of_decide_eq_true rfl) ?_
                   refine lv_iadd hx hb dX7_operand_126 ?_
                   refine jtopr (y := 20033) (of_decide_eq_true rfl) ?_
                   refine jcallVv (As := [.int 20033]) (rest := []) ⟨hx, hb, hml, hown, hts⟩ hK hP hA hS hZ (c_X10_add_12 l D cI cL ad zz hJ σ130 τ 20033 (20033) jz_20033 I138 (by omega)) cw_RX7_86 (jc_12 cI cL ad σ130 τ) rfl ⟨by dsimp only; omega, by dsimp only; omega⟩ rfl rfl rfl hl.1 rfl (Nat.le_of_ble_eq_true rfl) dX7_operand_127 ⟨Nat.zero_le _, Nat.zero_le _⟩ (fun σ148 τ148 H locs h148 hP hS => ?_)
                   obtain ⟨rfl, f150, f151, I152, h148⟩ := h148
                   refine lv_goto (tgt := 191) hx hb dX7_operand_130 (of_decide_eq_true rfl) ?_
                   have I154 : jI9 σ148 := jI9_fr (congrFun (f150 9 (of_decide_eq_true rfl)) 0) (f150 10 (of_decide_eq_true rfl)) (f150 11 (of_decide_eq_true rfl)) I135
                   have I155 : jI91 σ148 := jI91_fr (congrFun (f150 9 (of_decide_eq_true rfl)) 0) (congrFun (f150 9 (of_decide_eq_true rfl)) 1) I136
                   exact by
                    have I156 : jI92 σ148 := jI92_fr (congrFun (f150 9 (of_decide_eq_true rfl)) 2) I137
                    exact hret σ148 τ _ _ _ _ ⟨rfl, (fun i hi => ((f150 i (imp_58 i hi)).trans ((f132 i hi).trans (jnp i eσ122 (imp_60 i hi))))), (fun i hi => ((congrFun (f150 9 (of_decide_eq_true rfl)) i).trans ((f133 i hi).trans (jkp i eσ122 (imp_39 i hi))))), (fun i hi => ((f151 i hi).trans ((f134 i hi).trans (congrFun (jnp 12 eσ122 (of_decide_eq_true rfl)) i)))), I154, I155, I156, I152, trivial⟩ hP hS dX7_operand_191
             · have kc119 := jne c119 rfl jz_33
               refine lv_iload_n hx hb dX7_operand_83 rfl (lv_at hl 0 rfl) ?_
               refine lv_bipush (v := 45) hx hb dX7_operand_84 (of_decide_eq_true rfl) ?_
               refine lv_icmp_ne (tgt := 133) hx hb dX7_operand_86 (of_decide_eq_true rfl) (fun c157 => ?_) (fun c157 => ?_)
               · have kc157 := jne c157 rfl jz_45
                 refine lv_iload_n hx hb dX7_operand_133 rfl (lv_at hl 2 rfl) ?_
                 refine lv_bipush (v := 6) hx hb dX7_operand_134 (of_decide_eq_true rfl) ?_
                 exact by
                  refine lv_icmp_ge (tgt := 183) hx hb dX7_operand_136 (of_decide_eq_true rfl) (fun c => absurd (jle c jz_6 t1) (by omega)) (fun c158 => ?_)
                  have kc158 := jnle c158 jz_6 t1
                  refine lv_iload_n hx hb dX7_operand_139 rfl (lv_at hl 0 rfl) ?_
                  refine lv_bipush (v := 40) hx hb dX7_operand_140 (of_decide_eq_true rfl) ?_
                  refine lv_icmp_ne (tgt := 183) hx hb dX7_operand_142 (of_decide_eq_true rfl) (fun c159 => ?_) (fun c159 => ?_)
                  · have kc159 := jne c159 rfl jz_40
                    refine lv_aload_n hx hb dX7_operand_183 rfl (lv_at hl 1 rfl) ?_
                    refine lv_aload_n hx hb dX7_operand_184 rfl (lv_at hl 1 rfl) ?_
                    refine va_get (D := D) hx hb hts inlX7 hown hK hP 9 (jc_9 cI cL ad σ τ) rfl 1 (of_decide_eq_true rfl) (hts _ kw_13_17) (fun _ h9 => h9) rfl dX7_operand_185 ?_
                    exact by
                     refine jcallVv (As := [.int (σ 9 1)]) (rest := []) ⟨hx, hb, hml, hown, hts⟩ hK hP hA hS hZ (c_X7_fail_9 l D cI cL ad zz hJ σ τ (σ 9 1) ((σ 9 1).toInt) rfl hI92 (by omega)) cw_RX7_43 (jc_9 cI cL ad σ τ) rfl ⟨by dsimp only; omega, by dsimp only; omega⟩ rfl rfl rfl hl.1 rfl (Nat.le_of_ble_eq_true rfl) dX7_operand_188 ⟨Nat.zero_le _, Nat.zero_le _⟩ (fun σ160 τ160 H locs h160 hP hS => ?_)
                     obtain ⟨rfl, f162, f163, h160⟩ := h160
                     obtain ⟨k165, k166, h160⟩ := h160
                     have I167 : jI9 σ160 := jI9_fr (f163 0 (of_decide_eq_true rfl)) (f162 10 (of_decide_eq_true rfl)) (f162 11 (of_decide_eq_true rfl)) hI9
                     have I168 : jI91 σ160 := jI91_fr (f163 0 (of_decide_eq_true rfl)) (f163 1 (of_decide_eq_true rfl)) hI91
                     have I169 : jI92 σ160 := (show (-1) ≤ (σ160 9 2).toInt by omega)
                     have I170 : jI12 σ160 := jI12_fr (congrFun (f162 12 (of_decide_eq_true rfl)) 0) (f162 13 (of_decide_eq_true rfl)) hI12
                     exact hret σ160 τ _ _ _ _ ⟨rfl, (fun i hi => (f162 i (imp_59 i hi))), (fun i hi => (f163 i (imp_43 i hi))), (fun i hi => (congrFun (f162 12 (of_decide_eq_true rfl)) i)), I167, I168, I169, I170, trivial⟩ hP hS dX7_operand_191
                  · have kc159 := jeq c159 rfl jz_40
                    refine lv_aload_n hx hb dX7_operand_145 rfl (lv_at hl 1 rfl) ?_
                    refine lv_dup hx hb dX7_operand_146 rfl ?_
                    refine va_get (D := D) hx hb hts inlX7 hown hK hP 9 (jc_9 cI cL ad σ τ) rfl 1 (of_decide_eq_true rfl) (hts _ kw_13_17) (fun _ h9 => h9) rfl dX7_operand_147 ?_
                    refine lv_iconst (v := 1) hx hb dX7_operand_150 (of_decide_eq_true rfl) ?_
                    have g171 := jrg (rfl : (σ 9 1).toInt = (σ 9 1).toInt)
                    refine lv_iadd hx hb dX7_operand_151 ?_
                    refine lv_topi (fun x172 ex172 => ?_)
                    exact by
                     have tx172 : x172.toInt = (σ 9 1).toInt + 1 := (jadd ex172 rfl jz_1 (by omega) (by omega)).trans (by omega)
                     refine jput (ty := .int) hx hb hts inlX7 tyX7 tyX7_ok nmX7 hown hK hP hJ hA hS (jc_9 cI cL ad σ τ) rfl (k := 1) (of_decide_eq_true rfl) (Nat.le_of_ble_eq_true rfl) (jp_9_1 cI cL ad σ τ x172) (hts _ kw_13_17) (fun _ h9 => h9) rfl (by decide +kernel) rfl rfl dX7_operand_152 (fun σ173 H locs eσ173 hP hS => ?_)
                     refine lv_aload_n hx hb dX7_operand_155 rfl (lv_at hl 1 rfl) ?_
                     refine lv_iconst (v := 0) hx hb dX7_operand_156 (of_decide_eq_true rfl) ?_
                     refine lv_iload_n hx hb dX7_operand_157 rfl (lv_at hl 2 rfl) ?_
                     refine lv_iconst (v := 1) hx hb dX7_operand_158 (of_decide_eq_true rfl) ?_
                     refine lv_iadd hx hb dX7_operand_159 ?_
                     refine lv_topi (fun x174 ex174 => ?_)
                     have tx174 : x174.toInt = A1 + 1 := (jadd ex174 t1 jz_1 (by omega) (by omega)).trans (by omega)
                     exact by
                      have I175 : jI9 σ173 := jI9_fr (jkp 0 eσ173 (of_decide_eq_true rfl)) (jnp 10 eσ173 (of_decide_eq_true rfl)) (jnp 11 eσ173 (of_decide_eq_true rfl)) hI9
                      have z176 : (σ173 9 1).toInt = (σ 9 1).toInt + 1 := ((congrArg Int32.toInt (show σ173 9 1 = x172 from (jsp eσ173))).trans tx172)
                      have z177 : (σ173 9 0).toInt = (σ 9 0).toInt := (congrArg Int32.toInt (show σ173 9 0 = (σ 9 0) from (jkp 0 eσ173 (of_decide_eq_true rfl))))
                      have I178 : jI91 σ173 := ⟨(by omega), (by omega)⟩
                      have I179 : jI92 σ173 := jI92_fr (jkp 2 eσ173 (of_decide_eq_true rfl)) hI92
                      have I180 : jI12 σ173 := jI12_fr (congrFun (jnp 12 eσ173 (of_decide_eq_true rfl)) 0) (jnp 13 eσ173 (of_decide_eq_true rfl)) hI12
                      refine jcallVv (As := [.int 0, .int x174]) (rest := []) ⟨hx, hb, hml, hown, hts⟩ hK hP hA hS hZ (h_p0 σ173 τ x174 (A1 + 1) tx174 I175 I178 I179 I180 (by omega) (by omega)) cw_RX7_82 (jc_9 cI cL ad σ173 τ) rfl ⟨by dsimp only; omega, by dsimp only; omega⟩ rfl rfl rfl hl.1 rfl (Nat.le_of_ble_eq_true rfl) dX7_operand_160 ⟨Nat.zero_le _, Nat.zero_le _⟩ (fun σ181 τ181 H locs h181 hP hS => ?_)
                      obtain ⟨rfl, f183, f184, f185, I186, I187, I188, I189, h181⟩ := h181
                      obtain ⟨i191, w192, w193⟩ : (0 ≤ (σ181 9 0).toInt ∧ (σ181 9 0).toInt ≤ 80) ∧ (∀ k : Nat, k < 80 → 0 ≤ (σ181 10 k).toInt ∧ (σ181 10 k).toInt ≤ 255) ∧ (∀ k : Nat, k < 8 → 0 ≤ (σ181 11 k).toInt ∧ (σ181 11 k).toInt ≤ 3) := id I186
                      exact by
                       obtain ⟨i194, i195⟩ : (0 ≤ (σ181 9 1).toInt) ∧ ((σ181 9 1).toInt ≤ (σ181 9 0).toInt) := id I187
                       have i196 : (-1) ≤ (σ181 9 2).toInt := I188
                       have z197 : (σ181 9 0).toInt = (σ 9 0).toInt := (congrArg Int32.toInt (show σ181 9 0 = (σ 9 0) from ((f184 0 (of_decide_eq_true rfl)).trans (jkp 0 eσ173 (of_decide_eq_true rfl)))))
                       refine lv_aload_n hx hb dX7_operand_163 rfl (lv_at hl 1 rfl) ?_
                       refine lv_bipush (v := 41) hx hb dX7_operand_164 (of_decide_eq_true rfl) ?_
                       refine jcallV (As := [.int 41]) (rest := []) ⟨hx, hb, hml, hown, hts⟩ hK hP hA hS hZ (c_X7_skip_9 l D cI cL ad zz hJ σ181 τ 41 (41) jz_41 I186 I187 I188 (by omega)) cw_RX7_50 (jc_9 cI cL ad σ181 τ) rfl ⟨by dsimp only; omega, by dsimp only; omega⟩ rfl rfl rfl hl.1 rfl (Nat.le_of_ble_eq_true rfl) dX7_operand_166 ⟨Nat.zero_le _, Nat.zero_le _⟩ (fun r199 σ198 τ198 H locs h198 hP hS => ?_)
                       obtain ⟨rfl, f200, f201, I202, I203, I204, h198⟩ := h198
                       obtain ⟨i206, w207, w208⟩ : (0 ≤ (σ198 9 0).toInt ∧ (σ198 9 0).toInt ≤ 80) ∧ (∀ k : Nat, k < 80 → 0 ≤ (σ198 10 k).toInt ∧ (σ198 10 k).toInt ≤ 255) ∧ (∀ k : Nat, k < 8 → 0 ≤ (σ198 11 k).toInt ∧ (σ198 11 k).toInt ≤ 3) := id I202
                       obtain ⟨i209, i210⟩ : (0 ≤ (σ198 9 1).toInt) ∧ ((σ198 9 1).toInt ≤ (σ198 9 0).toInt) := id I203
                       exact by
                        have i211 : (-1) ≤ (σ198 9 2).toInt := I204
                        have z212 : (σ198 9 0).toInt = (σ 9 0).toInt := (congrArg Int32.toInt (show σ198 9 0 = (σ 9 0) from ((f201 0 (of_decide_eq_true rfl)).trans ((f184 0 (of_decide_eq_true rfl)).trans (jkp 0 eσ173 (of_decide_eq_true rfl))))))
                        have z213 : (σ198 9 2).toInt = (σ181 9 2).toInt := (congrArg Int32.toInt (show σ198 9 2 = (σ181 9 2) from (f201 2 (of_decide_eq_true rfl))))
                        rcases h198 with h214 | h215
                        · obtain ⟨q220, k216, k217, k218, k219⟩ := h214
                          have q220 := q220.symm
                          subst q220
                          refine lv_if_ne (tgt := 191) hx hb dX7_operand_169 (of_decide_eq_true rfl) (fun _ => ?_) (fun c => absurd c (of_decide_eq_true rfl))
                          have I221 : jI12 σ198 := jI12_fr (congrFun (f200 12 (of_decide_eq_true rfl)) 0) (f200 13 (of_decide_eq_true rfl)) I189
                          exact hret σ198 τ _ _ _ _ ⟨rfl, (fun i hi => ((f200 i (imp_59 i hi)).trans ((f183 i hi).trans (jnp i eσ173 (imp_60 i hi))))), (fun i hi => ((f201 i (imp_55 i hi)).trans ((f184 i hi).trans (jkp i eσ173 (imp_39 i hi))))), (fun i hi => ((congrFun (f200 12 (of_decide_eq_true rfl)) i).trans ((f185 i hi).trans (congrFun (jnp 12 eσ173 (of_decide_eq_true rfl)) i)))), I202, I203, I204, I221, trivial⟩ hP hS dX7_operand_191
                        · obtain ⟨q225, k222, k223, k224⟩ := h215
                          have q225 := q225.symm
                          subst q225
                          refine lv_if_ne (tgt := 191) hx hb dX7_operand_169 (of_decide_eq_true rfl) (fun c => absurd (of_decide_eq_true rfl) c) (fun _ => ?_)
                          refine lv_aload_n hx hb dX7_operand_172 rfl (lv_at hl 1 rfl) ?_
                          refine lv_aload_n hx hb dX7_operand_173 rfl (lv_at hl 1 rfl) ?_
                          refine va_get (D := D) hx hb hts inlX7 hown hK hP 9 (jc_9 cI cL ad σ198 τ) rfl 1 (of_decide_eq_true rfl) (hts _ kw_13_17) (fun _ h9 => h9) rfl dX7_operand_174 ?_
                          exact by
                           refine jcallVv (As := [.int (σ198 9 1)]) (rest := []) ⟨hx, hb, hml, hown, hts⟩ hK hP hA hS hZ (c_X7_fail_9 l D cI cL ad zz hJ σ198 τ (σ198 9 1) ((σ198 9 1).toInt) rfl I204 (by omega)) cw_RX7_43 (jc_9 cI cL ad σ198 τ) rfl ⟨by dsimp only; omega, by dsimp only; omega⟩ rfl rfl rfl hl.1 rfl (Nat.le_of_ble_eq_true rfl) dX7_operand_177 ⟨Nat.zero_le _, Nat.zero_le _⟩ (fun σ226 τ226 H locs h226 hP hS => ?_)
                           obtain ⟨rfl, f228, f229, h226⟩ := h226
                           obtain ⟨k231, k232, h226⟩ := h226
                           refine lv_goto (tgt := 191) hx hb dX7_operand_180 (of_decide_eq_true rfl) ?_
                           have I233 : jI9 σ226 := jI9_fr (f229 0 (of_decide_eq_true rfl)) (f228 10 (of_decide_eq_true rfl)) (f228 11 (of_decide_eq_true rfl)) I202
                           have I234 : jI91 σ226 := jI91_fr (f229 0 (of_decide_eq_true rfl)) (f229 1 (of_decide_eq_true rfl)) I203
                           have I235 : jI92 σ226 := (show (-1) ≤ (σ226 9 2).toInt by omega)
                           have I236 : jI12 σ226 := jI12_fr ((congrFun (f228 12 (of_decide_eq_true rfl)) 0).trans (congrFun (f200 12 (of_decide_eq_true rfl)) 0)) ((f228 13 (of_decide_eq_true rfl)).trans (f200 13 (of_decide_eq_true rfl))) I189
                           exact hret σ226 τ _ _ _ _ ⟨rfl, (fun i hi => ((f228 i (imp_59 i hi)).trans ((f200 i (imp_59 i hi)).trans ((f183 i hi).trans (jnp i eσ173 (imp_60 i hi)))))), (fun i hi => ((f229 i (imp_43 i hi)).trans ((f201 i (imp_55 i hi)).trans ((f184 i hi).trans (jkp i eσ173 (imp_39 i hi)))))), (fun i hi => ((congrFun (f228 12 (of_decide_eq_true rfl)) i).trans ((congrFun (f200 12 (of_decide_eq_true rfl)) i).trans ((f185 i hi).trans (congrFun (jnp 12 eσ173 (of_decide_eq_true rfl)) i))))), I233, I234, I235, I236, trivial⟩ hP hS dX7_operand_191
               · have kc157 := jeq c157 rfl jz_45
                 refine lv_aload_n hx hb dX7_operand_89 rfl (lv_at hl 1 rfl) ?_
                 refine lv_dup hx hb dX7_operand_90 rfl ?_
                 refine va_get (D := D) hx hb hts inlX7 hown hK hP 9 (jc_9 cI cL ad σ τ) rfl 1 (of_decide_eq_true rfl) (hts _ kw_13_17) (fun _ h9 => h9) rfl dX7_operand_91 ?_
                 refine lv_iconst (v := 1) hx hb dX7_operand_94 (of_decide_eq_true rfl) ?_
                 have g237 := jrg (rfl : (σ 9 1).toInt = (σ 9 1).toInt)
                 refine lv_iadd hx hb dX7_operand_95 ?_
                 refine lv_topi (fun x238 ex238 => ?_)
                 exact by
                  have tx238 : x238.toInt = (σ 9 1).toInt + 1 := (jadd ex238 rfl jz_1 (by omega) (by omega)).trans (by omega)
                  refine jput (ty := .int) hx hb hts inlX7 tyX7 tyX7_ok nmX7 hown hK hP hJ hA hS (jc_9 cI cL ad σ τ) rfl (k := 1) (of_decide_eq_true rfl) (Nat.le_of_ble_eq_true rfl) (jp_9_1 cI cL ad σ τ x238) (hts _ kw_13_17) (fun _ h9 => h9) rfl (by decide +kernel) rfl rfl dX7_operand_96 (fun σ239 H locs eσ239 hP hS => ?_)
                  refine lv_aload_n hx hb dX7_operand_99 rfl (lv_at hl 1 rfl) ?_
                  refine lv_iload_n hx hb dX7_operand_100 rfl (lv_at hl 2 rfl) ?_
                  refine lv_iconst (v := 1) hx hb dX7_operand_101 (of_decide_eq_true rfl) ?_
                  refine lv_iadd hx hb dX7_operand_102 ?_
                  refine lv_topi (fun x240 ex240 => ?_)
                  have tx240 : x240.toInt = A1 + 1 := (jadd ex240 t1 jz_1 (by omega) (by omega)).trans (by omega)
                  have I241 : jI9 σ239 := jI9_fr (jkp 0 eσ239 (of_decide_eq_true rfl)) (jnp 10 eσ239 (of_decide_eq_true rfl)) (jnp 11 eσ239 (of_decide_eq_true rfl)) hI9
                  exact by
                   have z242 : (σ239 9 1).toInt = (σ 9 1).toInt + 1 := ((congrArg Int32.toInt (show σ239 9 1 = x238 from (jsp eσ239))).trans tx238)
                   have z243 : (σ239 9 0).toInt = (σ 9 0).toInt := (congrArg Int32.toInt (show σ239 9 0 = (σ 9 0) from (jkp 0 eσ239 (of_decide_eq_true rfl))))
                   have I244 : jI91 σ239 := ⟨(by omega), (by omega)⟩
                   have I245 : jI92 σ239 := jI92_fr (jkp 2 eσ239 (of_decide_eq_true rfl)) hI92
                   have I246 : jI12 σ239 := jI12_fr (congrFun (jnp 12 eσ239 (of_decide_eq_true rfl)) 0) (jnp 13 eσ239 (of_decide_eq_true rfl)) hI12
                   refine jcallVv (As := [.int x240]) (rest := []) ⟨hx, hb, hml, hown, hts⟩ hK hP hA hS hZ (h_op σ239 τ x240 (A1 + 1) tx240 I241 I244 I245 I246 (by omega) (by omega)) cw_RX7_95 (jc_9 cI cL ad σ239 τ) rfl ⟨by dsimp only; omega, by dsimp only; omega⟩ rfl rfl rfl hl.1 rfl (Nat.le_of_ble_eq_true rfl) dX7_operand_103 ⟨Nat.zero_le _, Nat.zero_le _⟩ (fun σ247 τ247 H locs h247 hP hS => ?_)
                   obtain ⟨rfl, f249, f250, f251, I252, I253, I254, I255, h247⟩ := h247
                   obtain ⟨i257, w258, w259⟩ : (0 ≤ (σ247 9 0).toInt ∧ (σ247 9 0).toInt ≤ 80) ∧ (∀ k : Nat, k < 80 → 0 ≤ (σ247 10 k).toInt ∧ (σ247 10 k).toInt ≤ 255) ∧ (∀ k : Nat, k < 8 → 0 ≤ (σ247 11 k).toInt ∧ (σ247 11 k).toInt ≤ 3) := id I252
                   obtain ⟨i260, i261⟩ : (0 ≤ (σ247 9 1).toInt) ∧ ((σ247 9 1).toInt ≤ (σ247 9 0).toInt) := id I253
                   exact by
                    have i262 : (-1) ≤ (σ247 9 2).toInt := I254
                    have z263 : (σ247 9 0).toInt = (σ 9 0).toInt := (congrArg Int32.toInt (show σ247 9 0 = (σ 9 0) from ((f250 0 (of_decide_eq_true rfl)).trans (jkp 0 eσ239 (of_decide_eq_true rfl)))))
                    refine lv_aload_n hx hb dX7_operand_106 rfl (lv_at hl 1 rfl) ?_
                    refine va_get (D := D) hx hb hts inlX7 hown hK hP 9 (jc_9 cI cL ad σ247 τ) rfl 5 (of_decide_eq_true rfl) (hts _ kw_3_23) (fun _ h9 => h9) rfl dX7_operand_107 ?_
                    refine lv_sipush (v := 20000) hx hb dX7_operand_110 (of_decide_eq_true rfl) ?_
                    refine lv_iload_n hx hb dX7_operand_113 rfl (lv_at hl 0 rfl) ?_
                    refine lv_bipush (v := 33) hx hb dX7_operand_114 (of_decide_eq_true rfl) ?_
                    refine lv_icmp_ne (tgt := 124) hx hb dX7_operand_116 (of_decide_eq_true rfl) (fun c264 => ?_) (fun c => absurd (jeq c rfl jz_33) (by omega))
                    have kc264 := jne c264 rfl jz_33
                    exact by
                     refine lv_bipush (v := 126) hx hb dX7_operand_124 (of_decide_eq_true rfl) ?_
                     refine lv_iadd hx hb dX7_operand_126 ?_
                     refine jtopr (y := 20126) (of_decide_eq_true rfl) ?_
                     refine jcallVv (As := [.int 20126]) (rest := []) ⟨hx, hb, hml, hown, hts⟩ hK hP hA hS hZ (c_X10_add_12 l D cI cL ad zz hJ σ247 τ 20126 (20126) jz_20126 I255 (by omega)) cw_RX7_86 (jc_12 cI cL ad σ247 τ) rfl ⟨by dsimp only; omega, by dsimp only; omega⟩ rfl rfl rfl hl.1 rfl (Nat.le_of_ble_eq_true rfl) dX7_operand_127 ⟨Nat.zero_le _, Nat.zero_le _⟩ (fun σ265 τ265 H locs h265 hP hS => ?_)
                     obtain ⟨rfl, f267, f268, I269, h265⟩ := h265
                     refine lv_goto (tgt := 191) hx hb dX7_operand_130 (of_decide_eq_true rfl) ?_
                     have I271 : jI9 σ265 := jI9_fr (congrFun (f267 9 (of_decide_eq_true rfl)) 0) (f267 10 (of_decide_eq_true rfl)) (f267 11 (of_decide_eq_true rfl)) I252
                     have I272 : jI91 σ265 := jI91_fr (congrFun (f267 9 (of_decide_eq_true rfl)) 0) (congrFun (f267 9 (of_decide_eq_true rfl)) 1) I253
                     have I273 : jI92 σ265 := jI92_fr (congrFun (f267 9 (of_decide_eq_true rfl)) 2) I254
                     exact hret σ265 τ _ _ _ _ ⟨rfl, (fun i hi => ((f267 i (imp_58 i hi)).trans ((f249 i hi).trans (jnp i eσ239 (imp_60 i hi))))), (fun i hi => ((congrFun (f267 9 (of_decide_eq_true rfl)) i).trans ((f250 i hi).trans (jkp i eσ239 (imp_39 i hi))))), (fun i hi => ((f268 i hi).trans ((f251 i hi).trans (congrFun (jnp 12 eσ239 (of_decide_eq_true rfl)) i)))), I271, I272, I273, I269, trivial⟩ hP hS dX7_operand_191
    · exact by
       obtain ⟨q275, k274⟩ := h11
       have q275 := q275.symm
       subst q275
       refine lv_istore_n (lv' := [(2, .int (-1)), (0, .ref (ad 9)), (1, .int a1)]) hx hb dX7_operand_13 rfl hl (of_decide_eq_true rfl) rfl (fun ls hl => ?_)
       refine lv_iload_n hx hb dX7_operand_14 rfl (lv_at hl 0 rfl) ?_
       refine jcallS (As := [.int (-1)]) (rest := []) ⟨hx, hb, hml, hown, hts⟩ hK hP hA hS hZ (c_X7_isDigit l D cI cL ad zz hJ σ τ (-1) ((-1)) jz_m1) cw_RX7_39 ⟨by dsimp only; omega, by dsimp only; omega⟩ rfl rfl rfl hl.1 rfl (Nat.le_of_ble_eq_true rfl) dX7_operand_15 ⟨Nat.zero_le _, Nat.zero_le _⟩ (fun r277 σ276 τ276 H locs h276 hP hS => ?_)
       obtain ⟨⟨rfl, rfl⟩, h276⟩ := h276
       rcases h276 with h278 | h279
       · obtain ⟨q281, k280⟩ := h278
         exact absurd (by omega : False) id
       · obtain ⟨q283, k282⟩ := h279
         have q283 := q283.symm
         subst q283
         refine lv_if_eq (tgt := 36) hx hb dX7_operand_18 (of_decide_eq_true rfl) (fun _ => ?_) (fun c => absurd (of_decide_eq_true rfl) c)
         refine lv_iload_n hx hb dX7_operand_36 rfl (lv_at hl 0 rfl) ?_
         refine jcallS (As := [.int (-1)]) (rest := []) ⟨hx, hb, hml, hown, hts⟩ hK hP hA hS hZ (c_X7_nameOf l D cI cL ad zz hJ σ τ (-1) ((-1)) jz_m1) cw_RX7_101 ⟨by dsimp only; omega, by dsimp only; omega⟩ rfl rfl rfl hl.1 rfl (Nat.le_of_ble_eq_true rfl) dX7_operand_37 ⟨Nat.zero_le _, Nat.zero_le _⟩ (fun r285 σ284 τ284 H locs h284 hP hS => ?_)
         obtain ⟨⟨rfl, rfl⟩, h284⟩ := h284
         rcases h284 with h286 | h287
         · obtain ⟨q290, k288, k289⟩ := h286
           exact absurd (by omega : False) id
         · obtain ⟨q292, k291⟩ := h287
           have q292 := q292.symm
           subst q292
           refine lv_if_lt (tgt := 71) hx hb dX7_operand_40 (of_decide_eq_true rfl) (fun _ => ?_) (fun c => absurd (of_decide_eq_true rfl) c)
           refine lv_iload_n hx hb dX7_operand_71 rfl (lv_at hl 2 rfl) ?_
           refine lv_bipush (v := 6) hx hb dX7_operand_72 (of_decide_eq_true rfl) ?_
           refine lv_icmp_ge (tgt := 133) hx hb dX7_operand_74 (of_decide_eq_true rfl) (fun c293 => ?_) (fun c293 => ?_)
           · have kc293 := jle c293 jz_6 t1
             refine lv_iload_n hx hb dX7_operand_133 rfl (lv_at hl 2 rfl) ?_
             refine lv_bipush (v := 6) hx hb dX7_operand_134 (of_decide_eq_true rfl) ?_
             exact by
              refine lv_icmp_ge (tgt := 183) hx hb dX7_operand_136 (of_decide_eq_true rfl) (fun c294 => ?_) (fun c => absurd (jnle c jz_6 t1) (by omega))
              have kc294 := jle c294 jz_6 t1
              refine lv_aload_n hx hb dX7_operand_183 rfl (lv_at hl 1 rfl) ?_
              refine lv_aload_n hx hb dX7_operand_184 rfl (lv_at hl 1 rfl) ?_
              refine va_get (D := D) hx hb hts inlX7 hown hK hP 9 (jc_9 cI cL ad σ τ) rfl 1 (of_decide_eq_true rfl) (hts _ kw_13_17) (fun _ h9 => h9) rfl dX7_operand_185 ?_
              refine jcallVv (As := [.int (σ 9 1)]) (rest := []) ⟨hx, hb, hml, hown, hts⟩ hK hP hA hS hZ (c_X7_fail_9 l D cI cL ad zz hJ σ τ (σ 9 1) ((σ 9 1).toInt) rfl hI92 (by omega)) cw_RX7_43 (jc_9 cI cL ad σ τ) rfl ⟨by dsimp only; omega, by dsimp only; omega⟩ rfl rfl rfl hl.1 rfl (Nat.le_of_ble_eq_true rfl) dX7_operand_188 ⟨Nat.zero_le _, Nat.zero_le _⟩ (fun σ295 τ295 H locs h295 hP hS => ?_)
              obtain ⟨rfl, f297, f298, h295⟩ := h295
              obtain ⟨k300, k301, h295⟩ := h295
              have I302 : jI9 σ295 := jI9_fr (f298 0 (of_decide_eq_true rfl)) (f297 10 (of_decide_eq_true rfl)) (f297 11 (of_decide_eq_true rfl)) hI9
              exact by
               have I303 : jI91 σ295 := jI91_fr (f298 0 (of_decide_eq_true rfl)) (f298 1 (of_decide_eq_true rfl)) hI91
               have I304 : jI92 σ295 := (show (-1) ≤ (σ295 9 2).toInt by omega)
               have I305 : jI12 σ295 := jI12_fr (congrFun (f297 12 (of_decide_eq_true rfl)) 0) (f297 13 (of_decide_eq_true rfl)) hI12
               exact hret σ295 τ _ _ _ _ ⟨rfl, (fun i hi => (f297 i (imp_59 i hi))), (fun i hi => (f298 i (imp_43 i hi))), (fun i hi => (congrFun (f297 12 (of_decide_eq_true rfl)) i)), I302, I303, I304, I305, trivial⟩ hP hS dX7_operand_191
           · have kc293 := jnle c293 jz_6 t1
             refine lv_iload_n hx hb dX7_operand_77 rfl (lv_at hl 0 rfl) ?_
             refine lv_bipush (v := 33) hx hb dX7_operand_78 (of_decide_eq_true rfl) ?_
             refine lv_icmp_eq (tgt := 89) hx hb dX7_operand_80 (of_decide_eq_true rfl) (fun c => absurd c (of_decide_eq_true rfl)) (fun _ => ?_)
             refine lv_iload_n hx hb dX7_operand_83 rfl (lv_at hl 0 rfl) ?_
             refine lv_bipush (v := 45) hx hb dX7_operand_84 (of_decide_eq_true rfl) ?_
             refine lv_icmp_ne (tgt := 133) hx hb dX7_operand_86 (of_decide_eq_true rfl) (fun _ => ?_) (fun c => absurd c (of_decide_eq_true rfl))
             refine lv_iload_n hx hb dX7_operand_133 rfl (lv_at hl 2 rfl) ?_
             refine lv_bipush (v := 6) hx hb dX7_operand_134 (of_decide_eq_true rfl) ?_
             exact by
              refine lv_icmp_ge (tgt := 183) hx hb dX7_operand_136 (of_decide_eq_true rfl) (fun c => absurd (jle c jz_6 t1) (by omega)) (fun c306 => ?_)
              have kc306 := jnle c306 jz_6 t1
              refine lv_iload_n hx hb dX7_operand_139 rfl (lv_at hl 0 rfl) ?_
              refine lv_bipush (v := 40) hx hb dX7_operand_140 (of_decide_eq_true rfl) ?_
              refine lv_icmp_ne (tgt := 183) hx hb dX7_operand_142 (of_decide_eq_true rfl) (fun _ => ?_) (fun c => absurd c (of_decide_eq_true rfl))
              refine lv_aload_n hx hb dX7_operand_183 rfl (lv_at hl 1 rfl) ?_
              refine lv_aload_n hx hb dX7_operand_184 rfl (lv_at hl 1 rfl) ?_
              refine va_get (D := D) hx hb hts inlX7 hown hK hP 9 (jc_9 cI cL ad σ τ) rfl 1 (of_decide_eq_true rfl) (hts _ kw_13_17) (fun _ h9 => h9) rfl dX7_operand_185 ?_
              refine jcallVv (As := [.int (σ 9 1)]) (rest := []) ⟨hx, hb, hml, hown, hts⟩ hK hP hA hS hZ (c_X7_fail_9 l D cI cL ad zz hJ σ τ (σ 9 1) ((σ 9 1).toInt) rfl hI92 (by omega)) cw_RX7_43 (jc_9 cI cL ad σ τ) rfl ⟨by dsimp only; omega, by dsimp only; omega⟩ rfl rfl rfl hl.1 rfl (Nat.le_of_ble_eq_true rfl) dX7_operand_188 ⟨Nat.zero_le _, Nat.zero_le _⟩ (fun σ307 τ307 H locs h307 hP hS => ?_)
              exact by
               obtain ⟨rfl, f309, f310, h307⟩ := h307
               obtain ⟨k312, k313, h307⟩ := h307
               have I314 : jI9 σ307 := jI9_fr (f310 0 (of_decide_eq_true rfl)) (f309 10 (of_decide_eq_true rfl)) (f309 11 (of_decide_eq_true rfl)) hI9
               have I315 : jI91 σ307 := jI91_fr (f310 0 (of_decide_eq_true rfl)) (f310 1 (of_decide_eq_true rfl)) hI91
               have I316 : jI92 σ307 := (show (-1) ≤ (σ307 9 2).toInt by omega)
               have I317 : jI12 σ307 := jI12_fr (congrFun (f309 12 (of_decide_eq_true rfl)) 0) (f309 13 (of_decide_eq_true rfl)) hI12
               exact hret σ307 τ _ _ _ _ ⟨rfl, (fun i hi => (f309 i (imp_59 i hi))), (fun i hi => (f310 i (imp_43 i hi))), (fun i hi => (congrFun (f309 12 (of_decide_eq_true rfl)) i)), I314, I315, I316, I317, trivial⟩ hP hS dX7_operand_191
  · have kc7 := jne c7 rfl jz_m1
    exact hret σ τ _ _ _ _ ⟨rfl, (fun _ _ => rfl), (fun _ _ => rfl), (fun _ _ => rfl), hI9, hI91, hI92, hI12, trivial⟩ hP hS dX7_operand_8
set_option maxHeartbeats 4000000 in
set_option maxRecDepth 100000 in
theorem c_X7_grammar_op_z (l : Launch) (D : va_G) (cI cL : ClassId) (ad zz : Nat → Nat) (hJ : jD ad) (σ : Nat → Nat → Int32) (τ : Nat → Nat → Int64) (a1 : Int32) (A1 : Int) (t1 : a1.toInt = A1) (hI9 : jI9 σ) (hI91 : jI91 σ) (hI92 : jI92 σ) (hI12 : jI12 σ) (hp0 : 0 ≤ A1 ∧ A1 ≤ 6) (hp1 : -A1 + 6 ≤ (((0) : Nat) : Int)) : jMv l yX7_operand cX7_operand 3 none ({ frames := (10 + 8 * (0)), cells := 0, slots := 0, locals := (400 + 360 * (0)) }) D cI cL ad zz [.ref (ad 9), .int a1] σ τ (fun σ' τ' => τ = τ' ∧ (∀ i : Nat, (i < 9 ∨ 9 < i) ∧ (i < 12 ∨ 13 < i) → σ' i = σ i) ∧ (∀ k : Nat, (k < 1 ∨ 1 < k) ∧ (k < 2 ∨ 2 < k) → σ' 9 k = σ 9 k) ∧ (∀ k : Nat, (k < 0 ∨ 0 < k) ∧ (k < 1 ∨ 1 < k) → σ' 12 k = σ 12 k) ∧ (jI9 σ') ∧ (jI91 σ') ∧ (jI92 σ') ∧ (jI12 σ') ∧ True) := by
  refine jMv.of hJ (by decide +kernel) rfl (Nat.le_of_ble_eq_true rfl) ?_
  intro p e s m args below meth c Q ls hC hret hl hP
  obtain ⟨hx, hb, hr, hml, hown, hts, hK, -, hlocks, hZ⟩ := hC
  have hown : s.vm.findClass RX7 = some m.cls := hown
  have hS : va_S (jA ad) s.heap s.heap [] := va_S.rf
  have hA : ∀ q, jA ad q → jA ad q := fun _ h => h
  have hl : lv_has ls 3 [(0, .ref (ad 9)), (1, .int a1)] := hl
  have g1 := jrg t1
  obtain ⟨i1, w2, w3⟩ : (0 ≤ (σ 9 0).toInt ∧ (σ 9 0).toInt ≤ 80) ∧ (∀ k : Nat, k < 80 → 0 ≤ (σ 10 k).toInt ∧ (σ 10 k).toInt ≤ 255) ∧ (∀ k : Nat, k < 8 → 0 ≤ (σ 11 k).toInt ∧ (σ 11 k).toInt ≤ 3) := id hI9
  obtain ⟨i4, i5⟩ : (0 ≤ (σ 9 1).toInt) ∧ ((σ 9 1).toInt ≤ (σ 9 0).toInt) := id hI91
  have i6 : (-1) ≤ (σ 9 2).toInt := hI92
  refine lv_aload_n hx hb dX7_operand_0 rfl (lv_at hl 0 rfl) ?_
  refine va_get (D := D) hx hb hts inlX7 hown hK hP 9 (jc_9 cI cL ad σ τ) rfl 2 (of_decide_eq_true rfl) (hts _ kw_14_6) (fun _ h9 => h9) rfl dX7_operand_1 ?_
  refine lv_iconst (v := (-1)) hx hb dX7_operand_4 (of_decide_eq_true rfl) ?_
  refine lv_icmp_eq (tgt := 9) hx hb dX7_operand_5 (of_decide_eq_true rfl) (fun c7 => ?_) (fun c7 => ?_)
  · have kc7 := jeq c7 rfl jz_m1
    refine lv_aload_n hx hb dX7_operand_9 rfl (lv_at hl 0 rfl) ?_
    refine jcallV (As := []) (rest := []) ⟨hx, hb, hml, hown, hts⟩ hK hP hA hS hZ (c_X7_sign_9 l D cI cL ad zz hJ σ τ hI9) cw_RX7_35 (jc_9 cI cL ad σ τ) rfl ⟨by dsimp only; omega, by dsimp only; omega⟩ rfl rfl rfl hl.1 rfl (Nat.le_of_ble_eq_true rfl) dX7_operand_10 ⟨Nat.zero_le _, Nat.zero_le _⟩ (fun r9 σ8 τ8 H locs h8 hP hS => ?_)
    obtain ⟨⟨rfl, rfl⟩, h8⟩ := h8
    rcases h8 with h10 | h11
    · obtain ⟨q14, k12, k13⟩ := h10
      have q15 : r9 = (σ 10 (σ 9 1).toNatClampNeg) := q14.trans rfl
      have q15 := q15.symm
      subst q15
      refine lv_istore_n (lv' := [(2, .int (σ 10 (σ 9 1).toNatClampNeg)), (0, .ref (ad 9)), (1, .int a1)]) hx hb dX7_operand_13 rfl hl (of_decide_eq_true rfl) rfl (fun ls hl => ?_)
      refine lv_iload_n hx hb dX7_operand_14 rfl (lv_at hl 0 rfl) ?_
      refine jcallS (As := [.int (σ 10 (σ 9 1).toNatClampNeg)]) (rest := []) ⟨hx, hb, hml, hown, hts⟩ hK hP hA hS hZ (c_X7_isDigit l D cI cL ad zz hJ σ τ (σ 10 (σ 9 1).toNatClampNeg) ((σ 10 (σ 9 1).toNatClampNeg).toInt) rfl) cw_RX7_39 ⟨by dsimp only; omega, by dsimp only; omega⟩ rfl rfl rfl hl.1 rfl (Nat.le_of_ble_eq_true rfl) dX7_operand_15 ⟨Nat.zero_le _, Nat.zero_le _⟩ (fun r17 σ16 τ16 H locs h16 hP hS => ?_)
      obtain ⟨⟨rfl, rfl⟩, h16⟩ := h16
      rcases h16 with h18 | h19
      · obtain ⟨q21, k20⟩ := h18
        have q21 := q21.symm
        subst q21
        refine lv_if_eq (tgt := 36) hx hb dX7_operand_18 (of_decide_eq_true rfl) (fun c => absurd c (of_decide_eq_true rfl)) (fun _ => ?_)
        refine lv_aload_n hx hb dX7_operand_21 rfl (lv_at hl 1 rfl) ?_
        refine va_get (D := D) hx hb hts inlX7 hown hK hP 9 (jc_9 cI cL ad σ τ) rfl 5 (of_decide_eq_true rfl) (hts _ kw_3_23) (fun _ h9 => h9) rfl dX7_operand_22 ?_
        refine lv_aload_n hx hb dX7_operand_25 rfl (lv_at hl 1 rfl) ?_
        refine lv_iconst (v := 4) hx hb dX7_operand_26 (of_decide_eq_true rfl) ?_
        refine jcallV (As := [.int 4]) (rest := [.ref (ad 12)]) ⟨hx, hb, hml, hown, hts⟩ hK hP hA hS hZ (c_X7_number_4 l D cI cL ad zz hJ σ τ hI9 hI91 hI92) cw_RX7_53 (jc_9 cI cL ad σ τ) rfl ⟨by dsimp only; omega, by dsimp only; omega⟩ rfl rfl rfl hl.1 rfl (Nat.le_of_ble_eq_true rfl) dX7_operand_27 ⟨Nat.zero_le _, Nat.zero_le _⟩ (fun r23 σ22 τ22 H locs h22 hP hS => ?_)
        obtain ⟨rfl, f24, f25, I26, I27, I28, h22⟩ := h22
        obtain ⟨i30, w31, w32⟩ : (0 ≤ (σ22 9 0).toInt ∧ (σ22 9 0).toInt ≤ 80) ∧ (∀ k : Nat, k < 80 → 0 ≤ (σ22 10 k).toInt ∧ (σ22 10 k).toInt ≤ 255) ∧ (∀ k : Nat, k < 8 → 0 ≤ (σ22 11 k).toInt ∧ (σ22 11 k).toInt ≤ 3) := id I26
        obtain ⟨i33, i34⟩ : (0 ≤ (σ22 9 1).toInt) ∧ ((σ22 9 1).toInt ≤ (σ22 9 0).toInt) := id I27
        have i35 : (-1) ≤ (σ22 9 2).toInt := I28
        have z36 : (σ22 9 0).toInt = (σ 9 0).toInt := (congrArg Int32.toInt (show σ22 9 0 = (σ 9 0) from (f25 0 (of_decide_eq_true rfl))))
        obtain ⟨k37, h22⟩ := h22
        have h38 := h22
        obtain ⟨q40, k39⟩ := h38
        have I41 : jI12 σ22 := jI12_fr (congrFun (f24 12 (of_decide_eq_true rfl)) 0) (f24 13 (of_decide_eq_true rfl)) hI12
        exact by
         refine jcallVv (As := [.int r23]) (rest := []) ⟨hx, hb, hml, hown, hts⟩ hK hP hA hS hZ (c_X10_add_12 l D cI cL ad zz hJ σ22 τ r23 (r23.toInt) rfl I41 (by omega)) cw_RX7_86 (jc_12 cI cL ad σ22 τ) rfl ⟨by dsimp only; omega, by dsimp only; omega⟩ rfl rfl rfl hl.1 rfl (Nat.le_of_ble_eq_true rfl) dX7_operand_30 ⟨Nat.zero_le _, Nat.zero_le _⟩ (fun σ42 τ42 H locs h42 hP hS => ?_)
         obtain ⟨rfl, f44, f45, I46, h42⟩ := h42
         refine lv_goto (tgt := 191) hx hb dX7_operand_33 (of_decide_eq_true rfl) ?_
         have I48 : jI9 σ42 := jI9_fr (congrFun (f44 9 (of_decide_eq_true rfl)) 0) (f44 10 (of_decide_eq_true rfl)) (f44 11 (of_decide_eq_true rfl)) I26
         have I49 : jI91 σ42 := jI91_fr (congrFun (f44 9 (of_decide_eq_true rfl)) 0) (congrFun (f44 9 (of_decide_eq_true rfl)) 1) I27
         have I50 : jI92 σ42 := jI92_fr (congrFun (f44 9 (of_decide_eq_true rfl)) 2) I28
         exact hret σ42 τ _ _ _ _ ⟨rfl, (fun i hi => ((f44 i (imp_58 i hi)).trans (f24 i (imp_59 i hi)))), (fun i hi => ((congrFun (f44 9 (of_decide_eq_true rfl)) i).trans (f25 i hi))), (fun i hi => ((f45 i hi).trans (congrFun (f24 12 (of_decide_eq_true rfl)) i))), I48, I49, I50, I46, trivial⟩ hP hS dX7_operand_191
      · obtain ⟨q52, k51⟩ := h19
        have q52 := q52.symm
        subst q52
        refine lv_if_eq (tgt := 36) hx hb dX7_operand_18 (of_decide_eq_true rfl) (fun _ => ?_) (fun c => absurd (of_decide_eq_true rfl) c)
        refine lv_iload_n hx hb dX7_operand_36 rfl (lv_at hl 0 rfl) ?_
        refine jcallS (As := [.int (σ 10 (σ 9 1).toNatClampNeg)]) (rest := []) ⟨hx, hb, hml, hown, hts⟩ hK hP hA hS hZ (c_X7_nameOf l D cI cL ad zz hJ σ τ (σ 10 (σ 9 1).toNatClampNeg) ((σ 10 (σ 9 1).toNatClampNeg).toInt) rfl) cw_RX7_101 ⟨by dsimp only; omega, by dsimp only; omega⟩ rfl rfl rfl hl.1 rfl (Nat.le_of_ble_eq_true rfl) dX7_operand_37 ⟨Nat.zero_le _, Nat.zero_le _⟩ (fun r54 σ53 τ53 H locs h53 hP hS => ?_)
        obtain ⟨⟨rfl, rfl⟩, h53⟩ := h53
        rcases h53 with h55 | h56
        · obtain ⟨q59, k57, k58⟩ := h55
          exact by
           refine lv_if_lt (tgt := 71) hx hb dX7_operand_40 (of_decide_eq_true rfl) (fun c => absurd (jlt c rfl jz_0) (by omega)) (fun c60 => ?_)
           have kc60 := jnlt c60 rfl jz_0
           refine lv_aload_n hx hb dX7_operand_43 rfl (lv_at hl 1 rfl) ?_
           refine va_get (D := D) hx hb hts inlX7 hown hK hP 9 (jc_9 cI cL ad σ τ) rfl 5 (of_decide_eq_true rfl) (hts _ kw_3_23) (fun _ h9 => h9) rfl dX7_operand_44 ?_
           refine lv_sipush (v := 10000) hx hb dX7_operand_47 (of_decide_eq_true rfl) ?_
           refine lv_iload_n hx hb dX7_operand_50 rfl (lv_at hl 0 rfl) ?_
           refine jcallS (As := [.int (σ 10 (σ 9 1).toNatClampNeg)]) (rest := [.int 10000, .ref (ad 12)]) ⟨hx, hb, hml, hown, hts⟩ hK hP hA hS hZ (c_X7_nameOf l D cI cL ad zz hJ σ τ (σ 10 (σ 9 1).toNatClampNeg) ((σ 10 (σ 9 1).toNatClampNeg).toInt) rfl) cw_RX7_101 ⟨by dsimp only; omega, by dsimp only; omega⟩ rfl rfl rfl hl.1 rfl (Nat.le_of_ble_eq_true rfl) dX7_operand_51 ⟨Nat.zero_le _, Nat.zero_le _⟩ (fun r62 σ61 τ61 H locs h61 hP hS => ?_)
           obtain ⟨⟨rfl, rfl⟩, h61⟩ := h61
           rcases h61 with h63 | h64
           · obtain ⟨q67, k65, k66⟩ := h63
             have g68 := jrg (rfl : r62.toInt = r62.toInt)
             refine lv_iadd hx hb dX7_operand_54 ?_
             refine lv_topi (fun x69 ex69 => ?_)
             exact by
              have tx69 : x69.toInt = r62.toInt + 10000 := (jadd ex69 jz_10000 rfl (by omega) (by omega)).trans (by omega)
              refine jcallVv (As := [.int x69]) (rest := []) ⟨hx, hb, hml, hown, hts⟩ hK hP hA hS hZ (c_X10_add_12 l D cI cL ad zz hJ σ τ x69 (r62.toInt + 10000) tx69 hI12 (by omega)) cw_RX7_86 (jc_12 cI cL ad σ τ) rfl ⟨by dsimp only; omega, by dsimp only; omega⟩ rfl rfl rfl hl.1 rfl (Nat.le_of_ble_eq_true rfl) dX7_operand_55 ⟨Nat.zero_le _, Nat.zero_le _⟩ (fun σ70 τ70 H locs h70 hP hS => ?_)
              obtain ⟨rfl, f72, f73, I74, h70⟩ := h70
              refine lv_aload_n hx hb dX7_operand_58 rfl (lv_at hl 1 rfl) ?_
              refine lv_dup hx hb dX7_operand_59 rfl ?_
              refine va_get (D := D) hx hb hts inlX7 hown hK hP 9 (jc_9 cI cL ad σ70 τ) rfl 1 (of_decide_eq_true rfl) (hts _ kw_13_17) (fun _ h9 => h9) rfl dX7_operand_60 ?_
              have m76 : σ70 9 1 = (σ 9 1) := (congrFun (f72 9 (of_decide_eq_true rfl)) 1)
              refine jtopr m76 ?_
              refine lv_iconst (v := 1) hx hb dX7_operand_63 (of_decide_eq_true rfl) ?_
              exact by
               have g77 := jrg (rfl : (σ 9 1).toInt = (σ 9 1).toInt)
               refine lv_iadd hx hb dX7_operand_64 ?_
               refine lv_topi (fun x78 ex78 => ?_)
               have tx78 : x78.toInt = (σ 9 1).toInt + 1 := (jadd ex78 rfl jz_1 (by omega) (by omega)).trans (by omega)
               refine jput (ty := .int) hx hb hts inlX7 tyX7 tyX7_ok nmX7 hown hK hP hJ hA hS (jc_9 cI cL ad σ70 τ) rfl (k := 1) (of_decide_eq_true rfl) (Nat.le_of_ble_eq_true rfl) (jp_9_1 cI cL ad σ70 τ x78) (hts _ kw_13_17) (fun _ h9 => h9) rfl (by decide +kernel) rfl rfl dX7_operand_65 (fun σ79 H locs eσ79 hP hS => ?_)
               refine lv_goto (tgt := 191) hx hb dX7_operand_68 (of_decide_eq_true rfl) ?_
               have I80 : jI9 σ79 := jI9_fr ((jkp 0 eσ79 (of_decide_eq_true rfl)).trans (congrFun (f72 9 (of_decide_eq_true rfl)) 0)) ((jnp 10 eσ79 (of_decide_eq_true rfl)).trans (f72 10 (of_decide_eq_true rfl))) ((jnp 11 eσ79 (of_decide_eq_true rfl)).trans (f72 11 (of_decide_eq_true rfl))) hI9
               have z81 : (σ79 9 1).toInt = (σ 9 1).toInt + 1 := ((congrArg Int32.toInt (show σ79 9 1 = x78 from (jsp eσ79))).trans tx78)
               have z82 : (σ79 9 0).toInt = (σ 9 0).toInt := (congrArg Int32.toInt (show σ79 9 0 = (σ 9 0) from ((jkp 0 eσ79 (of_decide_eq_true rfl)).trans (congrFun (f72 9 (of_decide_eq_true rfl)) 0))))
               exact by
                have I83 : jI91 σ79 := ⟨(by omega), (by omega)⟩
                have I84 : jI92 σ79 := jI92_fr ((jkp 2 eσ79 (of_decide_eq_true rfl)).trans (congrFun (f72 9 (of_decide_eq_true rfl)) 2)) hI92
                have I85 : jI12 σ79 := jI12_fr (congrFun (jnp 12 eσ79 (of_decide_eq_true rfl)) 0) (jnp 13 eσ79 (of_decide_eq_true rfl)) I74
                exact hret σ79 τ _ _ _ _ ⟨rfl, (fun i hi => ((jnp i eσ79 (imp_60 i hi)).trans (f72 i (imp_58 i hi)))), (fun i hi => ((jkp i eσ79 (imp_39 i hi)).trans (congrFun (f72 9 (of_decide_eq_true rfl)) i))), (fun i hi => ((congrFun (jnp 12 eσ79 (of_decide_eq_true rfl)) i).trans (f73 i hi))), I80, I83, I84, I85, trivial⟩ hP hS dX7_operand_191
           · obtain ⟨q87, k86⟩ := h64
             have q87 := q87.symm
             subst q87
             refine lv_iadd hx hb dX7_operand_54 ?_
             refine jtopr (y := 9999) (of_decide_eq_true rfl) ?_
             exact by
              refine jcallVv (As := [.int 9999]) (rest := []) ⟨hx, hb, hml, hown, hts⟩ hK hP hA hS hZ (c_X10_add_12 l D cI cL ad zz hJ σ τ 9999 (9999) jz_9999 hI12 (by omega)) cw_RX7_86 (jc_12 cI cL ad σ τ) rfl ⟨by dsimp only; omega, by dsimp only; omega⟩ rfl rfl rfl hl.1 rfl (Nat.le_of_ble_eq_true rfl) dX7_operand_55 ⟨Nat.zero_le _, Nat.zero_le _⟩ (fun σ88 τ88 H locs h88 hP hS => ?_)
              obtain ⟨rfl, f90, f91, I92, h88⟩ := h88
              refine lv_aload_n hx hb dX7_operand_58 rfl (lv_at hl 1 rfl) ?_
              refine lv_dup hx hb dX7_operand_59 rfl ?_
              refine va_get (D := D) hx hb hts inlX7 hown hK hP 9 (jc_9 cI cL ad σ88 τ) rfl 1 (of_decide_eq_true rfl) (hts _ kw_13_17) (fun _ h9 => h9) rfl dX7_operand_60 ?_
              have m94 : σ88 9 1 = (σ 9 1) := (congrFun (f90 9 (of_decide_eq_true rfl)) 1)
              refine jtopr m94 ?_
              refine lv_iconst (v := 1) hx hb dX7_operand_63 (of_decide_eq_true rfl) ?_
              have g95 := jrg (rfl : (σ 9 1).toInt = (σ 9 1).toInt)
              refine lv_iadd hx hb dX7_operand_64 ?_
              refine lv_topi (fun x96 ex96 => ?_)
              exact by
               have tx96 : x96.toInt = (σ 9 1).toInt + 1 := (jadd ex96 rfl jz_1 (by omega) (by omega)).trans (by omega)
               refine jput (ty := .int) hx hb hts inlX7 tyX7 tyX7_ok nmX7 hown hK hP hJ hA hS (jc_9 cI cL ad σ88 τ) rfl (k := 1) (of_decide_eq_true rfl) (Nat.le_of_ble_eq_true rfl) (jp_9_1 cI cL ad σ88 τ x96) (hts _ kw_13_17) (fun _ h9 => h9) rfl (by decide +kernel) rfl rfl dX7_operand_65 (fun σ97 H locs eσ97 hP hS => ?_)
               refine lv_goto (tgt := 191) hx hb dX7_operand_68 (of_decide_eq_true rfl) ?_
               have I98 : jI9 σ97 := jI9_fr ((jkp 0 eσ97 (of_decide_eq_true rfl)).trans (congrFun (f90 9 (of_decide_eq_true rfl)) 0)) ((jnp 10 eσ97 (of_decide_eq_true rfl)).trans (f90 10 (of_decide_eq_true rfl))) ((jnp 11 eσ97 (of_decide_eq_true rfl)).trans (f90 11 (of_decide_eq_true rfl))) hI9
               have z99 : (σ97 9 1).toInt = (σ 9 1).toInt + 1 := ((congrArg Int32.toInt (show σ97 9 1 = x96 from (jsp eσ97))).trans tx96)
               have z100 : (σ97 9 0).toInt = (σ 9 0).toInt := (congrArg Int32.toInt (show σ97 9 0 = (σ 9 0) from ((jkp 0 eσ97 (of_decide_eq_true rfl)).trans (congrFun (f90 9 (of_decide_eq_true rfl)) 0))))
               have I101 : jI91 σ97 := ⟨(by omega), (by omega)⟩
               have I102 : jI92 σ97 := jI92_fr ((jkp 2 eσ97 (of_decide_eq_true rfl)).trans (congrFun (f90 9 (of_decide_eq_true rfl)) 2)) hI92
               have I103 : jI12 σ97 := jI12_fr (congrFun (jnp 12 eσ97 (of_decide_eq_true rfl)) 0) (jnp 13 eσ97 (of_decide_eq_true rfl)) I92
               exact hret σ97 τ _ _ _ _ ⟨rfl, (fun i hi => ((jnp i eσ97 (imp_60 i hi)).trans (f90 i (imp_58 i hi)))), (fun i hi => ((jkp i eσ97 (imp_39 i hi)).trans (congrFun (f90 9 (of_decide_eq_true rfl)) i))), (fun i hi => ((congrFun (jnp 12 eσ97 (of_decide_eq_true rfl)) i).trans (f91 i hi))), I98, I101, I102, I103, trivial⟩ hP hS dX7_operand_191
        · exact by
           obtain ⟨q105, k104⟩ := h56
           have q105 := q105.symm
           subst q105
           refine lv_if_lt (tgt := 71) hx hb dX7_operand_40 (of_decide_eq_true rfl) (fun _ => ?_) (fun c => absurd (of_decide_eq_true rfl) c)
           refine lv_iload_n hx hb dX7_operand_71 rfl (lv_at hl 2 rfl) ?_
           refine lv_bipush (v := 6) hx hb dX7_operand_72 (of_decide_eq_true rfl) ?_
           refine lv_icmp_ge (tgt := 133) hx hb dX7_operand_74 (of_decide_eq_true rfl) (fun c106 => ?_) (fun c => absurd (jnle c jz_6 t1) (by omega))
           have kc106 := jle c106 jz_6 t1
           refine lv_iload_n hx hb dX7_operand_133 rfl (lv_at hl 2 rfl) ?_
           exact by
            refine lv_bipush (v := 6) hx hb dX7_operand_134 (of_decide_eq_true rfl) ?_
            refine lv_icmp_ge (tgt := 183) hx hb dX7_operand_136 (of_decide_eq_true rfl) (fun c107 => ?_) (fun c => absurd (jnle c jz_6 t1) (by omega))
            have kc107 := jle c107 jz_6 t1
            refine lv_aload_n hx hb dX7_operand_183 rfl (lv_at hl 1 rfl) ?_
            refine lv_aload_n hx hb dX7_operand_184 rfl (lv_at hl 1 rfl) ?_
            refine va_get (D := D) hx hb hts inlX7 hown hK hP 9 (jc_9 cI cL ad σ τ) rfl 1 (of_decide_eq_true rfl) (hts _ kw_13_17) (fun _ h9 => h9) rfl dX7_operand_185 ?_
            refine jcallVv (As := [.int (σ 9 1)]) (rest := []) ⟨hx, hb, hml, hown, hts⟩ hK hP hA hS hZ (c_X7_fail_9 l D cI cL ad zz hJ σ τ (σ 9 1) ((σ 9 1).toInt) rfl hI92 (by omega)) cw_RX7_43 (jc_9 cI cL ad σ τ) rfl ⟨by dsimp only; omega, by dsimp only; omega⟩ rfl rfl rfl hl.1 rfl (Nat.le_of_ble_eq_true rfl) dX7_operand_188 ⟨Nat.zero_le _, Nat.zero_le _⟩ (fun σ108 τ108 H locs h108 hP hS => ?_)
            obtain ⟨rfl, f110, f111, h108⟩ := h108
            obtain ⟨k113, k114, h108⟩ := h108
            exact by
             have I115 : jI9 σ108 := jI9_fr (f111 0 (of_decide_eq_true rfl)) (f110 10 (of_decide_eq_true rfl)) (f110 11 (of_decide_eq_true rfl)) hI9
             have I116 : jI91 σ108 := jI91_fr (f111 0 (of_decide_eq_true rfl)) (f111 1 (of_decide_eq_true rfl)) hI91
             have I117 : jI92 σ108 := (show (-1) ≤ (σ108 9 2).toInt by omega)
             have I118 : jI12 σ108 := jI12_fr (congrFun (f110 12 (of_decide_eq_true rfl)) 0) (f110 13 (of_decide_eq_true rfl)) hI12
             exact hret σ108 τ _ _ _ _ ⟨rfl, (fun i hi => (f110 i (imp_59 i hi))), (fun i hi => (f111 i (imp_43 i hi))), (fun i hi => (congrFun (f110 12 (of_decide_eq_true rfl)) i)), I115, I116, I117, I118, trivial⟩ hP hS dX7_operand_191
    · obtain ⟨q120, k119⟩ := h11
      have q120 := q120.symm
      subst q120
      refine lv_istore_n (lv' := [(2, .int (-1)), (0, .ref (ad 9)), (1, .int a1)]) hx hb dX7_operand_13 rfl hl (of_decide_eq_true rfl) rfl (fun ls hl => ?_)
      refine lv_iload_n hx hb dX7_operand_14 rfl (lv_at hl 0 rfl) ?_
      refine jcallS (As := [.int (-1)]) (rest := []) ⟨hx, hb, hml, hown, hts⟩ hK hP hA hS hZ (c_X7_isDigit l D cI cL ad zz hJ σ τ (-1) ((-1)) jz_m1) cw_RX7_39 ⟨by dsimp only; omega, by dsimp only; omega⟩ rfl rfl rfl hl.1 rfl (Nat.le_of_ble_eq_true rfl) dX7_operand_15 ⟨Nat.zero_le _, Nat.zero_le _⟩ (fun r122 σ121 τ121 H locs h121 hP hS => ?_)
      obtain ⟨⟨rfl, rfl⟩, h121⟩ := h121
      rcases h121 with h123 | h124
      · obtain ⟨q126, k125⟩ := h123
        exact absurd (by omega : False) id
      · obtain ⟨q128, k127⟩ := h124
        have q128 := q128.symm
        subst q128
        refine lv_if_eq (tgt := 36) hx hb dX7_operand_18 (of_decide_eq_true rfl) (fun _ => ?_) (fun c => absurd (of_decide_eq_true rfl) c)
        refine lv_iload_n hx hb dX7_operand_36 rfl (lv_at hl 0 rfl) ?_
        refine jcallS (As := [.int (-1)]) (rest := []) ⟨hx, hb, hml, hown, hts⟩ hK hP hA hS hZ (c_X7_nameOf l D cI cL ad zz hJ σ τ (-1) ((-1)) jz_m1) cw_RX7_101 ⟨by dsimp only; omega, by dsimp only; omega⟩ rfl rfl rfl hl.1 rfl (Nat.le_of_ble_eq_true rfl) dX7_operand_37 ⟨Nat.zero_le _, Nat.zero_le _⟩ (fun r130 σ129 τ129 H locs h129 hP hS => ?_)
        obtain ⟨⟨rfl, rfl⟩, h129⟩ := h129
        rcases h129 with h131 | h132
        · obtain ⟨q135, k133, k134⟩ := h131
          exact absurd (by omega : False) id
        · obtain ⟨q137, k136⟩ := h132
          have q137 := q137.symm
          subst q137
          refine lv_if_lt (tgt := 71) hx hb dX7_operand_40 (of_decide_eq_true rfl) (fun _ => ?_) (fun c => absurd (of_decide_eq_true rfl) c)
          refine lv_iload_n hx hb dX7_operand_71 rfl (lv_at hl 2 rfl) ?_
          refine lv_bipush (v := 6) hx hb dX7_operand_72 (of_decide_eq_true rfl) ?_
          exact by
           refine lv_icmp_ge (tgt := 133) hx hb dX7_operand_74 (of_decide_eq_true rfl) (fun c138 => ?_) (fun c => absurd (jnle c jz_6 t1) (by omega))
           have kc138 := jle c138 jz_6 t1
           refine lv_iload_n hx hb dX7_operand_133 rfl (lv_at hl 2 rfl) ?_
           refine lv_bipush (v := 6) hx hb dX7_operand_134 (of_decide_eq_true rfl) ?_
           refine lv_icmp_ge (tgt := 183) hx hb dX7_operand_136 (of_decide_eq_true rfl) (fun c139 => ?_) (fun c => absurd (jnle c jz_6 t1) (by omega))
           have kc139 := jle c139 jz_6 t1
           refine lv_aload_n hx hb dX7_operand_183 rfl (lv_at hl 1 rfl) ?_
           refine lv_aload_n hx hb dX7_operand_184 rfl (lv_at hl 1 rfl) ?_
           refine va_get (D := D) hx hb hts inlX7 hown hK hP 9 (jc_9 cI cL ad σ τ) rfl 1 (of_decide_eq_true rfl) (hts _ kw_13_17) (fun _ h9 => h9) rfl dX7_operand_185 ?_
           exact by
            refine jcallVv (As := [.int (σ 9 1)]) (rest := []) ⟨hx, hb, hml, hown, hts⟩ hK hP hA hS hZ (c_X7_fail_9 l D cI cL ad zz hJ σ τ (σ 9 1) ((σ 9 1).toInt) rfl hI92 (by omega)) cw_RX7_43 (jc_9 cI cL ad σ τ) rfl ⟨by dsimp only; omega, by dsimp only; omega⟩ rfl rfl rfl hl.1 rfl (Nat.le_of_ble_eq_true rfl) dX7_operand_188 ⟨Nat.zero_le _, Nat.zero_le _⟩ (fun σ140 τ140 H locs h140 hP hS => ?_)
            obtain ⟨rfl, f142, f143, h140⟩ := h140
            obtain ⟨k145, k146, h140⟩ := h140
            have I147 : jI9 σ140 := jI9_fr (f143 0 (of_decide_eq_true rfl)) (f142 10 (of_decide_eq_true rfl)) (f142 11 (of_decide_eq_true rfl)) hI9
            have I148 : jI91 σ140 := jI91_fr (f143 0 (of_decide_eq_true rfl)) (f143 1 (of_decide_eq_true rfl)) hI91
            have I149 : jI92 σ140 := (show (-1) ≤ (σ140 9 2).toInt by omega)
            have I150 : jI12 σ140 := jI12_fr (congrFun (f142 12 (of_decide_eq_true rfl)) 0) (f142 13 (of_decide_eq_true rfl)) hI12
            exact hret σ140 τ _ _ _ _ ⟨rfl, (fun i hi => (f142 i (imp_59 i hi))), (fun i hi => (f143 i (imp_43 i hi))), (fun i hi => (congrFun (f142 12 (of_decide_eq_true rfl)) i)), I147, I148, I149, I150, trivial⟩ hP hS dX7_operand_191
  · have kc7 := jne c7 rfl jz_m1
    exact hret σ τ _ _ _ _ ⟨rfl, (fun _ _ => rfl), (fun _ _ => rfl), (fun _ _ => rfl), hI9, hI91, hI92, hI12, trivial⟩ hP hS dX7_operand_8
set_option maxHeartbeats 4000000 in
set_option maxRecDepth 100000 in
theorem c_X7_grammar_p5_g (l : Launch) (D : va_G) (cI cL : ClassId) (ad zz : Nat → Nat) (hJ : jD ad) (n : Nat) (h_op : ∀ (σ : Nat → Nat → Int32) (τ : Nat → Nat → Int64) (a1 : Int32) (A1 : Int) (t1 : a1.toInt = A1) (hI9 : jI9 σ) (hI91 : jI91 σ) (hI92 : jI92 σ) (hI12 : jI12 σ) (hp0 : 0 ≤ A1 ∧ A1 ≤ 6) (hp1 : -A1 + 6 ≤ (((n) : Nat) : Int)), jMv l yX7_operand cX7_operand 3 none ({ frames := (10 + 8 * (n)), cells := 0, slots := 0, locals := (400 + 360 * (n)) }) D cI cL ad zz [.ref (ad 9), .int a1] σ τ (fun σ' τ' => τ = τ' ∧ (∀ i : Nat, (i < 9 ∨ 9 < i) ∧ (i < 12 ∨ 13 < i) → σ' i = σ i) ∧ (∀ k : Nat, (k < 1 ∨ 1 < k) ∧ (k < 2 ∨ 2 < k) → σ' 9 k = σ 9 k) ∧ (∀ k : Nat, (k < 0 ∨ 0 < k) ∧ (k < 1 ∨ 1 < k) → σ' 12 k = σ 12 k) ∧ (jI9 σ') ∧ (jI91 σ') ∧ (jI92 σ') ∧ (jI12 σ') ∧ True)) (σ : Nat → Nat → Int32) (τ : Nat → Nat → Int64) (a2 : Int32) (A2 : Int) (t2 : a2.toInt = A2) (hI9 : jI9 σ) (hI91 : jI91 σ) (hI92 : jI92 σ) (hI12 : jI12 σ) (hp0 : 0 ≤ A2 ∧ A2 ≤ 6) (hp1 : -A2 + 6 ≤ (((n) : Nat) : Int)) : jMv l yX7_part cX7_part 5 none ({ frames := (11 + 8 * (n)), cells := 0, slots := 0, locals := (440 + 360 * (n)) }) D cI cL ad zz [.ref (ad 9), .int 5, .int a2] σ τ (fun σ' τ' => τ = τ' ∧ (∀ i : Nat, (i < 9 ∨ 9 < i) ∧ (i < 12 ∨ 13 < i) → σ' i = σ i) ∧ (∀ k : Nat, (k < 1 ∨ 1 < k) ∧ (k < 2 ∨ 2 < k) → σ' 9 k = σ 9 k) ∧ (∀ k : Nat, (k < 0 ∨ 0 < k) ∧ (k < 1 ∨ 1 < k) → σ' 12 k = σ 12 k) ∧ (jI9 σ') ∧ (jI91 σ') ∧ (jI92 σ') ∧ (jI12 σ') ∧ True) := by
  refine jMv.of hJ (by decide +kernel) rfl (Nat.le_of_ble_eq_true rfl) ?_
  intro p e s m args below meth c Q ls hC hret hl hP
  obtain ⟨hx, hb, hr, hml, hown, hts, hK, -, hlocks, hZ⟩ := hC
  have hown : s.vm.findClass RX7 = some m.cls := hown
  have hS : va_S (jA ad) s.heap s.heap [] := va_S.rf
  have hA : ∀ q, jA ad q → jA ad q := fun _ h => h
  have hl : lv_has ls 5 [(0, .ref (ad 9)), (1, .int 5), (2, .int a2)] := hl
  have g2 := jrg t2
  obtain ⟨i1, w2, w3⟩ : (0 ≤ (σ 9 0).toInt ∧ (σ 9 0).toInt ≤ 80) ∧ (∀ k : Nat, k < 80 → 0 ≤ (σ 10 k).toInt ∧ (σ 10 k).toInt ≤ 255) ∧ (∀ k : Nat, k < 8 → 0 ≤ (σ 11 k).toInt ∧ (σ 11 k).toInt ≤ 3) := id hI9
  obtain ⟨i4, i5⟩ : (0 ≤ (σ 9 1).toInt) ∧ ((σ 9 1).toInt ≤ (σ 9 0).toInt) := id hI91
  have i6 : (-1) ≤ (σ 9 2).toInt := hI92
  refine lv_iload_n hx hb dX7_part_0 rfl (lv_at hl 1 rfl) ?_
  refine lv_iconst (v := 5) hx hb dX7_part_1 (of_decide_eq_true rfl) ?_
  refine lv_icmp_lt (tgt := 11) hx hb dX7_part_2 (of_decide_eq_true rfl) (fun c => absurd c (of_decide_eq_true rfl)) (fun _ => ?_)
  refine lv_aload_n hx hb dX7_part_5 rfl (lv_at hl 0 rfl) ?_
  refine lv_iload_n hx hb dX7_part_6 rfl (lv_at hl 2 rfl) ?_
  exact by
   refine jcallVv (As := [.int a2]) (rest := []) ⟨hx, hb, hml, hown, hts⟩ hK hP hA hS hZ (h_op σ τ a2 (A2) t2 hI9 hI91 hI92 hI12 (by omega) (by omega)) cw_RX7_95 (jc_9 cI cL ad σ τ) rfl ⟨by dsimp only; omega, by dsimp only; omega⟩ rfl rfl rfl hl.1 rfl (Nat.le_of_ble_eq_true rfl) dX7_part_7 ⟨Nat.zero_le _, Nat.zero_le _⟩ (fun σ7 τ7 H locs h7 hP hS => ?_)
   obtain ⟨rfl, f9, f10, f11, I12, I13, I14, I15, h7⟩ := h7
   obtain ⟨i17, w18, w19⟩ : (0 ≤ (σ7 9 0).toInt ∧ (σ7 9 0).toInt ≤ 80) ∧ (∀ k : Nat, k < 80 → 0 ≤ (σ7 10 k).toInt ∧ (σ7 10 k).toInt ≤ 255) ∧ (∀ k : Nat, k < 8 → 0 ≤ (σ7 11 k).toInt ∧ (σ7 11 k).toInt ≤ 3) := id I12
   obtain ⟨i20, i21⟩ : (0 ≤ (σ7 9 1).toInt) ∧ ((σ7 9 1).toInt ≤ (σ7 9 0).toInt) := id I13
   have i22 : (-1) ≤ (σ7 9 2).toInt := I14
   have z23 : (σ7 9 0).toInt = (σ 9 0).toInt := (congrArg Int32.toInt (show σ7 9 0 = (σ 9 0) from (f10 0 (of_decide_eq_true rfl))))
   exact hret σ7 τ _ _ _ _ ⟨rfl, (fun i hi => (f9 i hi)), (fun i hi => (f10 i hi)), (fun i hi => (f11 i hi)), I12, I13, I14, I15, trivial⟩ hP hS dX7_part_10
set_option maxHeartbeats 4000000 in
set_option maxRecDepth 100000 in
theorem c_X7_grammar_p4_g (l : Launch) (D : va_G) (cI cL : ClassId) (ad zz : Nat → Nat) (hJ : jD ad) (n : Nat) (h_p5 : ∀ (σ : Nat → Nat → Int32) (τ : Nat → Nat → Int64) (a2 : Int32) (A2 : Int) (t2 : a2.toInt = A2) (hI9 : jI9 σ) (hI91 : jI91 σ) (hI92 : jI92 σ) (hI12 : jI12 σ) (hp0 : 0 ≤ A2 ∧ A2 ≤ 6) (hp1 : -A2 + 6 ≤ (((n) : Nat) : Int)), jMv l yX7_part cX7_part 5 none ({ frames := (11 + 8 * (n)), cells := 0, slots := 0, locals := (440 + 360 * (n)) }) D cI cL ad zz [.ref (ad 9), .int 5, .int a2] σ τ (fun σ' τ' => τ = τ' ∧ (∀ i : Nat, (i < 9 ∨ 9 < i) ∧ (i < 12 ∨ 13 < i) → σ' i = σ i) ∧ (∀ k : Nat, (k < 1 ∨ 1 < k) ∧ (k < 2 ∨ 2 < k) → σ' 9 k = σ 9 k) ∧ (∀ k : Nat, (k < 0 ∨ 0 < k) ∧ (k < 1 ∨ 1 < k) → σ' 12 k = σ 12 k) ∧ (jI9 σ') ∧ (jI91 σ') ∧ (jI92 σ') ∧ (jI12 σ') ∧ True)) (σ : Nat → Nat → Int32) (τ : Nat → Nat → Int64) (a2 : Int32) (A2 : Int) (t2 : a2.toInt = A2) (hI9 : jI9 σ) (hI91 : jI91 σ) (hI92 : jI92 σ) (hI12 : jI12 σ) (hp0 : 0 ≤ A2 ∧ A2 ≤ 6) (hp1 : -A2 + 6 ≤ (((n) : Nat) : Int)) : jMv l yX7_part cX7_part 5 none ({ frames := (12 + 8 * (n)), cells := 0, slots := 0, locals := (480 + 360 * (n)) }) D cI cL ad zz [.ref (ad 9), .int 4, .int a2] σ τ (fun σ' τ' => τ = τ' ∧ (∀ i : Nat, (i < 9 ∨ 9 < i) ∧ (i < 12 ∨ 13 < i) → σ' i = σ i) ∧ (∀ k : Nat, (k < 1 ∨ 1 < k) ∧ (k < 2 ∨ 2 < k) → σ' 9 k = σ 9 k) ∧ (∀ k : Nat, (k < 0 ∨ 0 < k) ∧ (k < 1 ∨ 1 < k) → σ' 12 k = σ 12 k) ∧ (jI9 σ') ∧ (jI91 σ') ∧ (jI92 σ') ∧ (jI12 σ') ∧ True) := by
  refine jMv.of hJ (by decide +kernel) rfl (Nat.le_of_ble_eq_true rfl) ?_
  intro p e s m args below meth c Q ls hC hret hl hP
  obtain ⟨hx, hb, hr, hml, hown, hts, hK, -, hlocks, hZ⟩ := hC
  have hown : s.vm.findClass RX7 = some m.cls := hown
  have hS : va_S (jA ad) s.heap s.heap [] := va_S.rf
  have hA : ∀ q, jA ad q → jA ad q := fun _ h => h
  have hl : lv_has ls 5 [(0, .ref (ad 9)), (1, .int 4), (2, .int a2)] := hl
  have g2 := jrg t2
  obtain ⟨i1, w2, w3⟩ : (0 ≤ (σ 9 0).toInt ∧ (σ 9 0).toInt ≤ 80) ∧ (∀ k : Nat, k < 80 → 0 ≤ (σ 10 k).toInt ∧ (σ 10 k).toInt ≤ 255) ∧ (∀ k : Nat, k < 8 → 0 ≤ (σ 11 k).toInt ∧ (σ 11 k).toInt ≤ 3) := id hI9
  obtain ⟨i4, i5⟩ : (0 ≤ (σ 9 1).toInt) ∧ ((σ 9 1).toInt ≤ (σ 9 0).toInt) := id hI91
  have i6 : (-1) ≤ (σ 9 2).toInt := hI92
  refine lv_iload_n hx hb dX7_part_0 rfl (lv_at hl 1 rfl) ?_
  refine lv_iconst (v := 5) hx hb dX7_part_1 (of_decide_eq_true rfl) ?_
  refine lv_icmp_lt (tgt := 11) hx hb dX7_part_2 (of_decide_eq_true rfl) (fun _ => ?_) (fun c => absurd (of_decide_eq_true rfl) c)
  refine lv_aload_n hx hb dX7_part_11 rfl (lv_at hl 0 rfl) ?_
  refine lv_iload_n hx hb dX7_part_12 rfl (lv_at hl 1 rfl) ?_
  refine lv_iconst (v := 1) hx hb dX7_part_13 (of_decide_eq_true rfl) ?_
  refine lv_iadd hx hb dX7_part_14 ?_
  refine jtopr (y := 5) (of_decide_eq_true rfl) ?_
  refine lv_iload_n hx hb dX7_part_15 rfl (lv_at hl 2 rfl) ?_
  exact by
   refine jcallVv (As := [.int 5, .int a2]) (rest := []) ⟨hx, hb, hml, hown, hts⟩ hK hP hA hS hZ (h_p5 σ τ a2 (A2) t2 hI9 hI91 hI92 hI12 (by omega) (by omega)) cw_RX7_82 (jc_9 cI cL ad σ τ) rfl ⟨by dsimp only; omega, by dsimp only; omega⟩ rfl rfl rfl hl.1 rfl (Nat.le_of_ble_eq_true rfl) dX7_part_16 ⟨Nat.zero_le _, Nat.zero_le _⟩ (fun σ7 τ7 H locs h7 hP hS => ?_)
   obtain ⟨rfl, f9, f10, f11, I12, I13, I14, I15, h7⟩ := h7
   obtain ⟨i17, w18, w19⟩ : (0 ≤ (σ7 9 0).toInt ∧ (σ7 9 0).toInt ≤ 80) ∧ (∀ k : Nat, k < 80 → 0 ≤ (σ7 10 k).toInt ∧ (σ7 10 k).toInt ≤ 255) ∧ (∀ k : Nat, k < 8 → 0 ≤ (σ7 11 k).toInt ∧ (σ7 11 k).toInt ≤ 3) := id I12
   obtain ⟨i20, i21⟩ : (0 ≤ (σ7 9 1).toInt) ∧ ((σ7 9 1).toInt ≤ (σ7 9 0).toInt) := id I13
   have i22 : (-1) ≤ (σ7 9 2).toInt := I14
   have z23 : (σ7 9 0).toInt = (σ 9 0).toInt := (congrArg Int32.toInt (show σ7 9 0 = (σ 9 0) from (f10 0 (of_decide_eq_true rfl))))
   refine lv_iconst (v := 0) hx hb dX7_part_19 (of_decide_eq_true rfl) ?_
   refine lv_istore_n (lv' := [(3, .int 0), (0, .ref (ad 9)), (1, .int 4), (2, .int a2)]) hx hb dX7_part_20 rfl hl (of_decide_eq_true rfl) rfl (fun ls hl => ?_)
   have lp24 : ∀ (n25 : Nat) (x26 : Int32) (σ28 : Nat → Nat → Int32) (H : Heap) (locs : List Loc) (ls : Array Slot), (-x26.toInt + 80 : Int) < n25 → 0 ≤ x26.toInt → x26.toInt ≤ 80 → 0 ≤ (σ28 9 1).toInt → (σ28 9 1).toInt ≤ (σ28 9 0).toInt → (-1) ≤ (σ28 9 2).toInt → (∀ i : Nat, (i < 9 ∨ 9 < i) ∧ (i < 12 ∨ 13 < i) → σ28 i = σ7 i) → (∀ k : Nat, (k < 1 ∨ 1 < k) ∧ (k < 2 ∨ 2 < k) → σ28 9 k = σ7 9 k) → (∀ k : Nat, (k < 0 ∨ 0 < k) ∧ (k < 1 ∨ 1 < k) → σ28 12 k = σ7 12 k) → jI12 σ28 → jH D cI cL ad σ28 τ H → va_S (jA ad) s.heap H locs → lv_has ls 5 [(3, .int x26), (0, .ref (ad 9)), (1, .int 4), (2, .int a2)] → W p l e ({ frames := (12 + 8 * (n)), cells := 0, slots := 0, locals := (480 + 360 * (n)) }) s m args below meth c H locs 0 0 Q (F0 m 21 ls []) := by
     intro n25
     induction n25 with
     | zero => intro x26 σ28 H locs ls h30 h31 h32 h33 h34 h35; exact absurd h30 (by omega)
     | succ n25 ihlp24 =>
       intro x26 σ28 H locs ls h30 h31 h32 h33 h34 h35 f36 f37 f38 p39 hP hS hl
       exact by
        have z40 : (σ28 9 0).toInt = (σ 9 0).toInt := (congrArg Int32.toInt (show σ28 9 0 = (σ 9 0) from ((f37 0 (of_decide_eq_true rfl)).trans (f10 0 (of_decide_eq_true rfl)))))
        refine lv_iload_n hx hb dX7_part_21 rfl (lv_at hl 0 rfl) ?_
        refine lv_bipush (v := 80) hx hb dX7_part_22 (of_decide_eq_true rfl) ?_
        refine lv_icmp_ge (tgt := 95) hx hb dX7_part_24 (of_decide_eq_true rfl) (fun c41 => ?_) (fun c41 => ?_)
        · have kc41 := jle c41 jz_80 rfl
          have I42 : jI9 σ28 := jI9_fr (f37 0 (of_decide_eq_true rfl)) (f36 10 (of_decide_eq_true rfl)) (f36 11 (of_decide_eq_true rfl)) I12
          have I43 : jI91 σ28 := ⟨(by omega), (by omega)⟩
          have I44 : jI92 σ28 := (show (-1) ≤ (σ28 9 2).toInt by omega)
          exact hret σ28 τ _ _ _ _ ⟨rfl, (fun i hi => ((f36 i hi).trans (f9 i hi))), (fun i hi => ((f37 i hi).trans (f10 i hi))), (fun i hi => ((f38 i hi).trans (f11 i hi))), I42, I43, I44, p39, trivial⟩ hP hS dX7_part_95
        · exact by
           have kc41 := jnle c41 jz_80 rfl
           refine lv_aload_n hx hb dX7_part_27 rfl (lv_at hl 1 rfl) ?_
           refine va_get (D := D) hx hb hts inlX7 hown hK hP 9 (jc_9 cI cL ad σ28 τ) rfl 2 (of_decide_eq_true rfl) (hts _ kw_14_6) (fun _ h9 => h9) rfl dX7_part_28 ?_
           refine lv_iconst (v := (-1)) hx hb dX7_part_31 (of_decide_eq_true rfl) ?_
           refine lv_icmp_ne (tgt := 95) hx hb dX7_part_32 (of_decide_eq_true rfl) (fun c45 => ?_) (fun c45 => ?_)
           · have kc45 := jne c45 rfl jz_m1
             have I46 : jI9 σ28 := jI9_fr (f37 0 (of_decide_eq_true rfl)) (f36 10 (of_decide_eq_true rfl)) (f36 11 (of_decide_eq_true rfl)) I12
             have I47 : jI91 σ28 := ⟨(by omega), (by omega)⟩
             have I48 : jI92 σ28 := (show (-1) ≤ (σ28 9 2).toInt by omega)
             exact hret σ28 τ _ _ _ _ ⟨rfl, (fun i hi => ((f36 i hi).trans (f9 i hi))), (fun i hi => ((f37 i hi).trans (f10 i hi))), (fun i hi => ((f38 i hi).trans (f11 i hi))), I46, I47, I48, p39, trivial⟩ hP hS dX7_part_95
           · exact by
              have kc45 := jeq c45 rfl jz_m1
              refine lv_aload_n hx hb dX7_part_35 rfl (lv_at hl 1 rfl) ?_
              have I49 : jI9 σ28 := jI9_fr (f37 0 (of_decide_eq_true rfl)) (f36 10 (of_decide_eq_true rfl)) (f36 11 (of_decide_eq_true rfl)) I12
              refine jcallV (As := []) (rest := []) ⟨hx, hb, hml, hown, hts⟩ hK hP hA hS hZ (c_X7_sign_9 l D cI cL ad zz hJ σ28 τ I49) cw_RX7_35 (jc_9 cI cL ad σ28 τ) rfl ⟨by dsimp only; omega, by dsimp only; omega⟩ rfl rfl rfl hl.1 rfl (Nat.le_of_ble_eq_true rfl) dX7_part_36 ⟨Nat.zero_le _, Nat.zero_le _⟩ (fun r51 σ50 τ50 H locs h50 hP hS => ?_)
              obtain ⟨⟨rfl, rfl⟩, h50⟩ := h50
              rcases h50 with h52 | h53
              · obtain ⟨q56, k54, k55⟩ := h52
                have q57 : r51 = (σ 10 (σ28 9 1).toNatClampNeg) := q56.trans (by rw [f36 10 (of_decide_eq_true rfl), f9 10 (of_decide_eq_true rfl)])
                have q57e : (σ28 10 (σ28 9 1).toNatClampNeg).toInt = (σ 10 (σ28 9 1).toNatClampNeg).toInt := by rw [← q56, ← q57]
                exact by
                 have q57 := q57.symm
                 subst q57
                 refine jcallS (As := [.int (σ 10 (σ28 9 1).toNatClampNeg)]) (rest := []) ⟨hx, hb, hml, hown, hts⟩ hK hP hA hS hZ (c_X7_levelOf l D cI cL ad zz hJ σ28 τ (σ 10 (σ28 9 1).toNatClampNeg) ((σ 10 (σ28 9 1).toNatClampNeg).toInt) rfl) cw_RX7_98 ⟨by dsimp only; omega, by dsimp only; omega⟩ rfl rfl rfl hl.1 rfl (Nat.le_of_ble_eq_true rfl) dX7_part_39 ⟨Nat.zero_le _, Nat.zero_le _⟩ (fun r59 σ58 τ58 H locs h58 hP hS => ?_)
                 obtain ⟨⟨rfl, rfl⟩, h58⟩ := h58
                 rcases h58 with h60 | h61 | h62 | h63 | h64 | h65 | h66 | h67 | h68 | h69 | h70
                 · obtain ⟨q72, k71⟩ := h60
                   have q72 := q72.symm
                   subst q72
                   refine lv_iload_n hx hb dX7_part_42 rfl (lv_at hl 2 rfl) ?_
                   refine lv_icmp_ne (tgt := 95) hx hb dX7_part_43 (of_decide_eq_true rfl) (fun _ => ?_) (fun c => absurd c (of_decide_eq_true rfl))
                   exact by
                    have I73 : jI91 σ28 := ⟨(by omega), (by omega)⟩
                    have I74 : jI92 σ28 := (show (-1) ≤ (σ28 9 2).toInt by omega)
                    exact hret σ28 τ _ _ _ _ ⟨rfl, (fun i hi => ((f36 i hi).trans (f9 i hi))), (fun i hi => ((f37 i hi).trans (f10 i hi))), (fun i hi => ((f38 i hi).trans (f11 i hi))), I49, I73, I74, p39, trivial⟩ hP hS dX7_part_95
                 · obtain ⟨q76, k75⟩ := h61
                   have q76 := q76.symm
                   subst q76
                   refine lv_iload_n hx hb dX7_part_42 rfl (lv_at hl 2 rfl) ?_
                   refine lv_icmp_ne (tgt := 95) hx hb dX7_part_43 (of_decide_eq_true rfl) (fun _ => ?_) (fun c => absurd c (of_decide_eq_true rfl))
                   have I77 : jI91 σ28 := ⟨(by omega), (by omega)⟩
                   exact by
                    have I78 : jI92 σ28 := (show (-1) ≤ (σ28 9 2).toInt by omega)
                    exact hret σ28 τ _ _ _ _ ⟨rfl, (fun i hi => ((f36 i hi).trans (f9 i hi))), (fun i hi => ((f37 i hi).trans (f10 i hi))), (fun i hi => ((f38 i hi).trans (f11 i hi))), I49, I77, I78, p39, trivial⟩ hP hS dX7_part_95
                 · obtain ⟨q80, k79⟩ := h62
                   have q80 := q80.symm
                   subst q80
                   refine lv_iload_n hx hb dX7_part_42 rfl (lv_at hl 2 rfl) ?_
                   refine lv_icmp_ne (tgt := 95) hx hb dX7_part_43 (of_decide_eq_true rfl) (fun _ => ?_) (fun c => absurd c (of_decide_eq_true rfl))
                   have I81 : jI91 σ28 := ⟨(by omega), (by omega)⟩
                   have I82 : jI92 σ28 := (show (-1) ≤ (σ28 9 2).toInt by omega)
                   exact hret σ28 τ _ _ _ _ ⟨rfl, (fun i hi => ((f36 i hi).trans (f9 i hi))), (fun i hi => ((f37 i hi).trans (f10 i hi))), (fun i hi => ((f38 i hi).trans (f11 i hi))), I49, I81, I82, p39, trivial⟩ hP hS dX7_part_95
                 · exact by
                    obtain ⟨q84, k83⟩ := h63
                    have q84 := q84.symm
                    subst q84
                    refine lv_iload_n hx hb dX7_part_42 rfl (lv_at hl 2 rfl) ?_
                    refine lv_icmp_ne (tgt := 95) hx hb dX7_part_43 (of_decide_eq_true rfl) (fun _ => ?_) (fun c => absurd c (of_decide_eq_true rfl))
                    have I85 : jI91 σ28 := ⟨(by omega), (by omega)⟩
                    have I86 : jI92 σ28 := (show (-1) ≤ (σ28 9 2).toInt by omega)
                    exact hret σ28 τ _ _ _ _ ⟨rfl, (fun i hi => ((f36 i hi).trans (f9 i hi))), (fun i hi => ((f37 i hi).trans (f10 i hi))), (fun i hi => ((f38 i hi).trans (f11 i hi))), I49, I85, I86, p39, trivial⟩ hP hS dX7_part_95
                 · obtain ⟨q88, k87⟩ := h64
                   exact by
                    have q88 := q88.symm
                    subst q88
                    refine lv_iload_n hx hb dX7_part_42 rfl (lv_at hl 2 rfl) ?_
                    refine lv_icmp_ne (tgt := 95) hx hb dX7_part_43 (of_decide_eq_true rfl) (fun _ => ?_) (fun c => absurd c (of_decide_eq_true rfl))
                    have I89 : jI91 σ28 := ⟨(by omega), (by omega)⟩
                    have I90 : jI92 σ28 := (show (-1) ≤ (σ28 9 2).toInt by omega)
                    exact hret σ28 τ _ _ _ _ ⟨rfl, (fun i hi => ((f36 i hi).trans (f9 i hi))), (fun i hi => ((f37 i hi).trans (f10 i hi))), (fun i hi => ((f38 i hi).trans (f11 i hi))), I49, I89, I90, p39, trivial⟩ hP hS dX7_part_95
                 · obtain ⟨q92, k91⟩ := h65
                   have q92 := q92.symm
                   exact by
                    subst q92
                    refine lv_iload_n hx hb dX7_part_42 rfl (lv_at hl 2 rfl) ?_
                    refine lv_icmp_ne (tgt := 95) hx hb dX7_part_43 (of_decide_eq_true rfl) (fun _ => ?_) (fun c => absurd c (of_decide_eq_true rfl))
                    have I93 : jI91 σ28 := ⟨(by omega), (by omega)⟩
                    have I94 : jI92 σ28 := (show (-1) ≤ (σ28 9 2).toInt by omega)
                    exact hret σ28 τ _ _ _ _ ⟨rfl, (fun i hi => ((f36 i hi).trans (f9 i hi))), (fun i hi => ((f37 i hi).trans (f10 i hi))), (fun i hi => ((f38 i hi).trans (f11 i hi))), I49, I93, I94, p39, trivial⟩ hP hS dX7_part_95
                 · obtain ⟨q96, k95⟩ := h66
                   have q96 := q96.symm
                   subst q96
                   exact by
                    refine lv_iload_n hx hb dX7_part_42 rfl (lv_at hl 2 rfl) ?_
                    refine lv_icmp_ne (tgt := 95) hx hb dX7_part_43 (of_decide_eq_true rfl) (fun _ => ?_) (fun c => absurd c (of_decide_eq_true rfl))
                    have I97 : jI91 σ28 := ⟨(by omega), (by omega)⟩
                    have I98 : jI92 σ28 := (show (-1) ≤ (σ28 9 2).toInt by omega)
                    exact hret σ28 τ _ _ _ _ ⟨rfl, (fun i hi => ((f36 i hi).trans (f9 i hi))), (fun i hi => ((f37 i hi).trans (f10 i hi))), (fun i hi => ((f38 i hi).trans (f11 i hi))), I49, I97, I98, p39, trivial⟩ hP hS dX7_part_95
                 · obtain ⟨q100, k99⟩ := h67
                   have q100 := q100.symm
                   subst q100
                   refine lv_iload_n hx hb dX7_part_42 rfl (lv_at hl 2 rfl) ?_
                   exact by
                    refine lv_icmp_ne (tgt := 95) hx hb dX7_part_43 (of_decide_eq_true rfl) (fun c => absurd (of_decide_eq_true rfl) c) (fun _ => ?_)
                    refine lv_aload_n hx hb dX7_part_46 rfl (lv_at hl 1 rfl) ?_
                    refine jcallV (As := []) (rest := []) ⟨hx, hb, hml, hown, hts⟩ hK hP hA hS hZ (c_X7_sign_9 l D cI cL ad zz hJ σ28 τ I49) cw_RX7_35 (jc_9 cI cL ad σ28 τ) rfl ⟨by dsimp only; omega, by dsimp only; omega⟩ rfl rfl rfl hl.1 rfl (Nat.le_of_ble_eq_true rfl) dX7_part_47 ⟨Nat.zero_le _, Nat.zero_le _⟩ (fun r102 σ101 τ101 H locs h101 hP hS => ?_)
                    obtain ⟨⟨rfl, rfl⟩, h101⟩ := h101
                    rcases h101 with h103 | h104
                    · obtain ⟨q107, k105, k106⟩ := h103
                      have q108 : r102 = (σ 10 (σ28 9 1).toNatClampNeg) := q107.trans (by rw [f36 10 (of_decide_eq_true rfl), f9 10 (of_decide_eq_true rfl)])
                      have q108e : (σ28 10 (σ28 9 1).toNatClampNeg).toInt = (σ 10 (σ28 9 1).toNatClampNeg).toInt := by rw [← q107, ← q108]
                      have q108 := q108.symm
                      exact by
                       subst q108
                       refine lv_istore (lv' := [(4, .int (σ 10 (σ28 9 1).toNatClampNeg)), (3, .int x26), (0, .ref (ad 9)), (1, .int 4), (2, .int a2)]) hx hb dX7_part_50 hl (of_decide_eq_true rfl) rfl (fun ls hl => ?_)
                       refine lv_aload_n hx hb dX7_part_52 rfl (lv_at hl 2 rfl) ?_
                       refine lv_dup hx hb dX7_part_53 rfl ?_
                       refine va_get (D := D) hx hb hts inlX7 hown hK hP 9 (jc_9 cI cL ad σ28 τ) rfl 1 (of_decide_eq_true rfl) (hts _ kw_13_17) (fun _ h9 => h9) rfl dX7_part_54 ?_
                       refine lv_iconst (v := 1) hx hb dX7_part_57 (of_decide_eq_true rfl) ?_
                       have g109 := jrg (rfl : (σ28 9 1).toInt = (σ28 9 1).toInt)
                       refine lv_iadd hx hb dX7_part_58 ?_
                       refine lv_topi (fun x110 ex110 => ?_)
                       exact by
                        have tx110 : x110.toInt = (σ28 9 1).toInt + 1 := (jadd ex110 rfl jz_1 (by omega) (by omega)).trans (by omega)
                        refine jput (ty := .int) hx hb hts inlX7 tyX7 tyX7_ok nmX7 hown hK hP hJ hA hS (jc_9 cI cL ad σ28 τ) rfl (k := 1) (of_decide_eq_true rfl) (Nat.le_of_ble_eq_true rfl) (jp_9_1 cI cL ad σ28 τ x110) (hts _ kw_13_17) (fun _ h9 => h9) rfl (by decide +kernel) rfl rfl dX7_part_59 (fun σ111 H locs eσ111 hP hS => ?_)
                        refine lv_aload_n hx hb dX7_part_62 rfl (lv_at hl 2 rfl) ?_
                        refine lv_iload_n hx hb dX7_part_63 rfl (lv_at hl 3 rfl) ?_
                        refine lv_iconst (v := 1) hx hb dX7_part_64 (of_decide_eq_true rfl) ?_
                        refine lv_iadd hx hb dX7_part_65 ?_
                        refine jtopr (y := 5) (of_decide_eq_true rfl) ?_
                        refine lv_iload_n hx hb dX7_part_66 rfl (lv_at hl 4 rfl) ?_
                        have I112 : jI9 σ111 := jI9_fr (jkp 0 eσ111 (of_decide_eq_true rfl)) (jnp 10 eσ111 (of_decide_eq_true rfl)) (jnp 11 eσ111 (of_decide_eq_true rfl)) I49
                        have z113 : (σ111 9 1).toInt = (σ28 9 1).toInt + 1 := ((congrArg Int32.toInt (show σ111 9 1 = x110 from (jsp eσ111))).trans tx110)
                        have z114 : (σ111 9 0).toInt = (σ 9 0).toInt := (congrArg Int32.toInt (show σ111 9 0 = (σ 9 0) from ((jkp 0 eσ111 (of_decide_eq_true rfl)).trans ((f37 0 (of_decide_eq_true rfl)).trans (f10 0 (of_decide_eq_true rfl))))))
                        exact by
                         have I115 : jI91 σ111 := ⟨(by omega), (by omega)⟩
                         have z116 : (σ111 9 2).toInt = (σ28 9 2).toInt := (congrArg Int32.toInt (show σ111 9 2 = (σ28 9 2) from (jkp 2 eσ111 (of_decide_eq_true rfl))))
                         have I117 : jI92 σ111 := (show (-1) ≤ (σ111 9 2).toInt by omega)
                         have I118 : jI12 σ111 := jI12_fr (congrFun (jnp 12 eσ111 (of_decide_eq_true rfl)) 0) (jnp 13 eσ111 (of_decide_eq_true rfl)) p39
                         refine jcallVv (As := [.int 5, .int a2]) (rest := []) ⟨hx, hb, hml, hown, hts⟩ hK hP hA hS hZ (h_p5 σ111 τ a2 (A2) t2 I112 I115 I117 I118 (by omega) (by omega)) cw_RX7_82 (jc_9 cI cL ad σ111 τ) rfl ⟨by dsimp only; omega, by dsimp only; omega⟩ rfl rfl rfl hl.1 rfl (Nat.le_of_ble_eq_true rfl) dX7_part_67 ⟨Nat.zero_le _, Nat.zero_le _⟩ (fun σ119 τ119 H locs h119 hP hS => ?_)
                         obtain ⟨rfl, f121, f122, f123, I124, I125, I126, I127, h119⟩ := h119
                         obtain ⟨i129, w130, w131⟩ : (0 ≤ (σ119 9 0).toInt ∧ (σ119 9 0).toInt ≤ 80) ∧ (∀ k : Nat, k < 80 → 0 ≤ (σ119 10 k).toInt ∧ (σ119 10 k).toInt ≤ 255) ∧ (∀ k : Nat, k < 8 → 0 ≤ (σ119 11 k).toInt ∧ (σ119 11 k).toInt ≤ 3) := id I124
                         obtain ⟨i132, i133⟩ : (0 ≤ (σ119 9 1).toInt) ∧ ((σ119 9 1).toInt ≤ (σ119 9 0).toInt) := id I125
                         have i134 : (-1) ≤ (σ119 9 2).toInt := I126
                         exact by
                          have z135 : (σ119 9 0).toInt = (σ 9 0).toInt := (congrArg Int32.toInt (show σ119 9 0 = (σ 9 0) from ((f122 0 (of_decide_eq_true rfl)).trans ((jkp 0 eσ111 (of_decide_eq_true rfl)).trans ((f37 0 (of_decide_eq_true rfl)).trans (f10 0 (of_decide_eq_true rfl)))))))
                          refine lv_aload_n hx hb dX7_part_70 rfl (lv_at hl 2 rfl) ?_
                          refine va_get (D := D) hx hb hts inlX7 hown hK hP 9 (jc_9 cI cL ad σ119 τ) rfl 5 (of_decide_eq_true rfl) (hts _ kw_3_23) (fun _ h9 => h9) rfl dX7_part_71 ?_
                          refine lv_sipush (v := 20000) hx hb dX7_part_74 (of_decide_eq_true rfl) ?_
                          refine lv_iload hx hb dX7_part_77 (lv_at hl 0 rfl) ?_
                          have g136 := jrg (rfl : (σ 10 (σ28 9 1).toNatClampNeg).toInt = (σ 10 (σ28 9 1).toNatClampNeg).toInt)
                          refine lv_iadd hx hb dX7_part_79 ?_
                          refine lv_topi (fun x137 ex137 => ?_)
                          have tx137 : x137.toInt = (σ 10 (σ28 9 1).toNatClampNeg).toInt + 20000 := (jadd ex137 jz_20000 rfl (by omega) (by omega)).trans (by omega)
                          exact by
                           refine jcallVv (As := [.int x137]) (rest := []) ⟨hx, hb, hml, hown, hts⟩ hK hP hA hS hZ (c_X10_add_12 l D cI cL ad zz hJ σ119 τ x137 ((σ 10 (σ28 9 1).toNatClampNeg).toInt + 20000) tx137 I127 (by omega)) cw_RX7_86 (jc_12 cI cL ad σ119 τ) rfl ⟨by dsimp only; omega, by dsimp only; omega⟩ rfl rfl rfl hl.1 rfl (Nat.le_of_ble_eq_true rfl) dX7_part_80 ⟨Nat.zero_le _, Nat.zero_le _⟩ (fun σ138 τ138 H locs h138 hP hS => ?_)
                           obtain ⟨rfl, f140, f141, I142, h138⟩ := h138
                           refine lv_iload_n hx hb dX7_part_83 rfl (lv_at hl 3 rfl) ?_
                           refine lv_iconst (v := 2) hx hb dX7_part_84 (of_decide_eq_true rfl) ?_
                           refine lv_icmp_ne (tgt := 89) hx hb dX7_part_85 (of_decide_eq_true rfl) (fun _ => ?_) (fun c => absurd c (of_decide_eq_true rfl))
                           obtain ⟨x144, ex144⟩ : ∃ y : Int32, y = x26 + 1 := ⟨_, rfl⟩
                           have tx144 : x144.toInt = x26.toInt + 1 := (jadd ex144 rfl jz_1 (by omega) (by omega)).trans (by omega)
                           refine lv_iinc (v := x144) (lv' := [(3, .int x144), (4, .int (σ 10 (σ28 9 1).toNatClampNeg)), (0, .ref (ad 9)), (1, .int 4), (2, .int a2)]) hx hb dX7_part_89 hl (k := 1) rfl (by rw [ex144]; rfl) (of_decide_eq_true rfl) rfl (fun ls hl => ?_)
                           refine lv_goto (tgt := 21) hx hb dX7_part_92 (of_decide_eq_true rfl) ?_
                           exact by
                            have z145 : (σ138 9 1).toInt = (σ119 9 1).toInt := (congrArg Int32.toInt (show σ138 9 1 = (σ119 9 1) from (congrFun (f140 9 (of_decide_eq_true rfl)) 1)))
                            have z146 : (σ138 9 0).toInt = (σ 9 0).toInt := (congrArg Int32.toInt (show σ138 9 0 = (σ 9 0) from ((congrFun (f140 9 (of_decide_eq_true rfl)) 0).trans ((f122 0 (of_decide_eq_true rfl)).trans ((jkp 0 eσ111 (of_decide_eq_true rfl)).trans ((f37 0 (of_decide_eq_true rfl)).trans (f10 0 (of_decide_eq_true rfl))))))))
                            have z147 : (σ138 9 2).toInt = (σ119 9 2).toInt := (congrArg Int32.toInt (show σ138 9 2 = (σ119 9 2) from (congrFun (f140 9 (of_decide_eq_true rfl)) 2)))
                            exact by exact ihlp24 x144 σ138 _ _ ls (by have h90 := tx144; omega) (by have h90 := tx144; omega) (by have h90 := tx144; omega) (by have h90 := tx144; omega) (by have h90 := tx144; omega) (by have h90 := tx144; omega) (fun i hi => ((f140 i (imp_58 i hi)).trans ((f121 i hi).trans ((jnp i eσ111 (imp_60 i hi)).trans (f36 i hi))))) (fun i hi => ((congrFun (f140 9 (of_decide_eq_true rfl)) i).trans ((f122 i hi).trans ((jkp i eσ111 (imp_39 i hi)).trans (f37 i hi))))) (fun i hi => ((f141 i hi).trans ((f123 i hi).trans ((congrFun (jnp 12 eσ111 (of_decide_eq_true rfl)) i).trans (f38 i hi)))))  I142 hP hS (lv_sub hl [0, 2, 3, 4] rfl)
                    · obtain ⟨q149, k148⟩ := h104
                      exact absurd (by omega : False) id
                 · obtain ⟨q151, k150⟩ := h68
                   have q151 := q151.symm
                   subst q151
                   refine lv_iload_n hx hb dX7_part_42 rfl (lv_at hl 2 rfl) ?_
                   refine lv_icmp_ne (tgt := 95) hx hb dX7_part_43 (of_decide_eq_true rfl) (fun c => absurd (of_decide_eq_true rfl) c) (fun _ => ?_)
                   refine lv_aload_n hx hb dX7_part_46 rfl (lv_at hl 1 rfl) ?_
                   refine jcallV (As := []) (rest := []) ⟨hx, hb, hml, hown, hts⟩ hK hP hA hS hZ (c_X7_sign_9 l D cI cL ad zz hJ σ28 τ I49) cw_RX7_35 (jc_9 cI cL ad σ28 τ) rfl ⟨by dsimp only; omega, by dsimp only; omega⟩ rfl rfl rfl hl.1 rfl (Nat.le_of_ble_eq_true rfl) dX7_part_47 ⟨Nat.zero_le _, Nat.zero_le _⟩ (fun r153 σ152 τ152 H locs h152 hP hS => ?_)
                   obtain ⟨⟨rfl, rfl⟩, h152⟩ := h152
                   rcases h152 with h154 | h155
                   · obtain ⟨q158, k156, k157⟩ := h154
                     exact by
                      have q159 : r153 = (σ 10 (σ28 9 1).toNatClampNeg) := q158.trans (by rw [f36 10 (of_decide_eq_true rfl), f9 10 (of_decide_eq_true rfl)])
                      have q159e : (σ28 10 (σ28 9 1).toNatClampNeg).toInt = (σ 10 (σ28 9 1).toNatClampNeg).toInt := by rw [← q158, ← q159]
                      have q159 := q159.symm
                      subst q159
                      refine lv_istore (lv' := [(4, .int (σ 10 (σ28 9 1).toNatClampNeg)), (3, .int x26), (0, .ref (ad 9)), (1, .int 4), (2, .int a2)]) hx hb dX7_part_50 hl (of_decide_eq_true rfl) rfl (fun ls hl => ?_)
                      refine lv_aload_n hx hb dX7_part_52 rfl (lv_at hl 2 rfl) ?_
                      refine lv_dup hx hb dX7_part_53 rfl ?_
                      refine va_get (D := D) hx hb hts inlX7 hown hK hP 9 (jc_9 cI cL ad σ28 τ) rfl 1 (of_decide_eq_true rfl) (hts _ kw_13_17) (fun _ h9 => h9) rfl dX7_part_54 ?_
                      refine lv_iconst (v := 1) hx hb dX7_part_57 (of_decide_eq_true rfl) ?_
                      have g160 := jrg (rfl : (σ28 9 1).toInt = (σ28 9 1).toInt)
                      refine lv_iadd hx hb dX7_part_58 ?_
                      refine lv_topi (fun x161 ex161 => ?_)
                      exact by
                       have tx161 : x161.toInt = (σ28 9 1).toInt + 1 := (jadd ex161 rfl jz_1 (by omega) (by omega)).trans (by omega)
                       refine jput (ty := .int) hx hb hts inlX7 tyX7 tyX7_ok nmX7 hown hK hP hJ hA hS (jc_9 cI cL ad σ28 τ) rfl (k := 1) (of_decide_eq_true rfl) (Nat.le_of_ble_eq_true rfl) (jp_9_1 cI cL ad σ28 τ x161) (hts _ kw_13_17) (fun _ h9 => h9) rfl (by decide +kernel) rfl rfl dX7_part_59 (fun σ162 H locs eσ162 hP hS => ?_)
                       refine lv_aload_n hx hb dX7_part_62 rfl (lv_at hl 2 rfl) ?_
                       refine lv_iload_n hx hb dX7_part_63 rfl (lv_at hl 3 rfl) ?_
                       refine lv_iconst (v := 1) hx hb dX7_part_64 (of_decide_eq_true rfl) ?_
                       refine lv_iadd hx hb dX7_part_65 ?_
                       refine jtopr (y := 5) (of_decide_eq_true rfl) ?_
                       refine lv_iload_n hx hb dX7_part_66 rfl (lv_at hl 4 rfl) ?_
                       have I163 : jI9 σ162 := jI9_fr (jkp 0 eσ162 (of_decide_eq_true rfl)) (jnp 10 eσ162 (of_decide_eq_true rfl)) (jnp 11 eσ162 (of_decide_eq_true rfl)) I49
                       have z164 : (σ162 9 1).toInt = (σ28 9 1).toInt + 1 := ((congrArg Int32.toInt (show σ162 9 1 = x161 from (jsp eσ162))).trans tx161)
                       have z165 : (σ162 9 0).toInt = (σ 9 0).toInt := (congrArg Int32.toInt (show σ162 9 0 = (σ 9 0) from ((jkp 0 eσ162 (of_decide_eq_true rfl)).trans ((f37 0 (of_decide_eq_true rfl)).trans (f10 0 (of_decide_eq_true rfl))))))
                       exact by
                        have I166 : jI91 σ162 := ⟨(by omega), (by omega)⟩
                        have z167 : (σ162 9 2).toInt = (σ28 9 2).toInt := (congrArg Int32.toInt (show σ162 9 2 = (σ28 9 2) from (jkp 2 eσ162 (of_decide_eq_true rfl))))
                        have I168 : jI92 σ162 := (show (-1) ≤ (σ162 9 2).toInt by omega)
                        have I169 : jI12 σ162 := jI12_fr (congrFun (jnp 12 eσ162 (of_decide_eq_true rfl)) 0) (jnp 13 eσ162 (of_decide_eq_true rfl)) p39
                        refine jcallVv (As := [.int 5, .int a2]) (rest := []) ⟨hx, hb, hml, hown, hts⟩ hK hP hA hS hZ (h_p5 σ162 τ a2 (A2) t2 I163 I166 I168 I169 (by omega) (by omega)) cw_RX7_82 (jc_9 cI cL ad σ162 τ) rfl ⟨by dsimp only; omega, by dsimp only; omega⟩ rfl rfl rfl hl.1 rfl (Nat.le_of_ble_eq_true rfl) dX7_part_67 ⟨Nat.zero_le _, Nat.zero_le _⟩ (fun σ170 τ170 H locs h170 hP hS => ?_)
                        obtain ⟨rfl, f172, f173, f174, I175, I176, I177, I178, h170⟩ := h170
                        obtain ⟨i180, w181, w182⟩ : (0 ≤ (σ170 9 0).toInt ∧ (σ170 9 0).toInt ≤ 80) ∧ (∀ k : Nat, k < 80 → 0 ≤ (σ170 10 k).toInt ∧ (σ170 10 k).toInt ≤ 255) ∧ (∀ k : Nat, k < 8 → 0 ≤ (σ170 11 k).toInt ∧ (σ170 11 k).toInt ≤ 3) := id I175
                        obtain ⟨i183, i184⟩ : (0 ≤ (σ170 9 1).toInt) ∧ ((σ170 9 1).toInt ≤ (σ170 9 0).toInt) := id I176
                        have i185 : (-1) ≤ (σ170 9 2).toInt := I177
                        exact by
                         have z186 : (σ170 9 0).toInt = (σ 9 0).toInt := (congrArg Int32.toInt (show σ170 9 0 = (σ 9 0) from ((f173 0 (of_decide_eq_true rfl)).trans ((jkp 0 eσ162 (of_decide_eq_true rfl)).trans ((f37 0 (of_decide_eq_true rfl)).trans (f10 0 (of_decide_eq_true rfl)))))))
                         refine lv_aload_n hx hb dX7_part_70 rfl (lv_at hl 2 rfl) ?_
                         refine va_get (D := D) hx hb hts inlX7 hown hK hP 9 (jc_9 cI cL ad σ170 τ) rfl 5 (of_decide_eq_true rfl) (hts _ kw_3_23) (fun _ h9 => h9) rfl dX7_part_71 ?_
                         refine lv_sipush (v := 20000) hx hb dX7_part_74 (of_decide_eq_true rfl) ?_
                         refine lv_iload hx hb dX7_part_77 (lv_at hl 0 rfl) ?_
                         have g187 := jrg (rfl : (σ 10 (σ28 9 1).toNatClampNeg).toInt = (σ 10 (σ28 9 1).toNatClampNeg).toInt)
                         refine lv_iadd hx hb dX7_part_79 ?_
                         refine lv_topi (fun x188 ex188 => ?_)
                         have tx188 : x188.toInt = (σ 10 (σ28 9 1).toNatClampNeg).toInt + 20000 := (jadd ex188 jz_20000 rfl (by omega) (by omega)).trans (by omega)
                         exact by
                          refine jcallVv (As := [.int x188]) (rest := []) ⟨hx, hb, hml, hown, hts⟩ hK hP hA hS hZ (c_X10_add_12 l D cI cL ad zz hJ σ170 τ x188 ((σ 10 (σ28 9 1).toNatClampNeg).toInt + 20000) tx188 I178 (by omega)) cw_RX7_86 (jc_12 cI cL ad σ170 τ) rfl ⟨by dsimp only; omega, by dsimp only; omega⟩ rfl rfl rfl hl.1 rfl (Nat.le_of_ble_eq_true rfl) dX7_part_80 ⟨Nat.zero_le _, Nat.zero_le _⟩ (fun σ189 τ189 H locs h189 hP hS => ?_)
                          obtain ⟨rfl, f191, f192, I193, h189⟩ := h189
                          refine lv_iload_n hx hb dX7_part_83 rfl (lv_at hl 3 rfl) ?_
                          refine lv_iconst (v := 2) hx hb dX7_part_84 (of_decide_eq_true rfl) ?_
                          refine lv_icmp_ne (tgt := 89) hx hb dX7_part_85 (of_decide_eq_true rfl) (fun _ => ?_) (fun c => absurd c (of_decide_eq_true rfl))
                          obtain ⟨x195, ex195⟩ : ∃ y : Int32, y = x26 + 1 := ⟨_, rfl⟩
                          have tx195 : x195.toInt = x26.toInt + 1 := (jadd ex195 rfl jz_1 (by omega) (by omega)).trans (by omega)
                          refine lv_iinc (v := x195) (lv' := [(3, .int x195), (4, .int (σ 10 (σ28 9 1).toNatClampNeg)), (0, .ref (ad 9)), (1, .int 4), (2, .int a2)]) hx hb dX7_part_89 hl (k := 1) rfl (by rw [ex195]; rfl) (of_decide_eq_true rfl) rfl (fun ls hl => ?_)
                          refine lv_goto (tgt := 21) hx hb dX7_part_92 (of_decide_eq_true rfl) ?_
                          exact by
                           have z196 : (σ189 9 1).toInt = (σ170 9 1).toInt := (congrArg Int32.toInt (show σ189 9 1 = (σ170 9 1) from (congrFun (f191 9 (of_decide_eq_true rfl)) 1)))
                           have z197 : (σ189 9 0).toInt = (σ 9 0).toInt := (congrArg Int32.toInt (show σ189 9 0 = (σ 9 0) from ((congrFun (f191 9 (of_decide_eq_true rfl)) 0).trans ((f173 0 (of_decide_eq_true rfl)).trans ((jkp 0 eσ162 (of_decide_eq_true rfl)).trans ((f37 0 (of_decide_eq_true rfl)).trans (f10 0 (of_decide_eq_true rfl))))))))
                           have z198 : (σ189 9 2).toInt = (σ170 9 2).toInt := (congrArg Int32.toInt (show σ189 9 2 = (σ170 9 2) from (congrFun (f191 9 (of_decide_eq_true rfl)) 2)))
                           exact by exact ihlp24 x195 σ189 _ _ ls (by have h90 := tx195; omega) (by have h90 := tx195; omega) (by have h90 := tx195; omega) (by have h90 := tx195; omega) (by have h90 := tx195; omega) (by have h90 := tx195; omega) (fun i hi => ((f191 i (imp_58 i hi)).trans ((f172 i hi).trans ((jnp i eσ162 (imp_60 i hi)).trans (f36 i hi))))) (fun i hi => ((congrFun (f191 9 (of_decide_eq_true rfl)) i).trans ((f173 i hi).trans ((jkp i eσ162 (imp_39 i hi)).trans (f37 i hi))))) (fun i hi => ((f192 i hi).trans ((f174 i hi).trans ((congrFun (jnp 12 eσ162 (of_decide_eq_true rfl)) i).trans (f38 i hi)))))  I193 hP hS (lv_sub hl [0, 2, 3, 4] rfl)
                   · obtain ⟨q200, k199⟩ := h155
                     exact absurd (by omega : False) id
                 · obtain ⟨q202, k201⟩ := h69
                   have q202 := q202.symm
                   subst q202
                   refine lv_iload_n hx hb dX7_part_42 rfl (lv_at hl 2 rfl) ?_
                   refine lv_icmp_ne (tgt := 95) hx hb dX7_part_43 (of_decide_eq_true rfl) (fun c => absurd (of_decide_eq_true rfl) c) (fun _ => ?_)
                   refine lv_aload_n hx hb dX7_part_46 rfl (lv_at hl 1 rfl) ?_
                   refine jcallV (As := []) (rest := []) ⟨hx, hb, hml, hown, hts⟩ hK hP hA hS hZ (c_X7_sign_9 l D cI cL ad zz hJ σ28 τ I49) cw_RX7_35 (jc_9 cI cL ad σ28 τ) rfl ⟨by dsimp only; omega, by dsimp only; omega⟩ rfl rfl rfl hl.1 rfl (Nat.le_of_ble_eq_true rfl) dX7_part_47 ⟨Nat.zero_le _, Nat.zero_le _⟩ (fun r204 σ203 τ203 H locs h203 hP hS => ?_)
                   obtain ⟨⟨rfl, rfl⟩, h203⟩ := h203
                   rcases h203 with h205 | h206
                   · obtain ⟨q209, k207, k208⟩ := h205
                     exact by
                      have q210 : r204 = (σ 10 (σ28 9 1).toNatClampNeg) := q209.trans (by rw [f36 10 (of_decide_eq_true rfl), f9 10 (of_decide_eq_true rfl)])
                      have q210e : (σ28 10 (σ28 9 1).toNatClampNeg).toInt = (σ 10 (σ28 9 1).toNatClampNeg).toInt := by rw [← q209, ← q210]
                      have q210 := q210.symm
                      subst q210
                      refine lv_istore (lv' := [(4, .int (σ 10 (σ28 9 1).toNatClampNeg)), (3, .int x26), (0, .ref (ad 9)), (1, .int 4), (2, .int a2)]) hx hb dX7_part_50 hl (of_decide_eq_true rfl) rfl (fun ls hl => ?_)
                      refine lv_aload_n hx hb dX7_part_52 rfl (lv_at hl 2 rfl) ?_
                      refine lv_dup hx hb dX7_part_53 rfl ?_
                      refine va_get (D := D) hx hb hts inlX7 hown hK hP 9 (jc_9 cI cL ad σ28 τ) rfl 1 (of_decide_eq_true rfl) (hts _ kw_13_17) (fun _ h9 => h9) rfl dX7_part_54 ?_
                      refine lv_iconst (v := 1) hx hb dX7_part_57 (of_decide_eq_true rfl) ?_
                      have g211 := jrg (rfl : (σ28 9 1).toInt = (σ28 9 1).toInt)
                      refine lv_iadd hx hb dX7_part_58 ?_
                      refine lv_topi (fun x212 ex212 => ?_)
                      exact by
                       have tx212 : x212.toInt = (σ28 9 1).toInt + 1 := (jadd ex212 rfl jz_1 (by omega) (by omega)).trans (by omega)
                       refine jput (ty := .int) hx hb hts inlX7 tyX7 tyX7_ok nmX7 hown hK hP hJ hA hS (jc_9 cI cL ad σ28 τ) rfl (k := 1) (of_decide_eq_true rfl) (Nat.le_of_ble_eq_true rfl) (jp_9_1 cI cL ad σ28 τ x212) (hts _ kw_13_17) (fun _ h9 => h9) rfl (by decide +kernel) rfl rfl dX7_part_59 (fun σ213 H locs eσ213 hP hS => ?_)
                       refine lv_aload_n hx hb dX7_part_62 rfl (lv_at hl 2 rfl) ?_
                       refine lv_iload_n hx hb dX7_part_63 rfl (lv_at hl 3 rfl) ?_
                       refine lv_iconst (v := 1) hx hb dX7_part_64 (of_decide_eq_true rfl) ?_
                       refine lv_iadd hx hb dX7_part_65 ?_
                       refine jtopr (y := 5) (of_decide_eq_true rfl) ?_
                       refine lv_iload_n hx hb dX7_part_66 rfl (lv_at hl 4 rfl) ?_
                       have I214 : jI9 σ213 := jI9_fr (jkp 0 eσ213 (of_decide_eq_true rfl)) (jnp 10 eσ213 (of_decide_eq_true rfl)) (jnp 11 eσ213 (of_decide_eq_true rfl)) I49
                       have z215 : (σ213 9 1).toInt = (σ28 9 1).toInt + 1 := ((congrArg Int32.toInt (show σ213 9 1 = x212 from (jsp eσ213))).trans tx212)
                       have z216 : (σ213 9 0).toInt = (σ 9 0).toInt := (congrArg Int32.toInt (show σ213 9 0 = (σ 9 0) from ((jkp 0 eσ213 (of_decide_eq_true rfl)).trans ((f37 0 (of_decide_eq_true rfl)).trans (f10 0 (of_decide_eq_true rfl))))))
                       exact by
                        have I217 : jI91 σ213 := ⟨(by omega), (by omega)⟩
                        have z218 : (σ213 9 2).toInt = (σ28 9 2).toInt := (congrArg Int32.toInt (show σ213 9 2 = (σ28 9 2) from (jkp 2 eσ213 (of_decide_eq_true rfl))))
                        have I219 : jI92 σ213 := (show (-1) ≤ (σ213 9 2).toInt by omega)
                        have I220 : jI12 σ213 := jI12_fr (congrFun (jnp 12 eσ213 (of_decide_eq_true rfl)) 0) (jnp 13 eσ213 (of_decide_eq_true rfl)) p39
                        refine jcallVv (As := [.int 5, .int a2]) (rest := []) ⟨hx, hb, hml, hown, hts⟩ hK hP hA hS hZ (h_p5 σ213 τ a2 (A2) t2 I214 I217 I219 I220 (by omega) (by omega)) cw_RX7_82 (jc_9 cI cL ad σ213 τ) rfl ⟨by dsimp only; omega, by dsimp only; omega⟩ rfl rfl rfl hl.1 rfl (Nat.le_of_ble_eq_true rfl) dX7_part_67 ⟨Nat.zero_le _, Nat.zero_le _⟩ (fun σ221 τ221 H locs h221 hP hS => ?_)
                        obtain ⟨rfl, f223, f224, f225, I226, I227, I228, I229, h221⟩ := h221
                        obtain ⟨i231, w232, w233⟩ : (0 ≤ (σ221 9 0).toInt ∧ (σ221 9 0).toInt ≤ 80) ∧ (∀ k : Nat, k < 80 → 0 ≤ (σ221 10 k).toInt ∧ (σ221 10 k).toInt ≤ 255) ∧ (∀ k : Nat, k < 8 → 0 ≤ (σ221 11 k).toInt ∧ (σ221 11 k).toInt ≤ 3) := id I226
                        obtain ⟨i234, i235⟩ : (0 ≤ (σ221 9 1).toInt) ∧ ((σ221 9 1).toInt ≤ (σ221 9 0).toInt) := id I227
                        have i236 : (-1) ≤ (σ221 9 2).toInt := I228
                        exact by
                         have z237 : (σ221 9 0).toInt = (σ 9 0).toInt := (congrArg Int32.toInt (show σ221 9 0 = (σ 9 0) from ((f224 0 (of_decide_eq_true rfl)).trans ((jkp 0 eσ213 (of_decide_eq_true rfl)).trans ((f37 0 (of_decide_eq_true rfl)).trans (f10 0 (of_decide_eq_true rfl)))))))
                         refine lv_aload_n hx hb dX7_part_70 rfl (lv_at hl 2 rfl) ?_
                         refine va_get (D := D) hx hb hts inlX7 hown hK hP 9 (jc_9 cI cL ad σ221 τ) rfl 5 (of_decide_eq_true rfl) (hts _ kw_3_23) (fun _ h9 => h9) rfl dX7_part_71 ?_
                         refine lv_sipush (v := 20000) hx hb dX7_part_74 (of_decide_eq_true rfl) ?_
                         refine lv_iload hx hb dX7_part_77 (lv_at hl 0 rfl) ?_
                         have g238 := jrg (rfl : (σ 10 (σ28 9 1).toNatClampNeg).toInt = (σ 10 (σ28 9 1).toNatClampNeg).toInt)
                         refine lv_iadd hx hb dX7_part_79 ?_
                         refine lv_topi (fun x239 ex239 => ?_)
                         have tx239 : x239.toInt = (σ 10 (σ28 9 1).toNatClampNeg).toInt + 20000 := (jadd ex239 jz_20000 rfl (by omega) (by omega)).trans (by omega)
                         exact by
                          refine jcallVv (As := [.int x239]) (rest := []) ⟨hx, hb, hml, hown, hts⟩ hK hP hA hS hZ (c_X10_add_12 l D cI cL ad zz hJ σ221 τ x239 ((σ 10 (σ28 9 1).toNatClampNeg).toInt + 20000) tx239 I229 (by omega)) cw_RX7_86 (jc_12 cI cL ad σ221 τ) rfl ⟨by dsimp only; omega, by dsimp only; omega⟩ rfl rfl rfl hl.1 rfl (Nat.le_of_ble_eq_true rfl) dX7_part_80 ⟨Nat.zero_le _, Nat.zero_le _⟩ (fun σ240 τ240 H locs h240 hP hS => ?_)
                          obtain ⟨rfl, f242, f243, I244, h240⟩ := h240
                          refine lv_iload_n hx hb dX7_part_83 rfl (lv_at hl 3 rfl) ?_
                          refine lv_iconst (v := 2) hx hb dX7_part_84 (of_decide_eq_true rfl) ?_
                          refine lv_icmp_ne (tgt := 89) hx hb dX7_part_85 (of_decide_eq_true rfl) (fun _ => ?_) (fun c => absurd c (of_decide_eq_true rfl))
                          obtain ⟨x246, ex246⟩ : ∃ y : Int32, y = x26 + 1 := ⟨_, rfl⟩
                          have tx246 : x246.toInt = x26.toInt + 1 := (jadd ex246 rfl jz_1 (by omega) (by omega)).trans (by omega)
                          refine lv_iinc (v := x246) (lv' := [(3, .int x246), (4, .int (σ 10 (σ28 9 1).toNatClampNeg)), (0, .ref (ad 9)), (1, .int 4), (2, .int a2)]) hx hb dX7_part_89 hl (k := 1) rfl (by rw [ex246]; rfl) (of_decide_eq_true rfl) rfl (fun ls hl => ?_)
                          refine lv_goto (tgt := 21) hx hb dX7_part_92 (of_decide_eq_true rfl) ?_
                          exact by
                           have z247 : (σ240 9 1).toInt = (σ221 9 1).toInt := (congrArg Int32.toInt (show σ240 9 1 = (σ221 9 1) from (congrFun (f242 9 (of_decide_eq_true rfl)) 1)))
                           have z248 : (σ240 9 0).toInt = (σ 9 0).toInt := (congrArg Int32.toInt (show σ240 9 0 = (σ 9 0) from ((congrFun (f242 9 (of_decide_eq_true rfl)) 0).trans ((f224 0 (of_decide_eq_true rfl)).trans ((jkp 0 eσ213 (of_decide_eq_true rfl)).trans ((f37 0 (of_decide_eq_true rfl)).trans (f10 0 (of_decide_eq_true rfl))))))))
                           have z249 : (σ240 9 2).toInt = (σ221 9 2).toInt := (congrArg Int32.toInt (show σ240 9 2 = (σ221 9 2) from (congrFun (f242 9 (of_decide_eq_true rfl)) 2)))
                           exact by exact ihlp24 x246 σ240 _ _ ls (by have h90 := tx246; omega) (by have h90 := tx246; omega) (by have h90 := tx246; omega) (by have h90 := tx246; omega) (by have h90 := tx246; omega) (by have h90 := tx246; omega) (fun i hi => ((f242 i (imp_58 i hi)).trans ((f223 i hi).trans ((jnp i eσ213 (imp_60 i hi)).trans (f36 i hi))))) (fun i hi => ((congrFun (f242 9 (of_decide_eq_true rfl)) i).trans ((f224 i hi).trans ((jkp i eσ213 (imp_39 i hi)).trans (f37 i hi))))) (fun i hi => ((f243 i hi).trans ((f225 i hi).trans ((congrFun (jnp 12 eσ213 (of_decide_eq_true rfl)) i).trans (f38 i hi)))))  I244 hP hS (lv_sub hl [0, 2, 3, 4] rfl)
                   · obtain ⟨q251, k250⟩ := h206
                     exact absurd (by omega : False) id
                 · obtain ⟨q253, k252⟩ := h70
                   have q253 := q253.symm
                   subst q253
                   refine lv_iload_n hx hb dX7_part_42 rfl (lv_at hl 2 rfl) ?_
                   refine lv_icmp_ne (tgt := 95) hx hb dX7_part_43 (of_decide_eq_true rfl) (fun _ => ?_) (fun c => absurd c (of_decide_eq_true rfl))
                   exact by
                    have I254 : jI91 σ28 := ⟨(by omega), (by omega)⟩
                    have I255 : jI92 σ28 := (show (-1) ≤ (σ28 9 2).toInt by omega)
                    exact hret σ28 τ _ _ _ _ ⟨rfl, (fun i hi => ((f36 i hi).trans (f9 i hi))), (fun i hi => ((f37 i hi).trans (f10 i hi))), (fun i hi => ((f38 i hi).trans (f11 i hi))), I49, I254, I255, p39, trivial⟩ hP hS dX7_part_95
              · obtain ⟨q257, k256⟩ := h53
                have q257 := q257.symm
                subst q257
                refine jcallS (As := [.int (-1)]) (rest := []) ⟨hx, hb, hml, hown, hts⟩ hK hP hA hS hZ (c_X7_levelOf l D cI cL ad zz hJ σ28 τ (-1) ((-1)) jz_m1) cw_RX7_98 ⟨by dsimp only; omega, by dsimp only; omega⟩ rfl rfl rfl hl.1 rfl (Nat.le_of_ble_eq_true rfl) dX7_part_39 ⟨Nat.zero_le _, Nat.zero_le _⟩ (fun r259 σ258 τ258 H locs h258 hP hS => ?_)
                obtain ⟨⟨rfl, rfl⟩, h258⟩ := h258
                rcases h258 with h260 | h261 | h262 | h263 | h264 | h265 | h266 | h267 | h268 | h269 | h270
                · obtain ⟨q272, k271⟩ := h260
                  exact absurd (by omega : False) id
                · obtain ⟨q274, k273⟩ := h261
                  exact absurd (by omega : False) id
                · obtain ⟨q276, k275⟩ := h262
                  exact absurd (by omega : False) id
                · obtain ⟨q278, k277⟩ := h263
                  exact absurd (by omega : False) id
                · obtain ⟨q280, k279⟩ := h264
                  exact absurd (by omega : False) id
                · obtain ⟨q282, k281⟩ := h265
                  exact absurd (by omega : False) id
                · obtain ⟨q284, k283⟩ := h266
                  exact absurd (by omega : False) id
                · obtain ⟨q286, k285⟩ := h267
                  exact absurd (by omega : False) id
                · obtain ⟨q288, k287⟩ := h268
                  exact absurd (by omega : False) id
                · obtain ⟨q290, k289⟩ := h269
                  exact absurd (by omega : False) id
                · obtain ⟨q292, k291⟩ := h270
                  have q292 := q292.symm
                  subst q292
                  refine lv_iload_n hx hb dX7_part_42 rfl (lv_at hl 2 rfl) ?_
                  refine lv_icmp_ne (tgt := 95) hx hb dX7_part_43 (of_decide_eq_true rfl) (fun _ => ?_) (fun c => absurd c (of_decide_eq_true rfl))
                  exact by
                   have I293 : jI91 σ28 := ⟨(by omega), (by omega)⟩
                   have I294 : jI92 σ28 := (show (-1) ≤ (σ28 9 2).toInt by omega)
                   exact hret σ28 τ _ _ _ _ ⟨rfl, (fun i hi => ((f36 i hi).trans (f9 i hi))), (fun i hi => ((f37 i hi).trans (f10 i hi))), (fun i hi => ((f38 i hi).trans (f11 i hi))), I49, I293, I294, p39, trivial⟩ hP hS dX7_part_95
   exact by exact lp24 1000000 0 σ7 _ _ ls (by have h90 := jz_0; omega) (by have h90 := jz_0; omega) (by have h90 := jz_0; omega) (by have h90 := jz_0; omega) (by have h90 := jz_0; omega) (by have h90 := jz_0; omega) (fun _ _ => rfl) (fun _ _ => rfl) (fun _ _ => rfl)  I15 hP hS hl
set_option maxHeartbeats 4000000 in
set_option maxRecDepth 100000 in
theorem c_X7_grammar_p3_g (l : Launch) (D : va_G) (cI cL : ClassId) (ad zz : Nat → Nat) (hJ : jD ad) (n : Nat) (h_p4 : ∀ (σ : Nat → Nat → Int32) (τ : Nat → Nat → Int64) (a2 : Int32) (A2 : Int) (t2 : a2.toInt = A2) (hI9 : jI9 σ) (hI91 : jI91 σ) (hI92 : jI92 σ) (hI12 : jI12 σ) (hp0 : 0 ≤ A2 ∧ A2 ≤ 6) (hp1 : -A2 + 6 ≤ (((n) : Nat) : Int)), jMv l yX7_part cX7_part 5 none ({ frames := (12 + 8 * (n)), cells := 0, slots := 0, locals := (480 + 360 * (n)) }) D cI cL ad zz [.ref (ad 9), .int 4, .int a2] σ τ (fun σ' τ' => τ = τ' ∧ (∀ i : Nat, (i < 9 ∨ 9 < i) ∧ (i < 12 ∨ 13 < i) → σ' i = σ i) ∧ (∀ k : Nat, (k < 1 ∨ 1 < k) ∧ (k < 2 ∨ 2 < k) → σ' 9 k = σ 9 k) ∧ (∀ k : Nat, (k < 0 ∨ 0 < k) ∧ (k < 1 ∨ 1 < k) → σ' 12 k = σ 12 k) ∧ (jI9 σ') ∧ (jI91 σ') ∧ (jI92 σ') ∧ (jI12 σ') ∧ True)) (σ : Nat → Nat → Int32) (τ : Nat → Nat → Int64) (a2 : Int32) (A2 : Int) (t2 : a2.toInt = A2) (hI9 : jI9 σ) (hI91 : jI91 σ) (hI92 : jI92 σ) (hI12 : jI12 σ) (hp0 : 0 ≤ A2 ∧ A2 ≤ 6) (hp1 : -A2 + 6 ≤ (((n) : Nat) : Int)) : jMv l yX7_part cX7_part 5 none ({ frames := (13 + 8 * (n)), cells := 0, slots := 0, locals := (520 + 360 * (n)) }) D cI cL ad zz [.ref (ad 9), .int 3, .int a2] σ τ (fun σ' τ' => τ = τ' ∧ (∀ i : Nat, (i < 9 ∨ 9 < i) ∧ (i < 12 ∨ 13 < i) → σ' i = σ i) ∧ (∀ k : Nat, (k < 1 ∨ 1 < k) ∧ (k < 2 ∨ 2 < k) → σ' 9 k = σ 9 k) ∧ (∀ k : Nat, (k < 0 ∨ 0 < k) ∧ (k < 1 ∨ 1 < k) → σ' 12 k = σ 12 k) ∧ (jI9 σ') ∧ (jI91 σ') ∧ (jI92 σ') ∧ (jI12 σ') ∧ True) := by
  refine jMv.of hJ (by decide +kernel) rfl (Nat.le_of_ble_eq_true rfl) ?_
  intro p e s m args below meth c Q ls hC hret hl hP
  obtain ⟨hx, hb, hr, hml, hown, hts, hK, -, hlocks, hZ⟩ := hC
  have hown : s.vm.findClass RX7 = some m.cls := hown
  have hS : va_S (jA ad) s.heap s.heap [] := va_S.rf
  have hA : ∀ q, jA ad q → jA ad q := fun _ h => h
  have hl : lv_has ls 5 [(0, .ref (ad 9)), (1, .int 3), (2, .int a2)] := hl
  have g2 := jrg t2
  obtain ⟨i1, w2, w3⟩ : (0 ≤ (σ 9 0).toInt ∧ (σ 9 0).toInt ≤ 80) ∧ (∀ k : Nat, k < 80 → 0 ≤ (σ 10 k).toInt ∧ (σ 10 k).toInt ≤ 255) ∧ (∀ k : Nat, k < 8 → 0 ≤ (σ 11 k).toInt ∧ (σ 11 k).toInt ≤ 3) := id hI9
  obtain ⟨i4, i5⟩ : (0 ≤ (σ 9 1).toInt) ∧ ((σ 9 1).toInt ≤ (σ 9 0).toInt) := id hI91
  have i6 : (-1) ≤ (σ 9 2).toInt := hI92
  refine lv_iload_n hx hb dX7_part_0 rfl (lv_at hl 1 rfl) ?_
  refine lv_iconst (v := 5) hx hb dX7_part_1 (of_decide_eq_true rfl) ?_
  refine lv_icmp_lt (tgt := 11) hx hb dX7_part_2 (of_decide_eq_true rfl) (fun _ => ?_) (fun c => absurd (of_decide_eq_true rfl) c)
  refine lv_aload_n hx hb dX7_part_11 rfl (lv_at hl 0 rfl) ?_
  refine lv_iload_n hx hb dX7_part_12 rfl (lv_at hl 1 rfl) ?_
  refine lv_iconst (v := 1) hx hb dX7_part_13 (of_decide_eq_true rfl) ?_
  refine lv_iadd hx hb dX7_part_14 ?_
  refine jtopr (y := 4) (of_decide_eq_true rfl) ?_
  refine lv_iload_n hx hb dX7_part_15 rfl (lv_at hl 2 rfl) ?_
  exact by
   refine jcallVv (As := [.int 4, .int a2]) (rest := []) ⟨hx, hb, hml, hown, hts⟩ hK hP hA hS hZ (h_p4 σ τ a2 (A2) t2 hI9 hI91 hI92 hI12 (by omega) (by omega)) cw_RX7_82 (jc_9 cI cL ad σ τ) rfl ⟨by dsimp only; omega, by dsimp only; omega⟩ rfl rfl rfl hl.1 rfl (Nat.le_of_ble_eq_true rfl) dX7_part_16 ⟨Nat.zero_le _, Nat.zero_le _⟩ (fun σ7 τ7 H locs h7 hP hS => ?_)
   obtain ⟨rfl, f9, f10, f11, I12, I13, I14, I15, h7⟩ := h7
   obtain ⟨i17, w18, w19⟩ : (0 ≤ (σ7 9 0).toInt ∧ (σ7 9 0).toInt ≤ 80) ∧ (∀ k : Nat, k < 80 → 0 ≤ (σ7 10 k).toInt ∧ (σ7 10 k).toInt ≤ 255) ∧ (∀ k : Nat, k < 8 → 0 ≤ (σ7 11 k).toInt ∧ (σ7 11 k).toInt ≤ 3) := id I12
   obtain ⟨i20, i21⟩ : (0 ≤ (σ7 9 1).toInt) ∧ ((σ7 9 1).toInt ≤ (σ7 9 0).toInt) := id I13
   have i22 : (-1) ≤ (σ7 9 2).toInt := I14
   have z23 : (σ7 9 0).toInt = (σ 9 0).toInt := (congrArg Int32.toInt (show σ7 9 0 = (σ 9 0) from (f10 0 (of_decide_eq_true rfl))))
   refine lv_iconst (v := 0) hx hb dX7_part_19 (of_decide_eq_true rfl) ?_
   refine lv_istore_n (lv' := [(3, .int 0), (0, .ref (ad 9)), (1, .int 3), (2, .int a2)]) hx hb dX7_part_20 rfl hl (of_decide_eq_true rfl) rfl (fun ls hl => ?_)
   have lp24 : ∀ (n25 : Nat) (x26 : Int32) (σ28 : Nat → Nat → Int32) (H : Heap) (locs : List Loc) (ls : Array Slot), (-x26.toInt + 80 : Int) < n25 → 0 ≤ x26.toInt → x26.toInt ≤ 80 → 0 ≤ (σ28 9 1).toInt → (σ28 9 1).toInt ≤ (σ28 9 0).toInt → (-1) ≤ (σ28 9 2).toInt → (∀ i : Nat, (i < 9 ∨ 9 < i) ∧ (i < 12 ∨ 13 < i) → σ28 i = σ7 i) → (∀ k : Nat, (k < 1 ∨ 1 < k) ∧ (k < 2 ∨ 2 < k) → σ28 9 k = σ7 9 k) → (∀ k : Nat, (k < 0 ∨ 0 < k) ∧ (k < 1 ∨ 1 < k) → σ28 12 k = σ7 12 k) → jI12 σ28 → jH D cI cL ad σ28 τ H → va_S (jA ad) s.heap H locs → lv_has ls 5 [(3, .int x26), (0, .ref (ad 9)), (1, .int 3), (2, .int a2)] → W p l e ({ frames := (13 + 8 * (n)), cells := 0, slots := 0, locals := (520 + 360 * (n)) }) s m args below meth c H locs 0 0 Q (F0 m 21 ls []) := by
     intro n25
     induction n25 with
     | zero => intro x26 σ28 H locs ls h30 h31 h32 h33 h34 h35; exact absurd h30 (by omega)
     | succ n25 ihlp24 =>
       intro x26 σ28 H locs ls h30 h31 h32 h33 h34 h35 f36 f37 f38 p39 hP hS hl
       exact by
        have z40 : (σ28 9 0).toInt = (σ 9 0).toInt := (congrArg Int32.toInt (show σ28 9 0 = (σ 9 0) from ((f37 0 (of_decide_eq_true rfl)).trans (f10 0 (of_decide_eq_true rfl)))))
        refine lv_iload_n hx hb dX7_part_21 rfl (lv_at hl 0 rfl) ?_
        refine lv_bipush (v := 80) hx hb dX7_part_22 (of_decide_eq_true rfl) ?_
        refine lv_icmp_ge (tgt := 95) hx hb dX7_part_24 (of_decide_eq_true rfl) (fun c41 => ?_) (fun c41 => ?_)
        · have kc41 := jle c41 jz_80 rfl
          have I42 : jI9 σ28 := jI9_fr (f37 0 (of_decide_eq_true rfl)) (f36 10 (of_decide_eq_true rfl)) (f36 11 (of_decide_eq_true rfl)) I12
          have I43 : jI91 σ28 := ⟨(by omega), (by omega)⟩
          have I44 : jI92 σ28 := (show (-1) ≤ (σ28 9 2).toInt by omega)
          exact hret σ28 τ _ _ _ _ ⟨rfl, (fun i hi => ((f36 i hi).trans (f9 i hi))), (fun i hi => ((f37 i hi).trans (f10 i hi))), (fun i hi => ((f38 i hi).trans (f11 i hi))), I42, I43, I44, p39, trivial⟩ hP hS dX7_part_95
        · exact by
           have kc41 := jnle c41 jz_80 rfl
           refine lv_aload_n hx hb dX7_part_27 rfl (lv_at hl 1 rfl) ?_
           refine va_get (D := D) hx hb hts inlX7 hown hK hP 9 (jc_9 cI cL ad σ28 τ) rfl 2 (of_decide_eq_true rfl) (hts _ kw_14_6) (fun _ h9 => h9) rfl dX7_part_28 ?_
           refine lv_iconst (v := (-1)) hx hb dX7_part_31 (of_decide_eq_true rfl) ?_
           refine lv_icmp_ne (tgt := 95) hx hb dX7_part_32 (of_decide_eq_true rfl) (fun c45 => ?_) (fun c45 => ?_)
           · have kc45 := jne c45 rfl jz_m1
             have I46 : jI9 σ28 := jI9_fr (f37 0 (of_decide_eq_true rfl)) (f36 10 (of_decide_eq_true rfl)) (f36 11 (of_decide_eq_true rfl)) I12
             have I47 : jI91 σ28 := ⟨(by omega), (by omega)⟩
             have I48 : jI92 σ28 := (show (-1) ≤ (σ28 9 2).toInt by omega)
             exact hret σ28 τ _ _ _ _ ⟨rfl, (fun i hi => ((f36 i hi).trans (f9 i hi))), (fun i hi => ((f37 i hi).trans (f10 i hi))), (fun i hi => ((f38 i hi).trans (f11 i hi))), I46, I47, I48, p39, trivial⟩ hP hS dX7_part_95
           · exact by
              have kc45 := jeq c45 rfl jz_m1
              refine lv_aload_n hx hb dX7_part_35 rfl (lv_at hl 1 rfl) ?_
              have I49 : jI9 σ28 := jI9_fr (f37 0 (of_decide_eq_true rfl)) (f36 10 (of_decide_eq_true rfl)) (f36 11 (of_decide_eq_true rfl)) I12
              refine jcallV (As := []) (rest := []) ⟨hx, hb, hml, hown, hts⟩ hK hP hA hS hZ (c_X7_sign_9 l D cI cL ad zz hJ σ28 τ I49) cw_RX7_35 (jc_9 cI cL ad σ28 τ) rfl ⟨by dsimp only; omega, by dsimp only; omega⟩ rfl rfl rfl hl.1 rfl (Nat.le_of_ble_eq_true rfl) dX7_part_36 ⟨Nat.zero_le _, Nat.zero_le _⟩ (fun r51 σ50 τ50 H locs h50 hP hS => ?_)
              obtain ⟨⟨rfl, rfl⟩, h50⟩ := h50
              rcases h50 with h52 | h53
              · obtain ⟨q56, k54, k55⟩ := h52
                have q57 : r51 = (σ 10 (σ28 9 1).toNatClampNeg) := q56.trans (by rw [f36 10 (of_decide_eq_true rfl), f9 10 (of_decide_eq_true rfl)])
                have q57e : (σ28 10 (σ28 9 1).toNatClampNeg).toInt = (σ 10 (σ28 9 1).toNatClampNeg).toInt := by rw [← q56, ← q57]
                exact by
                 have q57 := q57.symm
                 subst q57
                 refine jcallS (As := [.int (σ 10 (σ28 9 1).toNatClampNeg)]) (rest := []) ⟨hx, hb, hml, hown, hts⟩ hK hP hA hS hZ (c_X7_levelOf l D cI cL ad zz hJ σ28 τ (σ 10 (σ28 9 1).toNatClampNeg) ((σ 10 (σ28 9 1).toNatClampNeg).toInt) rfl) cw_RX7_98 ⟨by dsimp only; omega, by dsimp only; omega⟩ rfl rfl rfl hl.1 rfl (Nat.le_of_ble_eq_true rfl) dX7_part_39 ⟨Nat.zero_le _, Nat.zero_le _⟩ (fun r59 σ58 τ58 H locs h58 hP hS => ?_)
                 obtain ⟨⟨rfl, rfl⟩, h58⟩ := h58
                 rcases h58 with h60 | h61 | h62 | h63 | h64 | h65 | h66 | h67 | h68 | h69 | h70
                 · obtain ⟨q72, k71⟩ := h60
                   have q72 := q72.symm
                   subst q72
                   refine lv_iload_n hx hb dX7_part_42 rfl (lv_at hl 2 rfl) ?_
                   refine lv_icmp_ne (tgt := 95) hx hb dX7_part_43 (of_decide_eq_true rfl) (fun _ => ?_) (fun c => absurd c (of_decide_eq_true rfl))
                   exact by
                    have I73 : jI91 σ28 := ⟨(by omega), (by omega)⟩
                    have I74 : jI92 σ28 := (show (-1) ≤ (σ28 9 2).toInt by omega)
                    exact hret σ28 τ _ _ _ _ ⟨rfl, (fun i hi => ((f36 i hi).trans (f9 i hi))), (fun i hi => ((f37 i hi).trans (f10 i hi))), (fun i hi => ((f38 i hi).trans (f11 i hi))), I49, I73, I74, p39, trivial⟩ hP hS dX7_part_95
                 · obtain ⟨q76, k75⟩ := h61
                   have q76 := q76.symm
                   subst q76
                   refine lv_iload_n hx hb dX7_part_42 rfl (lv_at hl 2 rfl) ?_
                   refine lv_icmp_ne (tgt := 95) hx hb dX7_part_43 (of_decide_eq_true rfl) (fun _ => ?_) (fun c => absurd c (of_decide_eq_true rfl))
                   have I77 : jI91 σ28 := ⟨(by omega), (by omega)⟩
                   exact by
                    have I78 : jI92 σ28 := (show (-1) ≤ (σ28 9 2).toInt by omega)
                    exact hret σ28 τ _ _ _ _ ⟨rfl, (fun i hi => ((f36 i hi).trans (f9 i hi))), (fun i hi => ((f37 i hi).trans (f10 i hi))), (fun i hi => ((f38 i hi).trans (f11 i hi))), I49, I77, I78, p39, trivial⟩ hP hS dX7_part_95
                 · obtain ⟨q80, k79⟩ := h62
                   have q80 := q80.symm
                   subst q80
                   refine lv_iload_n hx hb dX7_part_42 rfl (lv_at hl 2 rfl) ?_
                   refine lv_icmp_ne (tgt := 95) hx hb dX7_part_43 (of_decide_eq_true rfl) (fun _ => ?_) (fun c => absurd c (of_decide_eq_true rfl))
                   have I81 : jI91 σ28 := ⟨(by omega), (by omega)⟩
                   have I82 : jI92 σ28 := (show (-1) ≤ (σ28 9 2).toInt by omega)
                   exact hret σ28 τ _ _ _ _ ⟨rfl, (fun i hi => ((f36 i hi).trans (f9 i hi))), (fun i hi => ((f37 i hi).trans (f10 i hi))), (fun i hi => ((f38 i hi).trans (f11 i hi))), I49, I81, I82, p39, trivial⟩ hP hS dX7_part_95
                 · exact by
                    obtain ⟨q84, k83⟩ := h63
                    have q84 := q84.symm
                    subst q84
                    refine lv_iload_n hx hb dX7_part_42 rfl (lv_at hl 2 rfl) ?_
                    refine lv_icmp_ne (tgt := 95) hx hb dX7_part_43 (of_decide_eq_true rfl) (fun _ => ?_) (fun c => absurd c (of_decide_eq_true rfl))
                    have I85 : jI91 σ28 := ⟨(by omega), (by omega)⟩
                    have I86 : jI92 σ28 := (show (-1) ≤ (σ28 9 2).toInt by omega)
                    exact hret σ28 τ _ _ _ _ ⟨rfl, (fun i hi => ((f36 i hi).trans (f9 i hi))), (fun i hi => ((f37 i hi).trans (f10 i hi))), (fun i hi => ((f38 i hi).trans (f11 i hi))), I49, I85, I86, p39, trivial⟩ hP hS dX7_part_95
                 · obtain ⟨q88, k87⟩ := h64
                   exact by
                    have q88 := q88.symm
                    subst q88
                    refine lv_iload_n hx hb dX7_part_42 rfl (lv_at hl 2 rfl) ?_
                    refine lv_icmp_ne (tgt := 95) hx hb dX7_part_43 (of_decide_eq_true rfl) (fun _ => ?_) (fun c => absurd c (of_decide_eq_true rfl))
                    have I89 : jI91 σ28 := ⟨(by omega), (by omega)⟩
                    have I90 : jI92 σ28 := (show (-1) ≤ (σ28 9 2).toInt by omega)
                    exact hret σ28 τ _ _ _ _ ⟨rfl, (fun i hi => ((f36 i hi).trans (f9 i hi))), (fun i hi => ((f37 i hi).trans (f10 i hi))), (fun i hi => ((f38 i hi).trans (f11 i hi))), I49, I89, I90, p39, trivial⟩ hP hS dX7_part_95
                 · obtain ⟨q92, k91⟩ := h65
                   have q92 := q92.symm
                   exact by
                    subst q92
                    refine lv_iload_n hx hb dX7_part_42 rfl (lv_at hl 2 rfl) ?_
                    refine lv_icmp_ne (tgt := 95) hx hb dX7_part_43 (of_decide_eq_true rfl) (fun c => absurd (of_decide_eq_true rfl) c) (fun _ => ?_)
                    refine lv_aload_n hx hb dX7_part_46 rfl (lv_at hl 1 rfl) ?_
                    refine jcallV (As := []) (rest := []) ⟨hx, hb, hml, hown, hts⟩ hK hP hA hS hZ (c_X7_sign_9 l D cI cL ad zz hJ σ28 τ I49) cw_RX7_35 (jc_9 cI cL ad σ28 τ) rfl ⟨by dsimp only; omega, by dsimp only; omega⟩ rfl rfl rfl hl.1 rfl (Nat.le_of_ble_eq_true rfl) dX7_part_47 ⟨Nat.zero_le _, Nat.zero_le _⟩ (fun r94 σ93 τ93 H locs h93 hP hS => ?_)
                    obtain ⟨⟨rfl, rfl⟩, h93⟩ := h93
                    rcases h93 with h95 | h96
                    · obtain ⟨q99, k97, k98⟩ := h95
                      have q100 : r94 = (σ 10 (σ28 9 1).toNatClampNeg) := q99.trans (by rw [f36 10 (of_decide_eq_true rfl), f9 10 (of_decide_eq_true rfl)])
                      exact by
                       have q100e : (σ28 10 (σ28 9 1).toNatClampNeg).toInt = (σ 10 (σ28 9 1).toNatClampNeg).toInt := by rw [← q99, ← q100]
                       have q100 := q100.symm
                       subst q100
                       refine lv_istore (lv' := [(4, .int (σ 10 (σ28 9 1).toNatClampNeg)), (3, .int x26), (0, .ref (ad 9)), (1, .int 3), (2, .int a2)]) hx hb dX7_part_50 hl (of_decide_eq_true rfl) rfl (fun ls hl => ?_)
                       refine lv_aload_n hx hb dX7_part_52 rfl (lv_at hl 2 rfl) ?_
                       refine lv_dup hx hb dX7_part_53 rfl ?_
                       refine va_get (D := D) hx hb hts inlX7 hown hK hP 9 (jc_9 cI cL ad σ28 τ) rfl 1 (of_decide_eq_true rfl) (hts _ kw_13_17) (fun _ h9 => h9) rfl dX7_part_54 ?_
                       refine lv_iconst (v := 1) hx hb dX7_part_57 (of_decide_eq_true rfl) ?_
                       have g101 := jrg (rfl : (σ28 9 1).toInt = (σ28 9 1).toInt)
                       refine lv_iadd hx hb dX7_part_58 ?_
                       refine lv_topi (fun x102 ex102 => ?_)
                       exact by
                        have tx102 : x102.toInt = (σ28 9 1).toInt + 1 := (jadd ex102 rfl jz_1 (by omega) (by omega)).trans (by omega)
                        refine jput (ty := .int) hx hb hts inlX7 tyX7 tyX7_ok nmX7 hown hK hP hJ hA hS (jc_9 cI cL ad σ28 τ) rfl (k := 1) (of_decide_eq_true rfl) (Nat.le_of_ble_eq_true rfl) (jp_9_1 cI cL ad σ28 τ x102) (hts _ kw_13_17) (fun _ h9 => h9) rfl (by decide +kernel) rfl rfl dX7_part_59 (fun σ103 H locs eσ103 hP hS => ?_)
                        refine lv_aload_n hx hb dX7_part_62 rfl (lv_at hl 2 rfl) ?_
                        refine lv_iload_n hx hb dX7_part_63 rfl (lv_at hl 3 rfl) ?_
                        refine lv_iconst (v := 1) hx hb dX7_part_64 (of_decide_eq_true rfl) ?_
                        refine lv_iadd hx hb dX7_part_65 ?_
                        refine jtopr (y := 4) (of_decide_eq_true rfl) ?_
                        refine lv_iload_n hx hb dX7_part_66 rfl (lv_at hl 4 rfl) ?_
                        have I104 : jI9 σ103 := jI9_fr (jkp 0 eσ103 (of_decide_eq_true rfl)) (jnp 10 eσ103 (of_decide_eq_true rfl)) (jnp 11 eσ103 (of_decide_eq_true rfl)) I49
                        have z105 : (σ103 9 1).toInt = (σ28 9 1).toInt + 1 := ((congrArg Int32.toInt (show σ103 9 1 = x102 from (jsp eσ103))).trans tx102)
                        have z106 : (σ103 9 0).toInt = (σ 9 0).toInt := (congrArg Int32.toInt (show σ103 9 0 = (σ 9 0) from ((jkp 0 eσ103 (of_decide_eq_true rfl)).trans ((f37 0 (of_decide_eq_true rfl)).trans (f10 0 (of_decide_eq_true rfl))))))
                        exact by
                         have I107 : jI91 σ103 := ⟨(by omega), (by omega)⟩
                         have z108 : (σ103 9 2).toInt = (σ28 9 2).toInt := (congrArg Int32.toInt (show σ103 9 2 = (σ28 9 2) from (jkp 2 eσ103 (of_decide_eq_true rfl))))
                         have I109 : jI92 σ103 := (show (-1) ≤ (σ103 9 2).toInt by omega)
                         have I110 : jI12 σ103 := jI12_fr (congrFun (jnp 12 eσ103 (of_decide_eq_true rfl)) 0) (jnp 13 eσ103 (of_decide_eq_true rfl)) p39
                         refine jcallVv (As := [.int 4, .int a2]) (rest := []) ⟨hx, hb, hml, hown, hts⟩ hK hP hA hS hZ (h_p4 σ103 τ a2 (A2) t2 I104 I107 I109 I110 (by omega) (by omega)) cw_RX7_82 (jc_9 cI cL ad σ103 τ) rfl ⟨by dsimp only; omega, by dsimp only; omega⟩ rfl rfl rfl hl.1 rfl (Nat.le_of_ble_eq_true rfl) dX7_part_67 ⟨Nat.zero_le _, Nat.zero_le _⟩ (fun σ111 τ111 H locs h111 hP hS => ?_)
                         obtain ⟨rfl, f113, f114, f115, I116, I117, I118, I119, h111⟩ := h111
                         obtain ⟨i121, w122, w123⟩ : (0 ≤ (σ111 9 0).toInt ∧ (σ111 9 0).toInt ≤ 80) ∧ (∀ k : Nat, k < 80 → 0 ≤ (σ111 10 k).toInt ∧ (σ111 10 k).toInt ≤ 255) ∧ (∀ k : Nat, k < 8 → 0 ≤ (σ111 11 k).toInt ∧ (σ111 11 k).toInt ≤ 3) := id I116
                         obtain ⟨i124, i125⟩ : (0 ≤ (σ111 9 1).toInt) ∧ ((σ111 9 1).toInt ≤ (σ111 9 0).toInt) := id I117
                         have i126 : (-1) ≤ (σ111 9 2).toInt := I118
                         exact by
                          have z127 : (σ111 9 0).toInt = (σ 9 0).toInt := (congrArg Int32.toInt (show σ111 9 0 = (σ 9 0) from ((f114 0 (of_decide_eq_true rfl)).trans ((jkp 0 eσ103 (of_decide_eq_true rfl)).trans ((f37 0 (of_decide_eq_true rfl)).trans (f10 0 (of_decide_eq_true rfl)))))))
                          refine lv_aload_n hx hb dX7_part_70 rfl (lv_at hl 2 rfl) ?_
                          refine va_get (D := D) hx hb hts inlX7 hown hK hP 9 (jc_9 cI cL ad σ111 τ) rfl 5 (of_decide_eq_true rfl) (hts _ kw_3_23) (fun _ h9 => h9) rfl dX7_part_71 ?_
                          refine lv_sipush (v := 20000) hx hb dX7_part_74 (of_decide_eq_true rfl) ?_
                          refine lv_iload hx hb dX7_part_77 (lv_at hl 0 rfl) ?_
                          have g128 := jrg (rfl : (σ 10 (σ28 9 1).toNatClampNeg).toInt = (σ 10 (σ28 9 1).toNatClampNeg).toInt)
                          refine lv_iadd hx hb dX7_part_79 ?_
                          refine lv_topi (fun x129 ex129 => ?_)
                          have tx129 : x129.toInt = (σ 10 (σ28 9 1).toNatClampNeg).toInt + 20000 := (jadd ex129 jz_20000 rfl (by omega) (by omega)).trans (by omega)
                          exact by
                           refine jcallVv (As := [.int x129]) (rest := []) ⟨hx, hb, hml, hown, hts⟩ hK hP hA hS hZ (c_X10_add_12 l D cI cL ad zz hJ σ111 τ x129 ((σ 10 (σ28 9 1).toNatClampNeg).toInt + 20000) tx129 I119 (by omega)) cw_RX7_86 (jc_12 cI cL ad σ111 τ) rfl ⟨by dsimp only; omega, by dsimp only; omega⟩ rfl rfl rfl hl.1 rfl (Nat.le_of_ble_eq_true rfl) dX7_part_80 ⟨Nat.zero_le _, Nat.zero_le _⟩ (fun σ130 τ130 H locs h130 hP hS => ?_)
                           obtain ⟨rfl, f132, f133, I134, h130⟩ := h130
                           refine lv_iload_n hx hb dX7_part_83 rfl (lv_at hl 3 rfl) ?_
                           refine lv_iconst (v := 2) hx hb dX7_part_84 (of_decide_eq_true rfl) ?_
                           refine lv_icmp_ne (tgt := 89) hx hb dX7_part_85 (of_decide_eq_true rfl) (fun _ => ?_) (fun c => absurd c (of_decide_eq_true rfl))
                           obtain ⟨x136, ex136⟩ : ∃ y : Int32, y = x26 + 1 := ⟨_, rfl⟩
                           have tx136 : x136.toInt = x26.toInt + 1 := (jadd ex136 rfl jz_1 (by omega) (by omega)).trans (by omega)
                           refine lv_iinc (v := x136) (lv' := [(3, .int x136), (4, .int (σ 10 (σ28 9 1).toNatClampNeg)), (0, .ref (ad 9)), (1, .int 3), (2, .int a2)]) hx hb dX7_part_89 hl (k := 1) rfl (by rw [ex136]; rfl) (of_decide_eq_true rfl) rfl (fun ls hl => ?_)
                           refine lv_goto (tgt := 21) hx hb dX7_part_92 (of_decide_eq_true rfl) ?_
                           exact by
                            have z137 : (σ130 9 1).toInt = (σ111 9 1).toInt := (congrArg Int32.toInt (show σ130 9 1 = (σ111 9 1) from (congrFun (f132 9 (of_decide_eq_true rfl)) 1)))
                            have z138 : (σ130 9 0).toInt = (σ 9 0).toInt := (congrArg Int32.toInt (show σ130 9 0 = (σ 9 0) from ((congrFun (f132 9 (of_decide_eq_true rfl)) 0).trans ((f114 0 (of_decide_eq_true rfl)).trans ((jkp 0 eσ103 (of_decide_eq_true rfl)).trans ((f37 0 (of_decide_eq_true rfl)).trans (f10 0 (of_decide_eq_true rfl))))))))
                            have z139 : (σ130 9 2).toInt = (σ111 9 2).toInt := (congrArg Int32.toInt (show σ130 9 2 = (σ111 9 2) from (congrFun (f132 9 (of_decide_eq_true rfl)) 2)))
                            exact by exact ihlp24 x136 σ130 _ _ ls (by have h90 := tx136; omega) (by have h90 := tx136; omega) (by have h90 := tx136; omega) (by have h90 := tx136; omega) (by have h90 := tx136; omega) (by have h90 := tx136; omega) (fun i hi => ((f132 i (imp_58 i hi)).trans ((f113 i hi).trans ((jnp i eσ103 (imp_60 i hi)).trans (f36 i hi))))) (fun i hi => ((congrFun (f132 9 (of_decide_eq_true rfl)) i).trans ((f114 i hi).trans ((jkp i eσ103 (imp_39 i hi)).trans (f37 i hi))))) (fun i hi => ((f133 i hi).trans ((f115 i hi).trans ((congrFun (jnp 12 eσ103 (of_decide_eq_true rfl)) i).trans (f38 i hi)))))  I134 hP hS (lv_sub hl [0, 2, 3, 4] rfl)
                    · obtain ⟨q141, k140⟩ := h96
                      exact absurd (by omega : False) id
                 · obtain ⟨q143, k142⟩ := h66
                   have q143 := q143.symm
                   subst q143
                   refine lv_iload_n hx hb dX7_part_42 rfl (lv_at hl 2 rfl) ?_
                   refine lv_icmp_ne (tgt := 95) hx hb dX7_part_43 (of_decide_eq_true rfl) (fun c => absurd (of_decide_eq_true rfl) c) (fun _ => ?_)
                   refine lv_aload_n hx hb dX7_part_46 rfl (lv_at hl 1 rfl) ?_
                   refine jcallV (As := []) (rest := []) ⟨hx, hb, hml, hown, hts⟩ hK hP hA hS hZ (c_X7_sign_9 l D cI cL ad zz hJ σ28 τ I49) cw_RX7_35 (jc_9 cI cL ad σ28 τ) rfl ⟨by dsimp only; omega, by dsimp only; omega⟩ rfl rfl rfl hl.1 rfl (Nat.le_of_ble_eq_true rfl) dX7_part_47 ⟨Nat.zero_le _, Nat.zero_le _⟩ (fun r145 σ144 τ144 H locs h144 hP hS => ?_)
                   obtain ⟨⟨rfl, rfl⟩, h144⟩ := h144
                   rcases h144 with h146 | h147
                   · obtain ⟨q150, k148, k149⟩ := h146
                     exact by
                      have q151 : r145 = (σ 10 (σ28 9 1).toNatClampNeg) := q150.trans (by rw [f36 10 (of_decide_eq_true rfl), f9 10 (of_decide_eq_true rfl)])
                      have q151e : (σ28 10 (σ28 9 1).toNatClampNeg).toInt = (σ 10 (σ28 9 1).toNatClampNeg).toInt := by rw [← q150, ← q151]
                      have q151 := q151.symm
                      subst q151
                      refine lv_istore (lv' := [(4, .int (σ 10 (σ28 9 1).toNatClampNeg)), (3, .int x26), (0, .ref (ad 9)), (1, .int 3), (2, .int a2)]) hx hb dX7_part_50 hl (of_decide_eq_true rfl) rfl (fun ls hl => ?_)
                      refine lv_aload_n hx hb dX7_part_52 rfl (lv_at hl 2 rfl) ?_
                      refine lv_dup hx hb dX7_part_53 rfl ?_
                      refine va_get (D := D) hx hb hts inlX7 hown hK hP 9 (jc_9 cI cL ad σ28 τ) rfl 1 (of_decide_eq_true rfl) (hts _ kw_13_17) (fun _ h9 => h9) rfl dX7_part_54 ?_
                      refine lv_iconst (v := 1) hx hb dX7_part_57 (of_decide_eq_true rfl) ?_
                      have g152 := jrg (rfl : (σ28 9 1).toInt = (σ28 9 1).toInt)
                      refine lv_iadd hx hb dX7_part_58 ?_
                      refine lv_topi (fun x153 ex153 => ?_)
                      exact by
                       have tx153 : x153.toInt = (σ28 9 1).toInt + 1 := (jadd ex153 rfl jz_1 (by omega) (by omega)).trans (by omega)
                       refine jput (ty := .int) hx hb hts inlX7 tyX7 tyX7_ok nmX7 hown hK hP hJ hA hS (jc_9 cI cL ad σ28 τ) rfl (k := 1) (of_decide_eq_true rfl) (Nat.le_of_ble_eq_true rfl) (jp_9_1 cI cL ad σ28 τ x153) (hts _ kw_13_17) (fun _ h9 => h9) rfl (by decide +kernel) rfl rfl dX7_part_59 (fun σ154 H locs eσ154 hP hS => ?_)
                       refine lv_aload_n hx hb dX7_part_62 rfl (lv_at hl 2 rfl) ?_
                       refine lv_iload_n hx hb dX7_part_63 rfl (lv_at hl 3 rfl) ?_
                       refine lv_iconst (v := 1) hx hb dX7_part_64 (of_decide_eq_true rfl) ?_
                       refine lv_iadd hx hb dX7_part_65 ?_
                       refine jtopr (y := 4) (of_decide_eq_true rfl) ?_
                       refine lv_iload_n hx hb dX7_part_66 rfl (lv_at hl 4 rfl) ?_
                       have I155 : jI9 σ154 := jI9_fr (jkp 0 eσ154 (of_decide_eq_true rfl)) (jnp 10 eσ154 (of_decide_eq_true rfl)) (jnp 11 eσ154 (of_decide_eq_true rfl)) I49
                       have z156 : (σ154 9 1).toInt = (σ28 9 1).toInt + 1 := ((congrArg Int32.toInt (show σ154 9 1 = x153 from (jsp eσ154))).trans tx153)
                       have z157 : (σ154 9 0).toInt = (σ 9 0).toInt := (congrArg Int32.toInt (show σ154 9 0 = (σ 9 0) from ((jkp 0 eσ154 (of_decide_eq_true rfl)).trans ((f37 0 (of_decide_eq_true rfl)).trans (f10 0 (of_decide_eq_true rfl))))))
                       exact by
                        have I158 : jI91 σ154 := ⟨(by omega), (by omega)⟩
                        have z159 : (σ154 9 2).toInt = (σ28 9 2).toInt := (congrArg Int32.toInt (show σ154 9 2 = (σ28 9 2) from (jkp 2 eσ154 (of_decide_eq_true rfl))))
                        have I160 : jI92 σ154 := (show (-1) ≤ (σ154 9 2).toInt by omega)
                        have I161 : jI12 σ154 := jI12_fr (congrFun (jnp 12 eσ154 (of_decide_eq_true rfl)) 0) (jnp 13 eσ154 (of_decide_eq_true rfl)) p39
                        refine jcallVv (As := [.int 4, .int a2]) (rest := []) ⟨hx, hb, hml, hown, hts⟩ hK hP hA hS hZ (h_p4 σ154 τ a2 (A2) t2 I155 I158 I160 I161 (by omega) (by omega)) cw_RX7_82 (jc_9 cI cL ad σ154 τ) rfl ⟨by dsimp only; omega, by dsimp only; omega⟩ rfl rfl rfl hl.1 rfl (Nat.le_of_ble_eq_true rfl) dX7_part_67 ⟨Nat.zero_le _, Nat.zero_le _⟩ (fun σ162 τ162 H locs h162 hP hS => ?_)
                        obtain ⟨rfl, f164, f165, f166, I167, I168, I169, I170, h162⟩ := h162
                        obtain ⟨i172, w173, w174⟩ : (0 ≤ (σ162 9 0).toInt ∧ (σ162 9 0).toInt ≤ 80) ∧ (∀ k : Nat, k < 80 → 0 ≤ (σ162 10 k).toInt ∧ (σ162 10 k).toInt ≤ 255) ∧ (∀ k : Nat, k < 8 → 0 ≤ (σ162 11 k).toInt ∧ (σ162 11 k).toInt ≤ 3) := id I167
                        obtain ⟨i175, i176⟩ : (0 ≤ (σ162 9 1).toInt) ∧ ((σ162 9 1).toInt ≤ (σ162 9 0).toInt) := id I168
                        have i177 : (-1) ≤ (σ162 9 2).toInt := I169
                        exact by
                         have z178 : (σ162 9 0).toInt = (σ 9 0).toInt := (congrArg Int32.toInt (show σ162 9 0 = (σ 9 0) from ((f165 0 (of_decide_eq_true rfl)).trans ((jkp 0 eσ154 (of_decide_eq_true rfl)).trans ((f37 0 (of_decide_eq_true rfl)).trans (f10 0 (of_decide_eq_true rfl)))))))
                         refine lv_aload_n hx hb dX7_part_70 rfl (lv_at hl 2 rfl) ?_
                         refine va_get (D := D) hx hb hts inlX7 hown hK hP 9 (jc_9 cI cL ad σ162 τ) rfl 5 (of_decide_eq_true rfl) (hts _ kw_3_23) (fun _ h9 => h9) rfl dX7_part_71 ?_
                         refine lv_sipush (v := 20000) hx hb dX7_part_74 (of_decide_eq_true rfl) ?_
                         refine lv_iload hx hb dX7_part_77 (lv_at hl 0 rfl) ?_
                         have g179 := jrg (rfl : (σ 10 (σ28 9 1).toNatClampNeg).toInt = (σ 10 (σ28 9 1).toNatClampNeg).toInt)
                         refine lv_iadd hx hb dX7_part_79 ?_
                         refine lv_topi (fun x180 ex180 => ?_)
                         have tx180 : x180.toInt = (σ 10 (σ28 9 1).toNatClampNeg).toInt + 20000 := (jadd ex180 jz_20000 rfl (by omega) (by omega)).trans (by omega)
                         exact by
                          refine jcallVv (As := [.int x180]) (rest := []) ⟨hx, hb, hml, hown, hts⟩ hK hP hA hS hZ (c_X10_add_12 l D cI cL ad zz hJ σ162 τ x180 ((σ 10 (σ28 9 1).toNatClampNeg).toInt + 20000) tx180 I170 (by omega)) cw_RX7_86 (jc_12 cI cL ad σ162 τ) rfl ⟨by dsimp only; omega, by dsimp only; omega⟩ rfl rfl rfl hl.1 rfl (Nat.le_of_ble_eq_true rfl) dX7_part_80 ⟨Nat.zero_le _, Nat.zero_le _⟩ (fun σ181 τ181 H locs h181 hP hS => ?_)
                          obtain ⟨rfl, f183, f184, I185, h181⟩ := h181
                          refine lv_iload_n hx hb dX7_part_83 rfl (lv_at hl 3 rfl) ?_
                          refine lv_iconst (v := 2) hx hb dX7_part_84 (of_decide_eq_true rfl) ?_
                          refine lv_icmp_ne (tgt := 89) hx hb dX7_part_85 (of_decide_eq_true rfl) (fun _ => ?_) (fun c => absurd c (of_decide_eq_true rfl))
                          obtain ⟨x187, ex187⟩ : ∃ y : Int32, y = x26 + 1 := ⟨_, rfl⟩
                          have tx187 : x187.toInt = x26.toInt + 1 := (jadd ex187 rfl jz_1 (by omega) (by omega)).trans (by omega)
                          refine lv_iinc (v := x187) (lv' := [(3, .int x187), (4, .int (σ 10 (σ28 9 1).toNatClampNeg)), (0, .ref (ad 9)), (1, .int 3), (2, .int a2)]) hx hb dX7_part_89 hl (k := 1) rfl (by rw [ex187]; rfl) (of_decide_eq_true rfl) rfl (fun ls hl => ?_)
                          refine lv_goto (tgt := 21) hx hb dX7_part_92 (of_decide_eq_true rfl) ?_
                          exact by
                           have z188 : (σ181 9 1).toInt = (σ162 9 1).toInt := (congrArg Int32.toInt (show σ181 9 1 = (σ162 9 1) from (congrFun (f183 9 (of_decide_eq_true rfl)) 1)))
                           have z189 : (σ181 9 0).toInt = (σ 9 0).toInt := (congrArg Int32.toInt (show σ181 9 0 = (σ 9 0) from ((congrFun (f183 9 (of_decide_eq_true rfl)) 0).trans ((f165 0 (of_decide_eq_true rfl)).trans ((jkp 0 eσ154 (of_decide_eq_true rfl)).trans ((f37 0 (of_decide_eq_true rfl)).trans (f10 0 (of_decide_eq_true rfl))))))))
                           have z190 : (σ181 9 2).toInt = (σ162 9 2).toInt := (congrArg Int32.toInt (show σ181 9 2 = (σ162 9 2) from (congrFun (f183 9 (of_decide_eq_true rfl)) 2)))
                           exact by exact ihlp24 x187 σ181 _ _ ls (by have h90 := tx187; omega) (by have h90 := tx187; omega) (by have h90 := tx187; omega) (by have h90 := tx187; omega) (by have h90 := tx187; omega) (by have h90 := tx187; omega) (fun i hi => ((f183 i (imp_58 i hi)).trans ((f164 i hi).trans ((jnp i eσ154 (imp_60 i hi)).trans (f36 i hi))))) (fun i hi => ((congrFun (f183 9 (of_decide_eq_true rfl)) i).trans ((f165 i hi).trans ((jkp i eσ154 (imp_39 i hi)).trans (f37 i hi))))) (fun i hi => ((f184 i hi).trans ((f166 i hi).trans ((congrFun (jnp 12 eσ154 (of_decide_eq_true rfl)) i).trans (f38 i hi)))))  I185 hP hS (lv_sub hl [0, 2, 3, 4] rfl)
                   · obtain ⟨q192, k191⟩ := h147
                     exact absurd (by omega : False) id
                 · obtain ⟨q194, k193⟩ := h67
                   have q194 := q194.symm
                   subst q194
                   refine lv_iload_n hx hb dX7_part_42 rfl (lv_at hl 2 rfl) ?_
                   refine lv_icmp_ne (tgt := 95) hx hb dX7_part_43 (of_decide_eq_true rfl) (fun _ => ?_) (fun c => absurd c (of_decide_eq_true rfl))
                   exact by
                    have I195 : jI91 σ28 := ⟨(by omega), (by omega)⟩
                    have I196 : jI92 σ28 := (show (-1) ≤ (σ28 9 2).toInt by omega)
                    exact hret σ28 τ _ _ _ _ ⟨rfl, (fun i hi => ((f36 i hi).trans (f9 i hi))), (fun i hi => ((f37 i hi).trans (f10 i hi))), (fun i hi => ((f38 i hi).trans (f11 i hi))), I49, I195, I196, p39, trivial⟩ hP hS dX7_part_95
                 · obtain ⟨q198, k197⟩ := h68
                   have q198 := q198.symm
                   subst q198
                   refine lv_iload_n hx hb dX7_part_42 rfl (lv_at hl 2 rfl) ?_
                   refine lv_icmp_ne (tgt := 95) hx hb dX7_part_43 (of_decide_eq_true rfl) (fun _ => ?_) (fun c => absurd c (of_decide_eq_true rfl))
                   have I199 : jI91 σ28 := ⟨(by omega), (by omega)⟩
                   exact by
                    have I200 : jI92 σ28 := (show (-1) ≤ (σ28 9 2).toInt by omega)
                    exact hret σ28 τ _ _ _ _ ⟨rfl, (fun i hi => ((f36 i hi).trans (f9 i hi))), (fun i hi => ((f37 i hi).trans (f10 i hi))), (fun i hi => ((f38 i hi).trans (f11 i hi))), I49, I199, I200, p39, trivial⟩ hP hS dX7_part_95
                 · obtain ⟨q202, k201⟩ := h69
                   have q202 := q202.symm
                   subst q202
                   refine lv_iload_n hx hb dX7_part_42 rfl (lv_at hl 2 rfl) ?_
                   refine lv_icmp_ne (tgt := 95) hx hb dX7_part_43 (of_decide_eq_true rfl) (fun _ => ?_) (fun c => absurd c (of_decide_eq_true rfl))
                   have I203 : jI91 σ28 := ⟨(by omega), (by omega)⟩
                   have I204 : jI92 σ28 := (show (-1) ≤ (σ28 9 2).toInt by omega)
                   exact hret σ28 τ _ _ _ _ ⟨rfl, (fun i hi => ((f36 i hi).trans (f9 i hi))), (fun i hi => ((f37 i hi).trans (f10 i hi))), (fun i hi => ((f38 i hi).trans (f11 i hi))), I49, I203, I204, p39, trivial⟩ hP hS dX7_part_95
                 · exact by
                    obtain ⟨q206, k205⟩ := h70
                    have q206 := q206.symm
                    subst q206
                    refine lv_iload_n hx hb dX7_part_42 rfl (lv_at hl 2 rfl) ?_
                    refine lv_icmp_ne (tgt := 95) hx hb dX7_part_43 (of_decide_eq_true rfl) (fun _ => ?_) (fun c => absurd c (of_decide_eq_true rfl))
                    have I207 : jI91 σ28 := ⟨(by omega), (by omega)⟩
                    have I208 : jI92 σ28 := (show (-1) ≤ (σ28 9 2).toInt by omega)
                    exact hret σ28 τ _ _ _ _ ⟨rfl, (fun i hi => ((f36 i hi).trans (f9 i hi))), (fun i hi => ((f37 i hi).trans (f10 i hi))), (fun i hi => ((f38 i hi).trans (f11 i hi))), I49, I207, I208, p39, trivial⟩ hP hS dX7_part_95
              · obtain ⟨q210, k209⟩ := h53
                exact by
                 have q210 := q210.symm
                 subst q210
                 refine jcallS (As := [.int (-1)]) (rest := []) ⟨hx, hb, hml, hown, hts⟩ hK hP hA hS hZ (c_X7_levelOf l D cI cL ad zz hJ σ28 τ (-1) ((-1)) jz_m1) cw_RX7_98 ⟨by dsimp only; omega, by dsimp only; omega⟩ rfl rfl rfl hl.1 rfl (Nat.le_of_ble_eq_true rfl) dX7_part_39 ⟨Nat.zero_le _, Nat.zero_le _⟩ (fun r212 σ211 τ211 H locs h211 hP hS => ?_)
                 obtain ⟨⟨rfl, rfl⟩, h211⟩ := h211
                 rcases h211 with h213 | h214 | h215 | h216 | h217 | h218 | h219 | h220 | h221 | h222 | h223
                 · obtain ⟨q225, k224⟩ := h213
                   exact absurd (by omega : False) id
                 · obtain ⟨q227, k226⟩ := h214
                   exact absurd (by omega : False) id
                 · obtain ⟨q229, k228⟩ := h215
                   exact absurd (by omega : False) id
                 · obtain ⟨q231, k230⟩ := h216
                   exact absurd (by omega : False) id
                 · obtain ⟨q233, k232⟩ := h217
                   exact absurd (by omega : False) id
                 · obtain ⟨q235, k234⟩ := h218
                   exact absurd (by omega : False) id
                 · obtain ⟨q237, k236⟩ := h219
                   exact absurd (by omega : False) id
                 · obtain ⟨q239, k238⟩ := h220
                   exact absurd (by omega : False) id
                 · obtain ⟨q241, k240⟩ := h221
                   exact absurd (by omega : False) id
                 · obtain ⟨q243, k242⟩ := h222
                   exact absurd (by omega : False) id
                 · obtain ⟨q245, k244⟩ := h223
                   have q245 := q245.symm
                   subst q245
                   refine lv_iload_n hx hb dX7_part_42 rfl (lv_at hl 2 rfl) ?_
                   refine lv_icmp_ne (tgt := 95) hx hb dX7_part_43 (of_decide_eq_true rfl) (fun _ => ?_) (fun c => absurd c (of_decide_eq_true rfl))
                   exact by
                    have I246 : jI91 σ28 := ⟨(by omega), (by omega)⟩
                    have I247 : jI92 σ28 := (show (-1) ≤ (σ28 9 2).toInt by omega)
                    exact hret σ28 τ _ _ _ _ ⟨rfl, (fun i hi => ((f36 i hi).trans (f9 i hi))), (fun i hi => ((f37 i hi).trans (f10 i hi))), (fun i hi => ((f38 i hi).trans (f11 i hi))), I49, I246, I247, p39, trivial⟩ hP hS dX7_part_95
   exact by exact lp24 1000000 0 σ7 _ _ ls (by have h90 := jz_0; omega) (by have h90 := jz_0; omega) (by have h90 := jz_0; omega) (by have h90 := jz_0; omega) (by have h90 := jz_0; omega) (by have h90 := jz_0; omega) (fun _ _ => rfl) (fun _ _ => rfl) (fun _ _ => rfl)  I15 hP hS hl
set_option maxHeartbeats 4000000 in
set_option maxRecDepth 100000 in
theorem c_X7_grammar_p2_g (l : Launch) (D : va_G) (cI cL : ClassId) (ad zz : Nat → Nat) (hJ : jD ad) (n : Nat) (h_p3 : ∀ (σ : Nat → Nat → Int32) (τ : Nat → Nat → Int64) (a2 : Int32) (A2 : Int) (t2 : a2.toInt = A2) (hI9 : jI9 σ) (hI91 : jI91 σ) (hI92 : jI92 σ) (hI12 : jI12 σ) (hp0 : 0 ≤ A2 ∧ A2 ≤ 6) (hp1 : -A2 + 6 ≤ (((n) : Nat) : Int)), jMv l yX7_part cX7_part 5 none ({ frames := (13 + 8 * (n)), cells := 0, slots := 0, locals := (520 + 360 * (n)) }) D cI cL ad zz [.ref (ad 9), .int 3, .int a2] σ τ (fun σ' τ' => τ = τ' ∧ (∀ i : Nat, (i < 9 ∨ 9 < i) ∧ (i < 12 ∨ 13 < i) → σ' i = σ i) ∧ (∀ k : Nat, (k < 1 ∨ 1 < k) ∧ (k < 2 ∨ 2 < k) → σ' 9 k = σ 9 k) ∧ (∀ k : Nat, (k < 0 ∨ 0 < k) ∧ (k < 1 ∨ 1 < k) → σ' 12 k = σ 12 k) ∧ (jI9 σ') ∧ (jI91 σ') ∧ (jI92 σ') ∧ (jI12 σ') ∧ True)) (σ : Nat → Nat → Int32) (τ : Nat → Nat → Int64) (a2 : Int32) (A2 : Int) (t2 : a2.toInt = A2) (hI9 : jI9 σ) (hI91 : jI91 σ) (hI92 : jI92 σ) (hI12 : jI12 σ) (hp0 : 0 ≤ A2 ∧ A2 ≤ 6) (hp1 : -A2 + 6 ≤ (((n) : Nat) : Int)) : jMv l yX7_part cX7_part 5 none ({ frames := (14 + 8 * (n)), cells := 0, slots := 0, locals := (560 + 360 * (n)) }) D cI cL ad zz [.ref (ad 9), .int 2, .int a2] σ τ (fun σ' τ' => τ = τ' ∧ (∀ i : Nat, (i < 9 ∨ 9 < i) ∧ (i < 12 ∨ 13 < i) → σ' i = σ i) ∧ (∀ k : Nat, (k < 1 ∨ 1 < k) ∧ (k < 2 ∨ 2 < k) → σ' 9 k = σ 9 k) ∧ (∀ k : Nat, (k < 0 ∨ 0 < k) ∧ (k < 1 ∨ 1 < k) → σ' 12 k = σ 12 k) ∧ (jI9 σ') ∧ (jI91 σ') ∧ (jI92 σ') ∧ (jI12 σ') ∧ True) := by
  refine jMv.of hJ (by decide +kernel) rfl (Nat.le_of_ble_eq_true rfl) ?_
  intro p e s m args below meth c Q ls hC hret hl hP
  obtain ⟨hx, hb, hr, hml, hown, hts, hK, -, hlocks, hZ⟩ := hC
  have hown : s.vm.findClass RX7 = some m.cls := hown
  have hS : va_S (jA ad) s.heap s.heap [] := va_S.rf
  have hA : ∀ q, jA ad q → jA ad q := fun _ h => h
  have hl : lv_has ls 5 [(0, .ref (ad 9)), (1, .int 2), (2, .int a2)] := hl
  have g2 := jrg t2
  obtain ⟨i1, w2, w3⟩ : (0 ≤ (σ 9 0).toInt ∧ (σ 9 0).toInt ≤ 80) ∧ (∀ k : Nat, k < 80 → 0 ≤ (σ 10 k).toInt ∧ (σ 10 k).toInt ≤ 255) ∧ (∀ k : Nat, k < 8 → 0 ≤ (σ 11 k).toInt ∧ (σ 11 k).toInt ≤ 3) := id hI9
  obtain ⟨i4, i5⟩ : (0 ≤ (σ 9 1).toInt) ∧ ((σ 9 1).toInt ≤ (σ 9 0).toInt) := id hI91
  have i6 : (-1) ≤ (σ 9 2).toInt := hI92
  refine lv_iload_n hx hb dX7_part_0 rfl (lv_at hl 1 rfl) ?_
  refine lv_iconst (v := 5) hx hb dX7_part_1 (of_decide_eq_true rfl) ?_
  refine lv_icmp_lt (tgt := 11) hx hb dX7_part_2 (of_decide_eq_true rfl) (fun _ => ?_) (fun c => absurd (of_decide_eq_true rfl) c)
  refine lv_aload_n hx hb dX7_part_11 rfl (lv_at hl 0 rfl) ?_
  refine lv_iload_n hx hb dX7_part_12 rfl (lv_at hl 1 rfl) ?_
  refine lv_iconst (v := 1) hx hb dX7_part_13 (of_decide_eq_true rfl) ?_
  refine lv_iadd hx hb dX7_part_14 ?_
  refine jtopr (y := 3) (of_decide_eq_true rfl) ?_
  refine lv_iload_n hx hb dX7_part_15 rfl (lv_at hl 2 rfl) ?_
  exact by
   refine jcallVv (As := [.int 3, .int a2]) (rest := []) ⟨hx, hb, hml, hown, hts⟩ hK hP hA hS hZ (h_p3 σ τ a2 (A2) t2 hI9 hI91 hI92 hI12 (by omega) (by omega)) cw_RX7_82 (jc_9 cI cL ad σ τ) rfl ⟨by dsimp only; omega, by dsimp only; omega⟩ rfl rfl rfl hl.1 rfl (Nat.le_of_ble_eq_true rfl) dX7_part_16 ⟨Nat.zero_le _, Nat.zero_le _⟩ (fun σ7 τ7 H locs h7 hP hS => ?_)
   obtain ⟨rfl, f9, f10, f11, I12, I13, I14, I15, h7⟩ := h7
   obtain ⟨i17, w18, w19⟩ : (0 ≤ (σ7 9 0).toInt ∧ (σ7 9 0).toInt ≤ 80) ∧ (∀ k : Nat, k < 80 → 0 ≤ (σ7 10 k).toInt ∧ (σ7 10 k).toInt ≤ 255) ∧ (∀ k : Nat, k < 8 → 0 ≤ (σ7 11 k).toInt ∧ (σ7 11 k).toInt ≤ 3) := id I12
   obtain ⟨i20, i21⟩ : (0 ≤ (σ7 9 1).toInt) ∧ ((σ7 9 1).toInt ≤ (σ7 9 0).toInt) := id I13
   have i22 : (-1) ≤ (σ7 9 2).toInt := I14
   have z23 : (σ7 9 0).toInt = (σ 9 0).toInt := (congrArg Int32.toInt (show σ7 9 0 = (σ 9 0) from (f10 0 (of_decide_eq_true rfl))))
   refine lv_iconst (v := 0) hx hb dX7_part_19 (of_decide_eq_true rfl) ?_
   refine lv_istore_n (lv' := [(3, .int 0), (0, .ref (ad 9)), (1, .int 2), (2, .int a2)]) hx hb dX7_part_20 rfl hl (of_decide_eq_true rfl) rfl (fun ls hl => ?_)
   have lp24 : ∀ (n25 : Nat) (x26 : Int32) (σ28 : Nat → Nat → Int32) (H : Heap) (locs : List Loc) (ls : Array Slot), (-x26.toInt + 80 : Int) < n25 → 0 ≤ x26.toInt → x26.toInt ≤ 80 → 0 ≤ (σ28 9 1).toInt → (σ28 9 1).toInt ≤ (σ28 9 0).toInt → (-1) ≤ (σ28 9 2).toInt → (∀ i : Nat, (i < 9 ∨ 9 < i) ∧ (i < 12 ∨ 13 < i) → σ28 i = σ7 i) → (∀ k : Nat, (k < 1 ∨ 1 < k) ∧ (k < 2 ∨ 2 < k) → σ28 9 k = σ7 9 k) → (∀ k : Nat, (k < 0 ∨ 0 < k) ∧ (k < 1 ∨ 1 < k) → σ28 12 k = σ7 12 k) → jI12 σ28 → jH D cI cL ad σ28 τ H → va_S (jA ad) s.heap H locs → lv_has ls 5 [(3, .int x26), (0, .ref (ad 9)), (1, .int 2), (2, .int a2)] → W p l e ({ frames := (14 + 8 * (n)), cells := 0, slots := 0, locals := (560 + 360 * (n)) }) s m args below meth c H locs 0 0 Q (F0 m 21 ls []) := by
     intro n25
     induction n25 with
     | zero => intro x26 σ28 H locs ls h30 h31 h32 h33 h34 h35; exact absurd h30 (by omega)
     | succ n25 ihlp24 =>
       intro x26 σ28 H locs ls h30 h31 h32 h33 h34 h35 f36 f37 f38 p39 hP hS hl
       exact by
        have z40 : (σ28 9 0).toInt = (σ 9 0).toInt := (congrArg Int32.toInt (show σ28 9 0 = (σ 9 0) from ((f37 0 (of_decide_eq_true rfl)).trans (f10 0 (of_decide_eq_true rfl)))))
        refine lv_iload_n hx hb dX7_part_21 rfl (lv_at hl 0 rfl) ?_
        refine lv_bipush (v := 80) hx hb dX7_part_22 (of_decide_eq_true rfl) ?_
        refine lv_icmp_ge (tgt := 95) hx hb dX7_part_24 (of_decide_eq_true rfl) (fun c41 => ?_) (fun c41 => ?_)
        · have kc41 := jle c41 jz_80 rfl
          have I42 : jI9 σ28 := jI9_fr (f37 0 (of_decide_eq_true rfl)) (f36 10 (of_decide_eq_true rfl)) (f36 11 (of_decide_eq_true rfl)) I12
          have I43 : jI91 σ28 := ⟨(by omega), (by omega)⟩
          have I44 : jI92 σ28 := (show (-1) ≤ (σ28 9 2).toInt by omega)
          exact hret σ28 τ _ _ _ _ ⟨rfl, (fun i hi => ((f36 i hi).trans (f9 i hi))), (fun i hi => ((f37 i hi).trans (f10 i hi))), (fun i hi => ((f38 i hi).trans (f11 i hi))), I42, I43, I44, p39, trivial⟩ hP hS dX7_part_95
        · exact by
           have kc41 := jnle c41 jz_80 rfl
           refine lv_aload_n hx hb dX7_part_27 rfl (lv_at hl 1 rfl) ?_
           refine va_get (D := D) hx hb hts inlX7 hown hK hP 9 (jc_9 cI cL ad σ28 τ) rfl 2 (of_decide_eq_true rfl) (hts _ kw_14_6) (fun _ h9 => h9) rfl dX7_part_28 ?_
           refine lv_iconst (v := (-1)) hx hb dX7_part_31 (of_decide_eq_true rfl) ?_
           refine lv_icmp_ne (tgt := 95) hx hb dX7_part_32 (of_decide_eq_true rfl) (fun c45 => ?_) (fun c45 => ?_)
           · have kc45 := jne c45 rfl jz_m1
             have I46 : jI9 σ28 := jI9_fr (f37 0 (of_decide_eq_true rfl)) (f36 10 (of_decide_eq_true rfl)) (f36 11 (of_decide_eq_true rfl)) I12
             have I47 : jI91 σ28 := ⟨(by omega), (by omega)⟩
             have I48 : jI92 σ28 := (show (-1) ≤ (σ28 9 2).toInt by omega)
             exact hret σ28 τ _ _ _ _ ⟨rfl, (fun i hi => ((f36 i hi).trans (f9 i hi))), (fun i hi => ((f37 i hi).trans (f10 i hi))), (fun i hi => ((f38 i hi).trans (f11 i hi))), I46, I47, I48, p39, trivial⟩ hP hS dX7_part_95
           · exact by
              have kc45 := jeq c45 rfl jz_m1
              refine lv_aload_n hx hb dX7_part_35 rfl (lv_at hl 1 rfl) ?_
              have I49 : jI9 σ28 := jI9_fr (f37 0 (of_decide_eq_true rfl)) (f36 10 (of_decide_eq_true rfl)) (f36 11 (of_decide_eq_true rfl)) I12
              refine jcallV (As := []) (rest := []) ⟨hx, hb, hml, hown, hts⟩ hK hP hA hS hZ (c_X7_sign_9 l D cI cL ad zz hJ σ28 τ I49) cw_RX7_35 (jc_9 cI cL ad σ28 τ) rfl ⟨by dsimp only; omega, by dsimp only; omega⟩ rfl rfl rfl hl.1 rfl (Nat.le_of_ble_eq_true rfl) dX7_part_36 ⟨Nat.zero_le _, Nat.zero_le _⟩ (fun r51 σ50 τ50 H locs h50 hP hS => ?_)
              obtain ⟨⟨rfl, rfl⟩, h50⟩ := h50
              rcases h50 with h52 | h53
              · obtain ⟨q56, k54, k55⟩ := h52
                have q57 : r51 = (σ 10 (σ28 9 1).toNatClampNeg) := q56.trans (by rw [f36 10 (of_decide_eq_true rfl), f9 10 (of_decide_eq_true rfl)])
                have q57e : (σ28 10 (σ28 9 1).toNatClampNeg).toInt = (σ 10 (σ28 9 1).toNatClampNeg).toInt := by rw [← q56, ← q57]
                exact by
                 have q57 := q57.symm
                 subst q57
                 refine jcallS (As := [.int (σ 10 (σ28 9 1).toNatClampNeg)]) (rest := []) ⟨hx, hb, hml, hown, hts⟩ hK hP hA hS hZ (c_X7_levelOf l D cI cL ad zz hJ σ28 τ (σ 10 (σ28 9 1).toNatClampNeg) ((σ 10 (σ28 9 1).toNatClampNeg).toInt) rfl) cw_RX7_98 ⟨by dsimp only; omega, by dsimp only; omega⟩ rfl rfl rfl hl.1 rfl (Nat.le_of_ble_eq_true rfl) dX7_part_39 ⟨Nat.zero_le _, Nat.zero_le _⟩ (fun r59 σ58 τ58 H locs h58 hP hS => ?_)
                 obtain ⟨⟨rfl, rfl⟩, h58⟩ := h58
                 rcases h58 with h60 | h61 | h62 | h63 | h64 | h65 | h66 | h67 | h68 | h69 | h70
                 · obtain ⟨q72, k71⟩ := h60
                   have q72 := q72.symm
                   subst q72
                   refine lv_iload_n hx hb dX7_part_42 rfl (lv_at hl 2 rfl) ?_
                   refine lv_icmp_ne (tgt := 95) hx hb dX7_part_43 (of_decide_eq_true rfl) (fun _ => ?_) (fun c => absurd c (of_decide_eq_true rfl))
                   exact by
                    have I73 : jI91 σ28 := ⟨(by omega), (by omega)⟩
                    have I74 : jI92 σ28 := (show (-1) ≤ (σ28 9 2).toInt by omega)
                    exact hret σ28 τ _ _ _ _ ⟨rfl, (fun i hi => ((f36 i hi).trans (f9 i hi))), (fun i hi => ((f37 i hi).trans (f10 i hi))), (fun i hi => ((f38 i hi).trans (f11 i hi))), I49, I73, I74, p39, trivial⟩ hP hS dX7_part_95
                 · obtain ⟨q76, k75⟩ := h61
                   have q76 := q76.symm
                   subst q76
                   refine lv_iload_n hx hb dX7_part_42 rfl (lv_at hl 2 rfl) ?_
                   refine lv_icmp_ne (tgt := 95) hx hb dX7_part_43 (of_decide_eq_true rfl) (fun _ => ?_) (fun c => absurd c (of_decide_eq_true rfl))
                   have I77 : jI91 σ28 := ⟨(by omega), (by omega)⟩
                   exact by
                    have I78 : jI92 σ28 := (show (-1) ≤ (σ28 9 2).toInt by omega)
                    exact hret σ28 τ _ _ _ _ ⟨rfl, (fun i hi => ((f36 i hi).trans (f9 i hi))), (fun i hi => ((f37 i hi).trans (f10 i hi))), (fun i hi => ((f38 i hi).trans (f11 i hi))), I49, I77, I78, p39, trivial⟩ hP hS dX7_part_95
                 · obtain ⟨q80, k79⟩ := h62
                   have q80 := q80.symm
                   subst q80
                   refine lv_iload_n hx hb dX7_part_42 rfl (lv_at hl 2 rfl) ?_
                   refine lv_icmp_ne (tgt := 95) hx hb dX7_part_43 (of_decide_eq_true rfl) (fun c => absurd (of_decide_eq_true rfl) c) (fun _ => ?_)
                   refine lv_aload_n hx hb dX7_part_46 rfl (lv_at hl 1 rfl) ?_
                   refine jcallV (As := []) (rest := []) ⟨hx, hb, hml, hown, hts⟩ hK hP hA hS hZ (c_X7_sign_9 l D cI cL ad zz hJ σ28 τ I49) cw_RX7_35 (jc_9 cI cL ad σ28 τ) rfl ⟨by dsimp only; omega, by dsimp only; omega⟩ rfl rfl rfl hl.1 rfl (Nat.le_of_ble_eq_true rfl) dX7_part_47 ⟨Nat.zero_le _, Nat.zero_le _⟩ (fun r82 σ81 τ81 H locs h81 hP hS => ?_)
                   obtain ⟨⟨rfl, rfl⟩, h81⟩ := h81
                   rcases h81 with h83 | h84
                   · obtain ⟨q87, k85, k86⟩ := h83
                     exact by
                      have q88 : r82 = (σ 10 (σ28 9 1).toNatClampNeg) := q87.trans (by rw [f36 10 (of_decide_eq_true rfl), f9 10 (of_decide_eq_true rfl)])
                      have q88e : (σ28 10 (σ28 9 1).toNatClampNeg).toInt = (σ 10 (σ28 9 1).toNatClampNeg).toInt := by rw [← q87, ← q88]
                      have q88 := q88.symm
                      subst q88
                      refine lv_istore (lv' := [(4, .int (σ 10 (σ28 9 1).toNatClampNeg)), (3, .int x26), (0, .ref (ad 9)), (1, .int 2), (2, .int a2)]) hx hb dX7_part_50 hl (of_decide_eq_true rfl) rfl (fun ls hl => ?_)
                      refine lv_aload_n hx hb dX7_part_52 rfl (lv_at hl 2 rfl) ?_
                      refine lv_dup hx hb dX7_part_53 rfl ?_
                      refine va_get (D := D) hx hb hts inlX7 hown hK hP 9 (jc_9 cI cL ad σ28 τ) rfl 1 (of_decide_eq_true rfl) (hts _ kw_13_17) (fun _ h9 => h9) rfl dX7_part_54 ?_
                      refine lv_iconst (v := 1) hx hb dX7_part_57 (of_decide_eq_true rfl) ?_
                      have g89 := jrg (rfl : (σ28 9 1).toInt = (σ28 9 1).toInt)
                      refine lv_iadd hx hb dX7_part_58 ?_
                      refine lv_topi (fun x90 ex90 => ?_)
                      exact by
                       have tx90 : x90.toInt = (σ28 9 1).toInt + 1 := (jadd ex90 rfl jz_1 (by omega) (by omega)).trans (by omega)
                       refine jput (ty := .int) hx hb hts inlX7 tyX7 tyX7_ok nmX7 hown hK hP hJ hA hS (jc_9 cI cL ad σ28 τ) rfl (k := 1) (of_decide_eq_true rfl) (Nat.le_of_ble_eq_true rfl) (jp_9_1 cI cL ad σ28 τ x90) (hts _ kw_13_17) (fun _ h9 => h9) rfl (by decide +kernel) rfl rfl dX7_part_59 (fun σ91 H locs eσ91 hP hS => ?_)
                       refine lv_aload_n hx hb dX7_part_62 rfl (lv_at hl 2 rfl) ?_
                       refine lv_iload_n hx hb dX7_part_63 rfl (lv_at hl 3 rfl) ?_
                       refine lv_iconst (v := 1) hx hb dX7_part_64 (of_decide_eq_true rfl) ?_
                       refine lv_iadd hx hb dX7_part_65 ?_
                       refine jtopr (y := 3) (of_decide_eq_true rfl) ?_
                       refine lv_iload_n hx hb dX7_part_66 rfl (lv_at hl 4 rfl) ?_
                       have I92 : jI9 σ91 := jI9_fr (jkp 0 eσ91 (of_decide_eq_true rfl)) (jnp 10 eσ91 (of_decide_eq_true rfl)) (jnp 11 eσ91 (of_decide_eq_true rfl)) I49
                       have z93 : (σ91 9 1).toInt = (σ28 9 1).toInt + 1 := ((congrArg Int32.toInt (show σ91 9 1 = x90 from (jsp eσ91))).trans tx90)
                       have z94 : (σ91 9 0).toInt = (σ 9 0).toInt := (congrArg Int32.toInt (show σ91 9 0 = (σ 9 0) from ((jkp 0 eσ91 (of_decide_eq_true rfl)).trans ((f37 0 (of_decide_eq_true rfl)).trans (f10 0 (of_decide_eq_true rfl))))))
                       exact by
                        have I95 : jI91 σ91 := ⟨(by omega), (by omega)⟩
                        have z96 : (σ91 9 2).toInt = (σ28 9 2).toInt := (congrArg Int32.toInt (show σ91 9 2 = (σ28 9 2) from (jkp 2 eσ91 (of_decide_eq_true rfl))))
                        have I97 : jI92 σ91 := (show (-1) ≤ (σ91 9 2).toInt by omega)
                        have I98 : jI12 σ91 := jI12_fr (congrFun (jnp 12 eσ91 (of_decide_eq_true rfl)) 0) (jnp 13 eσ91 (of_decide_eq_true rfl)) p39
                        refine jcallVv (As := [.int 3, .int a2]) (rest := []) ⟨hx, hb, hml, hown, hts⟩ hK hP hA hS hZ (h_p3 σ91 τ a2 (A2) t2 I92 I95 I97 I98 (by omega) (by omega)) cw_RX7_82 (jc_9 cI cL ad σ91 τ) rfl ⟨by dsimp only; omega, by dsimp only; omega⟩ rfl rfl rfl hl.1 rfl (Nat.le_of_ble_eq_true rfl) dX7_part_67 ⟨Nat.zero_le _, Nat.zero_le _⟩ (fun σ99 τ99 H locs h99 hP hS => ?_)
                        obtain ⟨rfl, f101, f102, f103, I104, I105, I106, I107, h99⟩ := h99
                        obtain ⟨i109, w110, w111⟩ : (0 ≤ (σ99 9 0).toInt ∧ (σ99 9 0).toInt ≤ 80) ∧ (∀ k : Nat, k < 80 → 0 ≤ (σ99 10 k).toInt ∧ (σ99 10 k).toInt ≤ 255) ∧ (∀ k : Nat, k < 8 → 0 ≤ (σ99 11 k).toInt ∧ (σ99 11 k).toInt ≤ 3) := id I104
                        obtain ⟨i112, i113⟩ : (0 ≤ (σ99 9 1).toInt) ∧ ((σ99 9 1).toInt ≤ (σ99 9 0).toInt) := id I105
                        have i114 : (-1) ≤ (σ99 9 2).toInt := I106
                        exact by
                         have z115 : (σ99 9 0).toInt = (σ 9 0).toInt := (congrArg Int32.toInt (show σ99 9 0 = (σ 9 0) from ((f102 0 (of_decide_eq_true rfl)).trans ((jkp 0 eσ91 (of_decide_eq_true rfl)).trans ((f37 0 (of_decide_eq_true rfl)).trans (f10 0 (of_decide_eq_true rfl)))))))
                         refine lv_aload_n hx hb dX7_part_70 rfl (lv_at hl 2 rfl) ?_
                         refine va_get (D := D) hx hb hts inlX7 hown hK hP 9 (jc_9 cI cL ad σ99 τ) rfl 5 (of_decide_eq_true rfl) (hts _ kw_3_23) (fun _ h9 => h9) rfl dX7_part_71 ?_
                         refine lv_sipush (v := 20000) hx hb dX7_part_74 (of_decide_eq_true rfl) ?_
                         refine lv_iload hx hb dX7_part_77 (lv_at hl 0 rfl) ?_
                         have g116 := jrg (rfl : (σ 10 (σ28 9 1).toNatClampNeg).toInt = (σ 10 (σ28 9 1).toNatClampNeg).toInt)
                         refine lv_iadd hx hb dX7_part_79 ?_
                         refine lv_topi (fun x117 ex117 => ?_)
                         have tx117 : x117.toInt = (σ 10 (σ28 9 1).toNatClampNeg).toInt + 20000 := (jadd ex117 jz_20000 rfl (by omega) (by omega)).trans (by omega)
                         exact by
                          refine jcallVv (As := [.int x117]) (rest := []) ⟨hx, hb, hml, hown, hts⟩ hK hP hA hS hZ (c_X10_add_12 l D cI cL ad zz hJ σ99 τ x117 ((σ 10 (σ28 9 1).toNatClampNeg).toInt + 20000) tx117 I107 (by omega)) cw_RX7_86 (jc_12 cI cL ad σ99 τ) rfl ⟨by dsimp only; omega, by dsimp only; omega⟩ rfl rfl rfl hl.1 rfl (Nat.le_of_ble_eq_true rfl) dX7_part_80 ⟨Nat.zero_le _, Nat.zero_le _⟩ (fun σ118 τ118 H locs h118 hP hS => ?_)
                          obtain ⟨rfl, f120, f121, I122, h118⟩ := h118
                          refine lv_iload_n hx hb dX7_part_83 rfl (lv_at hl 3 rfl) ?_
                          refine lv_iconst (v := 2) hx hb dX7_part_84 (of_decide_eq_true rfl) ?_
                          refine lv_icmp_ne (tgt := 89) hx hb dX7_part_85 (of_decide_eq_true rfl) (fun c => absurd (of_decide_eq_true rfl) c) (fun _ => ?_)
                          have I124 : jI9 σ118 := jI9_fr (congrFun (f120 9 (of_decide_eq_true rfl)) 0) (f120 10 (of_decide_eq_true rfl)) (f120 11 (of_decide_eq_true rfl)) I104
                          have I125 : jI91 σ118 := jI91_fr (congrFun (f120 9 (of_decide_eq_true rfl)) 0) (congrFun (f120 9 (of_decide_eq_true rfl)) 1) I105
                          have I126 : jI92 σ118 := jI92_fr (congrFun (f120 9 (of_decide_eq_true rfl)) 2) I106
                          exact hret σ118 τ _ _ _ _ ⟨rfl, (fun i hi => ((f120 i (imp_58 i hi)).trans ((f101 i hi).trans ((jnp i eσ91 (imp_60 i hi)).trans ((f36 i hi).trans (f9 i hi)))))), (fun i hi => ((congrFun (f120 9 (of_decide_eq_true rfl)) i).trans ((f102 i hi).trans ((jkp i eσ91 (imp_39 i hi)).trans ((f37 i hi).trans (f10 i hi)))))), (fun i hi => ((f121 i hi).trans ((f103 i hi).trans ((congrFun (jnp 12 eσ91 (of_decide_eq_true rfl)) i).trans ((f38 i hi).trans (f11 i hi)))))), I124, I125, I126, I122, trivial⟩ hP hS dX7_part_88
                   · obtain ⟨q128, k127⟩ := h84
                     exact absurd (by omega : False) id
                 · obtain ⟨q130, k129⟩ := h63
                   have q130 := q130.symm
                   subst q130
                   refine lv_iload_n hx hb dX7_part_42 rfl (lv_at hl 2 rfl) ?_
                   refine lv_icmp_ne (tgt := 95) hx hb dX7_part_43 (of_decide_eq_true rfl) (fun c => absurd (of_decide_eq_true rfl) c) (fun _ => ?_)
                   refine lv_aload_n hx hb dX7_part_46 rfl (lv_at hl 1 rfl) ?_
                   refine jcallV (As := []) (rest := []) ⟨hx, hb, hml, hown, hts⟩ hK hP hA hS hZ (c_X7_sign_9 l D cI cL ad zz hJ σ28 τ I49) cw_RX7_35 (jc_9 cI cL ad σ28 τ) rfl ⟨by dsimp only; omega, by dsimp only; omega⟩ rfl rfl rfl hl.1 rfl (Nat.le_of_ble_eq_true rfl) dX7_part_47 ⟨Nat.zero_le _, Nat.zero_le _⟩ (fun r132 σ131 τ131 H locs h131 hP hS => ?_)
                   obtain ⟨⟨rfl, rfl⟩, h131⟩ := h131
                   rcases h131 with h133 | h134
                   · obtain ⟨q137, k135, k136⟩ := h133
                     exact by
                      have q138 : r132 = (σ 10 (σ28 9 1).toNatClampNeg) := q137.trans (by rw [f36 10 (of_decide_eq_true rfl), f9 10 (of_decide_eq_true rfl)])
                      have q138e : (σ28 10 (σ28 9 1).toNatClampNeg).toInt = (σ 10 (σ28 9 1).toNatClampNeg).toInt := by rw [← q137, ← q138]
                      have q138 := q138.symm
                      subst q138
                      refine lv_istore (lv' := [(4, .int (σ 10 (σ28 9 1).toNatClampNeg)), (3, .int x26), (0, .ref (ad 9)), (1, .int 2), (2, .int a2)]) hx hb dX7_part_50 hl (of_decide_eq_true rfl) rfl (fun ls hl => ?_)
                      refine lv_aload_n hx hb dX7_part_52 rfl (lv_at hl 2 rfl) ?_
                      refine lv_dup hx hb dX7_part_53 rfl ?_
                      refine va_get (D := D) hx hb hts inlX7 hown hK hP 9 (jc_9 cI cL ad σ28 τ) rfl 1 (of_decide_eq_true rfl) (hts _ kw_13_17) (fun _ h9 => h9) rfl dX7_part_54 ?_
                      refine lv_iconst (v := 1) hx hb dX7_part_57 (of_decide_eq_true rfl) ?_
                      have g139 := jrg (rfl : (σ28 9 1).toInt = (σ28 9 1).toInt)
                      refine lv_iadd hx hb dX7_part_58 ?_
                      refine lv_topi (fun x140 ex140 => ?_)
                      exact by
                       have tx140 : x140.toInt = (σ28 9 1).toInt + 1 := (jadd ex140 rfl jz_1 (by omega) (by omega)).trans (by omega)
                       refine jput (ty := .int) hx hb hts inlX7 tyX7 tyX7_ok nmX7 hown hK hP hJ hA hS (jc_9 cI cL ad σ28 τ) rfl (k := 1) (of_decide_eq_true rfl) (Nat.le_of_ble_eq_true rfl) (jp_9_1 cI cL ad σ28 τ x140) (hts _ kw_13_17) (fun _ h9 => h9) rfl (by decide +kernel) rfl rfl dX7_part_59 (fun σ141 H locs eσ141 hP hS => ?_)
                       refine lv_aload_n hx hb dX7_part_62 rfl (lv_at hl 2 rfl) ?_
                       refine lv_iload_n hx hb dX7_part_63 rfl (lv_at hl 3 rfl) ?_
                       refine lv_iconst (v := 1) hx hb dX7_part_64 (of_decide_eq_true rfl) ?_
                       refine lv_iadd hx hb dX7_part_65 ?_
                       refine jtopr (y := 3) (of_decide_eq_true rfl) ?_
                       refine lv_iload_n hx hb dX7_part_66 rfl (lv_at hl 4 rfl) ?_
                       have I142 : jI9 σ141 := jI9_fr (jkp 0 eσ141 (of_decide_eq_true rfl)) (jnp 10 eσ141 (of_decide_eq_true rfl)) (jnp 11 eσ141 (of_decide_eq_true rfl)) I49
                       have z143 : (σ141 9 1).toInt = (σ28 9 1).toInt + 1 := ((congrArg Int32.toInt (show σ141 9 1 = x140 from (jsp eσ141))).trans tx140)
                       have z144 : (σ141 9 0).toInt = (σ 9 0).toInt := (congrArg Int32.toInt (show σ141 9 0 = (σ 9 0) from ((jkp 0 eσ141 (of_decide_eq_true rfl)).trans ((f37 0 (of_decide_eq_true rfl)).trans (f10 0 (of_decide_eq_true rfl))))))
                       exact by
                        have I145 : jI91 σ141 := ⟨(by omega), (by omega)⟩
                        have z146 : (σ141 9 2).toInt = (σ28 9 2).toInt := (congrArg Int32.toInt (show σ141 9 2 = (σ28 9 2) from (jkp 2 eσ141 (of_decide_eq_true rfl))))
                        have I147 : jI92 σ141 := (show (-1) ≤ (σ141 9 2).toInt by omega)
                        have I148 : jI12 σ141 := jI12_fr (congrFun (jnp 12 eσ141 (of_decide_eq_true rfl)) 0) (jnp 13 eσ141 (of_decide_eq_true rfl)) p39
                        refine jcallVv (As := [.int 3, .int a2]) (rest := []) ⟨hx, hb, hml, hown, hts⟩ hK hP hA hS hZ (h_p3 σ141 τ a2 (A2) t2 I142 I145 I147 I148 (by omega) (by omega)) cw_RX7_82 (jc_9 cI cL ad σ141 τ) rfl ⟨by dsimp only; omega, by dsimp only; omega⟩ rfl rfl rfl hl.1 rfl (Nat.le_of_ble_eq_true rfl) dX7_part_67 ⟨Nat.zero_le _, Nat.zero_le _⟩ (fun σ149 τ149 H locs h149 hP hS => ?_)
                        obtain ⟨rfl, f151, f152, f153, I154, I155, I156, I157, h149⟩ := h149
                        obtain ⟨i159, w160, w161⟩ : (0 ≤ (σ149 9 0).toInt ∧ (σ149 9 0).toInt ≤ 80) ∧ (∀ k : Nat, k < 80 → 0 ≤ (σ149 10 k).toInt ∧ (σ149 10 k).toInt ≤ 255) ∧ (∀ k : Nat, k < 8 → 0 ≤ (σ149 11 k).toInt ∧ (σ149 11 k).toInt ≤ 3) := id I154
                        obtain ⟨i162, i163⟩ : (0 ≤ (σ149 9 1).toInt) ∧ ((σ149 9 1).toInt ≤ (σ149 9 0).toInt) := id I155
                        have i164 : (-1) ≤ (σ149 9 2).toInt := I156
                        exact by
                         have z165 : (σ149 9 0).toInt = (σ 9 0).toInt := (congrArg Int32.toInt (show σ149 9 0 = (σ 9 0) from ((f152 0 (of_decide_eq_true rfl)).trans ((jkp 0 eσ141 (of_decide_eq_true rfl)).trans ((f37 0 (of_decide_eq_true rfl)).trans (f10 0 (of_decide_eq_true rfl)))))))
                         refine lv_aload_n hx hb dX7_part_70 rfl (lv_at hl 2 rfl) ?_
                         refine va_get (D := D) hx hb hts inlX7 hown hK hP 9 (jc_9 cI cL ad σ149 τ) rfl 5 (of_decide_eq_true rfl) (hts _ kw_3_23) (fun _ h9 => h9) rfl dX7_part_71 ?_
                         refine lv_sipush (v := 20000) hx hb dX7_part_74 (of_decide_eq_true rfl) ?_
                         refine lv_iload hx hb dX7_part_77 (lv_at hl 0 rfl) ?_
                         have g166 := jrg (rfl : (σ 10 (σ28 9 1).toNatClampNeg).toInt = (σ 10 (σ28 9 1).toNatClampNeg).toInt)
                         refine lv_iadd hx hb dX7_part_79 ?_
                         refine lv_topi (fun x167 ex167 => ?_)
                         have tx167 : x167.toInt = (σ 10 (σ28 9 1).toNatClampNeg).toInt + 20000 := (jadd ex167 jz_20000 rfl (by omega) (by omega)).trans (by omega)
                         exact by
                          refine jcallVv (As := [.int x167]) (rest := []) ⟨hx, hb, hml, hown, hts⟩ hK hP hA hS hZ (c_X10_add_12 l D cI cL ad zz hJ σ149 τ x167 ((σ 10 (σ28 9 1).toNatClampNeg).toInt + 20000) tx167 I157 (by omega)) cw_RX7_86 (jc_12 cI cL ad σ149 τ) rfl ⟨by dsimp only; omega, by dsimp only; omega⟩ rfl rfl rfl hl.1 rfl (Nat.le_of_ble_eq_true rfl) dX7_part_80 ⟨Nat.zero_le _, Nat.zero_le _⟩ (fun σ168 τ168 H locs h168 hP hS => ?_)
                          obtain ⟨rfl, f170, f171, I172, h168⟩ := h168
                          refine lv_iload_n hx hb dX7_part_83 rfl (lv_at hl 3 rfl) ?_
                          refine lv_iconst (v := 2) hx hb dX7_part_84 (of_decide_eq_true rfl) ?_
                          refine lv_icmp_ne (tgt := 89) hx hb dX7_part_85 (of_decide_eq_true rfl) (fun c => absurd (of_decide_eq_true rfl) c) (fun _ => ?_)
                          have I174 : jI9 σ168 := jI9_fr (congrFun (f170 9 (of_decide_eq_true rfl)) 0) (f170 10 (of_decide_eq_true rfl)) (f170 11 (of_decide_eq_true rfl)) I154
                          have I175 : jI91 σ168 := jI91_fr (congrFun (f170 9 (of_decide_eq_true rfl)) 0) (congrFun (f170 9 (of_decide_eq_true rfl)) 1) I155
                          have I176 : jI92 σ168 := jI92_fr (congrFun (f170 9 (of_decide_eq_true rfl)) 2) I156
                          exact hret σ168 τ _ _ _ _ ⟨rfl, (fun i hi => ((f170 i (imp_58 i hi)).trans ((f151 i hi).trans ((jnp i eσ141 (imp_60 i hi)).trans ((f36 i hi).trans (f9 i hi)))))), (fun i hi => ((congrFun (f170 9 (of_decide_eq_true rfl)) i).trans ((f152 i hi).trans ((jkp i eσ141 (imp_39 i hi)).trans ((f37 i hi).trans (f10 i hi)))))), (fun i hi => ((f171 i hi).trans ((f153 i hi).trans ((congrFun (jnp 12 eσ141 (of_decide_eq_true rfl)) i).trans ((f38 i hi).trans (f11 i hi)))))), I174, I175, I176, I172, trivial⟩ hP hS dX7_part_88
                   · obtain ⟨q178, k177⟩ := h134
                     exact absurd (by omega : False) id
                 · obtain ⟨q180, k179⟩ := h64
                   have q180 := q180.symm
                   subst q180
                   refine lv_iload_n hx hb dX7_part_42 rfl (lv_at hl 2 rfl) ?_
                   refine lv_icmp_ne (tgt := 95) hx hb dX7_part_43 (of_decide_eq_true rfl) (fun c => absurd (of_decide_eq_true rfl) c) (fun _ => ?_)
                   refine lv_aload_n hx hb dX7_part_46 rfl (lv_at hl 1 rfl) ?_
                   refine jcallV (As := []) (rest := []) ⟨hx, hb, hml, hown, hts⟩ hK hP hA hS hZ (c_X7_sign_9 l D cI cL ad zz hJ σ28 τ I49) cw_RX7_35 (jc_9 cI cL ad σ28 τ) rfl ⟨by dsimp only; omega, by dsimp only; omega⟩ rfl rfl rfl hl.1 rfl (Nat.le_of_ble_eq_true rfl) dX7_part_47 ⟨Nat.zero_le _, Nat.zero_le _⟩ (fun r182 σ181 τ181 H locs h181 hP hS => ?_)
                   obtain ⟨⟨rfl, rfl⟩, h181⟩ := h181
                   rcases h181 with h183 | h184
                   · obtain ⟨q187, k185, k186⟩ := h183
                     exact by
                      have q188 : r182 = (σ 10 (σ28 9 1).toNatClampNeg) := q187.trans (by rw [f36 10 (of_decide_eq_true rfl), f9 10 (of_decide_eq_true rfl)])
                      have q188e : (σ28 10 (σ28 9 1).toNatClampNeg).toInt = (σ 10 (σ28 9 1).toNatClampNeg).toInt := by rw [← q187, ← q188]
                      have q188 := q188.symm
                      subst q188
                      refine lv_istore (lv' := [(4, .int (σ 10 (σ28 9 1).toNatClampNeg)), (3, .int x26), (0, .ref (ad 9)), (1, .int 2), (2, .int a2)]) hx hb dX7_part_50 hl (of_decide_eq_true rfl) rfl (fun ls hl => ?_)
                      refine lv_aload_n hx hb dX7_part_52 rfl (lv_at hl 2 rfl) ?_
                      refine lv_dup hx hb dX7_part_53 rfl ?_
                      refine va_get (D := D) hx hb hts inlX7 hown hK hP 9 (jc_9 cI cL ad σ28 τ) rfl 1 (of_decide_eq_true rfl) (hts _ kw_13_17) (fun _ h9 => h9) rfl dX7_part_54 ?_
                      refine lv_iconst (v := 1) hx hb dX7_part_57 (of_decide_eq_true rfl) ?_
                      have g189 := jrg (rfl : (σ28 9 1).toInt = (σ28 9 1).toInt)
                      refine lv_iadd hx hb dX7_part_58 ?_
                      refine lv_topi (fun x190 ex190 => ?_)
                      exact by
                       have tx190 : x190.toInt = (σ28 9 1).toInt + 1 := (jadd ex190 rfl jz_1 (by omega) (by omega)).trans (by omega)
                       refine jput (ty := .int) hx hb hts inlX7 tyX7 tyX7_ok nmX7 hown hK hP hJ hA hS (jc_9 cI cL ad σ28 τ) rfl (k := 1) (of_decide_eq_true rfl) (Nat.le_of_ble_eq_true rfl) (jp_9_1 cI cL ad σ28 τ x190) (hts _ kw_13_17) (fun _ h9 => h9) rfl (by decide +kernel) rfl rfl dX7_part_59 (fun σ191 H locs eσ191 hP hS => ?_)
                       refine lv_aload_n hx hb dX7_part_62 rfl (lv_at hl 2 rfl) ?_
                       refine lv_iload_n hx hb dX7_part_63 rfl (lv_at hl 3 rfl) ?_
                       refine lv_iconst (v := 1) hx hb dX7_part_64 (of_decide_eq_true rfl) ?_
                       refine lv_iadd hx hb dX7_part_65 ?_
                       refine jtopr (y := 3) (of_decide_eq_true rfl) ?_
                       refine lv_iload_n hx hb dX7_part_66 rfl (lv_at hl 4 rfl) ?_
                       have I192 : jI9 σ191 := jI9_fr (jkp 0 eσ191 (of_decide_eq_true rfl)) (jnp 10 eσ191 (of_decide_eq_true rfl)) (jnp 11 eσ191 (of_decide_eq_true rfl)) I49
                       have z193 : (σ191 9 1).toInt = (σ28 9 1).toInt + 1 := ((congrArg Int32.toInt (show σ191 9 1 = x190 from (jsp eσ191))).trans tx190)
                       have z194 : (σ191 9 0).toInt = (σ 9 0).toInt := (congrArg Int32.toInt (show σ191 9 0 = (σ 9 0) from ((jkp 0 eσ191 (of_decide_eq_true rfl)).trans ((f37 0 (of_decide_eq_true rfl)).trans (f10 0 (of_decide_eq_true rfl))))))
                       exact by
                        have I195 : jI91 σ191 := ⟨(by omega), (by omega)⟩
                        have z196 : (σ191 9 2).toInt = (σ28 9 2).toInt := (congrArg Int32.toInt (show σ191 9 2 = (σ28 9 2) from (jkp 2 eσ191 (of_decide_eq_true rfl))))
                        have I197 : jI92 σ191 := (show (-1) ≤ (σ191 9 2).toInt by omega)
                        have I198 : jI12 σ191 := jI12_fr (congrFun (jnp 12 eσ191 (of_decide_eq_true rfl)) 0) (jnp 13 eσ191 (of_decide_eq_true rfl)) p39
                        refine jcallVv (As := [.int 3, .int a2]) (rest := []) ⟨hx, hb, hml, hown, hts⟩ hK hP hA hS hZ (h_p3 σ191 τ a2 (A2) t2 I192 I195 I197 I198 (by omega) (by omega)) cw_RX7_82 (jc_9 cI cL ad σ191 τ) rfl ⟨by dsimp only; omega, by dsimp only; omega⟩ rfl rfl rfl hl.1 rfl (Nat.le_of_ble_eq_true rfl) dX7_part_67 ⟨Nat.zero_le _, Nat.zero_le _⟩ (fun σ199 τ199 H locs h199 hP hS => ?_)
                        obtain ⟨rfl, f201, f202, f203, I204, I205, I206, I207, h199⟩ := h199
                        obtain ⟨i209, w210, w211⟩ : (0 ≤ (σ199 9 0).toInt ∧ (σ199 9 0).toInt ≤ 80) ∧ (∀ k : Nat, k < 80 → 0 ≤ (σ199 10 k).toInt ∧ (σ199 10 k).toInt ≤ 255) ∧ (∀ k : Nat, k < 8 → 0 ≤ (σ199 11 k).toInt ∧ (σ199 11 k).toInt ≤ 3) := id I204
                        obtain ⟨i212, i213⟩ : (0 ≤ (σ199 9 1).toInt) ∧ ((σ199 9 1).toInt ≤ (σ199 9 0).toInt) := id I205
                        have i214 : (-1) ≤ (σ199 9 2).toInt := I206
                        exact by
                         have z215 : (σ199 9 0).toInt = (σ 9 0).toInt := (congrArg Int32.toInt (show σ199 9 0 = (σ 9 0) from ((f202 0 (of_decide_eq_true rfl)).trans ((jkp 0 eσ191 (of_decide_eq_true rfl)).trans ((f37 0 (of_decide_eq_true rfl)).trans (f10 0 (of_decide_eq_true rfl)))))))
                         refine lv_aload_n hx hb dX7_part_70 rfl (lv_at hl 2 rfl) ?_
                         refine va_get (D := D) hx hb hts inlX7 hown hK hP 9 (jc_9 cI cL ad σ199 τ) rfl 5 (of_decide_eq_true rfl) (hts _ kw_3_23) (fun _ h9 => h9) rfl dX7_part_71 ?_
                         refine lv_sipush (v := 20000) hx hb dX7_part_74 (of_decide_eq_true rfl) ?_
                         refine lv_iload hx hb dX7_part_77 (lv_at hl 0 rfl) ?_
                         have g216 := jrg (rfl : (σ 10 (σ28 9 1).toNatClampNeg).toInt = (σ 10 (σ28 9 1).toNatClampNeg).toInt)
                         refine lv_iadd hx hb dX7_part_79 ?_
                         refine lv_topi (fun x217 ex217 => ?_)
                         have tx217 : x217.toInt = (σ 10 (σ28 9 1).toNatClampNeg).toInt + 20000 := (jadd ex217 jz_20000 rfl (by omega) (by omega)).trans (by omega)
                         exact by
                          refine jcallVv (As := [.int x217]) (rest := []) ⟨hx, hb, hml, hown, hts⟩ hK hP hA hS hZ (c_X10_add_12 l D cI cL ad zz hJ σ199 τ x217 ((σ 10 (σ28 9 1).toNatClampNeg).toInt + 20000) tx217 I207 (by omega)) cw_RX7_86 (jc_12 cI cL ad σ199 τ) rfl ⟨by dsimp only; omega, by dsimp only; omega⟩ rfl rfl rfl hl.1 rfl (Nat.le_of_ble_eq_true rfl) dX7_part_80 ⟨Nat.zero_le _, Nat.zero_le _⟩ (fun σ218 τ218 H locs h218 hP hS => ?_)
                          obtain ⟨rfl, f220, f221, I222, h218⟩ := h218
                          refine lv_iload_n hx hb dX7_part_83 rfl (lv_at hl 3 rfl) ?_
                          refine lv_iconst (v := 2) hx hb dX7_part_84 (of_decide_eq_true rfl) ?_
                          refine lv_icmp_ne (tgt := 89) hx hb dX7_part_85 (of_decide_eq_true rfl) (fun c => absurd (of_decide_eq_true rfl) c) (fun _ => ?_)
                          have I224 : jI9 σ218 := jI9_fr (congrFun (f220 9 (of_decide_eq_true rfl)) 0) (f220 10 (of_decide_eq_true rfl)) (f220 11 (of_decide_eq_true rfl)) I204
                          have I225 : jI91 σ218 := jI91_fr (congrFun (f220 9 (of_decide_eq_true rfl)) 0) (congrFun (f220 9 (of_decide_eq_true rfl)) 1) I205
                          have I226 : jI92 σ218 := jI92_fr (congrFun (f220 9 (of_decide_eq_true rfl)) 2) I206
                          exact hret σ218 τ _ _ _ _ ⟨rfl, (fun i hi => ((f220 i (imp_58 i hi)).trans ((f201 i hi).trans ((jnp i eσ191 (imp_60 i hi)).trans ((f36 i hi).trans (f9 i hi)))))), (fun i hi => ((congrFun (f220 9 (of_decide_eq_true rfl)) i).trans ((f202 i hi).trans ((jkp i eσ191 (imp_39 i hi)).trans ((f37 i hi).trans (f10 i hi)))))), (fun i hi => ((f221 i hi).trans ((f203 i hi).trans ((congrFun (jnp 12 eσ191 (of_decide_eq_true rfl)) i).trans ((f38 i hi).trans (f11 i hi)))))), I224, I225, I226, I222, trivial⟩ hP hS dX7_part_88
                   · obtain ⟨q228, k227⟩ := h184
                     exact absurd (by omega : False) id
                 · obtain ⟨q230, k229⟩ := h65
                   have q230 := q230.symm
                   subst q230
                   refine lv_iload_n hx hb dX7_part_42 rfl (lv_at hl 2 rfl) ?_
                   refine lv_icmp_ne (tgt := 95) hx hb dX7_part_43 (of_decide_eq_true rfl) (fun _ => ?_) (fun c => absurd c (of_decide_eq_true rfl))
                   exact by
                    have I231 : jI91 σ28 := ⟨(by omega), (by omega)⟩
                    have I232 : jI92 σ28 := (show (-1) ≤ (σ28 9 2).toInt by omega)
                    exact hret σ28 τ _ _ _ _ ⟨rfl, (fun i hi => ((f36 i hi).trans (f9 i hi))), (fun i hi => ((f37 i hi).trans (f10 i hi))), (fun i hi => ((f38 i hi).trans (f11 i hi))), I49, I231, I232, p39, trivial⟩ hP hS dX7_part_95
                 · obtain ⟨q234, k233⟩ := h66
                   have q234 := q234.symm
                   subst q234
                   refine lv_iload_n hx hb dX7_part_42 rfl (lv_at hl 2 rfl) ?_
                   refine lv_icmp_ne (tgt := 95) hx hb dX7_part_43 (of_decide_eq_true rfl) (fun _ => ?_) (fun c => absurd c (of_decide_eq_true rfl))
                   have I235 : jI91 σ28 := ⟨(by omega), (by omega)⟩
                   exact by
                    have I236 : jI92 σ28 := (show (-1) ≤ (σ28 9 2).toInt by omega)
                    exact hret σ28 τ _ _ _ _ ⟨rfl, (fun i hi => ((f36 i hi).trans (f9 i hi))), (fun i hi => ((f37 i hi).trans (f10 i hi))), (fun i hi => ((f38 i hi).trans (f11 i hi))), I49, I235, I236, p39, trivial⟩ hP hS dX7_part_95
                 · obtain ⟨q238, k237⟩ := h67
                   have q238 := q238.symm
                   subst q238
                   refine lv_iload_n hx hb dX7_part_42 rfl (lv_at hl 2 rfl) ?_
                   refine lv_icmp_ne (tgt := 95) hx hb dX7_part_43 (of_decide_eq_true rfl) (fun _ => ?_) (fun c => absurd c (of_decide_eq_true rfl))
                   have I239 : jI91 σ28 := ⟨(by omega), (by omega)⟩
                   have I240 : jI92 σ28 := (show (-1) ≤ (σ28 9 2).toInt by omega)
                   exact hret σ28 τ _ _ _ _ ⟨rfl, (fun i hi => ((f36 i hi).trans (f9 i hi))), (fun i hi => ((f37 i hi).trans (f10 i hi))), (fun i hi => ((f38 i hi).trans (f11 i hi))), I49, I239, I240, p39, trivial⟩ hP hS dX7_part_95
                 · exact by
                    obtain ⟨q242, k241⟩ := h68
                    have q242 := q242.symm
                    subst q242
                    refine lv_iload_n hx hb dX7_part_42 rfl (lv_at hl 2 rfl) ?_
                    refine lv_icmp_ne (tgt := 95) hx hb dX7_part_43 (of_decide_eq_true rfl) (fun _ => ?_) (fun c => absurd c (of_decide_eq_true rfl))
                    have I243 : jI91 σ28 := ⟨(by omega), (by omega)⟩
                    have I244 : jI92 σ28 := (show (-1) ≤ (σ28 9 2).toInt by omega)
                    exact hret σ28 τ _ _ _ _ ⟨rfl, (fun i hi => ((f36 i hi).trans (f9 i hi))), (fun i hi => ((f37 i hi).trans (f10 i hi))), (fun i hi => ((f38 i hi).trans (f11 i hi))), I49, I243, I244, p39, trivial⟩ hP hS dX7_part_95
                 · obtain ⟨q246, k245⟩ := h69
                   exact by
                    have q246 := q246.symm
                    subst q246
                    refine lv_iload_n hx hb dX7_part_42 rfl (lv_at hl 2 rfl) ?_
                    refine lv_icmp_ne (tgt := 95) hx hb dX7_part_43 (of_decide_eq_true rfl) (fun _ => ?_) (fun c => absurd c (of_decide_eq_true rfl))
                    have I247 : jI91 σ28 := ⟨(by omega), (by omega)⟩
                    have I248 : jI92 σ28 := (show (-1) ≤ (σ28 9 2).toInt by omega)
                    exact hret σ28 τ _ _ _ _ ⟨rfl, (fun i hi => ((f36 i hi).trans (f9 i hi))), (fun i hi => ((f37 i hi).trans (f10 i hi))), (fun i hi => ((f38 i hi).trans (f11 i hi))), I49, I247, I248, p39, trivial⟩ hP hS dX7_part_95
                 · obtain ⟨q250, k249⟩ := h70
                   have q250 := q250.symm
                   exact by
                    subst q250
                    refine lv_iload_n hx hb dX7_part_42 rfl (lv_at hl 2 rfl) ?_
                    refine lv_icmp_ne (tgt := 95) hx hb dX7_part_43 (of_decide_eq_true rfl) (fun _ => ?_) (fun c => absurd c (of_decide_eq_true rfl))
                    have I251 : jI91 σ28 := ⟨(by omega), (by omega)⟩
                    have I252 : jI92 σ28 := (show (-1) ≤ (σ28 9 2).toInt by omega)
                    exact hret σ28 τ _ _ _ _ ⟨rfl, (fun i hi => ((f36 i hi).trans (f9 i hi))), (fun i hi => ((f37 i hi).trans (f10 i hi))), (fun i hi => ((f38 i hi).trans (f11 i hi))), I49, I251, I252, p39, trivial⟩ hP hS dX7_part_95
              · obtain ⟨q254, k253⟩ := h53
                have q254 := q254.symm
                subst q254
                exact by
                 refine jcallS (As := [.int (-1)]) (rest := []) ⟨hx, hb, hml, hown, hts⟩ hK hP hA hS hZ (c_X7_levelOf l D cI cL ad zz hJ σ28 τ (-1) ((-1)) jz_m1) cw_RX7_98 ⟨by dsimp only; omega, by dsimp only; omega⟩ rfl rfl rfl hl.1 rfl (Nat.le_of_ble_eq_true rfl) dX7_part_39 ⟨Nat.zero_le _, Nat.zero_le _⟩ (fun r256 σ255 τ255 H locs h255 hP hS => ?_)
                 obtain ⟨⟨rfl, rfl⟩, h255⟩ := h255
                 rcases h255 with h257 | h258 | h259 | h260 | h261 | h262 | h263 | h264 | h265 | h266 | h267
                 · obtain ⟨q269, k268⟩ := h257
                   exact absurd (by omega : False) id
                 · obtain ⟨q271, k270⟩ := h258
                   exact absurd (by omega : False) id
                 · obtain ⟨q273, k272⟩ := h259
                   exact absurd (by omega : False) id
                 · obtain ⟨q275, k274⟩ := h260
                   exact absurd (by omega : False) id
                 · obtain ⟨q277, k276⟩ := h261
                   exact absurd (by omega : False) id
                 · obtain ⟨q279, k278⟩ := h262
                   exact absurd (by omega : False) id
                 · obtain ⟨q281, k280⟩ := h263
                   exact absurd (by omega : False) id
                 · obtain ⟨q283, k282⟩ := h264
                   exact absurd (by omega : False) id
                 · obtain ⟨q285, k284⟩ := h265
                   exact absurd (by omega : False) id
                 · obtain ⟨q287, k286⟩ := h266
                   exact absurd (by omega : False) id
                 · obtain ⟨q289, k288⟩ := h267
                   have q289 := q289.symm
                   subst q289
                   refine lv_iload_n hx hb dX7_part_42 rfl (lv_at hl 2 rfl) ?_
                   refine lv_icmp_ne (tgt := 95) hx hb dX7_part_43 (of_decide_eq_true rfl) (fun _ => ?_) (fun c => absurd c (of_decide_eq_true rfl))
                   exact by
                    have I290 : jI91 σ28 := ⟨(by omega), (by omega)⟩
                    have I291 : jI92 σ28 := (show (-1) ≤ (σ28 9 2).toInt by omega)
                    exact hret σ28 τ _ _ _ _ ⟨rfl, (fun i hi => ((f36 i hi).trans (f9 i hi))), (fun i hi => ((f37 i hi).trans (f10 i hi))), (fun i hi => ((f38 i hi).trans (f11 i hi))), I49, I290, I291, p39, trivial⟩ hP hS dX7_part_95
   exact by exact lp24 1000000 0 σ7 _ _ ls (by have h90 := jz_0; omega) (by have h90 := jz_0; omega) (by have h90 := jz_0; omega) (by have h90 := jz_0; omega) (by have h90 := jz_0; omega) (by have h90 := jz_0; omega) (fun _ _ => rfl) (fun _ _ => rfl) (fun _ _ => rfl)  I15 hP hS hl
set_option maxHeartbeats 4000000 in
set_option maxRecDepth 100000 in
theorem c_X7_grammar_p1_g (l : Launch) (D : va_G) (cI cL : ClassId) (ad zz : Nat → Nat) (hJ : jD ad) (n : Nat) (h_p2 : ∀ (σ : Nat → Nat → Int32) (τ : Nat → Nat → Int64) (a2 : Int32) (A2 : Int) (t2 : a2.toInt = A2) (hI9 : jI9 σ) (hI91 : jI91 σ) (hI92 : jI92 σ) (hI12 : jI12 σ) (hp0 : 0 ≤ A2 ∧ A2 ≤ 6) (hp1 : -A2 + 6 ≤ (((n) : Nat) : Int)), jMv l yX7_part cX7_part 5 none ({ frames := (14 + 8 * (n)), cells := 0, slots := 0, locals := (560 + 360 * (n)) }) D cI cL ad zz [.ref (ad 9), .int 2, .int a2] σ τ (fun σ' τ' => τ = τ' ∧ (∀ i : Nat, (i < 9 ∨ 9 < i) ∧ (i < 12 ∨ 13 < i) → σ' i = σ i) ∧ (∀ k : Nat, (k < 1 ∨ 1 < k) ∧ (k < 2 ∨ 2 < k) → σ' 9 k = σ 9 k) ∧ (∀ k : Nat, (k < 0 ∨ 0 < k) ∧ (k < 1 ∨ 1 < k) → σ' 12 k = σ 12 k) ∧ (jI9 σ') ∧ (jI91 σ') ∧ (jI92 σ') ∧ (jI12 σ') ∧ True)) (σ : Nat → Nat → Int32) (τ : Nat → Nat → Int64) (a2 : Int32) (A2 : Int) (t2 : a2.toInt = A2) (hI9 : jI9 σ) (hI91 : jI91 σ) (hI92 : jI92 σ) (hI12 : jI12 σ) (hp0 : 0 ≤ A2 ∧ A2 ≤ 6) (hp1 : -A2 + 6 ≤ (((n) : Nat) : Int)) : jMv l yX7_part cX7_part 5 none ({ frames := (15 + 8 * (n)), cells := 0, slots := 0, locals := (600 + 360 * (n)) }) D cI cL ad zz [.ref (ad 9), .int 1, .int a2] σ τ (fun σ' τ' => τ = τ' ∧ (∀ i : Nat, (i < 9 ∨ 9 < i) ∧ (i < 12 ∨ 13 < i) → σ' i = σ i) ∧ (∀ k : Nat, (k < 1 ∨ 1 < k) ∧ (k < 2 ∨ 2 < k) → σ' 9 k = σ 9 k) ∧ (∀ k : Nat, (k < 0 ∨ 0 < k) ∧ (k < 1 ∨ 1 < k) → σ' 12 k = σ 12 k) ∧ (jI9 σ') ∧ (jI91 σ') ∧ (jI92 σ') ∧ (jI12 σ') ∧ True) := by
  refine jMv.of hJ (by decide +kernel) rfl (Nat.le_of_ble_eq_true rfl) ?_
  intro p e s m args below meth c Q ls hC hret hl hP
  obtain ⟨hx, hb, hr, hml, hown, hts, hK, -, hlocks, hZ⟩ := hC
  have hown : s.vm.findClass RX7 = some m.cls := hown
  have hS : va_S (jA ad) s.heap s.heap [] := va_S.rf
  have hA : ∀ q, jA ad q → jA ad q := fun _ h => h
  have hl : lv_has ls 5 [(0, .ref (ad 9)), (1, .int 1), (2, .int a2)] := hl
  have g2 := jrg t2
  obtain ⟨i1, w2, w3⟩ : (0 ≤ (σ 9 0).toInt ∧ (σ 9 0).toInt ≤ 80) ∧ (∀ k : Nat, k < 80 → 0 ≤ (σ 10 k).toInt ∧ (σ 10 k).toInt ≤ 255) ∧ (∀ k : Nat, k < 8 → 0 ≤ (σ 11 k).toInt ∧ (σ 11 k).toInt ≤ 3) := id hI9
  obtain ⟨i4, i5⟩ : (0 ≤ (σ 9 1).toInt) ∧ ((σ 9 1).toInt ≤ (σ 9 0).toInt) := id hI91
  have i6 : (-1) ≤ (σ 9 2).toInt := hI92
  refine lv_iload_n hx hb dX7_part_0 rfl (lv_at hl 1 rfl) ?_
  refine lv_iconst (v := 5) hx hb dX7_part_1 (of_decide_eq_true rfl) ?_
  refine lv_icmp_lt (tgt := 11) hx hb dX7_part_2 (of_decide_eq_true rfl) (fun _ => ?_) (fun c => absurd (of_decide_eq_true rfl) c)
  refine lv_aload_n hx hb dX7_part_11 rfl (lv_at hl 0 rfl) ?_
  refine lv_iload_n hx hb dX7_part_12 rfl (lv_at hl 1 rfl) ?_
  refine lv_iconst (v := 1) hx hb dX7_part_13 (of_decide_eq_true rfl) ?_
  refine lv_iadd hx hb dX7_part_14 ?_
  refine jtopr (y := 2) (of_decide_eq_true rfl) ?_
  refine lv_iload_n hx hb dX7_part_15 rfl (lv_at hl 2 rfl) ?_
  exact by
   refine jcallVv (As := [.int 2, .int a2]) (rest := []) ⟨hx, hb, hml, hown, hts⟩ hK hP hA hS hZ (h_p2 σ τ a2 (A2) t2 hI9 hI91 hI92 hI12 (by omega) (by omega)) cw_RX7_82 (jc_9 cI cL ad σ τ) rfl ⟨by dsimp only; omega, by dsimp only; omega⟩ rfl rfl rfl hl.1 rfl (Nat.le_of_ble_eq_true rfl) dX7_part_16 ⟨Nat.zero_le _, Nat.zero_le _⟩ (fun σ7 τ7 H locs h7 hP hS => ?_)
   obtain ⟨rfl, f9, f10, f11, I12, I13, I14, I15, h7⟩ := h7
   obtain ⟨i17, w18, w19⟩ : (0 ≤ (σ7 9 0).toInt ∧ (σ7 9 0).toInt ≤ 80) ∧ (∀ k : Nat, k < 80 → 0 ≤ (σ7 10 k).toInt ∧ (σ7 10 k).toInt ≤ 255) ∧ (∀ k : Nat, k < 8 → 0 ≤ (σ7 11 k).toInt ∧ (σ7 11 k).toInt ≤ 3) := id I12
   obtain ⟨i20, i21⟩ : (0 ≤ (σ7 9 1).toInt) ∧ ((σ7 9 1).toInt ≤ (σ7 9 0).toInt) := id I13
   have i22 : (-1) ≤ (σ7 9 2).toInt := I14
   have z23 : (σ7 9 0).toInt = (σ 9 0).toInt := (congrArg Int32.toInt (show σ7 9 0 = (σ 9 0) from (f10 0 (of_decide_eq_true rfl))))
   refine lv_iconst (v := 0) hx hb dX7_part_19 (of_decide_eq_true rfl) ?_
   refine lv_istore_n (lv' := [(3, .int 0), (0, .ref (ad 9)), (1, .int 1), (2, .int a2)]) hx hb dX7_part_20 rfl hl (of_decide_eq_true rfl) rfl (fun ls hl => ?_)
   have lp24 : ∀ (n25 : Nat) (x26 : Int32) (σ28 : Nat → Nat → Int32) (H : Heap) (locs : List Loc) (ls : Array Slot), (-x26.toInt + 80 : Int) < n25 → 0 ≤ x26.toInt → x26.toInt ≤ 80 → 0 ≤ (σ28 9 1).toInt → (σ28 9 1).toInt ≤ (σ28 9 0).toInt → (-1) ≤ (σ28 9 2).toInt → (∀ i : Nat, (i < 9 ∨ 9 < i) ∧ (i < 12 ∨ 13 < i) → σ28 i = σ7 i) → (∀ k : Nat, (k < 1 ∨ 1 < k) ∧ (k < 2 ∨ 2 < k) → σ28 9 k = σ7 9 k) → (∀ k : Nat, (k < 0 ∨ 0 < k) ∧ (k < 1 ∨ 1 < k) → σ28 12 k = σ7 12 k) → jI12 σ28 → jH D cI cL ad σ28 τ H → va_S (jA ad) s.heap H locs → lv_has ls 5 [(3, .int x26), (0, .ref (ad 9)), (1, .int 1), (2, .int a2)] → W p l e ({ frames := (15 + 8 * (n)), cells := 0, slots := 0, locals := (600 + 360 * (n)) }) s m args below meth c H locs 0 0 Q (F0 m 21 ls []) := by
     intro n25
     induction n25 with
     | zero => intro x26 σ28 H locs ls h30 h31 h32 h33 h34 h35; exact absurd h30 (by omega)
     | succ n25 ihlp24 =>
       intro x26 σ28 H locs ls h30 h31 h32 h33 h34 h35 f36 f37 f38 p39 hP hS hl
       exact by
        have z40 : (σ28 9 0).toInt = (σ 9 0).toInt := (congrArg Int32.toInt (show σ28 9 0 = (σ 9 0) from ((f37 0 (of_decide_eq_true rfl)).trans (f10 0 (of_decide_eq_true rfl)))))
        refine lv_iload_n hx hb dX7_part_21 rfl (lv_at hl 0 rfl) ?_
        refine lv_bipush (v := 80) hx hb dX7_part_22 (of_decide_eq_true rfl) ?_
        refine lv_icmp_ge (tgt := 95) hx hb dX7_part_24 (of_decide_eq_true rfl) (fun c41 => ?_) (fun c41 => ?_)
        · have kc41 := jle c41 jz_80 rfl
          have I42 : jI9 σ28 := jI9_fr (f37 0 (of_decide_eq_true rfl)) (f36 10 (of_decide_eq_true rfl)) (f36 11 (of_decide_eq_true rfl)) I12
          have I43 : jI91 σ28 := ⟨(by omega), (by omega)⟩
          have I44 : jI92 σ28 := (show (-1) ≤ (σ28 9 2).toInt by omega)
          exact hret σ28 τ _ _ _ _ ⟨rfl, (fun i hi => ((f36 i hi).trans (f9 i hi))), (fun i hi => ((f37 i hi).trans (f10 i hi))), (fun i hi => ((f38 i hi).trans (f11 i hi))), I42, I43, I44, p39, trivial⟩ hP hS dX7_part_95
        · exact by
           have kc41 := jnle c41 jz_80 rfl
           refine lv_aload_n hx hb dX7_part_27 rfl (lv_at hl 1 rfl) ?_
           refine va_get (D := D) hx hb hts inlX7 hown hK hP 9 (jc_9 cI cL ad σ28 τ) rfl 2 (of_decide_eq_true rfl) (hts _ kw_14_6) (fun _ h9 => h9) rfl dX7_part_28 ?_
           refine lv_iconst (v := (-1)) hx hb dX7_part_31 (of_decide_eq_true rfl) ?_
           refine lv_icmp_ne (tgt := 95) hx hb dX7_part_32 (of_decide_eq_true rfl) (fun c45 => ?_) (fun c45 => ?_)
           · have kc45 := jne c45 rfl jz_m1
             have I46 : jI9 σ28 := jI9_fr (f37 0 (of_decide_eq_true rfl)) (f36 10 (of_decide_eq_true rfl)) (f36 11 (of_decide_eq_true rfl)) I12
             have I47 : jI91 σ28 := ⟨(by omega), (by omega)⟩
             have I48 : jI92 σ28 := (show (-1) ≤ (σ28 9 2).toInt by omega)
             exact hret σ28 τ _ _ _ _ ⟨rfl, (fun i hi => ((f36 i hi).trans (f9 i hi))), (fun i hi => ((f37 i hi).trans (f10 i hi))), (fun i hi => ((f38 i hi).trans (f11 i hi))), I46, I47, I48, p39, trivial⟩ hP hS dX7_part_95
           · exact by
              have kc45 := jeq c45 rfl jz_m1
              refine lv_aload_n hx hb dX7_part_35 rfl (lv_at hl 1 rfl) ?_
              have I49 : jI9 σ28 := jI9_fr (f37 0 (of_decide_eq_true rfl)) (f36 10 (of_decide_eq_true rfl)) (f36 11 (of_decide_eq_true rfl)) I12
              refine jcallV (As := []) (rest := []) ⟨hx, hb, hml, hown, hts⟩ hK hP hA hS hZ (c_X7_sign_9 l D cI cL ad zz hJ σ28 τ I49) cw_RX7_35 (jc_9 cI cL ad σ28 τ) rfl ⟨by dsimp only; omega, by dsimp only; omega⟩ rfl rfl rfl hl.1 rfl (Nat.le_of_ble_eq_true rfl) dX7_part_36 ⟨Nat.zero_le _, Nat.zero_le _⟩ (fun r51 σ50 τ50 H locs h50 hP hS => ?_)
              obtain ⟨⟨rfl, rfl⟩, h50⟩ := h50
              rcases h50 with h52 | h53
              · obtain ⟨q56, k54, k55⟩ := h52
                have q57 : r51 = (σ 10 (σ28 9 1).toNatClampNeg) := q56.trans (by rw [f36 10 (of_decide_eq_true rfl), f9 10 (of_decide_eq_true rfl)])
                have q57e : (σ28 10 (σ28 9 1).toNatClampNeg).toInt = (σ 10 (σ28 9 1).toNatClampNeg).toInt := by rw [← q56, ← q57]
                exact by
                 have q57 := q57.symm
                 subst q57
                 refine jcallS (As := [.int (σ 10 (σ28 9 1).toNatClampNeg)]) (rest := []) ⟨hx, hb, hml, hown, hts⟩ hK hP hA hS hZ (c_X7_levelOf l D cI cL ad zz hJ σ28 τ (σ 10 (σ28 9 1).toNatClampNeg) ((σ 10 (σ28 9 1).toNatClampNeg).toInt) rfl) cw_RX7_98 ⟨by dsimp only; omega, by dsimp only; omega⟩ rfl rfl rfl hl.1 rfl (Nat.le_of_ble_eq_true rfl) dX7_part_39 ⟨Nat.zero_le _, Nat.zero_le _⟩ (fun r59 σ58 τ58 H locs h58 hP hS => ?_)
                 obtain ⟨⟨rfl, rfl⟩, h58⟩ := h58
                 rcases h58 with h60 | h61 | h62 | h63 | h64 | h65 | h66 | h67 | h68 | h69 | h70
                 · obtain ⟨q72, k71⟩ := h60
                   have q72 := q72.symm
                   subst q72
                   refine lv_iload_n hx hb dX7_part_42 rfl (lv_at hl 2 rfl) ?_
                   refine lv_icmp_ne (tgt := 95) hx hb dX7_part_43 (of_decide_eq_true rfl) (fun _ => ?_) (fun c => absurd c (of_decide_eq_true rfl))
                   exact by
                    have I73 : jI91 σ28 := ⟨(by omega), (by omega)⟩
                    have I74 : jI92 σ28 := (show (-1) ≤ (σ28 9 2).toInt by omega)
                    exact hret σ28 τ _ _ _ _ ⟨rfl, (fun i hi => ((f36 i hi).trans (f9 i hi))), (fun i hi => ((f37 i hi).trans (f10 i hi))), (fun i hi => ((f38 i hi).trans (f11 i hi))), I49, I73, I74, p39, trivial⟩ hP hS dX7_part_95
                 · obtain ⟨q76, k75⟩ := h61
                   have q76 := q76.symm
                   subst q76
                   refine lv_iload_n hx hb dX7_part_42 rfl (lv_at hl 2 rfl) ?_
                   refine lv_icmp_ne (tgt := 95) hx hb dX7_part_43 (of_decide_eq_true rfl) (fun c => absurd (of_decide_eq_true rfl) c) (fun _ => ?_)
                   refine lv_aload_n hx hb dX7_part_46 rfl (lv_at hl 1 rfl) ?_
                   refine jcallV (As := []) (rest := []) ⟨hx, hb, hml, hown, hts⟩ hK hP hA hS hZ (c_X7_sign_9 l D cI cL ad zz hJ σ28 τ I49) cw_RX7_35 (jc_9 cI cL ad σ28 τ) rfl ⟨by dsimp only; omega, by dsimp only; omega⟩ rfl rfl rfl hl.1 rfl (Nat.le_of_ble_eq_true rfl) dX7_part_47 ⟨Nat.zero_le _, Nat.zero_le _⟩ (fun r78 σ77 τ77 H locs h77 hP hS => ?_)
                   obtain ⟨⟨rfl, rfl⟩, h77⟩ := h77
                   rcases h77 with h79 | h80
                   · obtain ⟨q83, k81, k82⟩ := h79
                     exact by
                      have q84 : r78 = (σ 10 (σ28 9 1).toNatClampNeg) := q83.trans (by rw [f36 10 (of_decide_eq_true rfl), f9 10 (of_decide_eq_true rfl)])
                      have q84e : (σ28 10 (σ28 9 1).toNatClampNeg).toInt = (σ 10 (σ28 9 1).toNatClampNeg).toInt := by rw [← q83, ← q84]
                      have q84 := q84.symm
                      subst q84
                      refine lv_istore (lv' := [(4, .int (σ 10 (σ28 9 1).toNatClampNeg)), (3, .int x26), (0, .ref (ad 9)), (1, .int 1), (2, .int a2)]) hx hb dX7_part_50 hl (of_decide_eq_true rfl) rfl (fun ls hl => ?_)
                      refine lv_aload_n hx hb dX7_part_52 rfl (lv_at hl 2 rfl) ?_
                      refine lv_dup hx hb dX7_part_53 rfl ?_
                      refine va_get (D := D) hx hb hts inlX7 hown hK hP 9 (jc_9 cI cL ad σ28 τ) rfl 1 (of_decide_eq_true rfl) (hts _ kw_13_17) (fun _ h9 => h9) rfl dX7_part_54 ?_
                      refine lv_iconst (v := 1) hx hb dX7_part_57 (of_decide_eq_true rfl) ?_
                      have g85 := jrg (rfl : (σ28 9 1).toInt = (σ28 9 1).toInt)
                      refine lv_iadd hx hb dX7_part_58 ?_
                      refine lv_topi (fun x86 ex86 => ?_)
                      exact by
                       have tx86 : x86.toInt = (σ28 9 1).toInt + 1 := (jadd ex86 rfl jz_1 (by omega) (by omega)).trans (by omega)
                       refine jput (ty := .int) hx hb hts inlX7 tyX7 tyX7_ok nmX7 hown hK hP hJ hA hS (jc_9 cI cL ad σ28 τ) rfl (k := 1) (of_decide_eq_true rfl) (Nat.le_of_ble_eq_true rfl) (jp_9_1 cI cL ad σ28 τ x86) (hts _ kw_13_17) (fun _ h9 => h9) rfl (by decide +kernel) rfl rfl dX7_part_59 (fun σ87 H locs eσ87 hP hS => ?_)
                       refine lv_aload_n hx hb dX7_part_62 rfl (lv_at hl 2 rfl) ?_
                       refine lv_iload_n hx hb dX7_part_63 rfl (lv_at hl 3 rfl) ?_
                       refine lv_iconst (v := 1) hx hb dX7_part_64 (of_decide_eq_true rfl) ?_
                       refine lv_iadd hx hb dX7_part_65 ?_
                       refine jtopr (y := 2) (of_decide_eq_true rfl) ?_
                       refine lv_iload_n hx hb dX7_part_66 rfl (lv_at hl 4 rfl) ?_
                       have I88 : jI9 σ87 := jI9_fr (jkp 0 eσ87 (of_decide_eq_true rfl)) (jnp 10 eσ87 (of_decide_eq_true rfl)) (jnp 11 eσ87 (of_decide_eq_true rfl)) I49
                       have z89 : (σ87 9 1).toInt = (σ28 9 1).toInt + 1 := ((congrArg Int32.toInt (show σ87 9 1 = x86 from (jsp eσ87))).trans tx86)
                       have z90 : (σ87 9 0).toInt = (σ 9 0).toInt := (congrArg Int32.toInt (show σ87 9 0 = (σ 9 0) from ((jkp 0 eσ87 (of_decide_eq_true rfl)).trans ((f37 0 (of_decide_eq_true rfl)).trans (f10 0 (of_decide_eq_true rfl))))))
                       exact by
                        have I91 : jI91 σ87 := ⟨(by omega), (by omega)⟩
                        have z92 : (σ87 9 2).toInt = (σ28 9 2).toInt := (congrArg Int32.toInt (show σ87 9 2 = (σ28 9 2) from (jkp 2 eσ87 (of_decide_eq_true rfl))))
                        have I93 : jI92 σ87 := (show (-1) ≤ (σ87 9 2).toInt by omega)
                        have I94 : jI12 σ87 := jI12_fr (congrFun (jnp 12 eσ87 (of_decide_eq_true rfl)) 0) (jnp 13 eσ87 (of_decide_eq_true rfl)) p39
                        refine jcallVv (As := [.int 2, .int a2]) (rest := []) ⟨hx, hb, hml, hown, hts⟩ hK hP hA hS hZ (h_p2 σ87 τ a2 (A2) t2 I88 I91 I93 I94 (by omega) (by omega)) cw_RX7_82 (jc_9 cI cL ad σ87 τ) rfl ⟨by dsimp only; omega, by dsimp only; omega⟩ rfl rfl rfl hl.1 rfl (Nat.le_of_ble_eq_true rfl) dX7_part_67 ⟨Nat.zero_le _, Nat.zero_le _⟩ (fun σ95 τ95 H locs h95 hP hS => ?_)
                        obtain ⟨rfl, f97, f98, f99, I100, I101, I102, I103, h95⟩ := h95
                        obtain ⟨i105, w106, w107⟩ : (0 ≤ (σ95 9 0).toInt ∧ (σ95 9 0).toInt ≤ 80) ∧ (∀ k : Nat, k < 80 → 0 ≤ (σ95 10 k).toInt ∧ (σ95 10 k).toInt ≤ 255) ∧ (∀ k : Nat, k < 8 → 0 ≤ (σ95 11 k).toInt ∧ (σ95 11 k).toInt ≤ 3) := id I100
                        obtain ⟨i108, i109⟩ : (0 ≤ (σ95 9 1).toInt) ∧ ((σ95 9 1).toInt ≤ (σ95 9 0).toInt) := id I101
                        have i110 : (-1) ≤ (σ95 9 2).toInt := I102
                        exact by
                         have z111 : (σ95 9 0).toInt = (σ 9 0).toInt := (congrArg Int32.toInt (show σ95 9 0 = (σ 9 0) from ((f98 0 (of_decide_eq_true rfl)).trans ((jkp 0 eσ87 (of_decide_eq_true rfl)).trans ((f37 0 (of_decide_eq_true rfl)).trans (f10 0 (of_decide_eq_true rfl)))))))
                         refine lv_aload_n hx hb dX7_part_70 rfl (lv_at hl 2 rfl) ?_
                         refine va_get (D := D) hx hb hts inlX7 hown hK hP 9 (jc_9 cI cL ad σ95 τ) rfl 5 (of_decide_eq_true rfl) (hts _ kw_3_23) (fun _ h9 => h9) rfl dX7_part_71 ?_
                         refine lv_sipush (v := 20000) hx hb dX7_part_74 (of_decide_eq_true rfl) ?_
                         refine lv_iload hx hb dX7_part_77 (lv_at hl 0 rfl) ?_
                         have g112 := jrg (rfl : (σ 10 (σ28 9 1).toNatClampNeg).toInt = (σ 10 (σ28 9 1).toNatClampNeg).toInt)
                         refine lv_iadd hx hb dX7_part_79 ?_
                         refine lv_topi (fun x113 ex113 => ?_)
                         have tx113 : x113.toInt = (σ 10 (σ28 9 1).toNatClampNeg).toInt + 20000 := (jadd ex113 jz_20000 rfl (by omega) (by omega)).trans (by omega)
                         exact by
                          refine jcallVv (As := [.int x113]) (rest := []) ⟨hx, hb, hml, hown, hts⟩ hK hP hA hS hZ (c_X10_add_12 l D cI cL ad zz hJ σ95 τ x113 ((σ 10 (σ28 9 1).toNatClampNeg).toInt + 20000) tx113 I103 (by omega)) cw_RX7_86 (jc_12 cI cL ad σ95 τ) rfl ⟨by dsimp only; omega, by dsimp only; omega⟩ rfl rfl rfl hl.1 rfl (Nat.le_of_ble_eq_true rfl) dX7_part_80 ⟨Nat.zero_le _, Nat.zero_le _⟩ (fun σ114 τ114 H locs h114 hP hS => ?_)
                          obtain ⟨rfl, f116, f117, I118, h114⟩ := h114
                          refine lv_iload_n hx hb dX7_part_83 rfl (lv_at hl 3 rfl) ?_
                          refine lv_iconst (v := 2) hx hb dX7_part_84 (of_decide_eq_true rfl) ?_
                          refine lv_icmp_ne (tgt := 89) hx hb dX7_part_85 (of_decide_eq_true rfl) (fun _ => ?_) (fun c => absurd c (of_decide_eq_true rfl))
                          obtain ⟨x120, ex120⟩ : ∃ y : Int32, y = x26 + 1 := ⟨_, rfl⟩
                          have tx120 : x120.toInt = x26.toInt + 1 := (jadd ex120 rfl jz_1 (by omega) (by omega)).trans (by omega)
                          refine lv_iinc (v := x120) (lv' := [(3, .int x120), (4, .int (σ 10 (σ28 9 1).toNatClampNeg)), (0, .ref (ad 9)), (1, .int 1), (2, .int a2)]) hx hb dX7_part_89 hl (k := 1) rfl (by rw [ex120]; rfl) (of_decide_eq_true rfl) rfl (fun ls hl => ?_)
                          refine lv_goto (tgt := 21) hx hb dX7_part_92 (of_decide_eq_true rfl) ?_
                          exact by
                           have z121 : (σ114 9 1).toInt = (σ95 9 1).toInt := (congrArg Int32.toInt (show σ114 9 1 = (σ95 9 1) from (congrFun (f116 9 (of_decide_eq_true rfl)) 1)))
                           have z122 : (σ114 9 0).toInt = (σ 9 0).toInt := (congrArg Int32.toInt (show σ114 9 0 = (σ 9 0) from ((congrFun (f116 9 (of_decide_eq_true rfl)) 0).trans ((f98 0 (of_decide_eq_true rfl)).trans ((jkp 0 eσ87 (of_decide_eq_true rfl)).trans ((f37 0 (of_decide_eq_true rfl)).trans (f10 0 (of_decide_eq_true rfl))))))))
                           have z123 : (σ114 9 2).toInt = (σ95 9 2).toInt := (congrArg Int32.toInt (show σ114 9 2 = (σ95 9 2) from (congrFun (f116 9 (of_decide_eq_true rfl)) 2)))
                           exact by exact ihlp24 x120 σ114 _ _ ls (by have h90 := tx120; omega) (by have h90 := tx120; omega) (by have h90 := tx120; omega) (by have h90 := tx120; omega) (by have h90 := tx120; omega) (by have h90 := tx120; omega) (fun i hi => ((f116 i (imp_58 i hi)).trans ((f97 i hi).trans ((jnp i eσ87 (imp_60 i hi)).trans (f36 i hi))))) (fun i hi => ((congrFun (f116 9 (of_decide_eq_true rfl)) i).trans ((f98 i hi).trans ((jkp i eσ87 (imp_39 i hi)).trans (f37 i hi))))) (fun i hi => ((f117 i hi).trans ((f99 i hi).trans ((congrFun (jnp 12 eσ87 (of_decide_eq_true rfl)) i).trans (f38 i hi)))))  I118 hP hS (lv_sub hl [0, 2, 3, 4] rfl)
                   · obtain ⟨q125, k124⟩ := h80
                     exact absurd (by omega : False) id
                 · obtain ⟨q127, k126⟩ := h62
                   have q127 := q127.symm
                   subst q127
                   refine lv_iload_n hx hb dX7_part_42 rfl (lv_at hl 2 rfl) ?_
                   refine lv_icmp_ne (tgt := 95) hx hb dX7_part_43 (of_decide_eq_true rfl) (fun _ => ?_) (fun c => absurd c (of_decide_eq_true rfl))
                   exact by
                    have I128 : jI91 σ28 := ⟨(by omega), (by omega)⟩
                    have I129 : jI92 σ28 := (show (-1) ≤ (σ28 9 2).toInt by omega)
                    exact hret σ28 τ _ _ _ _ ⟨rfl, (fun i hi => ((f36 i hi).trans (f9 i hi))), (fun i hi => ((f37 i hi).trans (f10 i hi))), (fun i hi => ((f38 i hi).trans (f11 i hi))), I49, I128, I129, p39, trivial⟩ hP hS dX7_part_95
                 · obtain ⟨q131, k130⟩ := h63
                   have q131 := q131.symm
                   subst q131
                   refine lv_iload_n hx hb dX7_part_42 rfl (lv_at hl 2 rfl) ?_
                   refine lv_icmp_ne (tgt := 95) hx hb dX7_part_43 (of_decide_eq_true rfl) (fun _ => ?_) (fun c => absurd c (of_decide_eq_true rfl))
                   have I132 : jI91 σ28 := ⟨(by omega), (by omega)⟩
                   exact by
                    have I133 : jI92 σ28 := (show (-1) ≤ (σ28 9 2).toInt by omega)
                    exact hret σ28 τ _ _ _ _ ⟨rfl, (fun i hi => ((f36 i hi).trans (f9 i hi))), (fun i hi => ((f37 i hi).trans (f10 i hi))), (fun i hi => ((f38 i hi).trans (f11 i hi))), I49, I132, I133, p39, trivial⟩ hP hS dX7_part_95
                 · obtain ⟨q135, k134⟩ := h64
                   have q135 := q135.symm
                   subst q135
                   refine lv_iload_n hx hb dX7_part_42 rfl (lv_at hl 2 rfl) ?_
                   refine lv_icmp_ne (tgt := 95) hx hb dX7_part_43 (of_decide_eq_true rfl) (fun _ => ?_) (fun c => absurd c (of_decide_eq_true rfl))
                   have I136 : jI91 σ28 := ⟨(by omega), (by omega)⟩
                   have I137 : jI92 σ28 := (show (-1) ≤ (σ28 9 2).toInt by omega)
                   exact hret σ28 τ _ _ _ _ ⟨rfl, (fun i hi => ((f36 i hi).trans (f9 i hi))), (fun i hi => ((f37 i hi).trans (f10 i hi))), (fun i hi => ((f38 i hi).trans (f11 i hi))), I49, I136, I137, p39, trivial⟩ hP hS dX7_part_95
                 · exact by
                    obtain ⟨q139, k138⟩ := h65
                    have q139 := q139.symm
                    subst q139
                    refine lv_iload_n hx hb dX7_part_42 rfl (lv_at hl 2 rfl) ?_
                    refine lv_icmp_ne (tgt := 95) hx hb dX7_part_43 (of_decide_eq_true rfl) (fun _ => ?_) (fun c => absurd c (of_decide_eq_true rfl))
                    have I140 : jI91 σ28 := ⟨(by omega), (by omega)⟩
                    have I141 : jI92 σ28 := (show (-1) ≤ (σ28 9 2).toInt by omega)
                    exact hret σ28 τ _ _ _ _ ⟨rfl, (fun i hi => ((f36 i hi).trans (f9 i hi))), (fun i hi => ((f37 i hi).trans (f10 i hi))), (fun i hi => ((f38 i hi).trans (f11 i hi))), I49, I140, I141, p39, trivial⟩ hP hS dX7_part_95
                 · obtain ⟨q143, k142⟩ := h66
                   exact by
                    have q143 := q143.symm
                    subst q143
                    refine lv_iload_n hx hb dX7_part_42 rfl (lv_at hl 2 rfl) ?_
                    refine lv_icmp_ne (tgt := 95) hx hb dX7_part_43 (of_decide_eq_true rfl) (fun _ => ?_) (fun c => absurd c (of_decide_eq_true rfl))
                    have I144 : jI91 σ28 := ⟨(by omega), (by omega)⟩
                    have I145 : jI92 σ28 := (show (-1) ≤ (σ28 9 2).toInt by omega)
                    exact hret σ28 τ _ _ _ _ ⟨rfl, (fun i hi => ((f36 i hi).trans (f9 i hi))), (fun i hi => ((f37 i hi).trans (f10 i hi))), (fun i hi => ((f38 i hi).trans (f11 i hi))), I49, I144, I145, p39, trivial⟩ hP hS dX7_part_95
                 · obtain ⟨q147, k146⟩ := h67
                   have q147 := q147.symm
                   exact by
                    subst q147
                    refine lv_iload_n hx hb dX7_part_42 rfl (lv_at hl 2 rfl) ?_
                    refine lv_icmp_ne (tgt := 95) hx hb dX7_part_43 (of_decide_eq_true rfl) (fun _ => ?_) (fun c => absurd c (of_decide_eq_true rfl))
                    have I148 : jI91 σ28 := ⟨(by omega), (by omega)⟩
                    have I149 : jI92 σ28 := (show (-1) ≤ (σ28 9 2).toInt by omega)
                    exact hret σ28 τ _ _ _ _ ⟨rfl, (fun i hi => ((f36 i hi).trans (f9 i hi))), (fun i hi => ((f37 i hi).trans (f10 i hi))), (fun i hi => ((f38 i hi).trans (f11 i hi))), I49, I148, I149, p39, trivial⟩ hP hS dX7_part_95
                 · obtain ⟨q151, k150⟩ := h68
                   have q151 := q151.symm
                   subst q151
                   exact by
                    refine lv_iload_n hx hb dX7_part_42 rfl (lv_at hl 2 rfl) ?_
                    refine lv_icmp_ne (tgt := 95) hx hb dX7_part_43 (of_decide_eq_true rfl) (fun _ => ?_) (fun c => absurd c (of_decide_eq_true rfl))
                    have I152 : jI91 σ28 := ⟨(by omega), (by omega)⟩
                    have I153 : jI92 σ28 := (show (-1) ≤ (σ28 9 2).toInt by omega)
                    exact hret σ28 τ _ _ _ _ ⟨rfl, (fun i hi => ((f36 i hi).trans (f9 i hi))), (fun i hi => ((f37 i hi).trans (f10 i hi))), (fun i hi => ((f38 i hi).trans (f11 i hi))), I49, I152, I153, p39, trivial⟩ hP hS dX7_part_95
                 · obtain ⟨q155, k154⟩ := h69
                   have q155 := q155.symm
                   subst q155
                   refine lv_iload_n hx hb dX7_part_42 rfl (lv_at hl 2 rfl) ?_
                   exact by
                    refine lv_icmp_ne (tgt := 95) hx hb dX7_part_43 (of_decide_eq_true rfl) (fun _ => ?_) (fun c => absurd c (of_decide_eq_true rfl))
                    have I156 : jI91 σ28 := ⟨(by omega), (by omega)⟩
                    have I157 : jI92 σ28 := (show (-1) ≤ (σ28 9 2).toInt by omega)
                    exact hret σ28 τ _ _ _ _ ⟨rfl, (fun i hi => ((f36 i hi).trans (f9 i hi))), (fun i hi => ((f37 i hi).trans (f10 i hi))), (fun i hi => ((f38 i hi).trans (f11 i hi))), I49, I156, I157, p39, trivial⟩ hP hS dX7_part_95
                 · obtain ⟨q159, k158⟩ := h70
                   have q159 := q159.symm
                   subst q159
                   refine lv_iload_n hx hb dX7_part_42 rfl (lv_at hl 2 rfl) ?_
                   refine lv_icmp_ne (tgt := 95) hx hb dX7_part_43 (of_decide_eq_true rfl) (fun _ => ?_) (fun c => absurd c (of_decide_eq_true rfl))
                   exact by
                    have I160 : jI91 σ28 := ⟨(by omega), (by omega)⟩
                    have I161 : jI92 σ28 := (show (-1) ≤ (σ28 9 2).toInt by omega)
                    exact hret σ28 τ _ _ _ _ ⟨rfl, (fun i hi => ((f36 i hi).trans (f9 i hi))), (fun i hi => ((f37 i hi).trans (f10 i hi))), (fun i hi => ((f38 i hi).trans (f11 i hi))), I49, I160, I161, p39, trivial⟩ hP hS dX7_part_95
              · obtain ⟨q163, k162⟩ := h53
                have q163 := q163.symm
                subst q163
                refine jcallS (As := [.int (-1)]) (rest := []) ⟨hx, hb, hml, hown, hts⟩ hK hP hA hS hZ (c_X7_levelOf l D cI cL ad zz hJ σ28 τ (-1) ((-1)) jz_m1) cw_RX7_98 ⟨by dsimp only; omega, by dsimp only; omega⟩ rfl rfl rfl hl.1 rfl (Nat.le_of_ble_eq_true rfl) dX7_part_39 ⟨Nat.zero_le _, Nat.zero_le _⟩ (fun r165 σ164 τ164 H locs h164 hP hS => ?_)
                obtain ⟨⟨rfl, rfl⟩, h164⟩ := h164
                rcases h164 with h166 | h167 | h168 | h169 | h170 | h171 | h172 | h173 | h174 | h175 | h176
                · obtain ⟨q178, k177⟩ := h166
                  exact absurd (by omega : False) id
                · obtain ⟨q180, k179⟩ := h167
                  exact absurd (by omega : False) id
                · obtain ⟨q182, k181⟩ := h168
                  exact absurd (by omega : False) id
                · obtain ⟨q184, k183⟩ := h169
                  exact absurd (by omega : False) id
                · obtain ⟨q186, k185⟩ := h170
                  exact absurd (by omega : False) id
                · obtain ⟨q188, k187⟩ := h171
                  exact absurd (by omega : False) id
                · obtain ⟨q190, k189⟩ := h172
                  exact absurd (by omega : False) id
                · obtain ⟨q192, k191⟩ := h173
                  exact absurd (by omega : False) id
                · obtain ⟨q194, k193⟩ := h174
                  exact absurd (by omega : False) id
                · obtain ⟨q196, k195⟩ := h175
                  exact absurd (by omega : False) id
                · obtain ⟨q198, k197⟩ := h176
                  have q198 := q198.symm
                  subst q198
                  refine lv_iload_n hx hb dX7_part_42 rfl (lv_at hl 2 rfl) ?_
                  refine lv_icmp_ne (tgt := 95) hx hb dX7_part_43 (of_decide_eq_true rfl) (fun _ => ?_) (fun c => absurd c (of_decide_eq_true rfl))
                  exact by
                   have I199 : jI91 σ28 := ⟨(by omega), (by omega)⟩
                   have I200 : jI92 σ28 := (show (-1) ≤ (σ28 9 2).toInt by omega)
                   exact hret σ28 τ _ _ _ _ ⟨rfl, (fun i hi => ((f36 i hi).trans (f9 i hi))), (fun i hi => ((f37 i hi).trans (f10 i hi))), (fun i hi => ((f38 i hi).trans (f11 i hi))), I49, I199, I200, p39, trivial⟩ hP hS dX7_part_95
   exact by exact lp24 1000000 0 σ7 _ _ ls (by have h90 := jz_0; omega) (by have h90 := jz_0; omega) (by have h90 := jz_0; omega) (by have h90 := jz_0; omega) (by have h90 := jz_0; omega) (by have h90 := jz_0; omega) (fun _ _ => rfl) (fun _ _ => rfl) (fun _ _ => rfl)  I15 hP hS hl
set_option maxHeartbeats 4000000 in
set_option maxRecDepth 100000 in
theorem c_X7_grammar_p0_g (l : Launch) (D : va_G) (cI cL : ClassId) (ad zz : Nat → Nat) (hJ : jD ad) (n : Nat) (h_p1 : ∀ (σ : Nat → Nat → Int32) (τ : Nat → Nat → Int64) (a2 : Int32) (A2 : Int) (t2 : a2.toInt = A2) (hI9 : jI9 σ) (hI91 : jI91 σ) (hI92 : jI92 σ) (hI12 : jI12 σ) (hp0 : 0 ≤ A2 ∧ A2 ≤ 6) (hp1 : -A2 + 6 ≤ (((n) : Nat) : Int)), jMv l yX7_part cX7_part 5 none ({ frames := (15 + 8 * (n)), cells := 0, slots := 0, locals := (600 + 360 * (n)) }) D cI cL ad zz [.ref (ad 9), .int 1, .int a2] σ τ (fun σ' τ' => τ = τ' ∧ (∀ i : Nat, (i < 9 ∨ 9 < i) ∧ (i < 12 ∨ 13 < i) → σ' i = σ i) ∧ (∀ k : Nat, (k < 1 ∨ 1 < k) ∧ (k < 2 ∨ 2 < k) → σ' 9 k = σ 9 k) ∧ (∀ k : Nat, (k < 0 ∨ 0 < k) ∧ (k < 1 ∨ 1 < k) → σ' 12 k = σ 12 k) ∧ (jI9 σ') ∧ (jI91 σ') ∧ (jI92 σ') ∧ (jI12 σ') ∧ True)) (σ : Nat → Nat → Int32) (τ : Nat → Nat → Int64) (a2 : Int32) (A2 : Int) (t2 : a2.toInt = A2) (hI9 : jI9 σ) (hI91 : jI91 σ) (hI92 : jI92 σ) (hI12 : jI12 σ) (hp0 : 0 ≤ A2 ∧ A2 ≤ 6) (hp1 : -A2 + 6 ≤ (((n) : Nat) : Int)) : jMv l yX7_part cX7_part 5 none ({ frames := (16 + 8 * (n)), cells := 0, slots := 0, locals := (640 + 360 * (n)) }) D cI cL ad zz [.ref (ad 9), .int 0, .int a2] σ τ (fun σ' τ' => τ = τ' ∧ (∀ i : Nat, (i < 9 ∨ 9 < i) ∧ (i < 12 ∨ 13 < i) → σ' i = σ i) ∧ (∀ k : Nat, (k < 1 ∨ 1 < k) ∧ (k < 2 ∨ 2 < k) → σ' 9 k = σ 9 k) ∧ (∀ k : Nat, (k < 0 ∨ 0 < k) ∧ (k < 1 ∨ 1 < k) → σ' 12 k = σ 12 k) ∧ (jI9 σ') ∧ (jI91 σ') ∧ (jI92 σ') ∧ (jI12 σ') ∧ True) := by
  refine jMv.of hJ (by decide +kernel) rfl (Nat.le_of_ble_eq_true rfl) ?_
  intro p e s m args below meth c Q ls hC hret hl hP
  obtain ⟨hx, hb, hr, hml, hown, hts, hK, -, hlocks, hZ⟩ := hC
  have hown : s.vm.findClass RX7 = some m.cls := hown
  have hS : va_S (jA ad) s.heap s.heap [] := va_S.rf
  have hA : ∀ q, jA ad q → jA ad q := fun _ h => h
  have hl : lv_has ls 5 [(0, .ref (ad 9)), (1, .int 0), (2, .int a2)] := hl
  have g2 := jrg t2
  obtain ⟨i1, w2, w3⟩ : (0 ≤ (σ 9 0).toInt ∧ (σ 9 0).toInt ≤ 80) ∧ (∀ k : Nat, k < 80 → 0 ≤ (σ 10 k).toInt ∧ (σ 10 k).toInt ≤ 255) ∧ (∀ k : Nat, k < 8 → 0 ≤ (σ 11 k).toInt ∧ (σ 11 k).toInt ≤ 3) := id hI9
  obtain ⟨i4, i5⟩ : (0 ≤ (σ 9 1).toInt) ∧ ((σ 9 1).toInt ≤ (σ 9 0).toInt) := id hI91
  have i6 : (-1) ≤ (σ 9 2).toInt := hI92
  refine lv_iload_n hx hb dX7_part_0 rfl (lv_at hl 1 rfl) ?_
  refine lv_iconst (v := 5) hx hb dX7_part_1 (of_decide_eq_true rfl) ?_
  refine lv_icmp_lt (tgt := 11) hx hb dX7_part_2 (of_decide_eq_true rfl) (fun _ => ?_) (fun c => absurd (of_decide_eq_true rfl) c)
  refine lv_aload_n hx hb dX7_part_11 rfl (lv_at hl 0 rfl) ?_
  refine lv_iload_n hx hb dX7_part_12 rfl (lv_at hl 1 rfl) ?_
  refine lv_iconst (v := 1) hx hb dX7_part_13 (of_decide_eq_true rfl) ?_
  refine lv_iadd hx hb dX7_part_14 ?_
  refine jtopr (y := 1) (of_decide_eq_true rfl) ?_
  refine lv_iload_n hx hb dX7_part_15 rfl (lv_at hl 2 rfl) ?_
  exact by
   refine jcallVv (As := [.int 1, .int a2]) (rest := []) ⟨hx, hb, hml, hown, hts⟩ hK hP hA hS hZ (h_p1 σ τ a2 (A2) t2 hI9 hI91 hI92 hI12 (by omega) (by omega)) cw_RX7_82 (jc_9 cI cL ad σ τ) rfl ⟨by dsimp only; omega, by dsimp only; omega⟩ rfl rfl rfl hl.1 rfl (Nat.le_of_ble_eq_true rfl) dX7_part_16 ⟨Nat.zero_le _, Nat.zero_le _⟩ (fun σ7 τ7 H locs h7 hP hS => ?_)
   obtain ⟨rfl, f9, f10, f11, I12, I13, I14, I15, h7⟩ := h7
   obtain ⟨i17, w18, w19⟩ : (0 ≤ (σ7 9 0).toInt ∧ (σ7 9 0).toInt ≤ 80) ∧ (∀ k : Nat, k < 80 → 0 ≤ (σ7 10 k).toInt ∧ (σ7 10 k).toInt ≤ 255) ∧ (∀ k : Nat, k < 8 → 0 ≤ (σ7 11 k).toInt ∧ (σ7 11 k).toInt ≤ 3) := id I12
   obtain ⟨i20, i21⟩ : (0 ≤ (σ7 9 1).toInt) ∧ ((σ7 9 1).toInt ≤ (σ7 9 0).toInt) := id I13
   have i22 : (-1) ≤ (σ7 9 2).toInt := I14
   have z23 : (σ7 9 0).toInt = (σ 9 0).toInt := (congrArg Int32.toInt (show σ7 9 0 = (σ 9 0) from (f10 0 (of_decide_eq_true rfl))))
   refine lv_iconst (v := 0) hx hb dX7_part_19 (of_decide_eq_true rfl) ?_
   refine lv_istore_n (lv' := [(3, .int 0), (0, .ref (ad 9)), (1, .int 0), (2, .int a2)]) hx hb dX7_part_20 rfl hl (of_decide_eq_true rfl) rfl (fun ls hl => ?_)
   have lp24 : ∀ (n25 : Nat) (x26 : Int32) (σ28 : Nat → Nat → Int32) (H : Heap) (locs : List Loc) (ls : Array Slot), (-x26.toInt + 80 : Int) < n25 → 0 ≤ x26.toInt → x26.toInt ≤ 80 → 0 ≤ (σ28 9 1).toInt → (σ28 9 1).toInt ≤ (σ28 9 0).toInt → (-1) ≤ (σ28 9 2).toInt → (∀ i : Nat, (i < 9 ∨ 9 < i) ∧ (i < 12 ∨ 13 < i) → σ28 i = σ7 i) → (∀ k : Nat, (k < 1 ∨ 1 < k) ∧ (k < 2 ∨ 2 < k) → σ28 9 k = σ7 9 k) → (∀ k : Nat, (k < 0 ∨ 0 < k) ∧ (k < 1 ∨ 1 < k) → σ28 12 k = σ7 12 k) → jI12 σ28 → jH D cI cL ad σ28 τ H → va_S (jA ad) s.heap H locs → lv_has ls 5 [(3, .int x26), (0, .ref (ad 9)), (1, .int 0), (2, .int a2)] → W p l e ({ frames := (16 + 8 * (n)), cells := 0, slots := 0, locals := (640 + 360 * (n)) }) s m args below meth c H locs 0 0 Q (F0 m 21 ls []) := by
     intro n25
     induction n25 with
     | zero => intro x26 σ28 H locs ls h30 h31 h32 h33 h34 h35; exact absurd h30 (by omega)
     | succ n25 ihlp24 =>
       intro x26 σ28 H locs ls h30 h31 h32 h33 h34 h35 f36 f37 f38 p39 hP hS hl
       exact by
        have z40 : (σ28 9 0).toInt = (σ 9 0).toInt := (congrArg Int32.toInt (show σ28 9 0 = (σ 9 0) from ((f37 0 (of_decide_eq_true rfl)).trans (f10 0 (of_decide_eq_true rfl)))))
        refine lv_iload_n hx hb dX7_part_21 rfl (lv_at hl 0 rfl) ?_
        refine lv_bipush (v := 80) hx hb dX7_part_22 (of_decide_eq_true rfl) ?_
        refine lv_icmp_ge (tgt := 95) hx hb dX7_part_24 (of_decide_eq_true rfl) (fun c41 => ?_) (fun c41 => ?_)
        · have kc41 := jle c41 jz_80 rfl
          have I42 : jI9 σ28 := jI9_fr (f37 0 (of_decide_eq_true rfl)) (f36 10 (of_decide_eq_true rfl)) (f36 11 (of_decide_eq_true rfl)) I12
          have I43 : jI91 σ28 := ⟨(by omega), (by omega)⟩
          have I44 : jI92 σ28 := (show (-1) ≤ (σ28 9 2).toInt by omega)
          exact hret σ28 τ _ _ _ _ ⟨rfl, (fun i hi => ((f36 i hi).trans (f9 i hi))), (fun i hi => ((f37 i hi).trans (f10 i hi))), (fun i hi => ((f38 i hi).trans (f11 i hi))), I42, I43, I44, p39, trivial⟩ hP hS dX7_part_95
        · exact by
           have kc41 := jnle c41 jz_80 rfl
           refine lv_aload_n hx hb dX7_part_27 rfl (lv_at hl 1 rfl) ?_
           refine va_get (D := D) hx hb hts inlX7 hown hK hP 9 (jc_9 cI cL ad σ28 τ) rfl 2 (of_decide_eq_true rfl) (hts _ kw_14_6) (fun _ h9 => h9) rfl dX7_part_28 ?_
           refine lv_iconst (v := (-1)) hx hb dX7_part_31 (of_decide_eq_true rfl) ?_
           refine lv_icmp_ne (tgt := 95) hx hb dX7_part_32 (of_decide_eq_true rfl) (fun c45 => ?_) (fun c45 => ?_)
           · have kc45 := jne c45 rfl jz_m1
             have I46 : jI9 σ28 := jI9_fr (f37 0 (of_decide_eq_true rfl)) (f36 10 (of_decide_eq_true rfl)) (f36 11 (of_decide_eq_true rfl)) I12
             have I47 : jI91 σ28 := ⟨(by omega), (by omega)⟩
             have I48 : jI92 σ28 := (show (-1) ≤ (σ28 9 2).toInt by omega)
             exact hret σ28 τ _ _ _ _ ⟨rfl, (fun i hi => ((f36 i hi).trans (f9 i hi))), (fun i hi => ((f37 i hi).trans (f10 i hi))), (fun i hi => ((f38 i hi).trans (f11 i hi))), I46, I47, I48, p39, trivial⟩ hP hS dX7_part_95
           · exact by
              have kc45 := jeq c45 rfl jz_m1
              refine lv_aload_n hx hb dX7_part_35 rfl (lv_at hl 1 rfl) ?_
              have I49 : jI9 σ28 := jI9_fr (f37 0 (of_decide_eq_true rfl)) (f36 10 (of_decide_eq_true rfl)) (f36 11 (of_decide_eq_true rfl)) I12
              refine jcallV (As := []) (rest := []) ⟨hx, hb, hml, hown, hts⟩ hK hP hA hS hZ (c_X7_sign_9 l D cI cL ad zz hJ σ28 τ I49) cw_RX7_35 (jc_9 cI cL ad σ28 τ) rfl ⟨by dsimp only; omega, by dsimp only; omega⟩ rfl rfl rfl hl.1 rfl (Nat.le_of_ble_eq_true rfl) dX7_part_36 ⟨Nat.zero_le _, Nat.zero_le _⟩ (fun r51 σ50 τ50 H locs h50 hP hS => ?_)
              obtain ⟨⟨rfl, rfl⟩, h50⟩ := h50
              rcases h50 with h52 | h53
              · obtain ⟨q56, k54, k55⟩ := h52
                have q57 : r51 = (σ 10 (σ28 9 1).toNatClampNeg) := q56.trans (by rw [f36 10 (of_decide_eq_true rfl), f9 10 (of_decide_eq_true rfl)])
                have q57e : (σ28 10 (σ28 9 1).toNatClampNeg).toInt = (σ 10 (σ28 9 1).toNatClampNeg).toInt := by rw [← q56, ← q57]
                exact by
                 have q57 := q57.symm
                 subst q57
                 refine jcallS (As := [.int (σ 10 (σ28 9 1).toNatClampNeg)]) (rest := []) ⟨hx, hb, hml, hown, hts⟩ hK hP hA hS hZ (c_X7_levelOf l D cI cL ad zz hJ σ28 τ (σ 10 (σ28 9 1).toNatClampNeg) ((σ 10 (σ28 9 1).toNatClampNeg).toInt) rfl) cw_RX7_98 ⟨by dsimp only; omega, by dsimp only; omega⟩ rfl rfl rfl hl.1 rfl (Nat.le_of_ble_eq_true rfl) dX7_part_39 ⟨Nat.zero_le _, Nat.zero_le _⟩ (fun r59 σ58 τ58 H locs h58 hP hS => ?_)
                 obtain ⟨⟨rfl, rfl⟩, h58⟩ := h58
                 rcases h58 with h60 | h61 | h62 | h63 | h64 | h65 | h66 | h67 | h68 | h69 | h70
                 · obtain ⟨q72, k71⟩ := h60
                   have q72 := q72.symm
                   subst q72
                   refine lv_iload_n hx hb dX7_part_42 rfl (lv_at hl 2 rfl) ?_
                   refine lv_icmp_ne (tgt := 95) hx hb dX7_part_43 (of_decide_eq_true rfl) (fun c => absurd (of_decide_eq_true rfl) c) (fun _ => ?_)
                   refine lv_aload_n hx hb dX7_part_46 rfl (lv_at hl 1 rfl) ?_
                   refine jcallV (As := []) (rest := []) ⟨hx, hb, hml, hown, hts⟩ hK hP hA hS hZ (c_X7_sign_9 l D cI cL ad zz hJ σ28 τ I49) cw_RX7_35 (jc_9 cI cL ad σ28 τ) rfl ⟨by dsimp only; omega, by dsimp only; omega⟩ rfl rfl rfl hl.1 rfl (Nat.le_of_ble_eq_true rfl) dX7_part_47 ⟨Nat.zero_le _, Nat.zero_le _⟩ (fun r74 σ73 τ73 H locs h73 hP hS => ?_)
                   obtain ⟨⟨rfl, rfl⟩, h73⟩ := h73
                   rcases h73 with h75 | h76
                   · obtain ⟨q79, k77, k78⟩ := h75
                     exact by
                      have q80 : r74 = (σ 10 (σ28 9 1).toNatClampNeg) := q79.trans (by rw [f36 10 (of_decide_eq_true rfl), f9 10 (of_decide_eq_true rfl)])
                      have q80e : (σ28 10 (σ28 9 1).toNatClampNeg).toInt = (σ 10 (σ28 9 1).toNatClampNeg).toInt := by rw [← q79, ← q80]
                      have q80 := q80.symm
                      subst q80
                      refine lv_istore (lv' := [(4, .int (σ 10 (σ28 9 1).toNatClampNeg)), (3, .int x26), (0, .ref (ad 9)), (1, .int 0), (2, .int a2)]) hx hb dX7_part_50 hl (of_decide_eq_true rfl) rfl (fun ls hl => ?_)
                      refine lv_aload_n hx hb dX7_part_52 rfl (lv_at hl 2 rfl) ?_
                      refine lv_dup hx hb dX7_part_53 rfl ?_
                      refine va_get (D := D) hx hb hts inlX7 hown hK hP 9 (jc_9 cI cL ad σ28 τ) rfl 1 (of_decide_eq_true rfl) (hts _ kw_13_17) (fun _ h9 => h9) rfl dX7_part_54 ?_
                      refine lv_iconst (v := 1) hx hb dX7_part_57 (of_decide_eq_true rfl) ?_
                      have g81 := jrg (rfl : (σ28 9 1).toInt = (σ28 9 1).toInt)
                      refine lv_iadd hx hb dX7_part_58 ?_
                      refine lv_topi (fun x82 ex82 => ?_)
                      exact by
                       have tx82 : x82.toInt = (σ28 9 1).toInt + 1 := (jadd ex82 rfl jz_1 (by omega) (by omega)).trans (by omega)
                       refine jput (ty := .int) hx hb hts inlX7 tyX7 tyX7_ok nmX7 hown hK hP hJ hA hS (jc_9 cI cL ad σ28 τ) rfl (k := 1) (of_decide_eq_true rfl) (Nat.le_of_ble_eq_true rfl) (jp_9_1 cI cL ad σ28 τ x82) (hts _ kw_13_17) (fun _ h9 => h9) rfl (by decide +kernel) rfl rfl dX7_part_59 (fun σ83 H locs eσ83 hP hS => ?_)
                       refine lv_aload_n hx hb dX7_part_62 rfl (lv_at hl 2 rfl) ?_
                       refine lv_iload_n hx hb dX7_part_63 rfl (lv_at hl 3 rfl) ?_
                       refine lv_iconst (v := 1) hx hb dX7_part_64 (of_decide_eq_true rfl) ?_
                       refine lv_iadd hx hb dX7_part_65 ?_
                       refine jtopr (y := 1) (of_decide_eq_true rfl) ?_
                       refine lv_iload_n hx hb dX7_part_66 rfl (lv_at hl 4 rfl) ?_
                       have I84 : jI9 σ83 := jI9_fr (jkp 0 eσ83 (of_decide_eq_true rfl)) (jnp 10 eσ83 (of_decide_eq_true rfl)) (jnp 11 eσ83 (of_decide_eq_true rfl)) I49
                       have z85 : (σ83 9 1).toInt = (σ28 9 1).toInt + 1 := ((congrArg Int32.toInt (show σ83 9 1 = x82 from (jsp eσ83))).trans tx82)
                       have z86 : (σ83 9 0).toInt = (σ 9 0).toInt := (congrArg Int32.toInt (show σ83 9 0 = (σ 9 0) from ((jkp 0 eσ83 (of_decide_eq_true rfl)).trans ((f37 0 (of_decide_eq_true rfl)).trans (f10 0 (of_decide_eq_true rfl))))))
                       exact by
                        have I87 : jI91 σ83 := ⟨(by omega), (by omega)⟩
                        have z88 : (σ83 9 2).toInt = (σ28 9 2).toInt := (congrArg Int32.toInt (show σ83 9 2 = (σ28 9 2) from (jkp 2 eσ83 (of_decide_eq_true rfl))))
                        have I89 : jI92 σ83 := (show (-1) ≤ (σ83 9 2).toInt by omega)
                        have I90 : jI12 σ83 := jI12_fr (congrFun (jnp 12 eσ83 (of_decide_eq_true rfl)) 0) (jnp 13 eσ83 (of_decide_eq_true rfl)) p39
                        refine jcallVv (As := [.int 1, .int a2]) (rest := []) ⟨hx, hb, hml, hown, hts⟩ hK hP hA hS hZ (h_p1 σ83 τ a2 (A2) t2 I84 I87 I89 I90 (by omega) (by omega)) cw_RX7_82 (jc_9 cI cL ad σ83 τ) rfl ⟨by dsimp only; omega, by dsimp only; omega⟩ rfl rfl rfl hl.1 rfl (Nat.le_of_ble_eq_true rfl) dX7_part_67 ⟨Nat.zero_le _, Nat.zero_le _⟩ (fun σ91 τ91 H locs h91 hP hS => ?_)
                        obtain ⟨rfl, f93, f94, f95, I96, I97, I98, I99, h91⟩ := h91
                        obtain ⟨i101, w102, w103⟩ : (0 ≤ (σ91 9 0).toInt ∧ (σ91 9 0).toInt ≤ 80) ∧ (∀ k : Nat, k < 80 → 0 ≤ (σ91 10 k).toInt ∧ (σ91 10 k).toInt ≤ 255) ∧ (∀ k : Nat, k < 8 → 0 ≤ (σ91 11 k).toInt ∧ (σ91 11 k).toInt ≤ 3) := id I96
                        obtain ⟨i104, i105⟩ : (0 ≤ (σ91 9 1).toInt) ∧ ((σ91 9 1).toInt ≤ (σ91 9 0).toInt) := id I97
                        have i106 : (-1) ≤ (σ91 9 2).toInt := I98
                        exact by
                         have z107 : (σ91 9 0).toInt = (σ 9 0).toInt := (congrArg Int32.toInt (show σ91 9 0 = (σ 9 0) from ((f94 0 (of_decide_eq_true rfl)).trans ((jkp 0 eσ83 (of_decide_eq_true rfl)).trans ((f37 0 (of_decide_eq_true rfl)).trans (f10 0 (of_decide_eq_true rfl)))))))
                         refine lv_aload_n hx hb dX7_part_70 rfl (lv_at hl 2 rfl) ?_
                         refine va_get (D := D) hx hb hts inlX7 hown hK hP 9 (jc_9 cI cL ad σ91 τ) rfl 5 (of_decide_eq_true rfl) (hts _ kw_3_23) (fun _ h9 => h9) rfl dX7_part_71 ?_
                         refine lv_sipush (v := 20000) hx hb dX7_part_74 (of_decide_eq_true rfl) ?_
                         refine lv_iload hx hb dX7_part_77 (lv_at hl 0 rfl) ?_
                         have g108 := jrg (rfl : (σ 10 (σ28 9 1).toNatClampNeg).toInt = (σ 10 (σ28 9 1).toNatClampNeg).toInt)
                         refine lv_iadd hx hb dX7_part_79 ?_
                         refine lv_topi (fun x109 ex109 => ?_)
                         have tx109 : x109.toInt = (σ 10 (σ28 9 1).toNatClampNeg).toInt + 20000 := (jadd ex109 jz_20000 rfl (by omega) (by omega)).trans (by omega)
                         exact by
                          refine jcallVv (As := [.int x109]) (rest := []) ⟨hx, hb, hml, hown, hts⟩ hK hP hA hS hZ (c_X10_add_12 l D cI cL ad zz hJ σ91 τ x109 ((σ 10 (σ28 9 1).toNatClampNeg).toInt + 20000) tx109 I99 (by omega)) cw_RX7_86 (jc_12 cI cL ad σ91 τ) rfl ⟨by dsimp only; omega, by dsimp only; omega⟩ rfl rfl rfl hl.1 rfl (Nat.le_of_ble_eq_true rfl) dX7_part_80 ⟨Nat.zero_le _, Nat.zero_le _⟩ (fun σ110 τ110 H locs h110 hP hS => ?_)
                          obtain ⟨rfl, f112, f113, I114, h110⟩ := h110
                          refine lv_iload_n hx hb dX7_part_83 rfl (lv_at hl 3 rfl) ?_
                          refine lv_iconst (v := 2) hx hb dX7_part_84 (of_decide_eq_true rfl) ?_
                          refine lv_icmp_ne (tgt := 89) hx hb dX7_part_85 (of_decide_eq_true rfl) (fun _ => ?_) (fun c => absurd c (of_decide_eq_true rfl))
                          obtain ⟨x116, ex116⟩ : ∃ y : Int32, y = x26 + 1 := ⟨_, rfl⟩
                          have tx116 : x116.toInt = x26.toInt + 1 := (jadd ex116 rfl jz_1 (by omega) (by omega)).trans (by omega)
                          refine lv_iinc (v := x116) (lv' := [(3, .int x116), (4, .int (σ 10 (σ28 9 1).toNatClampNeg)), (0, .ref (ad 9)), (1, .int 0), (2, .int a2)]) hx hb dX7_part_89 hl (k := 1) rfl (by rw [ex116]; rfl) (of_decide_eq_true rfl) rfl (fun ls hl => ?_)
                          refine lv_goto (tgt := 21) hx hb dX7_part_92 (of_decide_eq_true rfl) ?_
                          exact by
                           have z117 : (σ110 9 1).toInt = (σ91 9 1).toInt := (congrArg Int32.toInt (show σ110 9 1 = (σ91 9 1) from (congrFun (f112 9 (of_decide_eq_true rfl)) 1)))
                           have z118 : (σ110 9 0).toInt = (σ 9 0).toInt := (congrArg Int32.toInt (show σ110 9 0 = (σ 9 0) from ((congrFun (f112 9 (of_decide_eq_true rfl)) 0).trans ((f94 0 (of_decide_eq_true rfl)).trans ((jkp 0 eσ83 (of_decide_eq_true rfl)).trans ((f37 0 (of_decide_eq_true rfl)).trans (f10 0 (of_decide_eq_true rfl))))))))
                           have z119 : (σ110 9 2).toInt = (σ91 9 2).toInt := (congrArg Int32.toInt (show σ110 9 2 = (σ91 9 2) from (congrFun (f112 9 (of_decide_eq_true rfl)) 2)))
                           exact by exact ihlp24 x116 σ110 _ _ ls (by have h90 := tx116; omega) (by have h90 := tx116; omega) (by have h90 := tx116; omega) (by have h90 := tx116; omega) (by have h90 := tx116; omega) (by have h90 := tx116; omega) (fun i hi => ((f112 i (imp_58 i hi)).trans ((f93 i hi).trans ((jnp i eσ83 (imp_60 i hi)).trans (f36 i hi))))) (fun i hi => ((congrFun (f112 9 (of_decide_eq_true rfl)) i).trans ((f94 i hi).trans ((jkp i eσ83 (imp_39 i hi)).trans (f37 i hi))))) (fun i hi => ((f113 i hi).trans ((f95 i hi).trans ((congrFun (jnp 12 eσ83 (of_decide_eq_true rfl)) i).trans (f38 i hi)))))  I114 hP hS (lv_sub hl [0, 2, 3, 4] rfl)
                   · obtain ⟨q121, k120⟩ := h76
                     exact absurd (by omega : False) id
                 · obtain ⟨q123, k122⟩ := h61
                   have q123 := q123.symm
                   subst q123
                   refine lv_iload_n hx hb dX7_part_42 rfl (lv_at hl 2 rfl) ?_
                   refine lv_icmp_ne (tgt := 95) hx hb dX7_part_43 (of_decide_eq_true rfl) (fun _ => ?_) (fun c => absurd c (of_decide_eq_true rfl))
                   exact by
                    have I124 : jI91 σ28 := ⟨(by omega), (by omega)⟩
                    have I125 : jI92 σ28 := (show (-1) ≤ (σ28 9 2).toInt by omega)
                    exact hret σ28 τ _ _ _ _ ⟨rfl, (fun i hi => ((f36 i hi).trans (f9 i hi))), (fun i hi => ((f37 i hi).trans (f10 i hi))), (fun i hi => ((f38 i hi).trans (f11 i hi))), I49, I124, I125, p39, trivial⟩ hP hS dX7_part_95
                 · obtain ⟨q127, k126⟩ := h62
                   have q127 := q127.symm
                   subst q127
                   refine lv_iload_n hx hb dX7_part_42 rfl (lv_at hl 2 rfl) ?_
                   refine lv_icmp_ne (tgt := 95) hx hb dX7_part_43 (of_decide_eq_true rfl) (fun _ => ?_) (fun c => absurd c (of_decide_eq_true rfl))
                   have I128 : jI91 σ28 := ⟨(by omega), (by omega)⟩
                   exact by
                    have I129 : jI92 σ28 := (show (-1) ≤ (σ28 9 2).toInt by omega)
                    exact hret σ28 τ _ _ _ _ ⟨rfl, (fun i hi => ((f36 i hi).trans (f9 i hi))), (fun i hi => ((f37 i hi).trans (f10 i hi))), (fun i hi => ((f38 i hi).trans (f11 i hi))), I49, I128, I129, p39, trivial⟩ hP hS dX7_part_95
                 · obtain ⟨q131, k130⟩ := h63
                   have q131 := q131.symm
                   subst q131
                   refine lv_iload_n hx hb dX7_part_42 rfl (lv_at hl 2 rfl) ?_
                   refine lv_icmp_ne (tgt := 95) hx hb dX7_part_43 (of_decide_eq_true rfl) (fun _ => ?_) (fun c => absurd c (of_decide_eq_true rfl))
                   have I132 : jI91 σ28 := ⟨(by omega), (by omega)⟩
                   have I133 : jI92 σ28 := (show (-1) ≤ (σ28 9 2).toInt by omega)
                   exact hret σ28 τ _ _ _ _ ⟨rfl, (fun i hi => ((f36 i hi).trans (f9 i hi))), (fun i hi => ((f37 i hi).trans (f10 i hi))), (fun i hi => ((f38 i hi).trans (f11 i hi))), I49, I132, I133, p39, trivial⟩ hP hS dX7_part_95
                 · exact by
                    obtain ⟨q135, k134⟩ := h64
                    have q135 := q135.symm
                    subst q135
                    refine lv_iload_n hx hb dX7_part_42 rfl (lv_at hl 2 rfl) ?_
                    refine lv_icmp_ne (tgt := 95) hx hb dX7_part_43 (of_decide_eq_true rfl) (fun _ => ?_) (fun c => absurd c (of_decide_eq_true rfl))
                    have I136 : jI91 σ28 := ⟨(by omega), (by omega)⟩
                    have I137 : jI92 σ28 := (show (-1) ≤ (σ28 9 2).toInt by omega)
                    exact hret σ28 τ _ _ _ _ ⟨rfl, (fun i hi => ((f36 i hi).trans (f9 i hi))), (fun i hi => ((f37 i hi).trans (f10 i hi))), (fun i hi => ((f38 i hi).trans (f11 i hi))), I49, I136, I137, p39, trivial⟩ hP hS dX7_part_95
                 · obtain ⟨q139, k138⟩ := h65
                   exact by
                    have q139 := q139.symm
                    subst q139
                    refine lv_iload_n hx hb dX7_part_42 rfl (lv_at hl 2 rfl) ?_
                    refine lv_icmp_ne (tgt := 95) hx hb dX7_part_43 (of_decide_eq_true rfl) (fun _ => ?_) (fun c => absurd c (of_decide_eq_true rfl))
                    have I140 : jI91 σ28 := ⟨(by omega), (by omega)⟩
                    have I141 : jI92 σ28 := (show (-1) ≤ (σ28 9 2).toInt by omega)
                    exact hret σ28 τ _ _ _ _ ⟨rfl, (fun i hi => ((f36 i hi).trans (f9 i hi))), (fun i hi => ((f37 i hi).trans (f10 i hi))), (fun i hi => ((f38 i hi).trans (f11 i hi))), I49, I140, I141, p39, trivial⟩ hP hS dX7_part_95
                 · obtain ⟨q143, k142⟩ := h66
                   have q143 := q143.symm
                   exact by
                    subst q143
                    refine lv_iload_n hx hb dX7_part_42 rfl (lv_at hl 2 rfl) ?_
                    refine lv_icmp_ne (tgt := 95) hx hb dX7_part_43 (of_decide_eq_true rfl) (fun _ => ?_) (fun c => absurd c (of_decide_eq_true rfl))
                    have I144 : jI91 σ28 := ⟨(by omega), (by omega)⟩
                    have I145 : jI92 σ28 := (show (-1) ≤ (σ28 9 2).toInt by omega)
                    exact hret σ28 τ _ _ _ _ ⟨rfl, (fun i hi => ((f36 i hi).trans (f9 i hi))), (fun i hi => ((f37 i hi).trans (f10 i hi))), (fun i hi => ((f38 i hi).trans (f11 i hi))), I49, I144, I145, p39, trivial⟩ hP hS dX7_part_95
                 · obtain ⟨q147, k146⟩ := h67
                   have q147 := q147.symm
                   subst q147
                   exact by
                    refine lv_iload_n hx hb dX7_part_42 rfl (lv_at hl 2 rfl) ?_
                    refine lv_icmp_ne (tgt := 95) hx hb dX7_part_43 (of_decide_eq_true rfl) (fun _ => ?_) (fun c => absurd c (of_decide_eq_true rfl))
                    have I148 : jI91 σ28 := ⟨(by omega), (by omega)⟩
                    have I149 : jI92 σ28 := (show (-1) ≤ (σ28 9 2).toInt by omega)
                    exact hret σ28 τ _ _ _ _ ⟨rfl, (fun i hi => ((f36 i hi).trans (f9 i hi))), (fun i hi => ((f37 i hi).trans (f10 i hi))), (fun i hi => ((f38 i hi).trans (f11 i hi))), I49, I148, I149, p39, trivial⟩ hP hS dX7_part_95
                 · obtain ⟨q151, k150⟩ := h68
                   have q151 := q151.symm
                   subst q151
                   refine lv_iload_n hx hb dX7_part_42 rfl (lv_at hl 2 rfl) ?_
                   exact by
                    refine lv_icmp_ne (tgt := 95) hx hb dX7_part_43 (of_decide_eq_true rfl) (fun _ => ?_) (fun c => absurd c (of_decide_eq_true rfl))
                    have I152 : jI91 σ28 := ⟨(by omega), (by omega)⟩
                    have I153 : jI92 σ28 := (show (-1) ≤ (σ28 9 2).toInt by omega)
                    exact hret σ28 τ _ _ _ _ ⟨rfl, (fun i hi => ((f36 i hi).trans (f9 i hi))), (fun i hi => ((f37 i hi).trans (f10 i hi))), (fun i hi => ((f38 i hi).trans (f11 i hi))), I49, I152, I153, p39, trivial⟩ hP hS dX7_part_95
                 · obtain ⟨q155, k154⟩ := h69
                   have q155 := q155.symm
                   subst q155
                   refine lv_iload_n hx hb dX7_part_42 rfl (lv_at hl 2 rfl) ?_
                   refine lv_icmp_ne (tgt := 95) hx hb dX7_part_43 (of_decide_eq_true rfl) (fun _ => ?_) (fun c => absurd c (of_decide_eq_true rfl))
                   exact by
                    have I156 : jI91 σ28 := ⟨(by omega), (by omega)⟩
                    have I157 : jI92 σ28 := (show (-1) ≤ (σ28 9 2).toInt by omega)
                    exact hret σ28 τ _ _ _ _ ⟨rfl, (fun i hi => ((f36 i hi).trans (f9 i hi))), (fun i hi => ((f37 i hi).trans (f10 i hi))), (fun i hi => ((f38 i hi).trans (f11 i hi))), I49, I156, I157, p39, trivial⟩ hP hS dX7_part_95
                 · obtain ⟨q159, k158⟩ := h70
                   have q159 := q159.symm
                   subst q159
                   refine lv_iload_n hx hb dX7_part_42 rfl (lv_at hl 2 rfl) ?_
                   refine lv_icmp_ne (tgt := 95) hx hb dX7_part_43 (of_decide_eq_true rfl) (fun _ => ?_) (fun c => absurd c (of_decide_eq_true rfl))
                   have I160 : jI91 σ28 := ⟨(by omega), (by omega)⟩
                   exact by
                    have I161 : jI92 σ28 := (show (-1) ≤ (σ28 9 2).toInt by omega)
                    exact hret σ28 τ _ _ _ _ ⟨rfl, (fun i hi => ((f36 i hi).trans (f9 i hi))), (fun i hi => ((f37 i hi).trans (f10 i hi))), (fun i hi => ((f38 i hi).trans (f11 i hi))), I49, I160, I161, p39, trivial⟩ hP hS dX7_part_95
              · obtain ⟨q163, k162⟩ := h53
                have q163 := q163.symm
                subst q163
                refine jcallS (As := [.int (-1)]) (rest := []) ⟨hx, hb, hml, hown, hts⟩ hK hP hA hS hZ (c_X7_levelOf l D cI cL ad zz hJ σ28 τ (-1) ((-1)) jz_m1) cw_RX7_98 ⟨by dsimp only; omega, by dsimp only; omega⟩ rfl rfl rfl hl.1 rfl (Nat.le_of_ble_eq_true rfl) dX7_part_39 ⟨Nat.zero_le _, Nat.zero_le _⟩ (fun r165 σ164 τ164 H locs h164 hP hS => ?_)
                obtain ⟨⟨rfl, rfl⟩, h164⟩ := h164
                rcases h164 with h166 | h167 | h168 | h169 | h170 | h171 | h172 | h173 | h174 | h175 | h176
                · obtain ⟨q178, k177⟩ := h166
                  exact absurd (by omega : False) id
                · obtain ⟨q180, k179⟩ := h167
                  exact absurd (by omega : False) id
                · obtain ⟨q182, k181⟩ := h168
                  exact absurd (by omega : False) id
                · obtain ⟨q184, k183⟩ := h169
                  exact absurd (by omega : False) id
                · obtain ⟨q186, k185⟩ := h170
                  exact absurd (by omega : False) id
                · obtain ⟨q188, k187⟩ := h171
                  exact absurd (by omega : False) id
                · obtain ⟨q190, k189⟩ := h172
                  exact absurd (by omega : False) id
                · obtain ⟨q192, k191⟩ := h173
                  exact absurd (by omega : False) id
                · obtain ⟨q194, k193⟩ := h174
                  exact absurd (by omega : False) id
                · obtain ⟨q196, k195⟩ := h175
                  exact absurd (by omega : False) id
                · obtain ⟨q198, k197⟩ := h176
                  have q198 := q198.symm
                  subst q198
                  refine lv_iload_n hx hb dX7_part_42 rfl (lv_at hl 2 rfl) ?_
                  refine lv_icmp_ne (tgt := 95) hx hb dX7_part_43 (of_decide_eq_true rfl) (fun _ => ?_) (fun c => absurd c (of_decide_eq_true rfl))
                  exact by
                   have I199 : jI91 σ28 := ⟨(by omega), (by omega)⟩
                   have I200 : jI92 σ28 := (show (-1) ≤ (σ28 9 2).toInt by omega)
                   exact hret σ28 τ _ _ _ _ ⟨rfl, (fun i hi => ((f36 i hi).trans (f9 i hi))), (fun i hi => ((f37 i hi).trans (f10 i hi))), (fun i hi => ((f38 i hi).trans (f11 i hi))), I49, I199, I200, p39, trivial⟩ hP hS dX7_part_95
   exact by exact lp24 1000000 0 σ7 _ _ ls (by have h90 := jz_0; omega) (by have h90 := jz_0; omega) (by have h90 := jz_0; omega) (by have h90 := jz_0; omega) (by have h90 := jz_0; omega) (by have h90 := jz_0; omega) (fun _ _ => rfl) (fun _ _ => rfl) (fun _ _ => rfl)  I15 hP hS hl
set_option maxHeartbeats 4000000 in
set_option maxRecDepth 100000 in
theorem c_X7_grammar (l : Launch) (D : va_G) (cI cL : ClassId) (ad zz : Nat → Nat) (hJ : jD ad) (n : Nat) : (∀ (σ : Nat → Nat → Int32) (τ : Nat → Nat → Int64) (a1 : Int32) (A1 : Int) (t1 : a1.toInt = A1) (hI9 : jI9 σ) (hI91 : jI91 σ) (hI92 : jI92 σ) (hI12 : jI12 σ) (hp0 : 0 ≤ A1 ∧ A1 ≤ 6) (hp1 : -A1 + 6 ≤ (((n) : Nat) : Int)), jMv l yX7_operand cX7_operand 3 none ({ frames := (10 + 8 * (n)), cells := 0, slots := 0, locals := (400 + 360 * (n)) }) D cI cL ad zz [.ref (ad 9), .int a1] σ τ (fun σ' τ' => τ = τ' ∧ (∀ i : Nat, (i < 9 ∨ 9 < i) ∧ (i < 12 ∨ 13 < i) → σ' i = σ i) ∧ (∀ k : Nat, (k < 1 ∨ 1 < k) ∧ (k < 2 ∨ 2 < k) → σ' 9 k = σ 9 k) ∧ (∀ k : Nat, (k < 0 ∨ 0 < k) ∧ (k < 1 ∨ 1 < k) → σ' 12 k = σ 12 k) ∧ (jI9 σ') ∧ (jI91 σ') ∧ (jI92 σ') ∧ (jI12 σ') ∧ True)) ∧ (∀ (σ : Nat → Nat → Int32) (τ : Nat → Nat → Int64) (a2 : Int32) (A2 : Int) (t2 : a2.toInt = A2) (hI9 : jI9 σ) (hI91 : jI91 σ) (hI92 : jI92 σ) (hI12 : jI12 σ) (hp0 : 0 ≤ A2 ∧ A2 ≤ 6) (hp1 : -A2 + 6 ≤ (((n) : Nat) : Int)), jMv l yX7_part cX7_part 5 none ({ frames := (11 + 8 * (n)), cells := 0, slots := 0, locals := (440 + 360 * (n)) }) D cI cL ad zz [.ref (ad 9), .int 5, .int a2] σ τ (fun σ' τ' => τ = τ' ∧ (∀ i : Nat, (i < 9 ∨ 9 < i) ∧ (i < 12 ∨ 13 < i) → σ' i = σ i) ∧ (∀ k : Nat, (k < 1 ∨ 1 < k) ∧ (k < 2 ∨ 2 < k) → σ' 9 k = σ 9 k) ∧ (∀ k : Nat, (k < 0 ∨ 0 < k) ∧ (k < 1 ∨ 1 < k) → σ' 12 k = σ 12 k) ∧ (jI9 σ') ∧ (jI91 σ') ∧ (jI92 σ') ∧ (jI12 σ') ∧ True)) ∧ (∀ (σ : Nat → Nat → Int32) (τ : Nat → Nat → Int64) (a2 : Int32) (A2 : Int) (t2 : a2.toInt = A2) (hI9 : jI9 σ) (hI91 : jI91 σ) (hI92 : jI92 σ) (hI12 : jI12 σ) (hp0 : 0 ≤ A2 ∧ A2 ≤ 6) (hp1 : -A2 + 6 ≤ (((n) : Nat) : Int)), jMv l yX7_part cX7_part 5 none ({ frames := (12 + 8 * (n)), cells := 0, slots := 0, locals := (480 + 360 * (n)) }) D cI cL ad zz [.ref (ad 9), .int 4, .int a2] σ τ (fun σ' τ' => τ = τ' ∧ (∀ i : Nat, (i < 9 ∨ 9 < i) ∧ (i < 12 ∨ 13 < i) → σ' i = σ i) ∧ (∀ k : Nat, (k < 1 ∨ 1 < k) ∧ (k < 2 ∨ 2 < k) → σ' 9 k = σ 9 k) ∧ (∀ k : Nat, (k < 0 ∨ 0 < k) ∧ (k < 1 ∨ 1 < k) → σ' 12 k = σ 12 k) ∧ (jI9 σ') ∧ (jI91 σ') ∧ (jI92 σ') ∧ (jI12 σ') ∧ True)) ∧ (∀ (σ : Nat → Nat → Int32) (τ : Nat → Nat → Int64) (a2 : Int32) (A2 : Int) (t2 : a2.toInt = A2) (hI9 : jI9 σ) (hI91 : jI91 σ) (hI92 : jI92 σ) (hI12 : jI12 σ) (hp0 : 0 ≤ A2 ∧ A2 ≤ 6) (hp1 : -A2 + 6 ≤ (((n) : Nat) : Int)), jMv l yX7_part cX7_part 5 none ({ frames := (13 + 8 * (n)), cells := 0, slots := 0, locals := (520 + 360 * (n)) }) D cI cL ad zz [.ref (ad 9), .int 3, .int a2] σ τ (fun σ' τ' => τ = τ' ∧ (∀ i : Nat, (i < 9 ∨ 9 < i) ∧ (i < 12 ∨ 13 < i) → σ' i = σ i) ∧ (∀ k : Nat, (k < 1 ∨ 1 < k) ∧ (k < 2 ∨ 2 < k) → σ' 9 k = σ 9 k) ∧ (∀ k : Nat, (k < 0 ∨ 0 < k) ∧ (k < 1 ∨ 1 < k) → σ' 12 k = σ 12 k) ∧ (jI9 σ') ∧ (jI91 σ') ∧ (jI92 σ') ∧ (jI12 σ') ∧ True)) ∧ (∀ (σ : Nat → Nat → Int32) (τ : Nat → Nat → Int64) (a2 : Int32) (A2 : Int) (t2 : a2.toInt = A2) (hI9 : jI9 σ) (hI91 : jI91 σ) (hI92 : jI92 σ) (hI12 : jI12 σ) (hp0 : 0 ≤ A2 ∧ A2 ≤ 6) (hp1 : -A2 + 6 ≤ (((n) : Nat) : Int)), jMv l yX7_part cX7_part 5 none ({ frames := (14 + 8 * (n)), cells := 0, slots := 0, locals := (560 + 360 * (n)) }) D cI cL ad zz [.ref (ad 9), .int 2, .int a2] σ τ (fun σ' τ' => τ = τ' ∧ (∀ i : Nat, (i < 9 ∨ 9 < i) ∧ (i < 12 ∨ 13 < i) → σ' i = σ i) ∧ (∀ k : Nat, (k < 1 ∨ 1 < k) ∧ (k < 2 ∨ 2 < k) → σ' 9 k = σ 9 k) ∧ (∀ k : Nat, (k < 0 ∨ 0 < k) ∧ (k < 1 ∨ 1 < k) → σ' 12 k = σ 12 k) ∧ (jI9 σ') ∧ (jI91 σ') ∧ (jI92 σ') ∧ (jI12 σ') ∧ True)) ∧ (∀ (σ : Nat → Nat → Int32) (τ : Nat → Nat → Int64) (a2 : Int32) (A2 : Int) (t2 : a2.toInt = A2) (hI9 : jI9 σ) (hI91 : jI91 σ) (hI92 : jI92 σ) (hI12 : jI12 σ) (hp0 : 0 ≤ A2 ∧ A2 ≤ 6) (hp1 : -A2 + 6 ≤ (((n) : Nat) : Int)), jMv l yX7_part cX7_part 5 none ({ frames := (15 + 8 * (n)), cells := 0, slots := 0, locals := (600 + 360 * (n)) }) D cI cL ad zz [.ref (ad 9), .int 1, .int a2] σ τ (fun σ' τ' => τ = τ' ∧ (∀ i : Nat, (i < 9 ∨ 9 < i) ∧ (i < 12 ∨ 13 < i) → σ' i = σ i) ∧ (∀ k : Nat, (k < 1 ∨ 1 < k) ∧ (k < 2 ∨ 2 < k) → σ' 9 k = σ 9 k) ∧ (∀ k : Nat, (k < 0 ∨ 0 < k) ∧ (k < 1 ∨ 1 < k) → σ' 12 k = σ 12 k) ∧ (jI9 σ') ∧ (jI91 σ') ∧ (jI92 σ') ∧ (jI12 σ') ∧ True)) ∧ (∀ (σ : Nat → Nat → Int32) (τ : Nat → Nat → Int64) (a2 : Int32) (A2 : Int) (t2 : a2.toInt = A2) (hI9 : jI9 σ) (hI91 : jI91 σ) (hI92 : jI92 σ) (hI12 : jI12 σ) (hp0 : 0 ≤ A2 ∧ A2 ≤ 6) (hp1 : -A2 + 6 ≤ (((n) : Nat) : Int)), jMv l yX7_part cX7_part 5 none ({ frames := (16 + 8 * (n)), cells := 0, slots := 0, locals := (640 + 360 * (n)) }) D cI cL ad zz [.ref (ad 9), .int 0, .int a2] σ τ (fun σ' τ' => τ = τ' ∧ (∀ i : Nat, (i < 9 ∨ 9 < i) ∧ (i < 12 ∨ 13 < i) → σ' i = σ i) ∧ (∀ k : Nat, (k < 1 ∨ 1 < k) ∧ (k < 2 ∨ 2 < k) → σ' 9 k = σ 9 k) ∧ (∀ k : Nat, (k < 0 ∨ 0 < k) ∧ (k < 1 ∨ 1 < k) → σ' 12 k = σ 12 k) ∧ (jI9 σ') ∧ (jI91 σ') ∧ (jI92 σ') ∧ (jI12 σ') ∧ True)) := by
  induction n with
  | zero =>
    have h_op := c_X7_grammar_op_z l D cI cL ad zz hJ
    have h_p5 := c_X7_grammar_p5_g l D cI cL ad zz hJ 0 h_op
    have h_p4 := c_X7_grammar_p4_g l D cI cL ad zz hJ 0 h_p5
    have h_p3 := c_X7_grammar_p3_g l D cI cL ad zz hJ 0 h_p4
    have h_p2 := c_X7_grammar_p2_g l D cI cL ad zz hJ 0 h_p3
    have h_p1 := c_X7_grammar_p1_g l D cI cL ad zz hJ 0 h_p2
    have h_p0 := c_X7_grammar_p0_g l D cI cL ad zz hJ 0 h_p1
    exact ⟨h_op, h_p5, h_p4, h_p3, h_p2, h_p1, h_p0⟩
  | succ n ih =>
    obtain ⟨g_op, g_p5, g_p4, g_p3, g_p2, g_p1, g_p0⟩ := ih
    have h_op := c_X7_grammar_op_g l D cI cL ad zz hJ n g_op g_p0
    have h_p5 := c_X7_grammar_p5_g l D cI cL ad zz hJ (n + 1) h_op
    have h_p4 := c_X7_grammar_p4_g l D cI cL ad zz hJ (n + 1) h_p5
    have h_p3 := c_X7_grammar_p3_g l D cI cL ad zz hJ (n + 1) h_p4
    have h_p2 := c_X7_grammar_p2_g l D cI cL ad zz hJ (n + 1) h_p3
    have h_p1 := c_X7_grammar_p1_g l D cI cL ad zz hJ (n + 1) h_p2
    have h_p0 := c_X7_grammar_p0_g l D cI cL ad zz hJ (n + 1) h_p1
    exact ⟨h_op, h_p5, h_p4, h_p3, h_p2, h_p1, h_p0⟩
set_option maxHeartbeats 4000000 in
set_option maxRecDepth 100000 in
theorem c_X7_readLine_9 (l : Launch) (D : va_G) (cI cL : ClassId) (ad zz : Nat → Nat) (hJ : jD ad) (σ : Nat → Nat → Int32) (τ : Nat → Nat → Int64) (hI9 : jI9 σ) (hI91 : jI91 σ) (hI92 : jI92 σ) (hI12 : jI12 σ) : jMv l yX7_readLine cX7_readLine 2 none ({ frames := 65, cells := 0, slots := 0, locals := 2824 }) D cI cL ad zz [.ref (ad 9)] σ τ (fun σ' τ' => τ = τ' ∧ (∀ i : Nat, (i < 9 ∨ 9 < i) ∧ (i < 12 ∨ 13 < i) → σ' i = σ i) ∧ (∀ k : Nat, (k < 1 ∨ 1 < k) ∧ (k < 2 ∨ 2 < k) → σ' 9 k = σ 9 k) ∧ (∀ k : Nat, (k < 0 ∨ 0 < k) ∧ (k < 1 ∨ 1 < k) → σ' 12 k = σ 12 k) ∧ (jI9 σ') ∧ (jI91 σ') ∧ (jI92 σ') ∧ (jI12 σ') ∧ True) := by
  refine jMv.of hJ (by decide +kernel) rfl (Nat.le_of_ble_eq_true rfl) ?_
  intro p e s m args below meth c Q ls hC hret hl hP
  obtain ⟨hx, hb, hr, hml, hown, hts, hK, -, hlocks, hZ⟩ := hC
  have hown : s.vm.findClass RX7 = some m.cls := hown
  have hS : va_S (jA ad) s.heap s.heap [] := va_S.rf
  have hA : ∀ q, jA ad q → jA ad q := fun _ h => h
  have hl : lv_has ls 2 [(0, .ref (ad 9))] := hl
  obtain ⟨i1, i2⟩ : (0 ≤ (σ 9 1).toInt) ∧ ((σ 9 1).toInt ≤ (σ 9 0).toInt) := id hI91
  have i3 : (-1) ≤ (σ 9 2).toInt := hI92
  obtain ⟨i4, w5⟩ : (0 ≤ (σ 12 0).toInt ∧ (σ 12 0).toInt ≤ 160) ∧ (∀ k : Nat, k < 160 → 0 ≤ (σ 13 k).toInt ∧ (σ 13 k).toInt ≤ 30000) := id hI12
  refine lv_aload_n hx hb dX7_readLine_0 rfl (lv_at hl 0 rfl) ?_
  refine lv_iconst (v := 0) hx hb dX7_readLine_1 (of_decide_eq_true rfl) ?_
  refine lv_iconst (v := 0) hx hb dX7_readLine_2 (of_decide_eq_true rfl) ?_
  exact by
   refine jcallVv (As := [.int 0, .int 0]) (rest := []) ⟨hx, hb, hml, hown, hts⟩ hK hP hA hS hZ ((c_X7_grammar l D cI cL ad zz hJ 6).2.2.2.2.2.2 σ τ 0 (0) jz_0 hI9 hI91 hI92 hI12 (by omega) (by omega)) cw_RX7_82 (jc_9 cI cL ad σ τ) rfl ⟨Nat.le_of_ble_eq_true rfl, Nat.le_of_ble_eq_true rfl⟩ rfl rfl rfl hl.1 rfl (Nat.le_of_ble_eq_true rfl) dX7_readLine_3 ⟨Nat.zero_le _, Nat.zero_le _⟩ (fun σ6 τ6 H locs h6 hP hS => ?_)
   obtain ⟨rfl, f8, f9, f10, I11, I12, I13, I14, h6⟩ := h6
   obtain ⟨i16, i17⟩ : (0 ≤ (σ6 9 1).toInt) ∧ ((σ6 9 1).toInt ≤ (σ6 9 0).toInt) := id I12
   have i18 : (-1) ≤ (σ6 9 2).toInt := I13
   obtain ⟨i19, w20⟩ : (0 ≤ (σ6 12 0).toInt ∧ (σ6 12 0).toInt ≤ 160) ∧ (∀ k : Nat, k < 160 → 0 ≤ (σ6 13 k).toInt ∧ (σ6 13 k).toInt ≤ 30000) := id I14
   have z21 : (σ6 9 0).toInt = (σ 9 0).toInt := (congrArg Int32.toInt (show σ6 9 0 = (σ 9 0) from (f9 0 (of_decide_eq_true rfl))))
   refine lv_iconst (v := (-1)) hx hb dX7_readLine_6 (of_decide_eq_true rfl) ?_
   refine lv_istore_n (lv' := [(1, .int (-1)), (0, .ref (ad 9))]) hx hb dX7_readLine_7 rfl hl (of_decide_eq_true rfl) rfl (fun ls hl => ?_)
   refine lv_aload_n hx hb dX7_readLine_8 rfl (lv_at hl 1 rfl) ?_
   refine lv_bipush (v := 63) hx hb dX7_readLine_9 (of_decide_eq_true rfl) ?_
   exact by
    refine jcallV (As := [.int 63]) (rest := []) ⟨hx, hb, hml, hown, hts⟩ hK hP hA hS hZ (c_X7_skip_9 l D cI cL ad zz hJ σ6 τ 63 (63) jz_63 I11 I12 I13 (by omega)) cw_RX7_50 (jc_9 cI cL ad σ6 τ) rfl ⟨Nat.le_of_ble_eq_true rfl, Nat.le_of_ble_eq_true rfl⟩ rfl rfl rfl hl.1 rfl (Nat.le_of_ble_eq_true rfl) dX7_readLine_11 ⟨Nat.zero_le _, Nat.zero_le _⟩ (fun r23 σ22 τ22 H locs h22 hP hS => ?_)
    obtain ⟨rfl, f24, f25, I26, I27, I28, h22⟩ := h22
    obtain ⟨i30, i31⟩ : (0 ≤ (σ22 9 1).toInt) ∧ ((σ22 9 1).toInt ≤ (σ22 9 0).toInt) := id I27
    have i32 : (-1) ≤ (σ22 9 2).toInt := I28
    have z33 : (σ22 9 0).toInt = (σ 9 0).toInt := (congrArg Int32.toInt (show σ22 9 0 = (σ 9 0) from ((f25 0 (of_decide_eq_true rfl)).trans (f9 0 (of_decide_eq_true rfl)))))
    have z34 : (σ22 9 2).toInt = (σ6 9 2).toInt := (congrArg Int32.toInt (show σ22 9 2 = (σ6 9 2) from (f25 2 (of_decide_eq_true rfl))))
    rcases h22 with h35 | h36
    · obtain ⟨q41, k37, k38, k39, k40⟩ := h35
      have q41 := q41.symm
      subst q41
      refine lv_if_eq (tgt := 49) hx hb dX7_readLine_14 (of_decide_eq_true rfl) (fun c => absurd c (of_decide_eq_true rfl)) (fun _ => ?_)
      refine lv_aload_n hx hb dX7_readLine_17 rfl (lv_at hl 1 rfl) ?_
      refine va_get (D := D) hx hb hts inlX7 hown hK hP 9 (jc_9 cI cL ad σ22 τ) rfl 5 (of_decide_eq_true rfl) (hts _ kw_3_23) (fun _ h9 => h9) rfl dX7_readLine_18 ?_
      refine lv_sipush (v := 20063) hx hb dX7_readLine_21 (of_decide_eq_true rfl) ?_
      have I42 : jI12 σ22 := jI12_fr (congrFun (f24 12 (of_decide_eq_true rfl)) 0) (f24 13 (of_decide_eq_true rfl)) I14
      exact by
       refine jcallVv (As := [.int 20063]) (rest := []) ⟨hx, hb, hml, hown, hts⟩ hK hP hA hS hZ (c_X10_add_12 l D cI cL ad zz hJ σ22 τ 20063 (20063) jz_20063 I42 (by omega)) cw_RX7_86 (jc_12 cI cL ad σ22 τ) rfl ⟨Nat.le_of_ble_eq_true rfl, Nat.le_of_ble_eq_true rfl⟩ rfl rfl rfl hl.1 rfl (Nat.le_of_ble_eq_true rfl) dX7_readLine_24 ⟨Nat.zero_le _, Nat.zero_le _⟩ (fun σ43 τ43 H locs h43 hP hS => ?_)
       obtain ⟨rfl, f45, f46, I47, h43⟩ := h43
       obtain ⟨i49, w50⟩ : (0 ≤ (σ43 12 0).toInt ∧ (σ43 12 0).toInt ≤ 160) ∧ (∀ k : Nat, k < 160 → 0 ≤ (σ43 13 k).toInt ∧ (σ43 13 k).toInt ≤ 30000) := id I47
       refine lv_aload_n hx hb dX7_readLine_27 rfl (lv_at hl 1 rfl) ?_
       refine va_get (D := D) hx hb hts inlX7 hown hK hP 9 (jc_9 cI cL ad σ43 τ) rfl 5 (of_decide_eq_true rfl) (hts _ kw_3_23) (fun _ h9 => h9) rfl dX7_readLine_28 ?_
       refine va_get (D := D) hx hb hts inlX10 hown hK hP 12 (jc_12 cI cL ad σ43 τ) rfl 0 (of_decide_eq_true rfl) (hts _ kw_17_2) (fun _ h9 => h9) rfl dX7_readLine_31 ?_
       refine lv_istore_n (lv' := [(1, .int (σ43 12 0)), (0, .ref (ad 9))]) hx hb dX7_readLine_34 rfl hl (of_decide_eq_true rfl) rfl (fun ls hl => ?_)
       refine lv_aload_n hx hb dX7_readLine_35 rfl (lv_at hl 1 rfl) ?_
       refine va_get (D := D) hx hb hts inlX7 hown hK hP 9 (jc_9 cI cL ad σ43 τ) rfl 5 (of_decide_eq_true rfl) (hts _ kw_3_23) (fun _ h9 => h9) rfl dX7_readLine_36 ?_
       refine lv_iconst (v := 0) hx hb dX7_readLine_39 (of_decide_eq_true rfl) ?_
       exact by
        refine jcallVv (As := [.int 0]) (rest := []) ⟨hx, hb, hml, hown, hts⟩ hK hP hA hS hZ (c_X10_add_12 l D cI cL ad zz hJ σ43 τ 0 (0) jz_0 I47 (by omega)) cw_RX7_86 (jc_12 cI cL ad σ43 τ) rfl ⟨Nat.le_of_ble_eq_true rfl, Nat.le_of_ble_eq_true rfl⟩ rfl rfl rfl hl.1 rfl (Nat.le_of_ble_eq_true rfl) dX7_readLine_40 ⟨Nat.zero_le _, Nat.zero_le _⟩ (fun σ51 τ51 H locs h51 hP hS => ?_)
        obtain ⟨rfl, f53, f54, I55, h51⟩ := h51
        obtain ⟨i57, w58⟩ : (0 ≤ (σ51 12 0).toInt ∧ (σ51 12 0).toInt ≤ 160) ∧ (∀ k : Nat, k < 160 → 0 ≤ (σ51 13 k).toInt ∧ (σ51 13 k).toInt ≤ 30000) := id I55
        refine lv_aload_n hx hb dX7_readLine_43 rfl (lv_at hl 1 rfl) ?_
        refine lv_iconst (v := 0) hx hb dX7_readLine_44 (of_decide_eq_true rfl) ?_
        refine lv_iconst (v := 0) hx hb dX7_readLine_45 (of_decide_eq_true rfl) ?_
        have I59 : jI9 σ51 := jI9_fr ((congrFun (f53 9 (of_decide_eq_true rfl)) 0).trans (congrFun (f45 9 (of_decide_eq_true rfl)) 0)) ((f53 10 (of_decide_eq_true rfl)).trans (f45 10 (of_decide_eq_true rfl))) ((f53 11 (of_decide_eq_true rfl)).trans (f45 11 (of_decide_eq_true rfl))) I26
        have I60 : jI91 σ51 := jI91_fr ((congrFun (f53 9 (of_decide_eq_true rfl)) 0).trans (congrFun (f45 9 (of_decide_eq_true rfl)) 0)) ((congrFun (f53 9 (of_decide_eq_true rfl)) 1).trans (congrFun (f45 9 (of_decide_eq_true rfl)) 1)) I27
        have I61 : jI92 σ51 := jI92_fr ((congrFun (f53 9 (of_decide_eq_true rfl)) 2).trans (congrFun (f45 9 (of_decide_eq_true rfl)) 2)) I28
        exact by
         refine jcallVv (As := [.int 0, .int 0]) (rest := []) ⟨hx, hb, hml, hown, hts⟩ hK hP hA hS hZ ((c_X7_grammar l D cI cL ad zz hJ 6).2.2.2.2.2.2 σ51 τ 0 (0) jz_0 I59 I60 I61 I55 (by omega) (by omega)) cw_RX7_82 (jc_9 cI cL ad σ51 τ) rfl ⟨Nat.le_of_ble_eq_true rfl, Nat.le_of_ble_eq_true rfl⟩ rfl rfl rfl hl.1 rfl (Nat.le_of_ble_eq_true rfl) dX7_readLine_46 ⟨Nat.zero_le _, Nat.zero_le _⟩ (fun σ62 τ62 H locs h62 hP hS => ?_)
         obtain ⟨rfl, f64, f65, f66, I67, I68, I69, I70, h62⟩ := h62
         obtain ⟨i72, i73⟩ : (0 ≤ (σ62 9 1).toInt) ∧ ((σ62 9 1).toInt ≤ (σ62 9 0).toInt) := id I68
         have i74 : (-1) ≤ (σ62 9 2).toInt := I69
         obtain ⟨i75, w76⟩ : (0 ≤ (σ62 12 0).toInt ∧ (σ62 12 0).toInt ≤ 160) ∧ (∀ k : Nat, k < 160 → 0 ≤ (σ62 13 k).toInt ∧ (σ62 13 k).toInt ≤ 30000) := id I70
         have z77 : (σ62 9 0).toInt = (σ 9 0).toInt := (congrArg Int32.toInt (show σ62 9 0 = (σ 9 0) from ((f65 0 (of_decide_eq_true rfl)).trans ((congrFun (f53 9 (of_decide_eq_true rfl)) 0).trans ((congrFun (f45 9 (of_decide_eq_true rfl)) 0).trans ((f25 0 (of_decide_eq_true rfl)).trans (f9 0 (of_decide_eq_true rfl))))))))
         refine lv_aload_n hx hb dX7_readLine_49 rfl (lv_at hl 1 rfl) ?_
         refine va_get (D := D) hx hb hts inlX7 hown hK hP 9 (jc_9 cI cL ad σ62 τ) rfl 5 (of_decide_eq_true rfl) (hts _ kw_3_23) (fun _ h9 => h9) rfl dX7_readLine_50 ?_
         refine lv_sipush (v := 20059) hx hb dX7_readLine_53 (of_decide_eq_true rfl) ?_
         exact by
          refine jcallVv (As := [.int 20059]) (rest := []) ⟨hx, hb, hml, hown, hts⟩ hK hP hA hS hZ (c_X10_add_12 l D cI cL ad zz hJ σ62 τ 20059 (20059) jz_20059 I70 (by omega)) cw_RX7_86 (jc_12 cI cL ad σ62 τ) rfl ⟨Nat.le_of_ble_eq_true rfl, Nat.le_of_ble_eq_true rfl⟩ rfl rfl rfl hl.1 rfl (Nat.le_of_ble_eq_true rfl) dX7_readLine_56 ⟨Nat.zero_le _, Nat.zero_le _⟩ (fun σ78 τ78 H locs h78 hP hS => ?_)
          obtain ⟨rfl, f80, f81, I82, h78⟩ := h78
          obtain ⟨i84, w85⟩ : (0 ≤ (σ78 12 0).toInt ∧ (σ78 12 0).toInt ≤ 160) ∧ (∀ k : Nat, k < 160 → 0 ≤ (σ78 13 k).toInt ∧ (σ78 13 k).toInt ≤ 30000) := id I82
          refine lv_iload_n hx hb dX7_readLine_59 rfl (lv_at hl 0 rfl) ?_
          refine lv_if_lt (tgt := 86) hx hb dX7_readLine_60 (of_decide_eq_true rfl) (fun c => absurd (jlt c rfl jz_0) (by omega)) (fun c86 => ?_)
          have kc86 := jnlt c86 rfl jz_0
          refine lv_iload_n hx hb dX7_readLine_63 rfl (lv_at hl 0 rfl) ?_
          refine lv_sipush (v := 160) hx hb dX7_readLine_64 (of_decide_eq_true rfl) ?_
          refine lv_icmp_ge (tgt := 86) hx hb dX7_readLine_67 (of_decide_eq_true rfl) (fun c87 => ?_) (fun c87 => ?_)
          · exact by
             have kc87 := jle c87 jz_160 rfl
             have I88 : jI9 σ78 := jI9_fr (congrFun (f80 9 (of_decide_eq_true rfl)) 0) (f80 10 (of_decide_eq_true rfl)) (f80 11 (of_decide_eq_true rfl)) I67
             have I89 : jI91 σ78 := jI91_fr (congrFun (f80 9 (of_decide_eq_true rfl)) 0) (congrFun (f80 9 (of_decide_eq_true rfl)) 1) I68
             have I90 : jI92 σ78 := jI92_fr (congrFun (f80 9 (of_decide_eq_true rfl)) 2) I69
             exact hret σ78 τ _ _ _ _ ⟨rfl, (fun i hi => ((f80 i (imp_58 i hi)).trans ((f64 i hi).trans ((f53 i (imp_58 i hi)).trans ((f45 i (imp_58 i hi)).trans ((f24 i (imp_59 i hi)).trans (f8 i hi))))))), (fun i hi => ((congrFun (f80 9 (of_decide_eq_true rfl)) i).trans ((f65 i hi).trans ((congrFun (f53 9 (of_decide_eq_true rfl)) i).trans ((congrFun (f45 9 (of_decide_eq_true rfl)) i).trans ((f25 i (imp_55 i hi)).trans (f9 i hi))))))), (fun i hi => ((f81 i hi).trans ((f66 i hi).trans ((f54 i hi).trans ((f46 i hi).trans ((congrFun (f24 12 (of_decide_eq_true rfl)) i).trans (f10 i hi))))))), I88, I89, I90, I82, trivial⟩ hP hS dX7_readLine_86
          · have kc87 := jnle c87 jz_160 rfl
            refine lv_aload_n hx hb dX7_readLine_70 rfl (lv_at hl 1 rfl) ?_
            refine va_get (D := D) hx hb hts inlX7 hown hK hP 9 (jc_9 cI cL ad σ78 τ) rfl 5 (of_decide_eq_true rfl) (hts _ kw_3_23) (fun _ h9 => h9) rfl dX7_readLine_71 ?_
            refine va_get (D := D) hx hb hts inlX10 hown hK hP 12 (jc_12 cI cL ad σ78 τ) rfl 2 (of_decide_eq_true rfl) (hts _ kw_17_3) (fun _ h9 => h9) rfl dX7_readLine_74 ?_
            refine lv_iload_n hx hb dX7_readLine_77 rfl (lv_at hl 0 rfl) ?_
            refine lv_aload_n hx hb dX7_readLine_78 rfl (lv_at hl 1 rfl) ?_
            refine va_get (D := D) hx hb hts inlX7 hown hK hP 9 (jc_9 cI cL ad σ78 τ) rfl 5 (of_decide_eq_true rfl) (hts _ kw_3_23) (fun _ h9 => h9) rfl dX7_readLine_79 ?_
            refine va_get (D := D) hx hb hts inlX10 hown hK hP 12 (jc_12 cI cL ad σ78 τ) rfl 0 (of_decide_eq_true rfl) (hts _ kw_17_2) (fun _ h9 => h9) rfl dX7_readLine_82 ?_
            exact by
             refine jast hx hb hK hP hJ hA hS (jc_13 cI cL ad σ78 τ) (ja_13 cI cL ad σ78 τ _ _) (jin rfl (by omega) (by omega)) dX7_readLine_85 (fun σ91 H locs eσ91 hP hS => ?_)
             have I92 : jI9 σ91 := jI9_fr ((congrFun (jnp 9 eσ91 (of_decide_eq_true rfl)) 0).trans (congrFun (f80 9 (of_decide_eq_true rfl)) 0)) ((jnp 10 eσ91 (of_decide_eq_true rfl)).trans (f80 10 (of_decide_eq_true rfl))) ((jnp 11 eσ91 (of_decide_eq_true rfl)).trans (f80 11 (of_decide_eq_true rfl))) I67
             have I93 : jI91 σ91 := jI91_fr ((congrFun (jnp 9 eσ91 (of_decide_eq_true rfl)) 0).trans (congrFun (f80 9 (of_decide_eq_true rfl)) 0)) ((congrFun (jnp 9 eσ91 (of_decide_eq_true rfl)) 1).trans (congrFun (f80 9 (of_decide_eq_true rfl)) 1)) I68
             have I94 : jI92 σ91 := jI92_fr ((congrFun (jnp 9 eσ91 (of_decide_eq_true rfl)) 2).trans (congrFun (f80 9 (of_decide_eq_true rfl)) 2)) I69
             have z95 : (σ91 12 0).toInt = (σ78 12 0).toInt := (congrArg Int32.toInt (show σ91 12 0 = (σ78 12 0) from (congrFun (jnp 12 eσ91 (of_decide_eq_true rfl)) 0)))
             have w96 : ∀ k : Nat, k < 160 → 0 ≤ (σ91 13 k).toInt ∧ (σ91 13 k).toInt ≤ 30000 := (by rw [eσ91]; exact jrr_up w85 (by omega) (by omega))
             have I97 : jI12 σ91 := ⟨(by omega), w96⟩
             exact hret σ91 τ _ _ _ _ ⟨rfl, (fun i hi => ((jnp i eσ91 (imp_61 i hi)).trans ((f80 i (imp_58 i hi)).trans ((f64 i hi).trans ((f53 i (imp_58 i hi)).trans ((f45 i (imp_58 i hi)).trans ((f24 i (imp_59 i hi)).trans (f8 i hi)))))))), (fun i hi => ((congrFun (jnp 9 eσ91 (of_decide_eq_true rfl)) i).trans ((congrFun (f80 9 (of_decide_eq_true rfl)) i).trans ((f65 i hi).trans ((congrFun (f53 9 (of_decide_eq_true rfl)) i).trans ((congrFun (f45 9 (of_decide_eq_true rfl)) i).trans ((f25 i (imp_55 i hi)).trans (f9 i hi)))))))), (fun i hi => ((congrFun (jnp 12 eσ91 (of_decide_eq_true rfl)) i).trans ((f81 i hi).trans ((f66 i hi).trans ((f54 i hi).trans ((f46 i hi).trans ((congrFun (f24 12 (of_decide_eq_true rfl)) i).trans (f10 i hi)))))))), I92, I93, I94, I97, trivial⟩ hP hS dX7_readLine_86
    · obtain ⟨q101, k98, k99, k100⟩ := h36
      exact by
       have q101 := q101.symm
       subst q101
       refine lv_if_eq (tgt := 49) hx hb dX7_readLine_14 (of_decide_eq_true rfl) (fun _ => ?_) (fun c => absurd (of_decide_eq_true rfl) c)
       refine lv_aload_n hx hb dX7_readLine_49 rfl (lv_at hl 1 rfl) ?_
       refine va_get (D := D) hx hb hts inlX7 hown hK hP 9 (jc_9 cI cL ad σ22 τ) rfl 5 (of_decide_eq_true rfl) (hts _ kw_3_23) (fun _ h9 => h9) rfl dX7_readLine_50 ?_
       refine lv_sipush (v := 20059) hx hb dX7_readLine_53 (of_decide_eq_true rfl) ?_
       have I102 : jI12 σ22 := jI12_fr (congrFun (f24 12 (of_decide_eq_true rfl)) 0) (f24 13 (of_decide_eq_true rfl)) I14
       refine jcallVv (As := [.int 20059]) (rest := []) ⟨hx, hb, hml, hown, hts⟩ hK hP hA hS hZ (c_X10_add_12 l D cI cL ad zz hJ σ22 τ 20059 (20059) jz_20059 I102 (by omega)) cw_RX7_86 (jc_12 cI cL ad σ22 τ) rfl ⟨Nat.le_of_ble_eq_true rfl, Nat.le_of_ble_eq_true rfl⟩ rfl rfl rfl hl.1 rfl (Nat.le_of_ble_eq_true rfl) dX7_readLine_56 ⟨Nat.zero_le _, Nat.zero_le _⟩ (fun σ103 τ103 H locs h103 hP hS => ?_)
       obtain ⟨rfl, f105, f106, I107, h103⟩ := h103
       exact by
        obtain ⟨i109, w110⟩ : (0 ≤ (σ103 12 0).toInt ∧ (σ103 12 0).toInt ≤ 160) ∧ (∀ k : Nat, k < 160 → 0 ≤ (σ103 13 k).toInt ∧ (σ103 13 k).toInt ≤ 30000) := id I107
        refine lv_iload_n hx hb dX7_readLine_59 rfl (lv_at hl 0 rfl) ?_
        refine lv_if_lt (tgt := 86) hx hb dX7_readLine_60 (of_decide_eq_true rfl) (fun _ => ?_) (fun c => absurd (of_decide_eq_true rfl) c)
        have I111 : jI9 σ103 := jI9_fr (congrFun (f105 9 (of_decide_eq_true rfl)) 0) (f105 10 (of_decide_eq_true rfl)) (f105 11 (of_decide_eq_true rfl)) I26
        have I112 : jI91 σ103 := jI91_fr (congrFun (f105 9 (of_decide_eq_true rfl)) 0) (congrFun (f105 9 (of_decide_eq_true rfl)) 1) I27
        have I113 : jI92 σ103 := jI92_fr (congrFun (f105 9 (of_decide_eq_true rfl)) 2) I28
        exact hret σ103 τ _ _ _ _ ⟨rfl, (fun i hi => ((f105 i (imp_58 i hi)).trans ((f24 i (imp_59 i hi)).trans (f8 i hi)))), (fun i hi => ((congrFun (f105 9 (of_decide_eq_true rfl)) i).trans ((f25 i (imp_55 i hi)).trans (f9 i hi)))), (fun i hi => ((f106 i hi).trans ((congrFun (f24 12 (of_decide_eq_true rfl)) i).trans (f10 i hi)))), I111, I112, I113, I107, trivial⟩ hP hS dX7_readLine_86
set_option maxHeartbeats 4000000 in
set_option maxRecDepth 100000 in
theorem c_X7_readText_9 (l : Launch) (D : va_G) (cI cL : ClassId) (ad zz : Nat → Nat) (hJ : jD ad) (σ : Nat → Nat → Int32) (τ : Nat → Nat → Int64) (hI9 : jI9 σ) (hI12 : jI12 σ) (hI18 : jI18 σ) : jM l yX7_readText cX7_readText 3 (some .int) ({ frames := 66, cells := 0, slots := 0, locals := 2845 }) D cI cL ad zz [.ref (ad 9), .ref (ad 18)] σ τ (fun r σ' τ' => τ = τ' ∧ (∀ i : Nat, (i < 9 ∨ 9 < i) ∧ (i < 12 ∨ 13 < i) ∧ (i < 18 ∨ 19 < i) → σ' i = σ i) ∧ (∀ k : Nat, (k < 0 ∨ 0 < k) ∧ (k < 1 ∨ 1 < k) ∧ (k < 2 ∨ 2 < k) → σ' 9 k = σ 9 k) ∧ (∀ k : Nat, (k < 0 ∨ 0 < k) ∧ (k < 1 ∨ 1 < k) → σ' 12 k = σ 12 k) ∧ (∀ k : Nat, (k < 0 ∨ 0 < k) ∧ (k < 1 ∨ 1 < k) → σ' 18 k = σ 18 k) ∧ (jI9 σ') ∧ (jI12 σ') ∧ (jI18 σ') ∧ ((σ' 9 0).toInt = 0) ∧ True) := by
  refine jM.of hJ (by decide +kernel) (nt := .int) rfl (Nat.le_of_ble_eq_true rfl) ?_
  intro p e s m args below meth c Q ls hC hret hl hP
  obtain ⟨hx, hb, hr, hml, hown, hts, hK, -, hlocks, hZ⟩ := hC
  have hown : s.vm.findClass RX7 = some m.cls := hown
  have hS : va_S (jA ad) s.heap s.heap [] := va_S.rf
  have hA : ∀ q, jA ad q → jA ad q := fun _ h => h
  have hl : lv_has ls 3 [(0, .ref (ad 9)), (1, .ref (ad 18))] := hl
  obtain ⟨i1, w2, w3⟩ : (0 ≤ (σ 9 0).toInt ∧ (σ 9 0).toInt ≤ 80) ∧ (∀ k : Nat, k < 80 → 0 ≤ (σ 10 k).toInt ∧ (σ 10 k).toInt ≤ 255) ∧ (∀ k : Nat, k < 8 → 0 ≤ (σ 11 k).toInt ∧ (σ 11 k).toInt ≤ 3) := id hI9
  refine lv_aload_n hx hb dX7_readText_0 rfl (lv_at hl 0 rfl) ?_
  refine jcallVv (As := []) (rest := []) ⟨hx, hb, hml, hown, hts⟩ hK hP hA hS hZ (c_X7_begin_9 l D cI cL ad zz hJ σ τ hI9) cw_RX7_47 (jc_9 cI cL ad σ τ) rfl ⟨Nat.le_of_ble_eq_true rfl, Nat.le_of_ble_eq_true rfl⟩ rfl rfl rfl hl.1 rfl (Nat.le_of_ble_eq_true rfl) dX7_readText_1 ⟨Nat.zero_le _, Nat.zero_le _⟩ (fun σ4 τ4 H locs h4 hP hS => ?_)
  obtain ⟨rfl, f6, f7, m8, m9, I10, I11, I12, h4⟩ := h4
  obtain ⟨i14, w15, w16⟩ : (0 ≤ (σ4 9 0).toInt ∧ (σ4 9 0).toInt ≤ 80) ∧ (∀ k : Nat, k < 80 → 0 ≤ (σ4 10 k).toInt ∧ (σ4 10 k).toInt ≤ 255) ∧ (∀ k : Nat, k < 8 → 0 ≤ (σ4 11 k).toInt ∧ (σ4 11 k).toInt ≤ 3) := id I10
  obtain ⟨i17, i18⟩ : (0 ≤ (σ4 9 1).toInt) ∧ ((σ4 9 1).toInt ≤ (σ4 9 0).toInt) := id I11
  have i19 : (-1) ≤ (σ4 9 2).toInt := I12
  have z20 : (σ4 9 0).toInt = (σ 9 0).toInt := (congrArg Int32.toInt (show σ4 9 0 = (σ 9 0) from (f7 0 (of_decide_eq_true rfl))))
  have z21 : (σ4 9 1).toInt = 0 := ((congrArg Int32.toInt (show σ4 9 1 = 0 from m8)).trans jz_0)
  have z22 : (σ4 9 2).toInt = (-1) := ((congrArg Int32.toInt (show σ4 9 2 = (-1) from m9)).trans jz_m1)
  refine lv_aload_n hx hb dX7_readText_4 rfl (lv_at hl 0 rfl) ?_
  refine va_get (D := D) hx hb hts inlX7 hown hK hP 9 (jc_9 cI cL ad σ4 τ) rfl 5 (of_decide_eq_true rfl) (hts _ kw_3_23) (fun _ h9 => h9) rfl dX7_readText_5 ?_
  obtain ⟨i23, w24⟩ : (0 ≤ (σ 12 0).toInt ∧ (σ 12 0).toInt ≤ 160) ∧ (∀ k : Nat, k < 160 → 0 ≤ (σ 13 k).toInt ∧ (σ 13 k).toInt ≤ 30000) := id hI12
  have w25 : ∀ k : Nat, k < 160 → 0 ≤ (σ4 13 k).toInt ∧ (σ4 13 k).toInt ≤ 30000 := (jrr_fr (f6 13 (of_decide_eq_true rfl)) w24)
  refine jcallVv (As := []) (rest := []) ⟨hx, hb, hml, hown, hts⟩ hK hP hA hS hZ (c_X10_begin_12 l D cI cL ad zz hJ σ4 τ w25) cw_RX7_74 (jc_12 cI cL ad σ4 τ) rfl ⟨Nat.le_of_ble_eq_true rfl, Nat.le_of_ble_eq_true rfl⟩ rfl rfl rfl hl.1 rfl (Nat.le_of_ble_eq_true rfl) dX7_readText_8 ⟨Nat.zero_le _, Nat.zero_le _⟩ (fun σ26 τ26 H locs h26 hP hS => ?_)
  obtain ⟨rfl, f28, f29, I30, h26⟩ := h26
  refine lv_aload_n hx hb dX7_readText_11 rfl (lv_at hl 0 rfl) ?_
  have I32 : jI9 σ26 := jI9_fr (congrFun (f28 9 (of_decide_eq_true rfl)) 0) (f28 10 (of_decide_eq_true rfl)) (f28 11 (of_decide_eq_true rfl)) I10
  have I33 : jI91 σ26 := jI91_fr (congrFun (f28 9 (of_decide_eq_true rfl)) 0) (congrFun (f28 9 (of_decide_eq_true rfl)) 1) I11
  have I34 : jI92 σ26 := jI92_fr (congrFun (f28 9 (of_decide_eq_true rfl)) 2) I12
  refine jcallVv (As := []) (rest := []) ⟨hx, hb, hml, hown, hts⟩ hK hP hA hS hZ (c_X7_readLine_9 l D cI cL ad zz hJ σ26 τ I32 I33 I34 I30) cw_RX7_75 (jc_9 cI cL ad σ26 τ) rfl ⟨Nat.le_of_ble_eq_true rfl, Nat.le_of_ble_eq_true rfl⟩ rfl rfl rfl hl.1 rfl (Nat.le_of_ble_eq_true rfl) dX7_readText_12 ⟨Nat.zero_le _, Nat.zero_le _⟩ (fun σ35 τ35 H locs h35 hP hS => ?_)
  obtain ⟨rfl, f37, f38, f39, I40, I41, I42, I43, h35⟩ := h35
  obtain ⟨i45, w46, w47⟩ : (0 ≤ (σ35 9 0).toInt ∧ (σ35 9 0).toInt ≤ 80) ∧ (∀ k : Nat, k < 80 → 0 ≤ (σ35 10 k).toInt ∧ (σ35 10 k).toInt ≤ 255) ∧ (∀ k : Nat, k < 8 → 0 ≤ (σ35 11 k).toInt ∧ (σ35 11 k).toInt ≤ 3) := id I40
  obtain ⟨i48, i49⟩ : (0 ≤ (σ35 9 1).toInt) ∧ ((σ35 9 1).toInt ≤ (σ35 9 0).toInt) := id I41
  have i50 : (-1) ≤ (σ35 9 2).toInt := I42
  have z51 : (σ35 9 0).toInt = (σ 9 0).toInt := (congrArg Int32.toInt (show σ35 9 0 = (σ 9 0) from ((f38 0 (of_decide_eq_true rfl)).trans ((congrFun (f28 9 (of_decide_eq_true rfl)) 0).trans (f7 0 (of_decide_eq_true rfl))))))
  refine lv_iconst (v := 0) hx hb dX7_readText_15 (of_decide_eq_true rfl) ?_
  refine lv_istore_n (lv' := [(2, .int 0), (0, .ref (ad 9)), (1, .ref (ad 18))]) hx hb dX7_readText_16 rfl hl (of_decide_eq_true rfl) rfl (fun ls hl => ?_)
  have lp52 : ∀ (n53 : Nat) (x54 : Int32) (σ55 : Nat → Nat → Int32) (H : Heap) (locs : List Loc) (ls : Array Slot), (-x54.toInt + 80 : Int) < n53 → 0 ≤ x54.toInt → x54.toInt ≤ 80 → 0 ≤ (σ55 9 1).toInt → (σ55 9 1).toInt ≤ (σ55 9 0).toInt → (-1) ≤ (σ55 9 2).toInt → (∀ i : Nat, (i < 9 ∨ 9 < i) ∧ (i < 12 ∨ 13 < i) → σ55 i = σ35 i) → (∀ k : Nat, (k < 1 ∨ 1 < k) ∧ (k < 2 ∨ 2 < k) → σ55 9 k = σ35 9 k) → (∀ k : Nat, (k < 0 ∨ 0 < k) ∧ (k < 1 ∨ 1 < k) → σ55 12 k = σ35 12 k) → jI12 σ55 → jH D cI cL ad σ55 τ H → va_S (jA ad) s.heap H locs → lv_has ls 3 [(2, .int x54), (0, .ref (ad 9)), (1, .ref (ad 18))] → W p l e ({ frames := 66, cells := 0, slots := 0, locals := 2845 }) s m args below meth c H locs 0 0 Q (F0 m 17 ls []) := by
    intro n53
    induction n53 with
    | zero => intro x54 σ55 H locs ls h57 h58 h59 h60 h61 h62; exact absurd h57 (by omega)
    | succ n53 ihlp52 =>
      intro x54 σ55 H locs ls h57 h58 h59 h60 h61 h62 f63 f64 f65 p66 hP hS hl
      exact by
       have z67 : (σ55 9 0).toInt = (σ 9 0).toInt := (congrArg Int32.toInt (show σ55 9 0 = (σ 9 0) from ((f64 0 (of_decide_eq_true rfl)).trans ((f38 0 (of_decide_eq_true rfl)).trans ((congrFun (f28 9 (of_decide_eq_true rfl)) 0).trans (f7 0 (of_decide_eq_true rfl)))))))
       refine lv_iload_n hx hb dX7_readText_17 rfl (lv_at hl 0 rfl) ?_
       refine lv_bipush (v := 80) hx hb dX7_readText_18 (of_decide_eq_true rfl) ?_
       refine lv_icmp_ge (tgt := 42) hx hb dX7_readText_20 (of_decide_eq_true rfl) (fun c68 => ?_) (fun c68 => ?_)
       · have kc68 := jle c68 jz_80 rfl
         refine lv_aload_n hx hb dX7_readText_42 rfl (lv_at hl 1 rfl) ?_
         have I69 : jI9 σ55 := jI9_fr (f64 0 (of_decide_eq_true rfl)) (f63 10 (of_decide_eq_true rfl)) (f63 11 (of_decide_eq_true rfl)) I40
         have I70 : jI91 σ55 := ⟨(by omega), (by omega)⟩
         have I71 : jI92 σ55 := (show (-1) ≤ (σ55 9 2).toInt by omega)
         exact by
          refine jcallV (As := []) (rest := []) ⟨hx, hb, hml, hown, hts⟩ hK hP hA hS hZ (c_X7_end_9 l D cI cL ad zz hJ σ55 τ I69 I70 I71) cw_RX7_57 (jc_9 cI cL ad σ55 τ) rfl ⟨Nat.le_of_ble_eq_true rfl, Nat.le_of_ble_eq_true rfl⟩ rfl rfl rfl hl.1 rfl (Nat.le_of_ble_eq_true rfl) dX7_readText_43 ⟨Nat.zero_le _, Nat.zero_le _⟩ (fun r73 σ72 τ72 H locs h72 hP hS => ?_)
          obtain ⟨rfl, f74, f75, I76, I77, h72⟩ := h72
          obtain ⟨i79, w80, w81⟩ : (0 ≤ (σ72 9 0).toInt ∧ (σ72 9 0).toInt ≤ 80) ∧ (∀ k : Nat, k < 80 → 0 ≤ (σ72 10 k).toInt ∧ (σ72 10 k).toInt ≤ 255) ∧ (∀ k : Nat, k < 8 → 0 ≤ (σ72 11 k).toInt ∧ (σ72 11 k).toInt ≤ 3) := id I76
          have i82 : (-1) ≤ (σ72 9 2).toInt := I77
          obtain ⟨k83, h72⟩ := h72
          rcases h72 with h84 | h85
          · obtain ⟨q88, k86, k87⟩ := h84
            have q88 := q88.symm
            subst q88
            refine lv_istore_n (lv' := [(2, .int (-1)), (0, .ref (ad 9)), (1, .ref (ad 18))]) hx hb dX7_readText_46 rfl hl (of_decide_eq_true rfl) rfl (fun ls hl => ?_)
            refine lv_iload_n hx hb dX7_readText_47 rfl (lv_at hl 0 rfl) ?_
            refine lv_iconst (v := (-1)) hx hb dX7_readText_48 (of_decide_eq_true rfl) ?_
            refine lv_icmp_ne (tgt := 60) hx hb dX7_readText_49 (of_decide_eq_true rfl) (fun c => absurd (of_decide_eq_true rfl) c) (fun _ => ?_)
            refine lv_aload_n hx hb dX7_readText_52 rfl (lv_at hl 2 rfl) ?_
            refine lv_aload_n hx hb dX7_readText_53 rfl (lv_at hl 1 rfl) ?_
            refine va_get (D := D) hx hb hts inlX7 hown hK hP 9 (jc_9 cI cL ad σ72 τ) rfl 5 (of_decide_eq_true rfl) (hts _ kw_3_23) (fun _ h9 => h9) rfl dX7_readText_54 ?_
            have I89 : jI12 σ72 := jI12_fr (congrFun (f74 12 (of_decide_eq_true rfl)) 0) (f74 13 (of_decide_eq_true rfl)) p66
            have I90 : jI18 σ72 := jI18_fr ((congrFun (f74 18 (of_decide_eq_true rfl)) 0).trans ((congrFun (f63 18 (of_decide_eq_true rfl)) 0).trans ((congrFun (f37 18 (of_decide_eq_true rfl)) 0).trans ((congrFun (f28 18 (of_decide_eq_true rfl)) 0).trans (congrFun (f6 18 (of_decide_eq_true rfl)) 0))))) ((f74 19 (of_decide_eq_true rfl)).trans ((f63 19 (of_decide_eq_true rfl)).trans ((f37 19 (of_decide_eq_true rfl)).trans ((f28 19 (of_decide_eq_true rfl)).trans (f6 19 (of_decide_eq_true rfl)))))) hI18
            refine jcallVv (As := [.ref (ad 12)]) (rest := []) ⟨hx, hb, hml, hown, hts⟩ hK hP hA hS hZ (c_X10_copyFrom_18 l D cI cL ad zz hJ σ72 τ I89 I90) cw_RX7_78 (jc_18 cI cL ad σ72 τ) rfl ⟨Nat.le_of_ble_eq_true rfl, Nat.le_of_ble_eq_true rfl⟩ rfl rfl rfl hl.1 rfl (Nat.le_of_ble_eq_true rfl) dX7_readText_57 ⟨Nat.zero_le _, Nat.zero_le _⟩ (fun σ91 τ91 H locs h91 hP hS => ?_)
            obtain ⟨rfl, f93, f94, I95, h91⟩ := h91
            refine lv_iload_n hx hb dX7_readText_60 rfl (lv_at hl 0 rfl) ?_
            have I97 : jI9 σ91 := jI9_fr (congrFun (f93 9 (of_decide_eq_true rfl)) 0) (f93 10 (of_decide_eq_true rfl)) (f93 11 (of_decide_eq_true rfl)) I76
            have I98 : jI12 σ91 := jI12_fr (congrFun (f93 12 (of_decide_eq_true rfl)) 0) (f93 13 (of_decide_eq_true rfl)) I89
            have z99 : (σ91 9 0).toInt = (σ72 9 0).toInt := (congrArg Int32.toInt (show σ91 9 0 = (σ72 9 0) from (congrFun (f93 9 (of_decide_eq_true rfl)) 0)))
            exact hret (-1) σ91 τ _ _ _ _ rfl ⟨rfl, (fun i hi => ((f93 i (imp_62 i hi)).trans ((f74 i (imp_63 i hi)).trans ((f63 i (imp_64 i hi)).trans ((f37 i (imp_64 i hi)).trans ((f28 i (imp_65 i hi)).trans (f6 i (imp_63 i hi)))))))), (fun i hi => ((congrFun (f93 9 (of_decide_eq_true rfl)) i).trans ((f75 i (imp_48 i hi)).trans ((f64 i (imp_49 i hi)).trans ((f38 i (imp_49 i hi)).trans ((congrFun (f28 9 (of_decide_eq_true rfl)) i).trans (f7 i (imp_49 i hi)))))))), (fun i hi => ((congrFun (f93 12 (of_decide_eq_true rfl)) i).trans ((congrFun (f74 12 (of_decide_eq_true rfl)) i).trans ((f65 i hi).trans ((f39 i hi).trans ((f29 i hi).trans (congrFun (f6 12 (of_decide_eq_true rfl)) i))))))), (fun i hi => ((f94 i hi).trans ((congrFun (f74 18 (of_decide_eq_true rfl)) i).trans ((congrFun (f63 18 (of_decide_eq_true rfl)) i).trans ((congrFun (f37 18 (of_decide_eq_true rfl)) i).trans ((congrFun (f28 18 (of_decide_eq_true rfl)) i).trans (congrFun (f6 18 (of_decide_eq_true rfl)) i))))))), I97, I98, I95, (by omega), trivial⟩ hP hS dX7_readText_61
          · obtain ⟨q102, k100, k101⟩ := h85
            refine lv_istore_n (lv' := [(2, .int r73), (0, .ref (ad 9)), (1, .ref (ad 18))]) hx hb dX7_readText_46 rfl hl (of_decide_eq_true rfl) rfl (fun ls hl => ?_)
            refine lv_iload_n hx hb dX7_readText_47 rfl (lv_at hl 0 rfl) ?_
            refine lv_iconst (v := (-1)) hx hb dX7_readText_48 (of_decide_eq_true rfl) ?_
            exact by
             refine lv_icmp_ne (tgt := 60) hx hb dX7_readText_49 (of_decide_eq_true rfl) (fun c103 => ?_) (fun c => absurd (jeq c rfl jz_m1) (by omega))
             have kc103 := jne c103 rfl jz_m1
             refine lv_iload_n hx hb dX7_readText_60 rfl (lv_at hl 0 rfl) ?_
             have I104 : jI12 σ72 := jI12_fr (congrFun (f74 12 (of_decide_eq_true rfl)) 0) (f74 13 (of_decide_eq_true rfl)) p66
             have I105 : jI18 σ72 := jI18_fr ((congrFun (f74 18 (of_decide_eq_true rfl)) 0).trans ((congrFun (f63 18 (of_decide_eq_true rfl)) 0).trans ((congrFun (f37 18 (of_decide_eq_true rfl)) 0).trans ((congrFun (f28 18 (of_decide_eq_true rfl)) 0).trans (congrFun (f6 18 (of_decide_eq_true rfl)) 0))))) ((f74 19 (of_decide_eq_true rfl)).trans ((f63 19 (of_decide_eq_true rfl)).trans ((f37 19 (of_decide_eq_true rfl)).trans ((f28 19 (of_decide_eq_true rfl)).trans (f6 19 (of_decide_eq_true rfl)))))) hI18
             exact hret r73 σ72 τ _ _ _ _ rfl ⟨rfl, (fun i hi => ((f74 i (imp_63 i hi)).trans ((f63 i (imp_64 i hi)).trans ((f37 i (imp_64 i hi)).trans ((f28 i (imp_65 i hi)).trans (f6 i (imp_63 i hi))))))), (fun i hi => ((f75 i (imp_48 i hi)).trans ((f64 i (imp_49 i hi)).trans ((f38 i (imp_49 i hi)).trans ((congrFun (f28 9 (of_decide_eq_true rfl)) i).trans (f7 i (imp_49 i hi))))))), (fun i hi => ((congrFun (f74 12 (of_decide_eq_true rfl)) i).trans ((f65 i hi).trans ((f39 i hi).trans ((f29 i hi).trans (congrFun (f6 12 (of_decide_eq_true rfl)) i)))))), (fun i hi => ((congrFun (f74 18 (of_decide_eq_true rfl)) i).trans ((congrFun (f63 18 (of_decide_eq_true rfl)) i).trans ((congrFun (f37 18 (of_decide_eq_true rfl)) i).trans ((congrFun (f28 18 (of_decide_eq_true rfl)) i).trans (congrFun (f6 18 (of_decide_eq_true rfl)) i)))))), I76, I104, I105, (by omega), trivial⟩ hP hS dX7_readText_61
       · have kc68 := jnle c68 jz_80 rfl
         refine lv_aload_n hx hb dX7_readText_23 rfl (lv_at hl 1 rfl) ?_
         refine lv_bipush (v := 59) hx hb dX7_readText_24 (of_decide_eq_true rfl) ?_
         have I106 : jI9 σ55 := jI9_fr (f64 0 (of_decide_eq_true rfl)) (f63 10 (of_decide_eq_true rfl)) (f63 11 (of_decide_eq_true rfl)) I40
         exact by
          have I107 : jI91 σ55 := ⟨(by omega), (by omega)⟩
          have I108 : jI92 σ55 := (show (-1) ≤ (σ55 9 2).toInt by omega)
          refine jcallV (As := [.int 59]) (rest := []) ⟨hx, hb, hml, hown, hts⟩ hK hP hA hS hZ (c_X7_skip_9 l D cI cL ad zz hJ σ55 τ 59 (59) jz_59 I106 I107 I108 (by omega)) cw_RX7_50 (jc_9 cI cL ad σ55 τ) rfl ⟨Nat.le_of_ble_eq_true rfl, Nat.le_of_ble_eq_true rfl⟩ rfl rfl rfl hl.1 rfl (Nat.le_of_ble_eq_true rfl) dX7_readText_26 ⟨Nat.zero_le _, Nat.zero_le _⟩ (fun r110 σ109 τ109 H locs h109 hP hS => ?_)
          obtain ⟨rfl, f111, f112, I113, I114, I115, h109⟩ := h109
          obtain ⟨i117, w118, w119⟩ : (0 ≤ (σ109 9 0).toInt ∧ (σ109 9 0).toInt ≤ 80) ∧ (∀ k : Nat, k < 80 → 0 ≤ (σ109 10 k).toInt ∧ (σ109 10 k).toInt ≤ 255) ∧ (∀ k : Nat, k < 8 → 0 ≤ (σ109 11 k).toInt ∧ (σ109 11 k).toInt ≤ 3) := id I113
          obtain ⟨i120, i121⟩ : (0 ≤ (σ109 9 1).toInt) ∧ ((σ109 9 1).toInt ≤ (σ109 9 0).toInt) := id I114
          have i122 : (-1) ≤ (σ109 9 2).toInt := I115
          have z123 : (σ109 9 0).toInt = (σ 9 0).toInt := (congrArg Int32.toInt (show σ109 9 0 = (σ 9 0) from ((f112 0 (of_decide_eq_true rfl)).trans ((f64 0 (of_decide_eq_true rfl)).trans ((f38 0 (of_decide_eq_true rfl)).trans ((congrFun (f28 9 (of_decide_eq_true rfl)) 0).trans (f7 0 (of_decide_eq_true rfl))))))))
          have z124 : (σ109 9 2).toInt = (σ55 9 2).toInt := (congrArg Int32.toInt (show σ109 9 2 = (σ55 9 2) from (f112 2 (of_decide_eq_true rfl))))
          exact by
           rcases h109 with h125 | h126
           · obtain ⟨q131, k127, k128, k129, k130⟩ := h125
             have q131 := q131.symm
             subst q131
             refine lv_if_eq (tgt := 42) hx hb dX7_readText_29 (of_decide_eq_true rfl) (fun c => absurd c (of_decide_eq_true rfl)) (fun _ => ?_)
             refine lv_aload_n hx hb dX7_readText_32 rfl (lv_at hl 1 rfl) ?_
             have I132 : jI12 σ109 := jI12_fr (congrFun (f111 12 (of_decide_eq_true rfl)) 0) (f111 13 (of_decide_eq_true rfl)) p66
             refine jcallVv (As := []) (rest := []) ⟨hx, hb, hml, hown, hts⟩ hK hP hA hS hZ (c_X7_readLine_9 l D cI cL ad zz hJ σ109 τ I113 I114 I115 I132) cw_RX7_75 (jc_9 cI cL ad σ109 τ) rfl ⟨Nat.le_of_ble_eq_true rfl, Nat.le_of_ble_eq_true rfl⟩ rfl rfl rfl hl.1 rfl (Nat.le_of_ble_eq_true rfl) dX7_readText_33 ⟨Nat.zero_le _, Nat.zero_le _⟩ (fun σ133 τ133 H locs h133 hP hS => ?_)
             obtain ⟨rfl, f135, f136, f137, I138, I139, I140, I141, h133⟩ := h133
             obtain ⟨i143, w144, w145⟩ : (0 ≤ (σ133 9 0).toInt ∧ (σ133 9 0).toInt ≤ 80) ∧ (∀ k : Nat, k < 80 → 0 ≤ (σ133 10 k).toInt ∧ (σ133 10 k).toInt ≤ 255) ∧ (∀ k : Nat, k < 8 → 0 ≤ (σ133 11 k).toInt ∧ (σ133 11 k).toInt ≤ 3) := id I138
             obtain ⟨i146, i147⟩ : (0 ≤ (σ133 9 1).toInt) ∧ ((σ133 9 1).toInt ≤ (σ133 9 0).toInt) := id I139
             have i148 : (-1) ≤ (σ133 9 2).toInt := I140
             have z149 : (σ133 9 0).toInt = (σ 9 0).toInt := (congrArg Int32.toInt (show σ133 9 0 = (σ 9 0) from ((f136 0 (of_decide_eq_true rfl)).trans ((f112 0 (of_decide_eq_true rfl)).trans ((f64 0 (of_decide_eq_true rfl)).trans ((f38 0 (of_decide_eq_true rfl)).trans ((congrFun (f28 9 (of_decide_eq_true rfl)) 0).trans (f7 0 (of_decide_eq_true rfl)))))))))
             obtain ⟨x150, ex150⟩ : ∃ y : Int32, y = x54 + 1 := ⟨_, rfl⟩
             exact by
              have tx150 : x150.toInt = x54.toInt + 1 := (jadd ex150 rfl jz_1 (by omega) (by omega)).trans (by omega)
              refine lv_iinc (v := x150) (lv' := [(2, .int x150), (0, .ref (ad 9)), (1, .ref (ad 18))]) hx hb dX7_readText_36 hl (k := 0) rfl (by rw [ex150]; rfl) (of_decide_eq_true rfl) rfl (fun ls hl => ?_)
              refine lv_goto (tgt := 17) hx hb dX7_readText_39 (of_decide_eq_true rfl) ?_
              exact by exact ihlp52 x150 σ133 _ _ ls (by have h90 := tx150; omega) (by have h90 := tx150; omega) (by have h90 := tx150; omega) (by have h90 := tx150; omega) (by have h90 := tx150; omega) (by have h90 := tx150; omega) (fun i hi => ((f135 i hi).trans ((f111 i (imp_59 i hi)).trans (f63 i hi)))) (fun i hi => ((f136 i hi).trans ((f112 i (imp_55 i hi)).trans (f64 i hi)))) (fun i hi => ((f137 i hi).trans ((congrFun (f111 12 (of_decide_eq_true rfl)) i).trans (f65 i hi))))  I141 hP hS (lv_sub hl [0, 1, 2] rfl)
           · obtain ⟨q154, k151, k152, k153⟩ := h126
             have q154 := q154.symm
             subst q154
             refine lv_if_eq (tgt := 42) hx hb dX7_readText_29 (of_decide_eq_true rfl) (fun _ => ?_) (fun c => absurd (of_decide_eq_true rfl) c)
             refine lv_aload_n hx hb dX7_readText_42 rfl (lv_at hl 1 rfl) ?_
             exact by
              refine jcallV (As := []) (rest := []) ⟨hx, hb, hml, hown, hts⟩ hK hP hA hS hZ (c_X7_end_9 l D cI cL ad zz hJ σ109 τ I113 I114 I115) cw_RX7_57 (jc_9 cI cL ad σ109 τ) rfl ⟨Nat.le_of_ble_eq_true rfl, Nat.le_of_ble_eq_true rfl⟩ rfl rfl rfl hl.1 rfl (Nat.le_of_ble_eq_true rfl) dX7_readText_43 ⟨Nat.zero_le _, Nat.zero_le _⟩ (fun r156 σ155 τ155 H locs h155 hP hS => ?_)
              obtain ⟨rfl, f157, f158, I159, I160, h155⟩ := h155
              obtain ⟨i162, w163, w164⟩ : (0 ≤ (σ155 9 0).toInt ∧ (σ155 9 0).toInt ≤ 80) ∧ (∀ k : Nat, k < 80 → 0 ≤ (σ155 10 k).toInt ∧ (σ155 10 k).toInt ≤ 255) ∧ (∀ k : Nat, k < 8 → 0 ≤ (σ155 11 k).toInt ∧ (σ155 11 k).toInt ≤ 3) := id I159
              have i165 : (-1) ≤ (σ155 9 2).toInt := I160
              obtain ⟨k166, h155⟩ := h155
              rcases h155 with h167 | h168
              · obtain ⟨q171, k169, k170⟩ := h167
                have q171 := q171.symm
                subst q171
                refine lv_istore_n (lv' := [(2, .int (-1)), (0, .ref (ad 9)), (1, .ref (ad 18))]) hx hb dX7_readText_46 rfl hl (of_decide_eq_true rfl) rfl (fun ls hl => ?_)
                refine lv_iload_n hx hb dX7_readText_47 rfl (lv_at hl 0 rfl) ?_
                refine lv_iconst (v := (-1)) hx hb dX7_readText_48 (of_decide_eq_true rfl) ?_
                refine lv_icmp_ne (tgt := 60) hx hb dX7_readText_49 (of_decide_eq_true rfl) (fun c => absurd (of_decide_eq_true rfl) c) (fun _ => ?_)
                refine lv_aload_n hx hb dX7_readText_52 rfl (lv_at hl 2 rfl) ?_
                refine lv_aload_n hx hb dX7_readText_53 rfl (lv_at hl 1 rfl) ?_
                refine va_get (D := D) hx hb hts inlX7 hown hK hP 9 (jc_9 cI cL ad σ155 τ) rfl 5 (of_decide_eq_true rfl) (hts _ kw_3_23) (fun _ h9 => h9) rfl dX7_readText_54 ?_
                have I172 : jI12 σ155 := jI12_fr ((congrFun (f157 12 (of_decide_eq_true rfl)) 0).trans (congrFun (f111 12 (of_decide_eq_true rfl)) 0)) ((f157 13 (of_decide_eq_true rfl)).trans (f111 13 (of_decide_eq_true rfl))) p66
                have I173 : jI18 σ155 := jI18_fr ((congrFun (f157 18 (of_decide_eq_true rfl)) 0).trans ((congrFun (f111 18 (of_decide_eq_true rfl)) 0).trans ((congrFun (f63 18 (of_decide_eq_true rfl)) 0).trans ((congrFun (f37 18 (of_decide_eq_true rfl)) 0).trans ((congrFun (f28 18 (of_decide_eq_true rfl)) 0).trans (congrFun (f6 18 (of_decide_eq_true rfl)) 0)))))) ((f157 19 (of_decide_eq_true rfl)).trans ((f111 19 (of_decide_eq_true rfl)).trans ((f63 19 (of_decide_eq_true rfl)).trans ((f37 19 (of_decide_eq_true rfl)).trans ((f28 19 (of_decide_eq_true rfl)).trans (f6 19 (of_decide_eq_true rfl))))))) hI18
                refine jcallVv (As := [.ref (ad 12)]) (rest := []) ⟨hx, hb, hml, hown, hts⟩ hK hP hA hS hZ (c_X10_copyFrom_18 l D cI cL ad zz hJ σ155 τ I172 I173) cw_RX7_78 (jc_18 cI cL ad σ155 τ) rfl ⟨Nat.le_of_ble_eq_true rfl, Nat.le_of_ble_eq_true rfl⟩ rfl rfl rfl hl.1 rfl (Nat.le_of_ble_eq_true rfl) dX7_readText_57 ⟨Nat.zero_le _, Nat.zero_le _⟩ (fun σ174 τ174 H locs h174 hP hS => ?_)
                obtain ⟨rfl, f176, f177, I178, h174⟩ := h174
                refine lv_iload_n hx hb dX7_readText_60 rfl (lv_at hl 0 rfl) ?_
                have I180 : jI9 σ174 := jI9_fr (congrFun (f176 9 (of_decide_eq_true rfl)) 0) (f176 10 (of_decide_eq_true rfl)) (f176 11 (of_decide_eq_true rfl)) I159
                have I181 : jI12 σ174 := jI12_fr (congrFun (f176 12 (of_decide_eq_true rfl)) 0) (f176 13 (of_decide_eq_true rfl)) I172
                have z182 : (σ174 9 0).toInt = (σ155 9 0).toInt := (congrArg Int32.toInt (show σ174 9 0 = (σ155 9 0) from (congrFun (f176 9 (of_decide_eq_true rfl)) 0)))
                exact hret (-1) σ174 τ _ _ _ _ rfl ⟨rfl, (fun i hi => ((f176 i (imp_62 i hi)).trans ((f157 i (imp_63 i hi)).trans ((f111 i (imp_63 i hi)).trans ((f63 i (imp_64 i hi)).trans ((f37 i (imp_64 i hi)).trans ((f28 i (imp_65 i hi)).trans (f6 i (imp_63 i hi))))))))), (fun i hi => ((congrFun (f176 9 (of_decide_eq_true rfl)) i).trans ((f158 i (imp_48 i hi)).trans ((f112 i (imp_51 i hi)).trans ((f64 i (imp_49 i hi)).trans ((f38 i (imp_49 i hi)).trans ((congrFun (f28 9 (of_decide_eq_true rfl)) i).trans (f7 i (imp_49 i hi))))))))), (fun i hi => ((congrFun (f176 12 (of_decide_eq_true rfl)) i).trans ((congrFun (f157 12 (of_decide_eq_true rfl)) i).trans ((congrFun (f111 12 (of_decide_eq_true rfl)) i).trans ((f65 i hi).trans ((f39 i hi).trans ((f29 i hi).trans (congrFun (f6 12 (of_decide_eq_true rfl)) i)))))))), (fun i hi => ((f177 i hi).trans ((congrFun (f157 18 (of_decide_eq_true rfl)) i).trans ((congrFun (f111 18 (of_decide_eq_true rfl)) i).trans ((congrFun (f63 18 (of_decide_eq_true rfl)) i).trans ((congrFun (f37 18 (of_decide_eq_true rfl)) i).trans ((congrFun (f28 18 (of_decide_eq_true rfl)) i).trans (congrFun (f6 18 (of_decide_eq_true rfl)) i)))))))), I180, I181, I178, (by omega), trivial⟩ hP hS dX7_readText_61
              · obtain ⟨q185, k183, k184⟩ := h168
                refine lv_istore_n (lv' := [(2, .int r156), (0, .ref (ad 9)), (1, .ref (ad 18))]) hx hb dX7_readText_46 rfl hl (of_decide_eq_true rfl) rfl (fun ls hl => ?_)
                refine lv_iload_n hx hb dX7_readText_47 rfl (lv_at hl 0 rfl) ?_
                refine lv_iconst (v := (-1)) hx hb dX7_readText_48 (of_decide_eq_true rfl) ?_
                exact by
                 refine lv_icmp_ne (tgt := 60) hx hb dX7_readText_49 (of_decide_eq_true rfl) (fun c186 => ?_) (fun c => absurd (jeq c rfl jz_m1) (by omega))
                 have kc186 := jne c186 rfl jz_m1
                 refine lv_iload_n hx hb dX7_readText_60 rfl (lv_at hl 0 rfl) ?_
                 have I187 : jI12 σ155 := jI12_fr ((congrFun (f157 12 (of_decide_eq_true rfl)) 0).trans (congrFun (f111 12 (of_decide_eq_true rfl)) 0)) ((f157 13 (of_decide_eq_true rfl)).trans (f111 13 (of_decide_eq_true rfl))) p66
                 have I188 : jI18 σ155 := jI18_fr ((congrFun (f157 18 (of_decide_eq_true rfl)) 0).trans ((congrFun (f111 18 (of_decide_eq_true rfl)) 0).trans ((congrFun (f63 18 (of_decide_eq_true rfl)) 0).trans ((congrFun (f37 18 (of_decide_eq_true rfl)) 0).trans ((congrFun (f28 18 (of_decide_eq_true rfl)) 0).trans (congrFun (f6 18 (of_decide_eq_true rfl)) 0)))))) ((f157 19 (of_decide_eq_true rfl)).trans ((f111 19 (of_decide_eq_true rfl)).trans ((f63 19 (of_decide_eq_true rfl)).trans ((f37 19 (of_decide_eq_true rfl)).trans ((f28 19 (of_decide_eq_true rfl)).trans (f6 19 (of_decide_eq_true rfl))))))) hI18
                 exact hret r156 σ155 τ _ _ _ _ rfl ⟨rfl, (fun i hi => ((f157 i (imp_63 i hi)).trans ((f111 i (imp_63 i hi)).trans ((f63 i (imp_64 i hi)).trans ((f37 i (imp_64 i hi)).trans ((f28 i (imp_65 i hi)).trans (f6 i (imp_63 i hi)))))))), (fun i hi => ((f158 i (imp_48 i hi)).trans ((f112 i (imp_51 i hi)).trans ((f64 i (imp_49 i hi)).trans ((f38 i (imp_49 i hi)).trans ((congrFun (f28 9 (of_decide_eq_true rfl)) i).trans (f7 i (imp_49 i hi)))))))), (fun i hi => ((congrFun (f157 12 (of_decide_eq_true rfl)) i).trans ((congrFun (f111 12 (of_decide_eq_true rfl)) i).trans ((f65 i hi).trans ((f39 i hi).trans ((f29 i hi).trans (congrFun (f6 12 (of_decide_eq_true rfl)) i))))))), (fun i hi => ((congrFun (f157 18 (of_decide_eq_true rfl)) i).trans ((congrFun (f111 18 (of_decide_eq_true rfl)) i).trans ((congrFun (f63 18 (of_decide_eq_true rfl)) i).trans ((congrFun (f37 18 (of_decide_eq_true rfl)) i).trans ((congrFun (f28 18 (of_decide_eq_true rfl)) i).trans (congrFun (f6 18 (of_decide_eq_true rfl)) i))))))), I159, I187, I188, (by omega), trivial⟩ hP hS dX7_readText_61
  exact by exact lp52 1000000 0 σ35 _ _ ls (by have h90 := jz_0; omega) (by have h90 := jz_0; omega) (by have h90 := jz_0; omega) (by have h90 := jz_0; omega) (by have h90 := jz_0; omega) (by have h90 := jz_0; omega) (fun _ _ => rfl) (fun _ _ => rfl) (fun _ _ => rfl)  I43 hP hS hl
set_option maxHeartbeats 4000000 in
set_option maxRecDepth 100000 in
theorem c_X7_readText_9_v1 (l : Launch) (D : va_G) (cI cL : ClassId) (ad zz : Nat → Nat) (hJ : jD ad) (σ : Nat → Nat → Int32) (τ : Nat → Nat → Int64) (hI9 : jI9 σ) (hI12 : jI12 σ) (hI22 : jI22 σ) : jM l yX7_readText cX7_readText 3 (some .int) ({ frames := 66, cells := 0, slots := 0, locals := 2845 }) D cI cL ad zz [.ref (ad 9), .ref (ad 22)] σ τ (fun r σ' τ' => τ = τ' ∧ (∀ i : Nat, (i < 9 ∨ 9 < i) ∧ (i < 12 ∨ 13 < i) ∧ (i < 22 ∨ 23 < i) → σ' i = σ i) ∧ (∀ k : Nat, (k < 0 ∨ 0 < k) ∧ (k < 1 ∨ 1 < k) ∧ (k < 2 ∨ 2 < k) → σ' 9 k = σ 9 k) ∧ (∀ k : Nat, (k < 0 ∨ 0 < k) ∧ (k < 1 ∨ 1 < k) → σ' 12 k = σ 12 k) ∧ (∀ k : Nat, (k < 0 ∨ 0 < k) ∧ (k < 1 ∨ 1 < k) → σ' 22 k = σ 22 k) ∧ (jI9 σ') ∧ (jI12 σ') ∧ (jI22 σ') ∧ ((σ' 9 0).toInt = 0) ∧ True) := by
  refine jM.of hJ (by decide +kernel) (nt := .int) rfl (Nat.le_of_ble_eq_true rfl) ?_
  intro p e s m args below meth c Q ls hC hret hl hP
  obtain ⟨hx, hb, hr, hml, hown, hts, hK, -, hlocks, hZ⟩ := hC
  have hown : s.vm.findClass RX7 = some m.cls := hown
  have hS : va_S (jA ad) s.heap s.heap [] := va_S.rf
  have hA : ∀ q, jA ad q → jA ad q := fun _ h => h
  have hl : lv_has ls 3 [(0, .ref (ad 9)), (1, .ref (ad 22))] := hl
  obtain ⟨i1, w2, w3⟩ : (0 ≤ (σ 9 0).toInt ∧ (σ 9 0).toInt ≤ 80) ∧ (∀ k : Nat, k < 80 → 0 ≤ (σ 10 k).toInt ∧ (σ 10 k).toInt ≤ 255) ∧ (∀ k : Nat, k < 8 → 0 ≤ (σ 11 k).toInt ∧ (σ 11 k).toInt ≤ 3) := id hI9
  refine lv_aload_n hx hb dX7_readText_0 rfl (lv_at hl 0 rfl) ?_
  refine jcallVv (As := []) (rest := []) ⟨hx, hb, hml, hown, hts⟩ hK hP hA hS hZ (c_X7_begin_9 l D cI cL ad zz hJ σ τ hI9) cw_RX7_47 (jc_9 cI cL ad σ τ) rfl ⟨Nat.le_of_ble_eq_true rfl, Nat.le_of_ble_eq_true rfl⟩ rfl rfl rfl hl.1 rfl (Nat.le_of_ble_eq_true rfl) dX7_readText_1 ⟨Nat.zero_le _, Nat.zero_le _⟩ (fun σ4 τ4 H locs h4 hP hS => ?_)
  obtain ⟨rfl, f6, f7, m8, m9, I10, I11, I12, h4⟩ := h4
  obtain ⟨i14, w15, w16⟩ : (0 ≤ (σ4 9 0).toInt ∧ (σ4 9 0).toInt ≤ 80) ∧ (∀ k : Nat, k < 80 → 0 ≤ (σ4 10 k).toInt ∧ (σ4 10 k).toInt ≤ 255) ∧ (∀ k : Nat, k < 8 → 0 ≤ (σ4 11 k).toInt ∧ (σ4 11 k).toInt ≤ 3) := id I10
  obtain ⟨i17, i18⟩ : (0 ≤ (σ4 9 1).toInt) ∧ ((σ4 9 1).toInt ≤ (σ4 9 0).toInt) := id I11
  have i19 : (-1) ≤ (σ4 9 2).toInt := I12
  have z20 : (σ4 9 0).toInt = (σ 9 0).toInt := (congrArg Int32.toInt (show σ4 9 0 = (σ 9 0) from (f7 0 (of_decide_eq_true rfl))))
  have z21 : (σ4 9 1).toInt = 0 := ((congrArg Int32.toInt (show σ4 9 1 = 0 from m8)).trans jz_0)
  have z22 : (σ4 9 2).toInt = (-1) := ((congrArg Int32.toInt (show σ4 9 2 = (-1) from m9)).trans jz_m1)
  refine lv_aload_n hx hb dX7_readText_4 rfl (lv_at hl 0 rfl) ?_
  refine va_get (D := D) hx hb hts inlX7 hown hK hP 9 (jc_9 cI cL ad σ4 τ) rfl 5 (of_decide_eq_true rfl) (hts _ kw_3_23) (fun _ h9 => h9) rfl dX7_readText_5 ?_
  obtain ⟨i23, w24⟩ : (0 ≤ (σ 12 0).toInt ∧ (σ 12 0).toInt ≤ 160) ∧ (∀ k : Nat, k < 160 → 0 ≤ (σ 13 k).toInt ∧ (σ 13 k).toInt ≤ 30000) := id hI12
  have w25 : ∀ k : Nat, k < 160 → 0 ≤ (σ4 13 k).toInt ∧ (σ4 13 k).toInt ≤ 30000 := (jrr_fr (f6 13 (of_decide_eq_true rfl)) w24)
  refine jcallVv (As := []) (rest := []) ⟨hx, hb, hml, hown, hts⟩ hK hP hA hS hZ (c_X10_begin_12 l D cI cL ad zz hJ σ4 τ w25) cw_RX7_74 (jc_12 cI cL ad σ4 τ) rfl ⟨Nat.le_of_ble_eq_true rfl, Nat.le_of_ble_eq_true rfl⟩ rfl rfl rfl hl.1 rfl (Nat.le_of_ble_eq_true rfl) dX7_readText_8 ⟨Nat.zero_le _, Nat.zero_le _⟩ (fun σ26 τ26 H locs h26 hP hS => ?_)
  obtain ⟨rfl, f28, f29, I30, h26⟩ := h26
  refine lv_aload_n hx hb dX7_readText_11 rfl (lv_at hl 0 rfl) ?_
  have I32 : jI9 σ26 := jI9_fr (congrFun (f28 9 (of_decide_eq_true rfl)) 0) (f28 10 (of_decide_eq_true rfl)) (f28 11 (of_decide_eq_true rfl)) I10
  have I33 : jI91 σ26 := jI91_fr (congrFun (f28 9 (of_decide_eq_true rfl)) 0) (congrFun (f28 9 (of_decide_eq_true rfl)) 1) I11
  have I34 : jI92 σ26 := jI92_fr (congrFun (f28 9 (of_decide_eq_true rfl)) 2) I12
  refine jcallVv (As := []) (rest := []) ⟨hx, hb, hml, hown, hts⟩ hK hP hA hS hZ (c_X7_readLine_9 l D cI cL ad zz hJ σ26 τ I32 I33 I34 I30) cw_RX7_75 (jc_9 cI cL ad σ26 τ) rfl ⟨Nat.le_of_ble_eq_true rfl, Nat.le_of_ble_eq_true rfl⟩ rfl rfl rfl hl.1 rfl (Nat.le_of_ble_eq_true rfl) dX7_readText_12 ⟨Nat.zero_le _, Nat.zero_le _⟩ (fun σ35 τ35 H locs h35 hP hS => ?_)
  obtain ⟨rfl, f37, f38, f39, I40, I41, I42, I43, h35⟩ := h35
  obtain ⟨i45, w46, w47⟩ : (0 ≤ (σ35 9 0).toInt ∧ (σ35 9 0).toInt ≤ 80) ∧ (∀ k : Nat, k < 80 → 0 ≤ (σ35 10 k).toInt ∧ (σ35 10 k).toInt ≤ 255) ∧ (∀ k : Nat, k < 8 → 0 ≤ (σ35 11 k).toInt ∧ (σ35 11 k).toInt ≤ 3) := id I40
  obtain ⟨i48, i49⟩ : (0 ≤ (σ35 9 1).toInt) ∧ ((σ35 9 1).toInt ≤ (σ35 9 0).toInt) := id I41
  have i50 : (-1) ≤ (σ35 9 2).toInt := I42
  have z51 : (σ35 9 0).toInt = (σ 9 0).toInt := (congrArg Int32.toInt (show σ35 9 0 = (σ 9 0) from ((f38 0 (of_decide_eq_true rfl)).trans ((congrFun (f28 9 (of_decide_eq_true rfl)) 0).trans (f7 0 (of_decide_eq_true rfl))))))
  refine lv_iconst (v := 0) hx hb dX7_readText_15 (of_decide_eq_true rfl) ?_
  refine lv_istore_n (lv' := [(2, .int 0), (0, .ref (ad 9)), (1, .ref (ad 22))]) hx hb dX7_readText_16 rfl hl (of_decide_eq_true rfl) rfl (fun ls hl => ?_)
  have lp52 : ∀ (n53 : Nat) (x54 : Int32) (σ55 : Nat → Nat → Int32) (H : Heap) (locs : List Loc) (ls : Array Slot), (-x54.toInt + 80 : Int) < n53 → 0 ≤ x54.toInt → x54.toInt ≤ 80 → 0 ≤ (σ55 9 1).toInt → (σ55 9 1).toInt ≤ (σ55 9 0).toInt → (-1) ≤ (σ55 9 2).toInt → (∀ i : Nat, (i < 9 ∨ 9 < i) ∧ (i < 12 ∨ 13 < i) → σ55 i = σ35 i) → (∀ k : Nat, (k < 1 ∨ 1 < k) ∧ (k < 2 ∨ 2 < k) → σ55 9 k = σ35 9 k) → (∀ k : Nat, (k < 0 ∨ 0 < k) ∧ (k < 1 ∨ 1 < k) → σ55 12 k = σ35 12 k) → jI12 σ55 → jH D cI cL ad σ55 τ H → va_S (jA ad) s.heap H locs → lv_has ls 3 [(2, .int x54), (0, .ref (ad 9)), (1, .ref (ad 22))] → W p l e ({ frames := 66, cells := 0, slots := 0, locals := 2845 }) s m args below meth c H locs 0 0 Q (F0 m 17 ls []) := by
    intro n53
    induction n53 with
    | zero => intro x54 σ55 H locs ls h57 h58 h59 h60 h61 h62; exact absurd h57 (by omega)
    | succ n53 ihlp52 =>
      intro x54 σ55 H locs ls h57 h58 h59 h60 h61 h62 f63 f64 f65 p66 hP hS hl
      exact by
       have z67 : (σ55 9 0).toInt = (σ 9 0).toInt := (congrArg Int32.toInt (show σ55 9 0 = (σ 9 0) from ((f64 0 (of_decide_eq_true rfl)).trans ((f38 0 (of_decide_eq_true rfl)).trans ((congrFun (f28 9 (of_decide_eq_true rfl)) 0).trans (f7 0 (of_decide_eq_true rfl)))))))
       refine lv_iload_n hx hb dX7_readText_17 rfl (lv_at hl 0 rfl) ?_
       refine lv_bipush (v := 80) hx hb dX7_readText_18 (of_decide_eq_true rfl) ?_
       refine lv_icmp_ge (tgt := 42) hx hb dX7_readText_20 (of_decide_eq_true rfl) (fun c68 => ?_) (fun c68 => ?_)
       · have kc68 := jle c68 jz_80 rfl
         refine lv_aload_n hx hb dX7_readText_42 rfl (lv_at hl 1 rfl) ?_
         have I69 : jI9 σ55 := jI9_fr (f64 0 (of_decide_eq_true rfl)) (f63 10 (of_decide_eq_true rfl)) (f63 11 (of_decide_eq_true rfl)) I40
         have I70 : jI91 σ55 := ⟨(by omega), (by omega)⟩
         have I71 : jI92 σ55 := (show (-1) ≤ (σ55 9 2).toInt by omega)
         exact by
          refine jcallV (As := []) (rest := []) ⟨hx, hb, hml, hown, hts⟩ hK hP hA hS hZ (c_X7_end_9 l D cI cL ad zz hJ σ55 τ I69 I70 I71) cw_RX7_57 (jc_9 cI cL ad σ55 τ) rfl ⟨Nat.le_of_ble_eq_true rfl, Nat.le_of_ble_eq_true rfl⟩ rfl rfl rfl hl.1 rfl (Nat.le_of_ble_eq_true rfl) dX7_readText_43 ⟨Nat.zero_le _, Nat.zero_le _⟩ (fun r73 σ72 τ72 H locs h72 hP hS => ?_)
          obtain ⟨rfl, f74, f75, I76, I77, h72⟩ := h72
          obtain ⟨i79, w80, w81⟩ : (0 ≤ (σ72 9 0).toInt ∧ (σ72 9 0).toInt ≤ 80) ∧ (∀ k : Nat, k < 80 → 0 ≤ (σ72 10 k).toInt ∧ (σ72 10 k).toInt ≤ 255) ∧ (∀ k : Nat, k < 8 → 0 ≤ (σ72 11 k).toInt ∧ (σ72 11 k).toInt ≤ 3) := id I76
          have i82 : (-1) ≤ (σ72 9 2).toInt := I77
          obtain ⟨k83, h72⟩ := h72
          rcases h72 with h84 | h85
          · obtain ⟨q88, k86, k87⟩ := h84
            have q88 := q88.symm
            subst q88
            refine lv_istore_n (lv' := [(2, .int (-1)), (0, .ref (ad 9)), (1, .ref (ad 22))]) hx hb dX7_readText_46 rfl hl (of_decide_eq_true rfl) rfl (fun ls hl => ?_)
            refine lv_iload_n hx hb dX7_readText_47 rfl (lv_at hl 0 rfl) ?_
            refine lv_iconst (v := (-1)) hx hb dX7_readText_48 (of_decide_eq_true rfl) ?_
            refine lv_icmp_ne (tgt := 60) hx hb dX7_readText_49 (of_decide_eq_true rfl) (fun c => absurd (of_decide_eq_true rfl) c) (fun _ => ?_)
            refine lv_aload_n hx hb dX7_readText_52 rfl (lv_at hl 2 rfl) ?_
            refine lv_aload_n hx hb dX7_readText_53 rfl (lv_at hl 1 rfl) ?_
            refine va_get (D := D) hx hb hts inlX7 hown hK hP 9 (jc_9 cI cL ad σ72 τ) rfl 5 (of_decide_eq_true rfl) (hts _ kw_3_23) (fun _ h9 => h9) rfl dX7_readText_54 ?_
            have I89 : jI12 σ72 := jI12_fr (congrFun (f74 12 (of_decide_eq_true rfl)) 0) (f74 13 (of_decide_eq_true rfl)) p66
            have I90 : jI22 σ72 := jI22_fr ((congrFun (f74 22 (of_decide_eq_true rfl)) 0).trans ((congrFun (f63 22 (of_decide_eq_true rfl)) 0).trans ((congrFun (f37 22 (of_decide_eq_true rfl)) 0).trans ((congrFun (f28 22 (of_decide_eq_true rfl)) 0).trans (congrFun (f6 22 (of_decide_eq_true rfl)) 0))))) ((f74 23 (of_decide_eq_true rfl)).trans ((f63 23 (of_decide_eq_true rfl)).trans ((f37 23 (of_decide_eq_true rfl)).trans ((f28 23 (of_decide_eq_true rfl)).trans (f6 23 (of_decide_eq_true rfl)))))) hI22
            refine jcallVv (As := [.ref (ad 12)]) (rest := []) ⟨hx, hb, hml, hown, hts⟩ hK hP hA hS hZ (c_X10_copyFrom_22 l D cI cL ad zz hJ σ72 τ I89 I90) cw_RX7_78 (jc_22 cI cL ad σ72 τ) rfl ⟨Nat.le_of_ble_eq_true rfl, Nat.le_of_ble_eq_true rfl⟩ rfl rfl rfl hl.1 rfl (Nat.le_of_ble_eq_true rfl) dX7_readText_57 ⟨Nat.zero_le _, Nat.zero_le _⟩ (fun σ91 τ91 H locs h91 hP hS => ?_)
            obtain ⟨rfl, f93, f94, I95, h91⟩ := h91
            refine lv_iload_n hx hb dX7_readText_60 rfl (lv_at hl 0 rfl) ?_
            have I97 : jI9 σ91 := jI9_fr (congrFun (f93 9 (of_decide_eq_true rfl)) 0) (f93 10 (of_decide_eq_true rfl)) (f93 11 (of_decide_eq_true rfl)) I76
            have I98 : jI12 σ91 := jI12_fr (congrFun (f93 12 (of_decide_eq_true rfl)) 0) (f93 13 (of_decide_eq_true rfl)) I89
            have z99 : (σ91 9 0).toInt = (σ72 9 0).toInt := (congrArg Int32.toInt (show σ91 9 0 = (σ72 9 0) from (congrFun (f93 9 (of_decide_eq_true rfl)) 0)))
            exact hret (-1) σ91 τ _ _ _ _ rfl ⟨rfl, (fun i hi => ((f93 i (imp_66 i hi)).trans ((f74 i (imp_67 i hi)).trans ((f63 i (imp_68 i hi)).trans ((f37 i (imp_68 i hi)).trans ((f28 i (imp_69 i hi)).trans (f6 i (imp_67 i hi)))))))), (fun i hi => ((congrFun (f93 9 (of_decide_eq_true rfl)) i).trans ((f75 i (imp_48 i hi)).trans ((f64 i (imp_49 i hi)).trans ((f38 i (imp_49 i hi)).trans ((congrFun (f28 9 (of_decide_eq_true rfl)) i).trans (f7 i (imp_49 i hi)))))))), (fun i hi => ((congrFun (f93 12 (of_decide_eq_true rfl)) i).trans ((congrFun (f74 12 (of_decide_eq_true rfl)) i).trans ((f65 i hi).trans ((f39 i hi).trans ((f29 i hi).trans (congrFun (f6 12 (of_decide_eq_true rfl)) i))))))), (fun i hi => ((f94 i hi).trans ((congrFun (f74 22 (of_decide_eq_true rfl)) i).trans ((congrFun (f63 22 (of_decide_eq_true rfl)) i).trans ((congrFun (f37 22 (of_decide_eq_true rfl)) i).trans ((congrFun (f28 22 (of_decide_eq_true rfl)) i).trans (congrFun (f6 22 (of_decide_eq_true rfl)) i))))))), I97, I98, I95, (by omega), trivial⟩ hP hS dX7_readText_61
          · obtain ⟨q102, k100, k101⟩ := h85
            refine lv_istore_n (lv' := [(2, .int r73), (0, .ref (ad 9)), (1, .ref (ad 22))]) hx hb dX7_readText_46 rfl hl (of_decide_eq_true rfl) rfl (fun ls hl => ?_)
            refine lv_iload_n hx hb dX7_readText_47 rfl (lv_at hl 0 rfl) ?_
            refine lv_iconst (v := (-1)) hx hb dX7_readText_48 (of_decide_eq_true rfl) ?_
            exact by
             refine lv_icmp_ne (tgt := 60) hx hb dX7_readText_49 (of_decide_eq_true rfl) (fun c103 => ?_) (fun c => absurd (jeq c rfl jz_m1) (by omega))
             have kc103 := jne c103 rfl jz_m1
             refine lv_iload_n hx hb dX7_readText_60 rfl (lv_at hl 0 rfl) ?_
             have I104 : jI12 σ72 := jI12_fr (congrFun (f74 12 (of_decide_eq_true rfl)) 0) (f74 13 (of_decide_eq_true rfl)) p66
             have I105 : jI22 σ72 := jI22_fr ((congrFun (f74 22 (of_decide_eq_true rfl)) 0).trans ((congrFun (f63 22 (of_decide_eq_true rfl)) 0).trans ((congrFun (f37 22 (of_decide_eq_true rfl)) 0).trans ((congrFun (f28 22 (of_decide_eq_true rfl)) 0).trans (congrFun (f6 22 (of_decide_eq_true rfl)) 0))))) ((f74 23 (of_decide_eq_true rfl)).trans ((f63 23 (of_decide_eq_true rfl)).trans ((f37 23 (of_decide_eq_true rfl)).trans ((f28 23 (of_decide_eq_true rfl)).trans (f6 23 (of_decide_eq_true rfl)))))) hI22
             exact hret r73 σ72 τ _ _ _ _ rfl ⟨rfl, (fun i hi => ((f74 i (imp_67 i hi)).trans ((f63 i (imp_68 i hi)).trans ((f37 i (imp_68 i hi)).trans ((f28 i (imp_69 i hi)).trans (f6 i (imp_67 i hi))))))), (fun i hi => ((f75 i (imp_48 i hi)).trans ((f64 i (imp_49 i hi)).trans ((f38 i (imp_49 i hi)).trans ((congrFun (f28 9 (of_decide_eq_true rfl)) i).trans (f7 i (imp_49 i hi))))))), (fun i hi => ((congrFun (f74 12 (of_decide_eq_true rfl)) i).trans ((f65 i hi).trans ((f39 i hi).trans ((f29 i hi).trans (congrFun (f6 12 (of_decide_eq_true rfl)) i)))))), (fun i hi => ((congrFun (f74 22 (of_decide_eq_true rfl)) i).trans ((congrFun (f63 22 (of_decide_eq_true rfl)) i).trans ((congrFun (f37 22 (of_decide_eq_true rfl)) i).trans ((congrFun (f28 22 (of_decide_eq_true rfl)) i).trans (congrFun (f6 22 (of_decide_eq_true rfl)) i)))))), I76, I104, I105, (by omega), trivial⟩ hP hS dX7_readText_61
       · have kc68 := jnle c68 jz_80 rfl
         refine lv_aload_n hx hb dX7_readText_23 rfl (lv_at hl 1 rfl) ?_
         refine lv_bipush (v := 59) hx hb dX7_readText_24 (of_decide_eq_true rfl) ?_
         have I106 : jI9 σ55 := jI9_fr (f64 0 (of_decide_eq_true rfl)) (f63 10 (of_decide_eq_true rfl)) (f63 11 (of_decide_eq_true rfl)) I40
         exact by
          have I107 : jI91 σ55 := ⟨(by omega), (by omega)⟩
          have I108 : jI92 σ55 := (show (-1) ≤ (σ55 9 2).toInt by omega)
          refine jcallV (As := [.int 59]) (rest := []) ⟨hx, hb, hml, hown, hts⟩ hK hP hA hS hZ (c_X7_skip_9 l D cI cL ad zz hJ σ55 τ 59 (59) jz_59 I106 I107 I108 (by omega)) cw_RX7_50 (jc_9 cI cL ad σ55 τ) rfl ⟨Nat.le_of_ble_eq_true rfl, Nat.le_of_ble_eq_true rfl⟩ rfl rfl rfl hl.1 rfl (Nat.le_of_ble_eq_true rfl) dX7_readText_26 ⟨Nat.zero_le _, Nat.zero_le _⟩ (fun r110 σ109 τ109 H locs h109 hP hS => ?_)
          obtain ⟨rfl, f111, f112, I113, I114, I115, h109⟩ := h109
          obtain ⟨i117, w118, w119⟩ : (0 ≤ (σ109 9 0).toInt ∧ (σ109 9 0).toInt ≤ 80) ∧ (∀ k : Nat, k < 80 → 0 ≤ (σ109 10 k).toInt ∧ (σ109 10 k).toInt ≤ 255) ∧ (∀ k : Nat, k < 8 → 0 ≤ (σ109 11 k).toInt ∧ (σ109 11 k).toInt ≤ 3) := id I113
          obtain ⟨i120, i121⟩ : (0 ≤ (σ109 9 1).toInt) ∧ ((σ109 9 1).toInt ≤ (σ109 9 0).toInt) := id I114
          have i122 : (-1) ≤ (σ109 9 2).toInt := I115
          have z123 : (σ109 9 0).toInt = (σ 9 0).toInt := (congrArg Int32.toInt (show σ109 9 0 = (σ 9 0) from ((f112 0 (of_decide_eq_true rfl)).trans ((f64 0 (of_decide_eq_true rfl)).trans ((f38 0 (of_decide_eq_true rfl)).trans ((congrFun (f28 9 (of_decide_eq_true rfl)) 0).trans (f7 0 (of_decide_eq_true rfl))))))))
          have z124 : (σ109 9 2).toInt = (σ55 9 2).toInt := (congrArg Int32.toInt (show σ109 9 2 = (σ55 9 2) from (f112 2 (of_decide_eq_true rfl))))
          exact by
           rcases h109 with h125 | h126
           · obtain ⟨q131, k127, k128, k129, k130⟩ := h125
             have q131 := q131.symm
             subst q131
             refine lv_if_eq (tgt := 42) hx hb dX7_readText_29 (of_decide_eq_true rfl) (fun c => absurd c (of_decide_eq_true rfl)) (fun _ => ?_)
             refine lv_aload_n hx hb dX7_readText_32 rfl (lv_at hl 1 rfl) ?_
             have I132 : jI12 σ109 := jI12_fr (congrFun (f111 12 (of_decide_eq_true rfl)) 0) (f111 13 (of_decide_eq_true rfl)) p66
             refine jcallVv (As := []) (rest := []) ⟨hx, hb, hml, hown, hts⟩ hK hP hA hS hZ (c_X7_readLine_9 l D cI cL ad zz hJ σ109 τ I113 I114 I115 I132) cw_RX7_75 (jc_9 cI cL ad σ109 τ) rfl ⟨Nat.le_of_ble_eq_true rfl, Nat.le_of_ble_eq_true rfl⟩ rfl rfl rfl hl.1 rfl (Nat.le_of_ble_eq_true rfl) dX7_readText_33 ⟨Nat.zero_le _, Nat.zero_le _⟩ (fun σ133 τ133 H locs h133 hP hS => ?_)
             obtain ⟨rfl, f135, f136, f137, I138, I139, I140, I141, h133⟩ := h133
             obtain ⟨i143, w144, w145⟩ : (0 ≤ (σ133 9 0).toInt ∧ (σ133 9 0).toInt ≤ 80) ∧ (∀ k : Nat, k < 80 → 0 ≤ (σ133 10 k).toInt ∧ (σ133 10 k).toInt ≤ 255) ∧ (∀ k : Nat, k < 8 → 0 ≤ (σ133 11 k).toInt ∧ (σ133 11 k).toInt ≤ 3) := id I138
             obtain ⟨i146, i147⟩ : (0 ≤ (σ133 9 1).toInt) ∧ ((σ133 9 1).toInt ≤ (σ133 9 0).toInt) := id I139
             have i148 : (-1) ≤ (σ133 9 2).toInt := I140
             have z149 : (σ133 9 0).toInt = (σ 9 0).toInt := (congrArg Int32.toInt (show σ133 9 0 = (σ 9 0) from ((f136 0 (of_decide_eq_true rfl)).trans ((f112 0 (of_decide_eq_true rfl)).trans ((f64 0 (of_decide_eq_true rfl)).trans ((f38 0 (of_decide_eq_true rfl)).trans ((congrFun (f28 9 (of_decide_eq_true rfl)) 0).trans (f7 0 (of_decide_eq_true rfl)))))))))
             obtain ⟨x150, ex150⟩ : ∃ y : Int32, y = x54 + 1 := ⟨_, rfl⟩
             exact by
              have tx150 : x150.toInt = x54.toInt + 1 := (jadd ex150 rfl jz_1 (by omega) (by omega)).trans (by omega)
              refine lv_iinc (v := x150) (lv' := [(2, .int x150), (0, .ref (ad 9)), (1, .ref (ad 22))]) hx hb dX7_readText_36 hl (k := 0) rfl (by rw [ex150]; rfl) (of_decide_eq_true rfl) rfl (fun ls hl => ?_)
              refine lv_goto (tgt := 17) hx hb dX7_readText_39 (of_decide_eq_true rfl) ?_
              exact by exact ihlp52 x150 σ133 _ _ ls (by have h90 := tx150; omega) (by have h90 := tx150; omega) (by have h90 := tx150; omega) (by have h90 := tx150; omega) (by have h90 := tx150; omega) (by have h90 := tx150; omega) (fun i hi => ((f135 i hi).trans ((f111 i (imp_59 i hi)).trans (f63 i hi)))) (fun i hi => ((f136 i hi).trans ((f112 i (imp_55 i hi)).trans (f64 i hi)))) (fun i hi => ((f137 i hi).trans ((congrFun (f111 12 (of_decide_eq_true rfl)) i).trans (f65 i hi))))  I141 hP hS (lv_sub hl [0, 1, 2] rfl)
           · obtain ⟨q154, k151, k152, k153⟩ := h126
             have q154 := q154.symm
             subst q154
             refine lv_if_eq (tgt := 42) hx hb dX7_readText_29 (of_decide_eq_true rfl) (fun _ => ?_) (fun c => absurd (of_decide_eq_true rfl) c)
             refine lv_aload_n hx hb dX7_readText_42 rfl (lv_at hl 1 rfl) ?_
             exact by
              refine jcallV (As := []) (rest := []) ⟨hx, hb, hml, hown, hts⟩ hK hP hA hS hZ (c_X7_end_9 l D cI cL ad zz hJ σ109 τ I113 I114 I115) cw_RX7_57 (jc_9 cI cL ad σ109 τ) rfl ⟨Nat.le_of_ble_eq_true rfl, Nat.le_of_ble_eq_true rfl⟩ rfl rfl rfl hl.1 rfl (Nat.le_of_ble_eq_true rfl) dX7_readText_43 ⟨Nat.zero_le _, Nat.zero_le _⟩ (fun r156 σ155 τ155 H locs h155 hP hS => ?_)
              obtain ⟨rfl, f157, f158, I159, I160, h155⟩ := h155
              obtain ⟨i162, w163, w164⟩ : (0 ≤ (σ155 9 0).toInt ∧ (σ155 9 0).toInt ≤ 80) ∧ (∀ k : Nat, k < 80 → 0 ≤ (σ155 10 k).toInt ∧ (σ155 10 k).toInt ≤ 255) ∧ (∀ k : Nat, k < 8 → 0 ≤ (σ155 11 k).toInt ∧ (σ155 11 k).toInt ≤ 3) := id I159
              have i165 : (-1) ≤ (σ155 9 2).toInt := I160
              obtain ⟨k166, h155⟩ := h155
              rcases h155 with h167 | h168
              · obtain ⟨q171, k169, k170⟩ := h167
                have q171 := q171.symm
                subst q171
                refine lv_istore_n (lv' := [(2, .int (-1)), (0, .ref (ad 9)), (1, .ref (ad 22))]) hx hb dX7_readText_46 rfl hl (of_decide_eq_true rfl) rfl (fun ls hl => ?_)
                refine lv_iload_n hx hb dX7_readText_47 rfl (lv_at hl 0 rfl) ?_
                refine lv_iconst (v := (-1)) hx hb dX7_readText_48 (of_decide_eq_true rfl) ?_
                refine lv_icmp_ne (tgt := 60) hx hb dX7_readText_49 (of_decide_eq_true rfl) (fun c => absurd (of_decide_eq_true rfl) c) (fun _ => ?_)
                refine lv_aload_n hx hb dX7_readText_52 rfl (lv_at hl 2 rfl) ?_
                refine lv_aload_n hx hb dX7_readText_53 rfl (lv_at hl 1 rfl) ?_
                refine va_get (D := D) hx hb hts inlX7 hown hK hP 9 (jc_9 cI cL ad σ155 τ) rfl 5 (of_decide_eq_true rfl) (hts _ kw_3_23) (fun _ h9 => h9) rfl dX7_readText_54 ?_
                have I172 : jI12 σ155 := jI12_fr ((congrFun (f157 12 (of_decide_eq_true rfl)) 0).trans (congrFun (f111 12 (of_decide_eq_true rfl)) 0)) ((f157 13 (of_decide_eq_true rfl)).trans (f111 13 (of_decide_eq_true rfl))) p66
                have I173 : jI22 σ155 := jI22_fr ((congrFun (f157 22 (of_decide_eq_true rfl)) 0).trans ((congrFun (f111 22 (of_decide_eq_true rfl)) 0).trans ((congrFun (f63 22 (of_decide_eq_true rfl)) 0).trans ((congrFun (f37 22 (of_decide_eq_true rfl)) 0).trans ((congrFun (f28 22 (of_decide_eq_true rfl)) 0).trans (congrFun (f6 22 (of_decide_eq_true rfl)) 0)))))) ((f157 23 (of_decide_eq_true rfl)).trans ((f111 23 (of_decide_eq_true rfl)).trans ((f63 23 (of_decide_eq_true rfl)).trans ((f37 23 (of_decide_eq_true rfl)).trans ((f28 23 (of_decide_eq_true rfl)).trans (f6 23 (of_decide_eq_true rfl))))))) hI22
                refine jcallVv (As := [.ref (ad 12)]) (rest := []) ⟨hx, hb, hml, hown, hts⟩ hK hP hA hS hZ (c_X10_copyFrom_22 l D cI cL ad zz hJ σ155 τ I172 I173) cw_RX7_78 (jc_22 cI cL ad σ155 τ) rfl ⟨Nat.le_of_ble_eq_true rfl, Nat.le_of_ble_eq_true rfl⟩ rfl rfl rfl hl.1 rfl (Nat.le_of_ble_eq_true rfl) dX7_readText_57 ⟨Nat.zero_le _, Nat.zero_le _⟩ (fun σ174 τ174 H locs h174 hP hS => ?_)
                obtain ⟨rfl, f176, f177, I178, h174⟩ := h174
                refine lv_iload_n hx hb dX7_readText_60 rfl (lv_at hl 0 rfl) ?_
                have I180 : jI9 σ174 := jI9_fr (congrFun (f176 9 (of_decide_eq_true rfl)) 0) (f176 10 (of_decide_eq_true rfl)) (f176 11 (of_decide_eq_true rfl)) I159
                have I181 : jI12 σ174 := jI12_fr (congrFun (f176 12 (of_decide_eq_true rfl)) 0) (f176 13 (of_decide_eq_true rfl)) I172
                have z182 : (σ174 9 0).toInt = (σ155 9 0).toInt := (congrArg Int32.toInt (show σ174 9 0 = (σ155 9 0) from (congrFun (f176 9 (of_decide_eq_true rfl)) 0)))
                exact hret (-1) σ174 τ _ _ _ _ rfl ⟨rfl, (fun i hi => ((f176 i (imp_66 i hi)).trans ((f157 i (imp_67 i hi)).trans ((f111 i (imp_67 i hi)).trans ((f63 i (imp_68 i hi)).trans ((f37 i (imp_68 i hi)).trans ((f28 i (imp_69 i hi)).trans (f6 i (imp_67 i hi))))))))), (fun i hi => ((congrFun (f176 9 (of_decide_eq_true rfl)) i).trans ((f158 i (imp_48 i hi)).trans ((f112 i (imp_51 i hi)).trans ((f64 i (imp_49 i hi)).trans ((f38 i (imp_49 i hi)).trans ((congrFun (f28 9 (of_decide_eq_true rfl)) i).trans (f7 i (imp_49 i hi))))))))), (fun i hi => ((congrFun (f176 12 (of_decide_eq_true rfl)) i).trans ((congrFun (f157 12 (of_decide_eq_true rfl)) i).trans ((congrFun (f111 12 (of_decide_eq_true rfl)) i).trans ((f65 i hi).trans ((f39 i hi).trans ((f29 i hi).trans (congrFun (f6 12 (of_decide_eq_true rfl)) i)))))))), (fun i hi => ((f177 i hi).trans ((congrFun (f157 22 (of_decide_eq_true rfl)) i).trans ((congrFun (f111 22 (of_decide_eq_true rfl)) i).trans ((congrFun (f63 22 (of_decide_eq_true rfl)) i).trans ((congrFun (f37 22 (of_decide_eq_true rfl)) i).trans ((congrFun (f28 22 (of_decide_eq_true rfl)) i).trans (congrFun (f6 22 (of_decide_eq_true rfl)) i)))))))), I180, I181, I178, (by omega), trivial⟩ hP hS dX7_readText_61
              · obtain ⟨q185, k183, k184⟩ := h168
                refine lv_istore_n (lv' := [(2, .int r156), (0, .ref (ad 9)), (1, .ref (ad 22))]) hx hb dX7_readText_46 rfl hl (of_decide_eq_true rfl) rfl (fun ls hl => ?_)
                refine lv_iload_n hx hb dX7_readText_47 rfl (lv_at hl 0 rfl) ?_
                refine lv_iconst (v := (-1)) hx hb dX7_readText_48 (of_decide_eq_true rfl) ?_
                exact by
                 refine lv_icmp_ne (tgt := 60) hx hb dX7_readText_49 (of_decide_eq_true rfl) (fun c186 => ?_) (fun c => absurd (jeq c rfl jz_m1) (by omega))
                 have kc186 := jne c186 rfl jz_m1
                 refine lv_iload_n hx hb dX7_readText_60 rfl (lv_at hl 0 rfl) ?_
                 have I187 : jI12 σ155 := jI12_fr ((congrFun (f157 12 (of_decide_eq_true rfl)) 0).trans (congrFun (f111 12 (of_decide_eq_true rfl)) 0)) ((f157 13 (of_decide_eq_true rfl)).trans (f111 13 (of_decide_eq_true rfl))) p66
                 have I188 : jI22 σ155 := jI22_fr ((congrFun (f157 22 (of_decide_eq_true rfl)) 0).trans ((congrFun (f111 22 (of_decide_eq_true rfl)) 0).trans ((congrFun (f63 22 (of_decide_eq_true rfl)) 0).trans ((congrFun (f37 22 (of_decide_eq_true rfl)) 0).trans ((congrFun (f28 22 (of_decide_eq_true rfl)) 0).trans (congrFun (f6 22 (of_decide_eq_true rfl)) 0)))))) ((f157 23 (of_decide_eq_true rfl)).trans ((f111 23 (of_decide_eq_true rfl)).trans ((f63 23 (of_decide_eq_true rfl)).trans ((f37 23 (of_decide_eq_true rfl)).trans ((f28 23 (of_decide_eq_true rfl)).trans (f6 23 (of_decide_eq_true rfl))))))) hI22
                 exact hret r156 σ155 τ _ _ _ _ rfl ⟨rfl, (fun i hi => ((f157 i (imp_67 i hi)).trans ((f111 i (imp_67 i hi)).trans ((f63 i (imp_68 i hi)).trans ((f37 i (imp_68 i hi)).trans ((f28 i (imp_69 i hi)).trans (f6 i (imp_67 i hi)))))))), (fun i hi => ((f158 i (imp_48 i hi)).trans ((f112 i (imp_51 i hi)).trans ((f64 i (imp_49 i hi)).trans ((f38 i (imp_49 i hi)).trans ((congrFun (f28 9 (of_decide_eq_true rfl)) i).trans (f7 i (imp_49 i hi)))))))), (fun i hi => ((congrFun (f157 12 (of_decide_eq_true rfl)) i).trans ((congrFun (f111 12 (of_decide_eq_true rfl)) i).trans ((f65 i hi).trans ((f39 i hi).trans ((f29 i hi).trans (congrFun (f6 12 (of_decide_eq_true rfl)) i))))))), (fun i hi => ((congrFun (f157 22 (of_decide_eq_true rfl)) i).trans ((congrFun (f111 22 (of_decide_eq_true rfl)) i).trans ((congrFun (f63 22 (of_decide_eq_true rfl)) i).trans ((congrFun (f37 22 (of_decide_eq_true rfl)) i).trans ((congrFun (f28 22 (of_decide_eq_true rfl)) i).trans (congrFun (f6 22 (of_decide_eq_true rfl)) i))))))), I159, I187, I188, (by omega), trivial⟩ hP hS dX7_readText_61
  exact by exact lp52 1000000 0 σ35 _ _ ls (by have h90 := jz_0; omega) (by have h90 := jz_0; omega) (by have h90 := jz_0; omega) (by have h90 := jz_0; omega) (by have h90 := jz_0; omega) (by have h90 := jz_0; omega) (fun _ _ => rfl) (fun _ _ => rfl) (fun _ _ => rfl)  I43 hP hS hl
