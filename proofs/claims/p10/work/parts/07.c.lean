set_option maxHeartbeats 4000000 in
set_option maxRecDepth 100000 in
theorem c_X7_grammar_op_g (l : Launch) (D : va_G) (cI cL : ClassId) (ad zz : Nat → Nat) (hJ : jD ad) (n : Nat) (h_op : ∀ (σ : Nat → Nat → Int32) (τ : Nat → Nat → Int64) (a1 : Int32) (A1 : Int) (t1 : a1.toInt = A1) (hI9 : jI9 σ) (hI91 : jI91 σ) (hI92 : jI92 σ) (hI12 : jI12 σ) (hs_jNd12 : jNd12 σ) (hp0 : 0 ≤ A1 ∧ A1 ≤ 6) (hp1 : -A1 + 6 ≤ (((n) : Nat) : Int)) (hp2 : (σ 9 2).toInt = (-1)) (hp3 : 3 * (σ 12 0).toInt ≤ 4 * (σ 9 1).toInt + 1), jMv l yX7_operand cX7_operand 3 none ({ frames := (10 + 8 * (n)), cells := 0, slots := 0, locals := (400 + 360 * (n)) }) D cI cL ad zz [.ref (ad 9), .int a1] σ τ (fun σ' τ' => τ = τ' ∧ (∀ i : Nat, (i < 9 ∨ 9 < i) ∧ (i < 12 ∨ 13 < i) → σ' i = σ i) ∧ (∀ k : Nat, (k < 1 ∨ 1 < k) ∧ (k < 2 ∨ 2 < k) → σ' 9 k = σ 9 k) ∧ (∀ k : Nat, (k < 0 ∨ 0 < k) ∧ (k < 1 ∨ 1 < k) → σ' 12 k = σ 12 k) ∧ (jI9 σ') ∧ (jI91 σ') ∧ (jI92 σ') ∧ (jI12 σ') ∧ (jNd12 σ') ∧ (jCp (σ 10) (σ 9 0).toInt 5 (A1) (σ 9 1).toInt (σ' 9 1).toInt (σ' 9 2).toInt (σ 13) (σ' 13) (σ 12 0).toInt (σ' 12 0).toInt) ∧ ((σ 9 1).toInt ≤ (σ' 9 1).toInt) ∧ ((σ' 12 0).toInt - (σ 12 0).toInt ≤ (σ' 9 1).toInt - (σ 9 1).toInt) ∧ (3 * (σ' 12 0).toInt ≤ 4 * (σ' 9 1).toInt + 1) ∧ ((0 ≤ (σ' 9 2).toInt) ∨ ((σ 9 1).toInt + 1 ≤ (σ' 9 1).toInt)) ∧ True)) (h_p0 : ∀ (σ : Nat → Nat → Int32) (τ : Nat → Nat → Int64) (a2 : Int32) (A2 : Int) (t2 : a2.toInt = A2) (hI9 : jI9 σ) (hI91 : jI91 σ) (hI92 : jI92 σ) (hI12 : jI12 σ) (hs_jNd12 : jNd12 σ) (hp0 : 0 ≤ A2 ∧ A2 ≤ 6) (hp1 : -A2 + 6 ≤ (((n) : Nat) : Int)) (hp2 : (σ 9 2).toInt = (-1)) (hp3 : 3 * (σ 12 0).toInt ≤ 4 * (σ 9 1).toInt + 1), jMv l yX7_part cX7_part 5 none ({ frames := (16 + 8 * (n)), cells := 0, slots := 0, locals := (640 + 360 * (n)) }) D cI cL ad zz [.ref (ad 9), .int 0, .int a2] σ τ (fun σ' τ' => τ = τ' ∧ (∀ i : Nat, (i < 9 ∨ 9 < i) ∧ (i < 12 ∨ 13 < i) → σ' i = σ i) ∧ (∀ k : Nat, (k < 1 ∨ 1 < k) ∧ (k < 2 ∨ 2 < k) → σ' 9 k = σ 9 k) ∧ (∀ k : Nat, (k < 0 ∨ 0 < k) ∧ (k < 1 ∨ 1 < k) → σ' 12 k = σ 12 k) ∧ (jI9 σ') ∧ (jI91 σ') ∧ (jI92 σ') ∧ (jI12 σ') ∧ (jNd12 σ') ∧ (jCp (σ 10) (σ 9 0).toInt 0 (A2) (σ 9 1).toInt (σ' 9 1).toInt (σ' 9 2).toInt (σ 13) (σ' 13) (σ 12 0).toInt (σ' 12 0).toInt) ∧ ((σ 9 1).toInt ≤ (σ' 9 1).toInt) ∧ ((σ' 12 0).toInt - (σ 12 0).toInt ≤ (σ' 9 1).toInt - (σ 9 1).toInt) ∧ (3 * (σ' 12 0).toInt ≤ 4 * (σ' 9 1).toInt + 1) ∧ ((0 ≤ (σ' 9 2).toInt) ∨ ((σ 9 1).toInt + 1 ≤ (σ' 9 1).toInt)) ∧ True)) (σ : Nat → Nat → Int32) (τ : Nat → Nat → Int64) (a1 : Int32) (A1 : Int) (t1 : a1.toInt = A1) (hI9 : jI9 σ) (hI91 : jI91 σ) (hI92 : jI92 σ) (hI12 : jI12 σ) (hs_jNd12 : jNd12 σ) (hp0 : 0 ≤ A1 ∧ A1 ≤ 6) (hp1 : -A1 + 6 ≤ (((n + 1) : Nat) : Int)) (hp2 : (σ 9 2).toInt = (-1)) (hp3 : 3 * (σ 12 0).toInt ≤ 4 * (σ 9 1).toInt + 1) : jMv l yX7_operand cX7_operand 3 none ({ frames := (10 + 8 * (n + 1)), cells := 0, slots := 0, locals := (400 + 360 * (n + 1)) }) D cI cL ad zz [.ref (ad 9), .int a1] σ τ (fun σ' τ' => τ = τ' ∧ (∀ i : Nat, (i < 9 ∨ 9 < i) ∧ (i < 12 ∨ 13 < i) → σ' i = σ i) ∧ (∀ k : Nat, (k < 1 ∨ 1 < k) ∧ (k < 2 ∨ 2 < k) → σ' 9 k = σ 9 k) ∧ (∀ k : Nat, (k < 0 ∨ 0 < k) ∧ (k < 1 ∨ 1 < k) → σ' 12 k = σ 12 k) ∧ (jI9 σ') ∧ (jI91 σ') ∧ (jI92 σ') ∧ (jI12 σ') ∧ (jNd12 σ') ∧ (jCp (σ 10) (σ 9 0).toInt 5 (A1) (σ 9 1).toInt (σ' 9 1).toInt (σ' 9 2).toInt (σ 13) (σ' 13) (σ 12 0).toInt (σ' 12 0).toInt) ∧ ((σ 9 1).toInt ≤ (σ' 9 1).toInt) ∧ ((σ' 12 0).toInt - (σ 12 0).toInt ≤ (σ' 9 1).toInt - (σ 9 1).toInt) ∧ (3 * (σ' 12 0).toInt ≤ 4 * (σ' 9 1).toInt + 1) ∧ ((0 ≤ (σ' 9 2).toInt) ∨ ((σ 9 1).toInt + 1 ≤ (σ' 9 1).toInt)) ∧ True) := by
  refine jMv.of hJ (by decide +kernel) rfl (Nat.le_of_ble_eq_true rfl) ?_
  intro p e s m args below meth c Q ls hC hret hl hP
  obtain ⟨hx, hb, hr, hml, hown, hts, hK, -, hlocks, hZ⟩ := hC
  have hown : s.vm.findClass RX7 = some m.cls := hown
  have hS : va_S (jA ad) s.heap s.heap [] := va_S.rf
  have hA : ∀ q, jA ad q → jA ad q := fun _ h => h
  have hl : lv_has ls 3 [(0, .ref (ad 9)), (1, .int a1)] := hl
  have g1 := jrg t1
  obtain ⟨i1, w2, w3⟩ : (0 ≤ (σ 9 0).toInt ∧ (σ 9 0).toInt ≤ 80) ∧ (∀ k : Nat, k < 80 → 0 ≤ (σ 10 k).toInt ∧ (σ 10 k).toInt ≤ 255) ∧ (∀ k : Nat, k < 8 → 0 ≤ (σ 11 k).toInt ∧ (σ 11 k).toInt ≤ 3) := id hI9
  obtain ⟨i4, i5⟩ : (0 ≤ (σ 9 1).toInt) ∧ ((σ 9 1).toInt ≤ (σ 9 0).toInt) := id hI91
  have i6 : (-1) ≤ (σ 9 2).toInt ∧ (σ 9 2).toInt ≤ 80 := hI92
  obtain ⟨i7, w8⟩ : (0 ≤ (σ 12 0).toInt ∧ (σ 12 0).toInt ≤ 160) ∧ (∀ k : Nat, k < 160 → 0 ≤ (σ 13 k).toInt ∧ (σ 13 k).toInt ≤ 30000) := id hI12
  refine lv_aload_n hx hb dX7_operand_0 rfl (lv_at hl 0 rfl) ?_
  refine va_get (D := D) hx hb hts inlX7 hown hK hP 9 (jc_9 cI cL ad σ τ) rfl 2 (of_decide_eq_true rfl) (hts _ kw_14_6) (fun _ h9 => h9) rfl dX7_operand_1 ?_
  refine lv_iconst (v := (-1)) hx hb dX7_operand_4 (of_decide_eq_true rfl) ?_
  exact by
   refine lv_icmp_eq (tgt := 9) hx hb dX7_operand_5 (of_decide_eq_true rfl) (fun c9 => ?_) (fun c => absurd (jne c rfl jz_m1) (by omega))
   have kc9 := jeq c9 rfl jz_m1
   refine lv_aload_n hx hb dX7_operand_9 rfl (lv_at hl 0 rfl) ?_
   refine jcallV (As := []) (rest := []) ⟨hx, hb, hml, hown, hts⟩ hK hP hA hS hZ (c_X7_sign_9 l D cI cL ad zz hJ σ τ hI9) cw_RX7_35 (jc_9 cI cL ad σ τ) rfl ⟨by dsimp only; omega, by dsimp only; omega⟩ rfl rfl rfl hl.1 rfl (Nat.le_of_ble_eq_true rfl) dX7_operand_10 ⟨Nat.zero_le _, Nat.zero_le _⟩ (fun r11 σ10 τ10 H locs h10 hP hS => ?_)
   obtain ⟨⟨rfl, rfl⟩, h10⟩ := h10
   rcases h10 with h12 | h13
   · obtain ⟨q17, k14, k15, k16⟩ := h12
     have q18 : r11 = (σ 10 (σ 9 1).toNatClampNeg) := q17.trans rfl
     have q18 := q18.symm
     subst q18
     refine lv_istore_n (lv' := [(2, .int (σ 10 (σ 9 1).toNatClampNeg)), (0, .ref (ad 9)), (1, .int a1)]) hx hb dX7_operand_13 rfl hl (of_decide_eq_true rfl) rfl (fun ls hl => ?_)
     refine lv_iload_n hx hb dX7_operand_14 rfl (lv_at hl 0 rfl) ?_
     refine jcallS (As := [.int (σ 10 (σ 9 1).toNatClampNeg)]) (rest := []) ⟨hx, hb, hml, hown, hts⟩ hK hP hA hS hZ (c_X7_isDigit l D cI cL ad zz hJ σ τ (σ 10 (σ 9 1).toNatClampNeg) ((σ 10 (σ 9 1).toNatClampNeg).toInt) rfl) cw_RX7_39 ⟨by dsimp only; omega, by dsimp only; omega⟩ rfl rfl rfl hl.1 rfl (Nat.le_of_ble_eq_true rfl) dX7_operand_15 ⟨Nat.zero_le _, Nat.zero_le _⟩ (fun r20 σ19 τ19 H locs h19 hP hS => ?_)
     obtain ⟨⟨rfl, rfl⟩, h19⟩ := h19
     rcases h19 with h21 | h22
     · obtain ⟨q24, k23⟩ := h21
       have q24 := q24.symm
       subst q24
       refine lv_if_eq (tgt := 36) hx hb dX7_operand_18 (of_decide_eq_true rfl) (fun c => absurd c (of_decide_eq_true rfl)) (fun _ => ?_)
       refine lv_aload_n hx hb dX7_operand_21 rfl (lv_at hl 1 rfl) ?_
       refine va_get (D := D) hx hb hts inlX7 hown hK hP 9 (jc_9 cI cL ad σ τ) rfl 5 (of_decide_eq_true rfl) (hts _ kw_3_23) (fun _ h9 => h9) rfl dX7_operand_22 ?_
       refine lv_aload_n hx hb dX7_operand_25 rfl (lv_at hl 1 rfl) ?_
       refine lv_iconst (v := 4) hx hb dX7_operand_26 (of_decide_eq_true rfl) ?_
       exact by
        refine jcallV (As := [.int 4]) (rest := [.ref (ad 12)]) ⟨hx, hb, hml, hown, hts⟩ hK hP hA hS hZ (c_X7_number_4 l D cI cL ad zz hJ σ τ hI9 hI91 hI92 (by omega)) cw_RX7_53 (jc_9 cI cL ad σ τ) rfl ⟨by dsimp only; omega, by dsimp only; omega⟩ rfl rfl rfl hl.1 rfl (Nat.le_of_ble_eq_true rfl) dX7_operand_27 ⟨Nat.zero_le _, Nat.zero_le _⟩ (fun r26 σ25 τ25 H locs h25 hP hS => ?_)
        obtain ⟨rfl, f27, f28, I29, I30, I31, w32, h25⟩ := h25
        obtain ⟨i34, w35, w36⟩ : (0 ≤ (σ25 9 0).toInt ∧ (σ25 9 0).toInt ≤ 80) ∧ (∀ k : Nat, k < 80 → 0 ≤ (σ25 10 k).toInt ∧ (σ25 10 k).toInt ≤ 255) ∧ (∀ k : Nat, k < 8 → 0 ≤ (σ25 11 k).toInt ∧ (σ25 11 k).toInt ≤ 3) := id I29
        obtain ⟨i37, i38⟩ : (0 ≤ (σ25 9 1).toInt) ∧ ((σ25 9 1).toInt ≤ (σ25 9 0).toInt) := id I30
        have i39 : (-1) ≤ (σ25 9 2).toInt ∧ (σ25 9 2).toInt ≤ 80 := I31
        have k40 := w32 ⟨by omega, by omega⟩
        obtain ⟨k42, k43, k44⟩ := k40
        have k41 := jNq_r (σ 10) (σ 9 0).toInt (σ 9 1).toInt
        have z45 : (σ25 9 0).toInt = (σ 9 0).toInt := (congrArg Int32.toInt (show σ25 9 0 = (σ 9 0) from (f28 0 (of_decide_eq_true rfl))))
        obtain ⟨k46, h25⟩ := h25
        have h47 := h25
        obtain ⟨q49, k48⟩ := h47
        have I50 : jI12 σ25 := jI12_fr (congrFun (f27 12 (of_decide_eq_true rfl)) 0) (f27 13 (of_decide_eq_true rfl)) hI12
        have p51 : jNd12 σ25 := jNd12.fr (congrFun (f27 12 (of_decide_eq_true rfl)) 0) (congrFun (f27 12 (of_decide_eq_true rfl)) 1) (f27 13 (of_decide_eq_true rfl)) hs_jNd12
        have z52 : (σ25 12 0).toInt = (σ 12 0).toInt := (congrArg Int32.toInt (show σ25 12 0 = (σ 12 0) from (congrFun (f27 12 (of_decide_eq_true rfl)) 0)))
        exact by
         refine jcallVv (As := [.int r26]) (rest := []) ⟨hx, hb, hml, hown, hts⟩ hK hP hA hS hZ (c_X10_add_12 l D cI cL ad zz hJ σ25 τ r26 (r26.toInt) rfl I50 p51 (by omega) (by omega)) cw_RX7_86 (jc_12 cI cL ad σ25 τ) rfl ⟨by dsimp only; omega, by dsimp only; omega⟩ rfl rfl rfl hl.1 rfl (Nat.le_of_ble_eq_true rfl) dX7_operand_30 ⟨Nat.zero_le _, Nat.zero_le _⟩ (fun σ53 τ53 H locs h53 hP hS => ?_)
         obtain ⟨rfl, f55, f56, I57, p58, w59, h53⟩ := h53
         obtain ⟨i61, w62⟩ : (0 ≤ (σ53 12 0).toInt ∧ (σ53 12 0).toInt ≤ 160) ∧ (∀ k : Nat, k < 160 → 0 ≤ (σ53 13 k).toInt ∧ (σ53 13 k).toInt ≤ 30000) := id I57
         obtain ⟨k63, h53⟩ := h53
         refine lv_goto (tgt := 191) hx hb dX7_operand_33 (of_decide_eq_true rfl) ?_
         have I64 : jI9 σ53 := jI9_fr (congrFun (f55 9 (of_decide_eq_true rfl)) 0) (f55 10 (of_decide_eq_true rfl)) (f55 11 (of_decide_eq_true rfl)) I29
         have I65 : jI91 σ53 := jI91_fr (congrFun (f55 9 (of_decide_eq_true rfl)) 0) (congrFun (f55 9 (of_decide_eq_true rfl)) 1) I30
         have I66 : jI92 σ53 := jI92_fr (congrFun (f55 9 (of_decide_eq_true rfl)) 2) I31
         have z67 : (σ53 9 1).toInt = (σ25 9 1).toInt := (congrArg Int32.toInt (show σ53 9 1 = (σ25 9 1) from (congrFun (f55 9 (of_decide_eq_true rfl)) 1)))
         have z68 : (σ53 9 2).toInt = (σ25 9 2).toInt := (congrArg Int32.toInt (show σ53 9 2 = (σ25 9 2) from (congrFun (f55 9 (of_decide_eq_true rfl)) 2)))
         exact by exact hret σ53 τ _ _ _ _ ⟨rfl, (fun i hi => ((f55 i (imp_58 i hi)).trans (f27 i (imp_59 i hi)))), (fun i hi => ((congrFun (f55 9 (of_decide_eq_true rfl)) i).trans (f28 i hi))), (fun i hi => ((f56 i hi).trans (congrFun (f27 12 (of_decide_eq_true rfl)) i))), I64, I65, I66, I57, p58, (jCp.num (by omega) (by omega) (by omega) (by omega) (by omega) (by rw [w59, show σ25 13 = σ 13 from (f27 13 (of_decide_eq_true rfl)), show (σ25 12 0).toInt = (σ 12 0).toInt from by omega]) k43 (by omega)), (by omega), (by omega), (by omega), (by omega), trivial⟩ hP hS dX7_operand_191
     · obtain ⟨q70, k69⟩ := h22
       have q70 := q70.symm
       subst q70
       refine lv_if_eq (tgt := 36) hx hb dX7_operand_18 (of_decide_eq_true rfl) (fun _ => ?_) (fun c => absurd (of_decide_eq_true rfl) c)
       refine lv_iload_n hx hb dX7_operand_36 rfl (lv_at hl 0 rfl) ?_
       refine jcallS (As := [.int (σ 10 (σ 9 1).toNatClampNeg)]) (rest := []) ⟨hx, hb, hml, hown, hts⟩ hK hP hA hS hZ (c_X7_nameOf l D cI cL ad zz hJ σ τ (σ 10 (σ 9 1).toNatClampNeg) ((σ 10 (σ 9 1).toNatClampNeg).toInt) rfl) cw_RX7_101 ⟨by dsimp only; omega, by dsimp only; omega⟩ rfl rfl rfl hl.1 rfl (Nat.le_of_ble_eq_true rfl) dX7_operand_37 ⟨Nat.zero_le _, Nat.zero_le _⟩ (fun r72 σ71 τ71 H locs h71 hP hS => ?_)
       obtain ⟨⟨rfl, rfl⟩, h71⟩ := h71
       rcases h71 with h73 | h74
       · obtain ⟨q78, k75, k76, k77⟩ := h73
         exact by
          have z79 := jNm_hi (x := (σ 10 (σ 9 1).toNatClampNeg).toInt) (by omega)
          refine lv_if_lt (tgt := 71) hx hb dX7_operand_40 (of_decide_eq_true rfl) (fun c => absurd (jlt c rfl jz_0) (by omega)) (fun c80 => ?_)
          have kc80 := jnlt c80 rfl jz_0
          refine lv_aload_n hx hb dX7_operand_43 rfl (lv_at hl 1 rfl) ?_
          refine va_get (D := D) hx hb hts inlX7 hown hK hP 9 (jc_9 cI cL ad σ τ) rfl 5 (of_decide_eq_true rfl) (hts _ kw_3_23) (fun _ h9 => h9) rfl dX7_operand_44 ?_
          refine lv_sipush (v := 10000) hx hb dX7_operand_47 (of_decide_eq_true rfl) ?_
          refine lv_iload_n hx hb dX7_operand_50 rfl (lv_at hl 0 rfl) ?_
          refine jcallS (As := [.int (σ 10 (σ 9 1).toNatClampNeg)]) (rest := [.int 10000, .ref (ad 12)]) ⟨hx, hb, hml, hown, hts⟩ hK hP hA hS hZ (c_X7_nameOf l D cI cL ad zz hJ σ τ (σ 10 (σ 9 1).toNatClampNeg) ((σ 10 (σ 9 1).toNatClampNeg).toInt) rfl) cw_RX7_101 ⟨by dsimp only; omega, by dsimp only; omega⟩ rfl rfl rfl hl.1 rfl (Nat.le_of_ble_eq_true rfl) dX7_operand_51 ⟨Nat.zero_le _, Nat.zero_le _⟩ (fun r82 σ81 τ81 H locs h81 hP hS => ?_)
          obtain ⟨⟨rfl, rfl⟩, h81⟩ := h81
          exact by
           rcases h81 with h83 | h84
           · obtain ⟨q88, k85, k86, k87⟩ := h83
             have z89 := jNm_hi (x := (σ 10 (σ 9 1).toNatClampNeg).toInt) (by omega)
             have g90 := jrg (rfl : r82.toInt = r82.toInt)
             refine lv_iadd hx hb dX7_operand_54 ?_
             refine lv_topi (fun x91 ex91 => ?_)
             have tx91 : x91.toInt = r82.toInt + 10000 := (jadd ex91 jz_10000 rfl (by omega) (by omega)).trans (by omega)
             refine jcallVv (As := [.int x91]) (rest := []) ⟨hx, hb, hml, hown, hts⟩ hK hP hA hS hZ (c_X10_add_12 l D cI cL ad zz hJ σ τ x91 (r82.toInt + 10000) tx91 hI12 hs_jNd12 (by omega) (by omega)) cw_RX7_86 (jc_12 cI cL ad σ τ) rfl ⟨by dsimp only; omega, by dsimp only; omega⟩ rfl rfl rfl hl.1 rfl (Nat.le_of_ble_eq_true rfl) dX7_operand_55 ⟨Nat.zero_le _, Nat.zero_le _⟩ (fun σ92 τ92 H locs h92 hP hS => ?_)
             obtain ⟨rfl, f94, f95, I96, p97, w98, h92⟩ := h92
             exact by
              obtain ⟨i100, w101⟩ : (0 ≤ (σ92 12 0).toInt ∧ (σ92 12 0).toInt ≤ 160) ∧ (∀ k : Nat, k < 160 → 0 ≤ (σ92 13 k).toInt ∧ (σ92 13 k).toInt ≤ 30000) := id I96
              obtain ⟨k102, h92⟩ := h92
              refine lv_aload_n hx hb dX7_operand_58 rfl (lv_at hl 1 rfl) ?_
              refine lv_dup hx hb dX7_operand_59 rfl ?_
              refine va_get (D := D) hx hb hts inlX7 hown hK hP 9 (jc_9 cI cL ad σ92 τ) rfl 1 (of_decide_eq_true rfl) (hts _ kw_13_17) (fun _ h9 => h9) rfl dX7_operand_60 ?_
              have m103 : σ92 9 1 = (σ 9 1) := (congrFun (f94 9 (of_decide_eq_true rfl)) 1)
              refine jtopr m103 ?_
              refine lv_iconst (v := 1) hx hb dX7_operand_63 (of_decide_eq_true rfl) ?_
              have g104 := jrg (rfl : (σ 9 1).toInt = (σ 9 1).toInt)
              refine lv_iadd hx hb dX7_operand_64 ?_
              refine lv_topi (fun x105 ex105 => ?_)
              exact by
               have tx105 : x105.toInt = (σ 9 1).toInt + 1 := (jadd ex105 rfl jz_1 (by omega) (by omega)).trans (by omega)
               refine jput (ty := .int) hx hb hts inlX7 tyX7 tyX7_ok nmX7 hown hK hP hJ hA hS (jc_9 cI cL ad σ92 τ) rfl (k := 1) (of_decide_eq_true rfl) (Nat.le_of_ble_eq_true rfl) (jp_9_1 cI cL ad σ92 τ x105) (hts _ kw_13_17) (fun _ h9 => h9) rfl (by decide +kernel) rfl rfl dX7_operand_65 (fun σ106 H locs eσ106 hP hS => ?_)
               refine lv_goto (tgt := 191) hx hb dX7_operand_68 (of_decide_eq_true rfl) ?_
               have I107 : jI9 σ106 := jI9_fr ((jkp 0 eσ106 (of_decide_eq_true rfl)).trans (congrFun (f94 9 (of_decide_eq_true rfl)) 0)) ((jnp 10 eσ106 (of_decide_eq_true rfl)).trans (f94 10 (of_decide_eq_true rfl))) ((jnp 11 eσ106 (of_decide_eq_true rfl)).trans (f94 11 (of_decide_eq_true rfl))) hI9
               have z108 : (σ106 9 1).toInt = (σ 9 1).toInt + 1 := ((congrArg Int32.toInt (show σ106 9 1 = x105 from (jsp eσ106))).trans tx105)
               have z109 : (σ106 9 0).toInt = (σ 9 0).toInt := (congrArg Int32.toInt (show σ106 9 0 = (σ 9 0) from ((jkp 0 eσ106 (of_decide_eq_true rfl)).trans (congrFun (f94 9 (of_decide_eq_true rfl)) 0))))
               have I110 : jI91 σ106 := ⟨(by omega), (by omega)⟩
               have I111 : jI92 σ106 := jI92_fr ((jkp 2 eσ106 (of_decide_eq_true rfl)).trans (congrFun (f94 9 (of_decide_eq_true rfl)) 2)) hI92
               have I112 : jI12 σ106 := jI12_fr (congrFun (jnp 12 eσ106 (of_decide_eq_true rfl)) 0) (jnp 13 eσ106 (of_decide_eq_true rfl)) I96
               exact by
                have p113 : jNd12 σ106 := jNd12.fr (congrFun (jnp 12 eσ106 (of_decide_eq_true rfl)) 0) (congrFun (jnp 12 eσ106 (of_decide_eq_true rfl)) 1) (jnp 13 eσ106 (of_decide_eq_true rfl)) p97
                have z114 : (σ106 9 2).toInt = (σ 9 2).toInt := (congrArg Int32.toInt (show σ106 9 2 = (σ 9 2) from ((jkp 2 eσ106 (of_decide_eq_true rfl)).trans (congrFun (f94 9 (of_decide_eq_true rfl)) 2))))
                have z115 : (σ106 12 0).toInt = (σ92 12 0).toInt := (congrArg Int32.toInt (show σ106 12 0 = (σ92 12 0) from (congrFun (jnp 12 eσ106 (of_decide_eq_true rfl)) 0)))
                exact by exact hret σ106 τ _ _ _ _ ⟨rfl, (fun i hi => ((jnp i eσ106 (imp_60 i hi)).trans (f94 i (imp_58 i hi)))), (fun i hi => ((jkp i eσ106 (imp_39 i hi)).trans (congrFun (f94 9 (of_decide_eq_true rfl)) i))), (fun i hi => ((congrFun (jnp 12 eσ106 (of_decide_eq_true rfl)) i).trans (f95 i hi))), I107, I110, I111, I112, p113, (jCp.to (jCp.name (a := (σ106 9 1).toInt) (x := (σ106 9 2).toInt) (by omega) (by rw [k16]; omega) (by omega) (by omega) (by omega) (by omega) w98 (by rw [k16]; have h9 := tx91; omega) (show (σ92 12 0).toInt = (σ 12 0).toInt + 1 by omega)) rfl rfl (jnp 13 eσ106 (of_decide_eq_true rfl)) (by omega)), (by omega), (by omega), (by omega), (by omega), trivial⟩ hP hS dX7_operand_191
           · obtain ⟨q117, k116⟩ := h84
             have q117 := q117.symm
             subst q117
             have z118 := jz_m1
             exact absurd (by omega : False) id
       · obtain ⟨q120, k119⟩ := h74
         have q120 := q120.symm
         subst q120
         have z121 := jz_m1
         refine lv_if_lt (tgt := 71) hx hb dX7_operand_40 (of_decide_eq_true rfl) (fun _ => ?_) (fun c => absurd (of_decide_eq_true rfl) c)
         refine lv_iload_n hx hb dX7_operand_71 rfl (lv_at hl 2 rfl) ?_
         refine lv_bipush (v := 6) hx hb dX7_operand_72 (of_decide_eq_true rfl) ?_
         refine lv_icmp_ge (tgt := 133) hx hb dX7_operand_74 (of_decide_eq_true rfl) (fun c122 => ?_) (fun c122 => ?_)
         · have kc122 := jle c122 jz_6 t1
           refine lv_iload_n hx hb dX7_operand_133 rfl (lv_at hl 2 rfl) ?_
           refine lv_bipush (v := 6) hx hb dX7_operand_134 (of_decide_eq_true rfl) ?_
           exact by
            refine lv_icmp_ge (tgt := 183) hx hb dX7_operand_136 (of_decide_eq_true rfl) (fun c123 => ?_) (fun c => absurd (jnle c jz_6 t1) (by omega))
            have kc123 := jle c123 jz_6 t1
            refine lv_aload_n hx hb dX7_operand_183 rfl (lv_at hl 1 rfl) ?_
            refine lv_aload_n hx hb dX7_operand_184 rfl (lv_at hl 1 rfl) ?_
            refine va_get (D := D) hx hb hts inlX7 hown hK hP 9 (jc_9 cI cL ad σ τ) rfl 1 (of_decide_eq_true rfl) (hts _ kw_13_17) (fun _ h9 => h9) rfl dX7_operand_185 ?_
            refine jcallVv (As := [.int (σ 9 1)]) (rest := []) ⟨hx, hb, hml, hown, hts⟩ hK hP hA hS hZ (c_X7_fail_9 l D cI cL ad zz hJ σ τ (σ 9 1) ((σ 9 1).toInt) rfl hI92 (by omega)) cw_RX7_43 (jc_9 cI cL ad σ τ) rfl ⟨by dsimp only; omega, by dsimp only; omega⟩ rfl rfl rfl hl.1 rfl (Nat.le_of_ble_eq_true rfl) dX7_operand_188 ⟨Nat.zero_le _, Nat.zero_le _⟩ (fun σ124 τ124 H locs h124 hP hS => ?_)
            obtain ⟨rfl, f126, f127, h124⟩ := h124
            obtain ⟨k129, k130, h124⟩ := h124
            have I131 : jI9 σ124 := jI9_fr (f127 0 (of_decide_eq_true rfl)) (f126 10 (of_decide_eq_true rfl)) (f126 11 (of_decide_eq_true rfl)) hI9
            exact by
             have I132 : jI91 σ124 := jI91_fr (f127 0 (of_decide_eq_true rfl)) (f127 1 (of_decide_eq_true rfl)) hI91
             have I133 : jI92 σ124 := (show (-1) ≤ (σ124 9 2).toInt ∧ (σ124 9 2).toInt ≤ 80 by omega)
             have I134 : jI12 σ124 := jI12_fr (congrFun (f126 12 (of_decide_eq_true rfl)) 0) (f126 13 (of_decide_eq_true rfl)) hI12
             have p135 : jNd12 σ124 := jNd12.fr (congrFun (f126 12 (of_decide_eq_true rfl)) 0) (congrFun (f126 12 (of_decide_eq_true rfl)) 1) (f126 13 (of_decide_eq_true rfl)) hs_jNd12
             have z136 : (σ124 9 1).toInt = (σ 9 1).toInt := (congrArg Int32.toInt (show σ124 9 1 = (σ 9 1) from (f127 1 (of_decide_eq_true rfl))))
             have z137 : (σ124 12 0).toInt = (σ 12 0).toInt := (congrArg Int32.toInt (show σ124 12 0 = (σ 12 0) from (congrFun (f126 12 (of_decide_eq_true rfl)) 0)))
             exact by exact hret σ124 τ _ _ _ _ ⟨rfl, (fun i hi => (f126 i (imp_59 i hi))), (fun i hi => (f127 i (imp_43 i hi))), (fun i hi => (congrFun (f126 12 (of_decide_eq_true rfl)) i)), I131, I132, I133, I134, p135, (jCp.bad (by omega) (by omega) (by rw [k16]; omega) (by omega) (by omega) (by omega)), (by omega), (by omega), (by omega), (by omega), trivial⟩ hP hS dX7_operand_191
         · have kc122 := jnle c122 jz_6 t1
           refine lv_iload_n hx hb dX7_operand_77 rfl (lv_at hl 0 rfl) ?_
           refine lv_bipush (v := 33) hx hb dX7_operand_78 (of_decide_eq_true rfl) ?_
           refine lv_icmp_eq (tgt := 89) hx hb dX7_operand_80 (of_decide_eq_true rfl) (fun c138 => ?_) (fun c138 => ?_)
           · have kc138 := jeq c138 rfl jz_33
             refine lv_aload_n hx hb dX7_operand_89 rfl (lv_at hl 1 rfl) ?_
             refine lv_dup hx hb dX7_operand_90 rfl ?_
             refine va_get (D := D) hx hb hts inlX7 hown hK hP 9 (jc_9 cI cL ad σ τ) rfl 1 (of_decide_eq_true rfl) (hts _ kw_13_17) (fun _ h9 => h9) rfl dX7_operand_91 ?_
             refine lv_iconst (v := 1) hx hb dX7_operand_94 (of_decide_eq_true rfl) ?_
             have g139 := jrg (rfl : (σ 9 1).toInt = (σ 9 1).toInt)
             refine lv_iadd hx hb dX7_operand_95 ?_
             refine lv_topi (fun x140 ex140 => ?_)
             exact by
              have tx140 : x140.toInt = (σ 9 1).toInt + 1 := (jadd ex140 rfl jz_1 (by omega) (by omega)).trans (by omega)
              refine jput (ty := .int) hx hb hts inlX7 tyX7 tyX7_ok nmX7 hown hK hP hJ hA hS (jc_9 cI cL ad σ τ) rfl (k := 1) (of_decide_eq_true rfl) (Nat.le_of_ble_eq_true rfl) (jp_9_1 cI cL ad σ τ x140) (hts _ kw_13_17) (fun _ h9 => h9) rfl (by decide +kernel) rfl rfl dX7_operand_96 (fun σ141 H locs eσ141 hP hS => ?_)
              refine lv_aload_n hx hb dX7_operand_99 rfl (lv_at hl 1 rfl) ?_
              refine lv_iload_n hx hb dX7_operand_100 rfl (lv_at hl 2 rfl) ?_
              refine lv_iconst (v := 1) hx hb dX7_operand_101 (of_decide_eq_true rfl) ?_
              refine lv_iadd hx hb dX7_operand_102 ?_
              refine lv_topi (fun x142 ex142 => ?_)
              have tx142 : x142.toInt = A1 + 1 := (jadd ex142 t1 jz_1 (by omega) (by omega)).trans (by omega)
              have I143 : jI9 σ141 := jI9_fr (jkp 0 eσ141 (of_decide_eq_true rfl)) (jnp 10 eσ141 (of_decide_eq_true rfl)) (jnp 11 eσ141 (of_decide_eq_true rfl)) hI9
              exact by
               have z144 : (σ141 9 1).toInt = (σ 9 1).toInt + 1 := ((congrArg Int32.toInt (show σ141 9 1 = x140 from (jsp eσ141))).trans tx140)
               have z145 : (σ141 9 0).toInt = (σ 9 0).toInt := (congrArg Int32.toInt (show σ141 9 0 = (σ 9 0) from (jkp 0 eσ141 (of_decide_eq_true rfl))))
               have I146 : jI91 σ141 := ⟨(by omega), (by omega)⟩
               have I147 : jI92 σ141 := jI92_fr (jkp 2 eσ141 (of_decide_eq_true rfl)) hI92
               have I148 : jI12 σ141 := jI12_fr (congrFun (jnp 12 eσ141 (of_decide_eq_true rfl)) 0) (jnp 13 eσ141 (of_decide_eq_true rfl)) hI12
               have p149 : jNd12 σ141 := jNd12.fr (congrFun (jnp 12 eσ141 (of_decide_eq_true rfl)) 0) (congrFun (jnp 12 eσ141 (of_decide_eq_true rfl)) 1) (jnp 13 eσ141 (of_decide_eq_true rfl)) hs_jNd12
               have z150 : (σ141 9 2).toInt = (σ 9 2).toInt := (congrArg Int32.toInt (show σ141 9 2 = (σ 9 2) from (jkp 2 eσ141 (of_decide_eq_true rfl))))
               have z151 : (σ141 12 0).toInt = (σ 12 0).toInt := (congrArg Int32.toInt (show σ141 12 0 = (σ 12 0) from (congrFun (jnp 12 eσ141 (of_decide_eq_true rfl)) 0)))
               refine jcallVv (As := [.int x142]) (rest := []) ⟨hx, hb, hml, hown, hts⟩ hK hP hA hS hZ (h_op σ141 τ x142 (A1 + 1) tx142 I143 I146 I147 I148 p149 (by omega) (by omega) (by omega) (by omega)) cw_RX7_95 (jc_9 cI cL ad σ141 τ) rfl ⟨by dsimp only; omega, by dsimp only; omega⟩ rfl rfl rfl hl.1 rfl (Nat.le_of_ble_eq_true rfl) dX7_operand_103 ⟨Nat.zero_le _, Nat.zero_le _⟩ (fun σ152 τ152 H locs h152 hP hS => ?_)
               exact by
                obtain ⟨rfl, f154, f155, f156, I157, I158, I159, I160, p161, w162, h152⟩ := h152
                obtain ⟨i164, w165, w166⟩ : (0 ≤ (σ152 9 0).toInt ∧ (σ152 9 0).toInt ≤ 80) ∧ (∀ k : Nat, k < 80 → 0 ≤ (σ152 10 k).toInt ∧ (σ152 10 k).toInt ≤ 255) ∧ (∀ k : Nat, k < 8 → 0 ≤ (σ152 11 k).toInt ∧ (σ152 11 k).toInt ≤ 3) := id I157
                obtain ⟨i167, i168⟩ : (0 ≤ (σ152 9 1).toInt) ∧ ((σ152 9 1).toInt ≤ (σ152 9 0).toInt) := id I158
                have i169 : (-1) ≤ (σ152 9 2).toInt ∧ (σ152 9 2).toInt ≤ 80 := I159
                obtain ⟨i170, w171⟩ : (0 ≤ (σ152 12 0).toInt ∧ (σ152 12 0).toInt ≤ 160) ∧ (∀ k : Nat, k < 160 → 0 ≤ (σ152 13 k).toInt ∧ (σ152 13 k).toInt ≤ 30000) := id I160
                try rw [show (σ141 9 1).toInt = (σ 9 1).toInt + 1 from by omega] at w162
                try rw [show (σ141 9 0).toInt = (σ 9 0).toInt from by omega] at w162
                try rw [show σ141 10 = σ 10 from (jnp 10 eσ141 (of_decide_eq_true rfl))] at w162
                try rw [show σ141 13 = σ 13 from by rw [jnp 13 eσ141 (of_decide_eq_true rfl)]] at w162
                try rw [show (σ141 12 0).toInt = (σ 12 0).toInt from by omega] at w162
                have z172 : (σ152 9 0).toInt = (σ 9 0).toInt := (congrArg Int32.toInt (show σ152 9 0 = (σ 9 0) from ((f155 0 (of_decide_eq_true rfl)).trans (jkp 0 eσ141 (of_decide_eq_true rfl)))))
                obtain ⟨k173, k174, k175, k176, h152⟩ := h152
                refine lv_aload_n hx hb dX7_operand_106 rfl (lv_at hl 1 rfl) ?_
                refine va_get (D := D) hx hb hts inlX7 hown hK hP 9 (jc_9 cI cL ad σ152 τ) rfl 5 (of_decide_eq_true rfl) (hts _ kw_3_23) (fun _ h9 => h9) rfl dX7_operand_107 ?_
                refine lv_sipush (v := 20000) hx hb dX7_operand_110 (of_decide_eq_true rfl) ?_
                refine lv_iload_n hx hb dX7_operand_113 rfl (lv_at hl 0 rfl) ?_
                refine lv_bipush (v := 33) hx hb dX7_operand_114 (of_decide_eq_true rfl) ?_
                exact by
                 refine lv_icmp_ne (tgt := 124) hx hb dX7_operand_116 (of_decide_eq_true rfl) (fun c => absurd (jne c rfl jz_33) (by omega)) (fun c177 => ?_)
                 have kc177 := jeq c177 rfl jz_33
                 refine lv_bipush (v := 33) hx hb dX7_operand_119 (of_decide_eq_true rfl) ?_
                 refine lv_goto (tgt := 126) hx hb dX7_operand_121 (of_decide_eq_true rfl) ?_
                 refine lv_iadd hx hb dX7_operand_126 ?_
                 refine jtopr (y := 20033) (of_decide_eq_true rfl) ?_
                 refine jcallVv (As := [.int 20033]) (rest := []) ⟨hx, hb, hml, hown, hts⟩ hK hP hA hS hZ (c_X10_add_12 l D cI cL ad zz hJ σ152 τ 20033 (20033) jz_20033 I160 p161 (by omega) (by omega)) cw_RX7_86 (jc_12 cI cL ad σ152 τ) rfl ⟨by dsimp only; omega, by dsimp only; omega⟩ rfl rfl rfl hl.1 rfl (Nat.le_of_ble_eq_true rfl) dX7_operand_127 ⟨Nat.zero_le _, Nat.zero_le _⟩ (fun σ178 τ178 H locs h178 hP hS => ?_)
                 obtain ⟨rfl, f180, f181, I182, p183, w184, h178⟩ := h178
                 obtain ⟨i186, w187⟩ : (0 ≤ (σ178 12 0).toInt ∧ (σ178 12 0).toInt ≤ 160) ∧ (∀ k : Nat, k < 160 → 0 ≤ (σ178 13 k).toInt ∧ (σ178 13 k).toInt ≤ 30000) := id I182
                 exact by
                  obtain ⟨k188, h178⟩ := h178
                  refine lv_goto (tgt := 191) hx hb dX7_operand_130 (of_decide_eq_true rfl) ?_
                  have I189 : jI9 σ178 := jI9_fr (congrFun (f180 9 (of_decide_eq_true rfl)) 0) (f180 10 (of_decide_eq_true rfl)) (f180 11 (of_decide_eq_true rfl)) I157
                  have I190 : jI91 σ178 := jI91_fr (congrFun (f180 9 (of_decide_eq_true rfl)) 0) (congrFun (f180 9 (of_decide_eq_true rfl)) 1) I158
                  have I191 : jI92 σ178 := jI92_fr (congrFun (f180 9 (of_decide_eq_true rfl)) 2) I159
                  have z192 : (σ178 9 1).toInt = (σ152 9 1).toInt := (congrArg Int32.toInt (show σ178 9 1 = (σ152 9 1) from (congrFun (f180 9 (of_decide_eq_true rfl)) 1)))
                  have z193 : (σ178 9 2).toInt = (σ152 9 2).toInt := (congrArg Int32.toInt (show σ178 9 2 = (σ152 9 2) from (congrFun (f180 9 (of_decide_eq_true rfl)) 2)))
                  exact by exact hret σ178 τ _ _ _ _ ⟨rfl, (fun i hi => ((f180 i (imp_58 i hi)).trans ((f154 i hi).trans (jnp i eσ141 (imp_60 i hi))))), (fun i hi => ((congrFun (f180 9 (of_decide_eq_true rfl)) i).trans ((f155 i hi).trans (jkp i eσ141 (imp_39 i hi))))), (fun i hi => ((f181 i hi).trans ((f156 i hi).trans (congrFun (jnp 12 eσ141 (of_decide_eq_true rfl)) i)))), I189, I190, I191, I182, p183, (jCp.to (jCp.sgn (by omega) (by omega) w162 (by omega) (by omega) w184 (by rw [if_pos (by omega)]; have h9 := jz_20033; omega) (show (σ178 12 0).toInt = (σ152 12 0).toInt + 1 by omega) (by omega)) (by omega) (by omega) rfl rfl), (by omega), (by omega), (by omega), (by omega), trivial⟩ hP hS dX7_operand_191
           · have kc138 := jne c138 rfl jz_33
             refine lv_iload_n hx hb dX7_operand_83 rfl (lv_at hl 0 rfl) ?_
             refine lv_bipush (v := 45) hx hb dX7_operand_84 (of_decide_eq_true rfl) ?_
             refine lv_icmp_ne (tgt := 133) hx hb dX7_operand_86 (of_decide_eq_true rfl) (fun c194 => ?_) (fun c194 => ?_)
             · have kc194 := jne c194 rfl jz_45
               refine lv_iload_n hx hb dX7_operand_133 rfl (lv_at hl 2 rfl) ?_
               refine lv_bipush (v := 6) hx hb dX7_operand_134 (of_decide_eq_true rfl) ?_
               exact by
                refine lv_icmp_ge (tgt := 183) hx hb dX7_operand_136 (of_decide_eq_true rfl) (fun c => absurd (jle c jz_6 t1) (by omega)) (fun c195 => ?_)
                have kc195 := jnle c195 jz_6 t1
                refine lv_iload_n hx hb dX7_operand_139 rfl (lv_at hl 0 rfl) ?_
                refine lv_bipush (v := 40) hx hb dX7_operand_140 (of_decide_eq_true rfl) ?_
                refine lv_icmp_ne (tgt := 183) hx hb dX7_operand_142 (of_decide_eq_true rfl) (fun c196 => ?_) (fun c196 => ?_)
                · have kc196 := jne c196 rfl jz_40
                  refine lv_aload_n hx hb dX7_operand_183 rfl (lv_at hl 1 rfl) ?_
                  refine lv_aload_n hx hb dX7_operand_184 rfl (lv_at hl 1 rfl) ?_
                  refine va_get (D := D) hx hb hts inlX7 hown hK hP 9 (jc_9 cI cL ad σ τ) rfl 1 (of_decide_eq_true rfl) (hts _ kw_13_17) (fun _ h9 => h9) rfl dX7_operand_185 ?_
                  exact by
                   refine jcallVv (As := [.int (σ 9 1)]) (rest := []) ⟨hx, hb, hml, hown, hts⟩ hK hP hA hS hZ (c_X7_fail_9 l D cI cL ad zz hJ σ τ (σ 9 1) ((σ 9 1).toInt) rfl hI92 (by omega)) cw_RX7_43 (jc_9 cI cL ad σ τ) rfl ⟨by dsimp only; omega, by dsimp only; omega⟩ rfl rfl rfl hl.1 rfl (Nat.le_of_ble_eq_true rfl) dX7_operand_188 ⟨Nat.zero_le _, Nat.zero_le _⟩ (fun σ197 τ197 H locs h197 hP hS => ?_)
                   obtain ⟨rfl, f199, f200, h197⟩ := h197
                   obtain ⟨k202, k203, h197⟩ := h197
                   have I204 : jI9 σ197 := jI9_fr (f200 0 (of_decide_eq_true rfl)) (f199 10 (of_decide_eq_true rfl)) (f199 11 (of_decide_eq_true rfl)) hI9
                   have I205 : jI91 σ197 := jI91_fr (f200 0 (of_decide_eq_true rfl)) (f200 1 (of_decide_eq_true rfl)) hI91
                   have I206 : jI92 σ197 := (show (-1) ≤ (σ197 9 2).toInt ∧ (σ197 9 2).toInt ≤ 80 by omega)
                   have I207 : jI12 σ197 := jI12_fr (congrFun (f199 12 (of_decide_eq_true rfl)) 0) (f199 13 (of_decide_eq_true rfl)) hI12
                   have p208 : jNd12 σ197 := jNd12.fr (congrFun (f199 12 (of_decide_eq_true rfl)) 0) (congrFun (f199 12 (of_decide_eq_true rfl)) 1) (f199 13 (of_decide_eq_true rfl)) hs_jNd12
                   have z209 : (σ197 9 1).toInt = (σ 9 1).toInt := (congrArg Int32.toInt (show σ197 9 1 = (σ 9 1) from (f200 1 (of_decide_eq_true rfl))))
                   have z210 : (σ197 12 0).toInt = (σ 12 0).toInt := (congrArg Int32.toInt (show σ197 12 0 = (σ 12 0) from (congrFun (f199 12 (of_decide_eq_true rfl)) 0)))
                   exact by exact hret σ197 τ _ _ _ _ ⟨rfl, (fun i hi => (f199 i (imp_59 i hi))), (fun i hi => (f200 i (imp_43 i hi))), (fun i hi => (congrFun (f199 12 (of_decide_eq_true rfl)) i)), I204, I205, I206, I207, p208, (jCp.bad (by omega) (by omega) (by rw [k16]; omega) (by omega) (by omega) (by omega)), (by omega), (by omega), (by omega), (by omega), trivial⟩ hP hS dX7_operand_191
                · have kc196 := jeq c196 rfl jz_40
                  refine lv_aload_n hx hb dX7_operand_145 rfl (lv_at hl 1 rfl) ?_
                  refine lv_dup hx hb dX7_operand_146 rfl ?_
                  refine va_get (D := D) hx hb hts inlX7 hown hK hP 9 (jc_9 cI cL ad σ τ) rfl 1 (of_decide_eq_true rfl) (hts _ kw_13_17) (fun _ h9 => h9) rfl dX7_operand_147 ?_
                  refine lv_iconst (v := 1) hx hb dX7_operand_150 (of_decide_eq_true rfl) ?_
                  have g211 := jrg (rfl : (σ 9 1).toInt = (σ 9 1).toInt)
                  refine lv_iadd hx hb dX7_operand_151 ?_
                  refine lv_topi (fun x212 ex212 => ?_)
                  exact by
                   have tx212 : x212.toInt = (σ 9 1).toInt + 1 := (jadd ex212 rfl jz_1 (by omega) (by omega)).trans (by omega)
                   refine jput (ty := .int) hx hb hts inlX7 tyX7 tyX7_ok nmX7 hown hK hP hJ hA hS (jc_9 cI cL ad σ τ) rfl (k := 1) (of_decide_eq_true rfl) (Nat.le_of_ble_eq_true rfl) (jp_9_1 cI cL ad σ τ x212) (hts _ kw_13_17) (fun _ h9 => h9) rfl (by decide +kernel) rfl rfl dX7_operand_152 (fun σ213 H locs eσ213 hP hS => ?_)
                   refine lv_aload_n hx hb dX7_operand_155 rfl (lv_at hl 1 rfl) ?_
                   refine lv_iconst (v := 0) hx hb dX7_operand_156 (of_decide_eq_true rfl) ?_
                   refine lv_iload_n hx hb dX7_operand_157 rfl (lv_at hl 2 rfl) ?_
                   refine lv_iconst (v := 1) hx hb dX7_operand_158 (of_decide_eq_true rfl) ?_
                   refine lv_iadd hx hb dX7_operand_159 ?_
                   refine lv_topi (fun x214 ex214 => ?_)
                   have tx214 : x214.toInt = A1 + 1 := (jadd ex214 t1 jz_1 (by omega) (by omega)).trans (by omega)
                   exact by
                    have I215 : jI9 σ213 := jI9_fr (jkp 0 eσ213 (of_decide_eq_true rfl)) (jnp 10 eσ213 (of_decide_eq_true rfl)) (jnp 11 eσ213 (of_decide_eq_true rfl)) hI9
                    have z216 : (σ213 9 1).toInt = (σ 9 1).toInt + 1 := ((congrArg Int32.toInt (show σ213 9 1 = x212 from (jsp eσ213))).trans tx212)
                    have z217 : (σ213 9 0).toInt = (σ 9 0).toInt := (congrArg Int32.toInt (show σ213 9 0 = (σ 9 0) from (jkp 0 eσ213 (of_decide_eq_true rfl))))
                    have I218 : jI91 σ213 := ⟨(by omega), (by omega)⟩
                    have I219 : jI92 σ213 := jI92_fr (jkp 2 eσ213 (of_decide_eq_true rfl)) hI92
                    have I220 : jI12 σ213 := jI12_fr (congrFun (jnp 12 eσ213 (of_decide_eq_true rfl)) 0) (jnp 13 eσ213 (of_decide_eq_true rfl)) hI12
                    have p221 : jNd12 σ213 := jNd12.fr (congrFun (jnp 12 eσ213 (of_decide_eq_true rfl)) 0) (congrFun (jnp 12 eσ213 (of_decide_eq_true rfl)) 1) (jnp 13 eσ213 (of_decide_eq_true rfl)) hs_jNd12
                    have z222 : (σ213 9 2).toInt = (σ 9 2).toInt := (congrArg Int32.toInt (show σ213 9 2 = (σ 9 2) from (jkp 2 eσ213 (of_decide_eq_true rfl))))
                    have z223 : (σ213 12 0).toInt = (σ 12 0).toInt := (congrArg Int32.toInt (show σ213 12 0 = (σ 12 0) from (congrFun (jnp 12 eσ213 (of_decide_eq_true rfl)) 0)))
                    exact by
                     refine jcallVv (As := [.int 0, .int x214]) (rest := []) ⟨hx, hb, hml, hown, hts⟩ hK hP hA hS hZ (h_p0 σ213 τ x214 (A1 + 1) tx214 I215 I218 I219 I220 p221 (by omega) (by omega) (by omega) (by omega)) cw_RX7_82 (jc_9 cI cL ad σ213 τ) rfl ⟨by dsimp only; omega, by dsimp only; omega⟩ rfl rfl rfl hl.1 rfl (Nat.le_of_ble_eq_true rfl) dX7_operand_160 ⟨Nat.zero_le _, Nat.zero_le _⟩ (fun σ224 τ224 H locs h224 hP hS => ?_)
                     obtain ⟨rfl, f226, f227, f228, I229, I230, I231, I232, p233, w234, h224⟩ := h224
                     obtain ⟨i236, w237, w238⟩ : (0 ≤ (σ224 9 0).toInt ∧ (σ224 9 0).toInt ≤ 80) ∧ (∀ k : Nat, k < 80 → 0 ≤ (σ224 10 k).toInt ∧ (σ224 10 k).toInt ≤ 255) ∧ (∀ k : Nat, k < 8 → 0 ≤ (σ224 11 k).toInt ∧ (σ224 11 k).toInt ≤ 3) := id I229
                     obtain ⟨i239, i240⟩ : (0 ≤ (σ224 9 1).toInt) ∧ ((σ224 9 1).toInt ≤ (σ224 9 0).toInt) := id I230
                     have i241 : (-1) ≤ (σ224 9 2).toInt ∧ (σ224 9 2).toInt ≤ 80 := I231
                     obtain ⟨i242, w243⟩ : (0 ≤ (σ224 12 0).toInt ∧ (σ224 12 0).toInt ≤ 160) ∧ (∀ k : Nat, k < 160 → 0 ≤ (σ224 13 k).toInt ∧ (σ224 13 k).toInt ≤ 30000) := id I232
                     try rw [show (σ213 9 1).toInt = (σ 9 1).toInt + 1 from by omega] at w234
                     try rw [show (σ213 9 0).toInt = (σ 9 0).toInt from by omega] at w234
                     try rw [show σ213 10 = σ 10 from (jnp 10 eσ213 (of_decide_eq_true rfl))] at w234
                     try rw [show σ213 13 = σ 13 from by rw [jnp 13 eσ213 (of_decide_eq_true rfl)]] at w234
                     try rw [show (σ213 12 0).toInt = (σ 12 0).toInt from by omega] at w234
                     have z244 : (σ224 9 0).toInt = (σ 9 0).toInt := (congrArg Int32.toInt (show σ224 9 0 = (σ 9 0) from ((f227 0 (of_decide_eq_true rfl)).trans (jkp 0 eσ213 (of_decide_eq_true rfl)))))
                     obtain ⟨k245, k246, k247, k248, h224⟩ := h224
                     refine lv_aload_n hx hb dX7_operand_163 rfl (lv_at hl 1 rfl) ?_
                     refine lv_bipush (v := 41) hx hb dX7_operand_164 (of_decide_eq_true rfl) ?_
                     exact by
                      refine jcallV (As := [.int 41]) (rest := []) ⟨hx, hb, hml, hown, hts⟩ hK hP hA hS hZ (c_X7_skip_9 l D cI cL ad zz hJ σ224 τ 41 (41) jz_41 I229 I230 I231 (by omega)) cw_RX7_50 (jc_9 cI cL ad σ224 τ) rfl ⟨by dsimp only; omega, by dsimp only; omega⟩ rfl rfl rfl hl.1 rfl (Nat.le_of_ble_eq_true rfl) dX7_operand_166 ⟨Nat.zero_le _, Nat.zero_le _⟩ (fun r250 σ249 τ249 H locs h249 hP hS => ?_)
                      obtain ⟨rfl, f251, f252, I253, I254, I255, h249⟩ := h249
                      obtain ⟨i257, w258, w259⟩ : (0 ≤ (σ249 9 0).toInt ∧ (σ249 9 0).toInt ≤ 80) ∧ (∀ k : Nat, k < 80 → 0 ≤ (σ249 10 k).toInt ∧ (σ249 10 k).toInt ≤ 255) ∧ (∀ k : Nat, k < 8 → 0 ≤ (σ249 11 k).toInt ∧ (σ249 11 k).toInt ≤ 3) := id I253
                      obtain ⟨i260, i261⟩ : (0 ≤ (σ249 9 1).toInt) ∧ ((σ249 9 1).toInt ≤ (σ249 9 0).toInt) := id I254
                      have i262 : (-1) ≤ (σ249 9 2).toInt ∧ (σ249 9 2).toInt ≤ 80 := I255
                      have z263 : (σ249 9 0).toInt = (σ 9 0).toInt := (congrArg Int32.toInt (show σ249 9 0 = (σ 9 0) from ((f252 0 (of_decide_eq_true rfl)).trans ((f227 0 (of_decide_eq_true rfl)).trans (jkp 0 eσ213 (of_decide_eq_true rfl))))))
                      have z264 : (σ249 9 2).toInt = (σ224 9 2).toInt := (congrArg Int32.toInt (show σ249 9 2 = (σ224 9 2) from (f252 2 (of_decide_eq_true rfl))))
                      rcases h249 with h265 | h266
                      · obtain ⟨q272, k267, k268, k269, k270, k271⟩ := h265
                        have q272 := q272.symm
                        subst q272
                        try rw [show (σ224 9 0).toInt = (σ 9 0).toInt from by omega] at k271
                        try rw [show σ224 10 = σ 10 from ((f226 10 (of_decide_eq_true rfl)).trans (jnp 10 eσ213 (of_decide_eq_true rfl)))] at k271
                        refine lv_if_ne (tgt := 191) hx hb dX7_operand_169 (of_decide_eq_true rfl) (fun _ => ?_) (fun c => absurd c (of_decide_eq_true rfl))
                        have I273 : jI12 σ249 := jI12_fr (congrFun (f251 12 (of_decide_eq_true rfl)) 0) (f251 13 (of_decide_eq_true rfl)) I232
                        have p274 : jNd12 σ249 := jNd12.fr (congrFun (f251 12 (of_decide_eq_true rfl)) 0) (congrFun (f251 12 (of_decide_eq_true rfl)) 1) (f251 13 (of_decide_eq_true rfl)) p233
                        have z275 : (σ249 12 0).toInt = (σ224 12 0).toInt := (congrArg Int32.toInt (show σ249 12 0 = (σ224 12 0) from (congrFun (f251 12 (of_decide_eq_true rfl)) 0)))
                        exact by exact hret σ249 τ _ _ _ _ ⟨rfl, (fun i hi => ((f251 i (imp_59 i hi)).trans ((f226 i hi).trans (jnp i eσ213 (imp_60 i hi))))), (fun i hi => ((f252 i (imp_55 i hi)).trans ((f227 i hi).trans (jkp i eσ213 (imp_39 i hi))))), (fun i hi => ((congrFun (f251 12 (of_decide_eq_true rfl)) i).trans ((f228 i hi).trans (congrFun (jnp 12 eσ213 (of_decide_eq_true rfl)) i)))), I253, I254, I255, I273, p274, (jCp.to (jCp.par (x := (σ249 9 2).toInt) (a := (σ249 9 1).toInt) (by omega) (by omega) w234 (by omega) (by omega) (Or.inr (Or.inl ⟨by omega, by omega, by omega, by omega, by omega⟩))) rfl rfl (f251 13 (of_decide_eq_true rfl)) (by omega)), (by omega), (by omega), (by omega), (by omega), trivial⟩ hP hS dX7_operand_191
                      · obtain ⟨q280, k276, k277, k278, k279⟩ := h266
                        have q280 := q280.symm
                        subst q280
                        try rw [show (σ224 9 0).toInt = (σ 9 0).toInt from by omega] at k279
                        try rw [show σ224 10 = σ 10 from ((f226 10 (of_decide_eq_true rfl)).trans (jnp 10 eσ213 (of_decide_eq_true rfl)))] at k279
                        refine lv_if_ne (tgt := 191) hx hb dX7_operand_169 (of_decide_eq_true rfl) (fun c => absurd (of_decide_eq_true rfl) c) (fun _ => ?_)
                        refine lv_aload_n hx hb dX7_operand_172 rfl (lv_at hl 1 rfl) ?_
                        refine lv_aload_n hx hb dX7_operand_173 rfl (lv_at hl 1 rfl) ?_
                        refine va_get (D := D) hx hb hts inlX7 hown hK hP 9 (jc_9 cI cL ad σ249 τ) rfl 1 (of_decide_eq_true rfl) (hts _ kw_13_17) (fun _ h9 => h9) rfl dX7_operand_174 ?_
                        exact by
                         refine jcallVv (As := [.int (σ249 9 1)]) (rest := []) ⟨hx, hb, hml, hown, hts⟩ hK hP hA hS hZ (c_X7_fail_9 l D cI cL ad zz hJ σ249 τ (σ249 9 1) ((σ249 9 1).toInt) rfl I255 (by omega)) cw_RX7_43 (jc_9 cI cL ad σ249 τ) rfl ⟨by dsimp only; omega, by dsimp only; omega⟩ rfl rfl rfl hl.1 rfl (Nat.le_of_ble_eq_true rfl) dX7_operand_177 ⟨Nat.zero_le _, Nat.zero_le _⟩ (fun σ281 τ281 H locs h281 hP hS => ?_)
                         obtain ⟨rfl, f283, f284, h281⟩ := h281
                         obtain ⟨k286, k287, h281⟩ := h281
                         refine lv_goto (tgt := 191) hx hb dX7_operand_180 (of_decide_eq_true rfl) ?_
                         have I288 : jI9 σ281 := jI9_fr (f284 0 (of_decide_eq_true rfl)) (f283 10 (of_decide_eq_true rfl)) (f283 11 (of_decide_eq_true rfl)) I253
                         have I289 : jI91 σ281 := jI91_fr (f284 0 (of_decide_eq_true rfl)) (f284 1 (of_decide_eq_true rfl)) I254
                         have I290 : jI92 σ281 := (show (-1) ≤ (σ281 9 2).toInt ∧ (σ281 9 2).toInt ≤ 80 by omega)
                         have I291 : jI12 σ281 := jI12_fr ((congrFun (f283 12 (of_decide_eq_true rfl)) 0).trans (congrFun (f251 12 (of_decide_eq_true rfl)) 0)) ((f283 13 (of_decide_eq_true rfl)).trans (f251 13 (of_decide_eq_true rfl))) I232
                         have p292 : jNd12 σ281 := jNd12.fr ((congrFun (f283 12 (of_decide_eq_true rfl)) 0).trans (congrFun (f251 12 (of_decide_eq_true rfl)) 0)) ((congrFun (f283 12 (of_decide_eq_true rfl)) 1).trans (congrFun (f251 12 (of_decide_eq_true rfl)) 1)) ((f283 13 (of_decide_eq_true rfl)).trans (f251 13 (of_decide_eq_true rfl))) p233
                         have z293 : (σ281 9 1).toInt = (σ249 9 1).toInt := (congrArg Int32.toInt (show σ281 9 1 = (σ249 9 1) from (f284 1 (of_decide_eq_true rfl))))
                         have z294 : (σ281 12 0).toInt = (σ224 12 0).toInt := (congrArg Int32.toInt (show σ281 12 0 = (σ224 12 0) from ((congrFun (f283 12 (of_decide_eq_true rfl)) 0).trans (congrFun (f251 12 (of_decide_eq_true rfl)) 0))))
                         have z295 : (σ224 9 2).toInt = -1 ∨ 0 ≤ (σ224 9 2).toInt := by omega
                         exact by exact hret σ281 τ _ _ _ _ ⟨rfl, (fun i hi => ((f283 i (imp_59 i hi)).trans ((f251 i (imp_59 i hi)).trans ((f226 i hi).trans (jnp i eσ213 (imp_60 i hi)))))), (fun i hi => ((f284 i (imp_43 i hi)).trans ((f252 i (imp_55 i hi)).trans ((f227 i hi).trans (jkp i eσ213 (imp_39 i hi)))))), (fun i hi => ((congrFun (f283 12 (of_decide_eq_true rfl)) i).trans ((congrFun (f251 12 (of_decide_eq_true rfl)) i).trans ((f228 i hi).trans (congrFun (jnp 12 eσ213 (of_decide_eq_true rfl)) i))))), I288, I289, I290, I291, p292, (jCp.to (jCp.par (x := (σ281 9 2).toInt) (a := (σ281 9 1).toInt) (by omega) (by omega) w234 (by omega) (by omega) (Or.elim z295 (fun z => Or.inr (Or.inr ⟨z, k279 (by omega), by omega⟩)) (fun z => Or.inl ⟨z, by omega⟩))) rfl rfl ((f283 13 (of_decide_eq_true rfl)).trans (f251 13 (of_decide_eq_true rfl))) (by omega)), (by omega), (by omega), (by omega), (by omega), trivial⟩ hP hS dX7_operand_191
             · have kc194 := jeq c194 rfl jz_45
               refine lv_aload_n hx hb dX7_operand_89 rfl (lv_at hl 1 rfl) ?_
               refine lv_dup hx hb dX7_operand_90 rfl ?_
               refine va_get (D := D) hx hb hts inlX7 hown hK hP 9 (jc_9 cI cL ad σ τ) rfl 1 (of_decide_eq_true rfl) (hts _ kw_13_17) (fun _ h9 => h9) rfl dX7_operand_91 ?_
               refine lv_iconst (v := 1) hx hb dX7_operand_94 (of_decide_eq_true rfl) ?_
               have g296 := jrg (rfl : (σ 9 1).toInt = (σ 9 1).toInt)
               refine lv_iadd hx hb dX7_operand_95 ?_
               refine lv_topi (fun x297 ex297 => ?_)
               exact by
                have tx297 : x297.toInt = (σ 9 1).toInt + 1 := (jadd ex297 rfl jz_1 (by omega) (by omega)).trans (by omega)
                refine jput (ty := .int) hx hb hts inlX7 tyX7 tyX7_ok nmX7 hown hK hP hJ hA hS (jc_9 cI cL ad σ τ) rfl (k := 1) (of_decide_eq_true rfl) (Nat.le_of_ble_eq_true rfl) (jp_9_1 cI cL ad σ τ x297) (hts _ kw_13_17) (fun _ h9 => h9) rfl (by decide +kernel) rfl rfl dX7_operand_96 (fun σ298 H locs eσ298 hP hS => ?_)
                refine lv_aload_n hx hb dX7_operand_99 rfl (lv_at hl 1 rfl) ?_
                refine lv_iload_n hx hb dX7_operand_100 rfl (lv_at hl 2 rfl) ?_
                refine lv_iconst (v := 1) hx hb dX7_operand_101 (of_decide_eq_true rfl) ?_
                refine lv_iadd hx hb dX7_operand_102 ?_
                refine lv_topi (fun x299 ex299 => ?_)
                have tx299 : x299.toInt = A1 + 1 := (jadd ex299 t1 jz_1 (by omega) (by omega)).trans (by omega)
                have I300 : jI9 σ298 := jI9_fr (jkp 0 eσ298 (of_decide_eq_true rfl)) (jnp 10 eσ298 (of_decide_eq_true rfl)) (jnp 11 eσ298 (of_decide_eq_true rfl)) hI9
                exact by
                 have z301 : (σ298 9 1).toInt = (σ 9 1).toInt + 1 := ((congrArg Int32.toInt (show σ298 9 1 = x297 from (jsp eσ298))).trans tx297)
                 have z302 : (σ298 9 0).toInt = (σ 9 0).toInt := (congrArg Int32.toInt (show σ298 9 0 = (σ 9 0) from (jkp 0 eσ298 (of_decide_eq_true rfl))))
                 have I303 : jI91 σ298 := ⟨(by omega), (by omega)⟩
                 have I304 : jI92 σ298 := jI92_fr (jkp 2 eσ298 (of_decide_eq_true rfl)) hI92
                 have I305 : jI12 σ298 := jI12_fr (congrFun (jnp 12 eσ298 (of_decide_eq_true rfl)) 0) (jnp 13 eσ298 (of_decide_eq_true rfl)) hI12
                 have p306 : jNd12 σ298 := jNd12.fr (congrFun (jnp 12 eσ298 (of_decide_eq_true rfl)) 0) (congrFun (jnp 12 eσ298 (of_decide_eq_true rfl)) 1) (jnp 13 eσ298 (of_decide_eq_true rfl)) hs_jNd12
                 have z307 : (σ298 9 2).toInt = (σ 9 2).toInt := (congrArg Int32.toInt (show σ298 9 2 = (σ 9 2) from (jkp 2 eσ298 (of_decide_eq_true rfl))))
                 have z308 : (σ298 12 0).toInt = (σ 12 0).toInt := (congrArg Int32.toInt (show σ298 12 0 = (σ 12 0) from (congrFun (jnp 12 eσ298 (of_decide_eq_true rfl)) 0)))
                 refine jcallVv (As := [.int x299]) (rest := []) ⟨hx, hb, hml, hown, hts⟩ hK hP hA hS hZ (h_op σ298 τ x299 (A1 + 1) tx299 I300 I303 I304 I305 p306 (by omega) (by omega) (by omega) (by omega)) cw_RX7_95 (jc_9 cI cL ad σ298 τ) rfl ⟨by dsimp only; omega, by dsimp only; omega⟩ rfl rfl rfl hl.1 rfl (Nat.le_of_ble_eq_true rfl) dX7_operand_103 ⟨Nat.zero_le _, Nat.zero_le _⟩ (fun σ309 τ309 H locs h309 hP hS => ?_)
                 exact by
                  obtain ⟨rfl, f311, f312, f313, I314, I315, I316, I317, p318, w319, h309⟩ := h309
                  obtain ⟨i321, w322, w323⟩ : (0 ≤ (σ309 9 0).toInt ∧ (σ309 9 0).toInt ≤ 80) ∧ (∀ k : Nat, k < 80 → 0 ≤ (σ309 10 k).toInt ∧ (σ309 10 k).toInt ≤ 255) ∧ (∀ k : Nat, k < 8 → 0 ≤ (σ309 11 k).toInt ∧ (σ309 11 k).toInt ≤ 3) := id I314
                  obtain ⟨i324, i325⟩ : (0 ≤ (σ309 9 1).toInt) ∧ ((σ309 9 1).toInt ≤ (σ309 9 0).toInt) := id I315
                  have i326 : (-1) ≤ (σ309 9 2).toInt ∧ (σ309 9 2).toInt ≤ 80 := I316
                  obtain ⟨i327, w328⟩ : (0 ≤ (σ309 12 0).toInt ∧ (σ309 12 0).toInt ≤ 160) ∧ (∀ k : Nat, k < 160 → 0 ≤ (σ309 13 k).toInt ∧ (σ309 13 k).toInt ≤ 30000) := id I317
                  try rw [show (σ298 9 1).toInt = (σ 9 1).toInt + 1 from by omega] at w319
                  try rw [show (σ298 9 0).toInt = (σ 9 0).toInt from by omega] at w319
                  try rw [show σ298 10 = σ 10 from (jnp 10 eσ298 (of_decide_eq_true rfl))] at w319
                  try rw [show σ298 13 = σ 13 from by rw [jnp 13 eσ298 (of_decide_eq_true rfl)]] at w319
                  try rw [show (σ298 12 0).toInt = (σ 12 0).toInt from by omega] at w319
                  have z329 : (σ309 9 0).toInt = (σ 9 0).toInt := (congrArg Int32.toInt (show σ309 9 0 = (σ 9 0) from ((f312 0 (of_decide_eq_true rfl)).trans (jkp 0 eσ298 (of_decide_eq_true rfl)))))
                  obtain ⟨k330, k331, k332, k333, h309⟩ := h309
                  refine lv_aload_n hx hb dX7_operand_106 rfl (lv_at hl 1 rfl) ?_
                  refine va_get (D := D) hx hb hts inlX7 hown hK hP 9 (jc_9 cI cL ad σ309 τ) rfl 5 (of_decide_eq_true rfl) (hts _ kw_3_23) (fun _ h9 => h9) rfl dX7_operand_107 ?_
                  refine lv_sipush (v := 20000) hx hb dX7_operand_110 (of_decide_eq_true rfl) ?_
                  refine lv_iload_n hx hb dX7_operand_113 rfl (lv_at hl 0 rfl) ?_
                  refine lv_bipush (v := 33) hx hb dX7_operand_114 (of_decide_eq_true rfl) ?_
                  exact by
                   refine lv_icmp_ne (tgt := 124) hx hb dX7_operand_116 (of_decide_eq_true rfl) (fun c334 => ?_) (fun c => absurd (jeq c rfl jz_33) (by omega))
                   have kc334 := jne c334 rfl jz_33
                   refine lv_bipush (v := 126) hx hb dX7_operand_124 (of_decide_eq_true rfl) ?_
                   refine lv_iadd hx hb dX7_operand_126 ?_
                   refine jtopr (y := 20126) (of_decide_eq_true rfl) ?_
                   refine jcallVv (As := [.int 20126]) (rest := []) ⟨hx, hb, hml, hown, hts⟩ hK hP hA hS hZ (c_X10_add_12 l D cI cL ad zz hJ σ309 τ 20126 (20126) jz_20126 I317 p318 (by omega) (by omega)) cw_RX7_86 (jc_12 cI cL ad σ309 τ) rfl ⟨by dsimp only; omega, by dsimp only; omega⟩ rfl rfl rfl hl.1 rfl (Nat.le_of_ble_eq_true rfl) dX7_operand_127 ⟨Nat.zero_le _, Nat.zero_le _⟩ (fun σ335 τ335 H locs h335 hP hS => ?_)
                   obtain ⟨rfl, f337, f338, I339, p340, w341, h335⟩ := h335
                   obtain ⟨i343, w344⟩ : (0 ≤ (σ335 12 0).toInt ∧ (σ335 12 0).toInt ≤ 160) ∧ (∀ k : Nat, k < 160 → 0 ≤ (σ335 13 k).toInt ∧ (σ335 13 k).toInt ≤ 30000) := id I339
                   obtain ⟨k345, h335⟩ := h335
                   exact by
                    refine lv_goto (tgt := 191) hx hb dX7_operand_130 (of_decide_eq_true rfl) ?_
                    have I346 : jI9 σ335 := jI9_fr (congrFun (f337 9 (of_decide_eq_true rfl)) 0) (f337 10 (of_decide_eq_true rfl)) (f337 11 (of_decide_eq_true rfl)) I314
                    have I347 : jI91 σ335 := jI91_fr (congrFun (f337 9 (of_decide_eq_true rfl)) 0) (congrFun (f337 9 (of_decide_eq_true rfl)) 1) I315
                    have I348 : jI92 σ335 := jI92_fr (congrFun (f337 9 (of_decide_eq_true rfl)) 2) I316
                    have z349 : (σ335 9 1).toInt = (σ309 9 1).toInt := (congrArg Int32.toInt (show σ335 9 1 = (σ309 9 1) from (congrFun (f337 9 (of_decide_eq_true rfl)) 1)))
                    have z350 : (σ335 9 2).toInt = (σ309 9 2).toInt := (congrArg Int32.toInt (show σ335 9 2 = (σ309 9 2) from (congrFun (f337 9 (of_decide_eq_true rfl)) 2)))
                    exact by exact hret σ335 τ _ _ _ _ ⟨rfl, (fun i hi => ((f337 i (imp_58 i hi)).trans ((f311 i hi).trans (jnp i eσ298 (imp_60 i hi))))), (fun i hi => ((congrFun (f337 9 (of_decide_eq_true rfl)) i).trans ((f312 i hi).trans (jkp i eσ298 (imp_39 i hi))))), (fun i hi => ((f338 i hi).trans ((f313 i hi).trans (congrFun (jnp 12 eσ298 (of_decide_eq_true rfl)) i)))), I346, I347, I348, I339, p340, (jCp.to (jCp.sgn (by omega) (by omega) w319 (by omega) (by omega) w341 (by rw [if_neg (by omega)]; have h9 := jz_20126; omega) (show (σ335 12 0).toInt = (σ309 12 0).toInt + 1 by omega) (by omega)) (by omega) (by omega) rfl rfl), (by omega), (by omega), (by omega), (by omega), trivial⟩ hP hS dX7_operand_191
   · obtain ⟨q353, k351, k352⟩ := h13
     have q353 := q353.symm
     subst q353
     refine lv_istore_n (lv' := [(2, .int (-1)), (0, .ref (ad 9)), (1, .int a1)]) hx hb dX7_operand_13 rfl hl (of_decide_eq_true rfl) rfl (fun ls hl => ?_)
     refine lv_iload_n hx hb dX7_operand_14 rfl (lv_at hl 0 rfl) ?_
     refine jcallS (As := [.int (-1)]) (rest := []) ⟨hx, hb, hml, hown, hts⟩ hK hP hA hS hZ (c_X7_isDigit l D cI cL ad zz hJ σ τ (-1) ((-1)) jz_m1) cw_RX7_39 ⟨by dsimp only; omega, by dsimp only; omega⟩ rfl rfl rfl hl.1 rfl (Nat.le_of_ble_eq_true rfl) dX7_operand_15 ⟨Nat.zero_le _, Nat.zero_le _⟩ (fun r355 σ354 τ354 H locs h354 hP hS => ?_)
     obtain ⟨⟨rfl, rfl⟩, h354⟩ := h354
     rcases h354 with h356 | h357
     · obtain ⟨q359, k358⟩ := h356
       exact absurd (by omega : False) id
     · obtain ⟨q361, k360⟩ := h357
       have q361 := q361.symm
       subst q361
       refine lv_if_eq (tgt := 36) hx hb dX7_operand_18 (of_decide_eq_true rfl) (fun _ => ?_) (fun c => absurd (of_decide_eq_true rfl) c)
       refine lv_iload_n hx hb dX7_operand_36 rfl (lv_at hl 0 rfl) ?_
       refine jcallS (As := [.int (-1)]) (rest := []) ⟨hx, hb, hml, hown, hts⟩ hK hP hA hS hZ (c_X7_nameOf l D cI cL ad zz hJ σ τ (-1) ((-1)) jz_m1) cw_RX7_101 ⟨by dsimp only; omega, by dsimp only; omega⟩ rfl rfl rfl hl.1 rfl (Nat.le_of_ble_eq_true rfl) dX7_operand_37 ⟨Nat.zero_le _, Nat.zero_le _⟩ (fun r363 σ362 τ362 H locs h362 hP hS => ?_)
       obtain ⟨⟨rfl, rfl⟩, h362⟩ := h362
       rcases h362 with h364 | h365
       · obtain ⟨q369, k366, k367, k368⟩ := h364
         exact absurd (by omega : False) id
       · obtain ⟨q371, k370⟩ := h365
         have q371 := q371.symm
         subst q371
         have z372 := jz_m1
         refine lv_if_lt (tgt := 71) hx hb dX7_operand_40 (of_decide_eq_true rfl) (fun _ => ?_) (fun c => absurd (of_decide_eq_true rfl) c)
         refine lv_iload_n hx hb dX7_operand_71 rfl (lv_at hl 2 rfl) ?_
         refine lv_bipush (v := 6) hx hb dX7_operand_72 (of_decide_eq_true rfl) ?_
         refine lv_icmp_ge (tgt := 133) hx hb dX7_operand_74 (of_decide_eq_true rfl) (fun c373 => ?_) (fun c373 => ?_)
         · have kc373 := jle c373 jz_6 t1
           refine lv_iload_n hx hb dX7_operand_133 rfl (lv_at hl 2 rfl) ?_
           refine lv_bipush (v := 6) hx hb dX7_operand_134 (of_decide_eq_true rfl) ?_
           exact by
            refine lv_icmp_ge (tgt := 183) hx hb dX7_operand_136 (of_decide_eq_true rfl) (fun c374 => ?_) (fun c => absurd (jnle c jz_6 t1) (by omega))
            have kc374 := jle c374 jz_6 t1
            refine lv_aload_n hx hb dX7_operand_183 rfl (lv_at hl 1 rfl) ?_
            refine lv_aload_n hx hb dX7_operand_184 rfl (lv_at hl 1 rfl) ?_
            refine va_get (D := D) hx hb hts inlX7 hown hK hP 9 (jc_9 cI cL ad σ τ) rfl 1 (of_decide_eq_true rfl) (hts _ kw_13_17) (fun _ h9 => h9) rfl dX7_operand_185 ?_
            refine jcallVv (As := [.int (σ 9 1)]) (rest := []) ⟨hx, hb, hml, hown, hts⟩ hK hP hA hS hZ (c_X7_fail_9 l D cI cL ad zz hJ σ τ (σ 9 1) ((σ 9 1).toInt) rfl hI92 (by omega)) cw_RX7_43 (jc_9 cI cL ad σ τ) rfl ⟨by dsimp only; omega, by dsimp only; omega⟩ rfl rfl rfl hl.1 rfl (Nat.le_of_ble_eq_true rfl) dX7_operand_188 ⟨Nat.zero_le _, Nat.zero_le _⟩ (fun σ375 τ375 H locs h375 hP hS => ?_)
            obtain ⟨rfl, f377, f378, h375⟩ := h375
            obtain ⟨k380, k381, h375⟩ := h375
            have I382 : jI9 σ375 := jI9_fr (f378 0 (of_decide_eq_true rfl)) (f377 10 (of_decide_eq_true rfl)) (f377 11 (of_decide_eq_true rfl)) hI9
            exact by
             have I383 : jI91 σ375 := jI91_fr (f378 0 (of_decide_eq_true rfl)) (f378 1 (of_decide_eq_true rfl)) hI91
             have I384 : jI92 σ375 := (show (-1) ≤ (σ375 9 2).toInt ∧ (σ375 9 2).toInt ≤ 80 by omega)
             have I385 : jI12 σ375 := jI12_fr (congrFun (f377 12 (of_decide_eq_true rfl)) 0) (f377 13 (of_decide_eq_true rfl)) hI12
             have p386 : jNd12 σ375 := jNd12.fr (congrFun (f377 12 (of_decide_eq_true rfl)) 0) (congrFun (f377 12 (of_decide_eq_true rfl)) 1) (f377 13 (of_decide_eq_true rfl)) hs_jNd12
             have z387 : (σ375 9 1).toInt = (σ 9 1).toInt := (congrArg Int32.toInt (show σ375 9 1 = (σ 9 1) from (f378 1 (of_decide_eq_true rfl))))
             have z388 : (σ375 12 0).toInt = (σ 12 0).toInt := (congrArg Int32.toInt (show σ375 12 0 = (σ 12 0) from (congrFun (f377 12 (of_decide_eq_true rfl)) 0)))
             exact by exact hret σ375 τ _ _ _ _ ⟨rfl, (fun i hi => (f377 i (imp_59 i hi))), (fun i hi => (f378 i (imp_43 i hi))), (fun i hi => (congrFun (f377 12 (of_decide_eq_true rfl)) i)), I382, I383, I384, I385, p386, (jCp.bad (by omega) (by omega) (by rw [k352]; omega) (by omega) (by omega) (by omega)), (by omega), (by omega), (by omega), (by omega), trivial⟩ hP hS dX7_operand_191
         · have kc373 := jnle c373 jz_6 t1
           refine lv_iload_n hx hb dX7_operand_77 rfl (lv_at hl 0 rfl) ?_
           refine lv_bipush (v := 33) hx hb dX7_operand_78 (of_decide_eq_true rfl) ?_
           refine lv_icmp_eq (tgt := 89) hx hb dX7_operand_80 (of_decide_eq_true rfl) (fun c => absurd c (of_decide_eq_true rfl)) (fun _ => ?_)
           refine lv_iload_n hx hb dX7_operand_83 rfl (lv_at hl 0 rfl) ?_
           refine lv_bipush (v := 45) hx hb dX7_operand_84 (of_decide_eq_true rfl) ?_
           refine lv_icmp_ne (tgt := 133) hx hb dX7_operand_86 (of_decide_eq_true rfl) (fun _ => ?_) (fun c => absurd c (of_decide_eq_true rfl))
           refine lv_iload_n hx hb dX7_operand_133 rfl (lv_at hl 2 rfl) ?_
           refine lv_bipush (v := 6) hx hb dX7_operand_134 (of_decide_eq_true rfl) ?_
           exact by
            refine lv_icmp_ge (tgt := 183) hx hb dX7_operand_136 (of_decide_eq_true rfl) (fun c => absurd (jle c jz_6 t1) (by omega)) (fun c389 => ?_)
            have kc389 := jnle c389 jz_6 t1
            refine lv_iload_n hx hb dX7_operand_139 rfl (lv_at hl 0 rfl) ?_
            refine lv_bipush (v := 40) hx hb dX7_operand_140 (of_decide_eq_true rfl) ?_
            refine lv_icmp_ne (tgt := 183) hx hb dX7_operand_142 (of_decide_eq_true rfl) (fun _ => ?_) (fun c => absurd c (of_decide_eq_true rfl))
            refine lv_aload_n hx hb dX7_operand_183 rfl (lv_at hl 1 rfl) ?_
            refine lv_aload_n hx hb dX7_operand_184 rfl (lv_at hl 1 rfl) ?_
            refine va_get (D := D) hx hb hts inlX7 hown hK hP 9 (jc_9 cI cL ad σ τ) rfl 1 (of_decide_eq_true rfl) (hts _ kw_13_17) (fun _ h9 => h9) rfl dX7_operand_185 ?_
            refine jcallVv (As := [.int (σ 9 1)]) (rest := []) ⟨hx, hb, hml, hown, hts⟩ hK hP hA hS hZ (c_X7_fail_9 l D cI cL ad zz hJ σ τ (σ 9 1) ((σ 9 1).toInt) rfl hI92 (by omega)) cw_RX7_43 (jc_9 cI cL ad σ τ) rfl ⟨by dsimp only; omega, by dsimp only; omega⟩ rfl rfl rfl hl.1 rfl (Nat.le_of_ble_eq_true rfl) dX7_operand_188 ⟨Nat.zero_le _, Nat.zero_le _⟩ (fun σ390 τ390 H locs h390 hP hS => ?_)
            exact by
             obtain ⟨rfl, f392, f393, h390⟩ := h390
             obtain ⟨k395, k396, h390⟩ := h390
             have I397 : jI9 σ390 := jI9_fr (f393 0 (of_decide_eq_true rfl)) (f392 10 (of_decide_eq_true rfl)) (f392 11 (of_decide_eq_true rfl)) hI9
             have I398 : jI91 σ390 := jI91_fr (f393 0 (of_decide_eq_true rfl)) (f393 1 (of_decide_eq_true rfl)) hI91
             have I399 : jI92 σ390 := (show (-1) ≤ (σ390 9 2).toInt ∧ (σ390 9 2).toInt ≤ 80 by omega)
             have I400 : jI12 σ390 := jI12_fr (congrFun (f392 12 (of_decide_eq_true rfl)) 0) (f392 13 (of_decide_eq_true rfl)) hI12
             have p401 : jNd12 σ390 := jNd12.fr (congrFun (f392 12 (of_decide_eq_true rfl)) 0) (congrFun (f392 12 (of_decide_eq_true rfl)) 1) (f392 13 (of_decide_eq_true rfl)) hs_jNd12
             have z402 : (σ390 9 1).toInt = (σ 9 1).toInt := (congrArg Int32.toInt (show σ390 9 1 = (σ 9 1) from (f393 1 (of_decide_eq_true rfl))))
             have z403 : (σ390 12 0).toInt = (σ 12 0).toInt := (congrArg Int32.toInt (show σ390 12 0 = (σ 12 0) from (congrFun (f392 12 (of_decide_eq_true rfl)) 0)))
             exact by exact hret σ390 τ _ _ _ _ ⟨rfl, (fun i hi => (f392 i (imp_59 i hi))), (fun i hi => (f393 i (imp_43 i hi))), (fun i hi => (congrFun (f392 12 (of_decide_eq_true rfl)) i)), I397, I398, I399, I400, p401, (jCp.bad (by omega) (by omega) (by rw [k352]; omega) (by omega) (by omega) (by omega)), (by omega), (by omega), (by omega), (by omega), trivial⟩ hP hS dX7_operand_191
set_option maxHeartbeats 4000000 in
set_option maxRecDepth 100000 in
theorem c_X7_grammar_op_z (l : Launch) (D : va_G) (cI cL : ClassId) (ad zz : Nat → Nat) (hJ : jD ad) (σ : Nat → Nat → Int32) (τ : Nat → Nat → Int64) (a1 : Int32) (A1 : Int) (t1 : a1.toInt = A1) (hI9 : jI9 σ) (hI91 : jI91 σ) (hI92 : jI92 σ) (hI12 : jI12 σ) (hs_jNd12 : jNd12 σ) (hp0 : 0 ≤ A1 ∧ A1 ≤ 6) (hp1 : -A1 + 6 ≤ (((0) : Nat) : Int)) (hp2 : (σ 9 2).toInt = (-1)) (hp3 : 3 * (σ 12 0).toInt ≤ 4 * (σ 9 1).toInt + 1) : jMv l yX7_operand cX7_operand 3 none ({ frames := (10 + 8 * (0)), cells := 0, slots := 0, locals := (400 + 360 * (0)) }) D cI cL ad zz [.ref (ad 9), .int a1] σ τ (fun σ' τ' => τ = τ' ∧ (∀ i : Nat, (i < 9 ∨ 9 < i) ∧ (i < 12 ∨ 13 < i) → σ' i = σ i) ∧ (∀ k : Nat, (k < 1 ∨ 1 < k) ∧ (k < 2 ∨ 2 < k) → σ' 9 k = σ 9 k) ∧ (∀ k : Nat, (k < 0 ∨ 0 < k) ∧ (k < 1 ∨ 1 < k) → σ' 12 k = σ 12 k) ∧ (jI9 σ') ∧ (jI91 σ') ∧ (jI92 σ') ∧ (jI12 σ') ∧ (jNd12 σ') ∧ (jCp (σ 10) (σ 9 0).toInt 5 (A1) (σ 9 1).toInt (σ' 9 1).toInt (σ' 9 2).toInt (σ 13) (σ' 13) (σ 12 0).toInt (σ' 12 0).toInt) ∧ ((σ 9 1).toInt ≤ (σ' 9 1).toInt) ∧ ((σ' 12 0).toInt - (σ 12 0).toInt ≤ (σ' 9 1).toInt - (σ 9 1).toInt) ∧ (3 * (σ' 12 0).toInt ≤ 4 * (σ' 9 1).toInt + 1) ∧ ((0 ≤ (σ' 9 2).toInt) ∨ ((σ 9 1).toInt + 1 ≤ (σ' 9 1).toInt)) ∧ True) := by
  refine jMv.of hJ (by decide +kernel) rfl (Nat.le_of_ble_eq_true rfl) ?_
  intro p e s m args below meth c Q ls hC hret hl hP
  obtain ⟨hx, hb, hr, hml, hown, hts, hK, -, hlocks, hZ⟩ := hC
  have hown : s.vm.findClass RX7 = some m.cls := hown
  have hS : va_S (jA ad) s.heap s.heap [] := va_S.rf
  have hA : ∀ q, jA ad q → jA ad q := fun _ h => h
  have hl : lv_has ls 3 [(0, .ref (ad 9)), (1, .int a1)] := hl
  have g1 := jrg t1
  obtain ⟨i1, w2, w3⟩ : (0 ≤ (σ 9 0).toInt ∧ (σ 9 0).toInt ≤ 80) ∧ (∀ k : Nat, k < 80 → 0 ≤ (σ 10 k).toInt ∧ (σ 10 k).toInt ≤ 255) ∧ (∀ k : Nat, k < 8 → 0 ≤ (σ 11 k).toInt ∧ (σ 11 k).toInt ≤ 3) := id hI9
  obtain ⟨i4, i5⟩ : (0 ≤ (σ 9 1).toInt) ∧ ((σ 9 1).toInt ≤ (σ 9 0).toInt) := id hI91
  have i6 : (-1) ≤ (σ 9 2).toInt ∧ (σ 9 2).toInt ≤ 80 := hI92
  obtain ⟨i7, w8⟩ : (0 ≤ (σ 12 0).toInt ∧ (σ 12 0).toInt ≤ 160) ∧ (∀ k : Nat, k < 160 → 0 ≤ (σ 13 k).toInt ∧ (σ 13 k).toInt ≤ 30000) := id hI12
  refine lv_aload_n hx hb dX7_operand_0 rfl (lv_at hl 0 rfl) ?_
  refine va_get (D := D) hx hb hts inlX7 hown hK hP 9 (jc_9 cI cL ad σ τ) rfl 2 (of_decide_eq_true rfl) (hts _ kw_14_6) (fun _ h9 => h9) rfl dX7_operand_1 ?_
  refine lv_iconst (v := (-1)) hx hb dX7_operand_4 (of_decide_eq_true rfl) ?_
  exact by
   refine lv_icmp_eq (tgt := 9) hx hb dX7_operand_5 (of_decide_eq_true rfl) (fun c9 => ?_) (fun c => absurd (jne c rfl jz_m1) (by omega))
   have kc9 := jeq c9 rfl jz_m1
   refine lv_aload_n hx hb dX7_operand_9 rfl (lv_at hl 0 rfl) ?_
   refine jcallV (As := []) (rest := []) ⟨hx, hb, hml, hown, hts⟩ hK hP hA hS hZ (c_X7_sign_9 l D cI cL ad zz hJ σ τ hI9) cw_RX7_35 (jc_9 cI cL ad σ τ) rfl ⟨by dsimp only; omega, by dsimp only; omega⟩ rfl rfl rfl hl.1 rfl (Nat.le_of_ble_eq_true rfl) dX7_operand_10 ⟨Nat.zero_le _, Nat.zero_le _⟩ (fun r11 σ10 τ10 H locs h10 hP hS => ?_)
   obtain ⟨⟨rfl, rfl⟩, h10⟩ := h10
   rcases h10 with h12 | h13
   · obtain ⟨q17, k14, k15, k16⟩ := h12
     have q18 : r11 = (σ 10 (σ 9 1).toNatClampNeg) := q17.trans rfl
     have q18 := q18.symm
     subst q18
     refine lv_istore_n (lv' := [(2, .int (σ 10 (σ 9 1).toNatClampNeg)), (0, .ref (ad 9)), (1, .int a1)]) hx hb dX7_operand_13 rfl hl (of_decide_eq_true rfl) rfl (fun ls hl => ?_)
     refine lv_iload_n hx hb dX7_operand_14 rfl (lv_at hl 0 rfl) ?_
     refine jcallS (As := [.int (σ 10 (σ 9 1).toNatClampNeg)]) (rest := []) ⟨hx, hb, hml, hown, hts⟩ hK hP hA hS hZ (c_X7_isDigit l D cI cL ad zz hJ σ τ (σ 10 (σ 9 1).toNatClampNeg) ((σ 10 (σ 9 1).toNatClampNeg).toInt) rfl) cw_RX7_39 ⟨by dsimp only; omega, by dsimp only; omega⟩ rfl rfl rfl hl.1 rfl (Nat.le_of_ble_eq_true rfl) dX7_operand_15 ⟨Nat.zero_le _, Nat.zero_le _⟩ (fun r20 σ19 τ19 H locs h19 hP hS => ?_)
     obtain ⟨⟨rfl, rfl⟩, h19⟩ := h19
     rcases h19 with h21 | h22
     · obtain ⟨q24, k23⟩ := h21
       have q24 := q24.symm
       subst q24
       refine lv_if_eq (tgt := 36) hx hb dX7_operand_18 (of_decide_eq_true rfl) (fun c => absurd c (of_decide_eq_true rfl)) (fun _ => ?_)
       refine lv_aload_n hx hb dX7_operand_21 rfl (lv_at hl 1 rfl) ?_
       refine va_get (D := D) hx hb hts inlX7 hown hK hP 9 (jc_9 cI cL ad σ τ) rfl 5 (of_decide_eq_true rfl) (hts _ kw_3_23) (fun _ h9 => h9) rfl dX7_operand_22 ?_
       refine lv_aload_n hx hb dX7_operand_25 rfl (lv_at hl 1 rfl) ?_
       refine lv_iconst (v := 4) hx hb dX7_operand_26 (of_decide_eq_true rfl) ?_
       exact by
        refine jcallV (As := [.int 4]) (rest := [.ref (ad 12)]) ⟨hx, hb, hml, hown, hts⟩ hK hP hA hS hZ (c_X7_number_4 l D cI cL ad zz hJ σ τ hI9 hI91 hI92 (by omega)) cw_RX7_53 (jc_9 cI cL ad σ τ) rfl ⟨by dsimp only; omega, by dsimp only; omega⟩ rfl rfl rfl hl.1 rfl (Nat.le_of_ble_eq_true rfl) dX7_operand_27 ⟨Nat.zero_le _, Nat.zero_le _⟩ (fun r26 σ25 τ25 H locs h25 hP hS => ?_)
        obtain ⟨rfl, f27, f28, I29, I30, I31, w32, h25⟩ := h25
        obtain ⟨i34, w35, w36⟩ : (0 ≤ (σ25 9 0).toInt ∧ (σ25 9 0).toInt ≤ 80) ∧ (∀ k : Nat, k < 80 → 0 ≤ (σ25 10 k).toInt ∧ (σ25 10 k).toInt ≤ 255) ∧ (∀ k : Nat, k < 8 → 0 ≤ (σ25 11 k).toInt ∧ (σ25 11 k).toInt ≤ 3) := id I29
        obtain ⟨i37, i38⟩ : (0 ≤ (σ25 9 1).toInt) ∧ ((σ25 9 1).toInt ≤ (σ25 9 0).toInt) := id I30
        have i39 : (-1) ≤ (σ25 9 2).toInt ∧ (σ25 9 2).toInt ≤ 80 := I31
        have k40 := w32 ⟨by omega, by omega⟩
        obtain ⟨k42, k43, k44⟩ := k40
        have k41 := jNq_r (σ 10) (σ 9 0).toInt (σ 9 1).toInt
        have z45 : (σ25 9 0).toInt = (σ 9 0).toInt := (congrArg Int32.toInt (show σ25 9 0 = (σ 9 0) from (f28 0 (of_decide_eq_true rfl))))
        obtain ⟨k46, h25⟩ := h25
        have h47 := h25
        obtain ⟨q49, k48⟩ := h47
        have I50 : jI12 σ25 := jI12_fr (congrFun (f27 12 (of_decide_eq_true rfl)) 0) (f27 13 (of_decide_eq_true rfl)) hI12
        have p51 : jNd12 σ25 := jNd12.fr (congrFun (f27 12 (of_decide_eq_true rfl)) 0) (congrFun (f27 12 (of_decide_eq_true rfl)) 1) (f27 13 (of_decide_eq_true rfl)) hs_jNd12
        have z52 : (σ25 12 0).toInt = (σ 12 0).toInt := (congrArg Int32.toInt (show σ25 12 0 = (σ 12 0) from (congrFun (f27 12 (of_decide_eq_true rfl)) 0)))
        exact by
         refine jcallVv (As := [.int r26]) (rest := []) ⟨hx, hb, hml, hown, hts⟩ hK hP hA hS hZ (c_X10_add_12 l D cI cL ad zz hJ σ25 τ r26 (r26.toInt) rfl I50 p51 (by omega) (by omega)) cw_RX7_86 (jc_12 cI cL ad σ25 τ) rfl ⟨by dsimp only; omega, by dsimp only; omega⟩ rfl rfl rfl hl.1 rfl (Nat.le_of_ble_eq_true rfl) dX7_operand_30 ⟨Nat.zero_le _, Nat.zero_le _⟩ (fun σ53 τ53 H locs h53 hP hS => ?_)
         obtain ⟨rfl, f55, f56, I57, p58, w59, h53⟩ := h53
         obtain ⟨i61, w62⟩ : (0 ≤ (σ53 12 0).toInt ∧ (σ53 12 0).toInt ≤ 160) ∧ (∀ k : Nat, k < 160 → 0 ≤ (σ53 13 k).toInt ∧ (σ53 13 k).toInt ≤ 30000) := id I57
         obtain ⟨k63, h53⟩ := h53
         refine lv_goto (tgt := 191) hx hb dX7_operand_33 (of_decide_eq_true rfl) ?_
         have I64 : jI9 σ53 := jI9_fr (congrFun (f55 9 (of_decide_eq_true rfl)) 0) (f55 10 (of_decide_eq_true rfl)) (f55 11 (of_decide_eq_true rfl)) I29
         have I65 : jI91 σ53 := jI91_fr (congrFun (f55 9 (of_decide_eq_true rfl)) 0) (congrFun (f55 9 (of_decide_eq_true rfl)) 1) I30
         have I66 : jI92 σ53 := jI92_fr (congrFun (f55 9 (of_decide_eq_true rfl)) 2) I31
         have z67 : (σ53 9 1).toInt = (σ25 9 1).toInt := (congrArg Int32.toInt (show σ53 9 1 = (σ25 9 1) from (congrFun (f55 9 (of_decide_eq_true rfl)) 1)))
         have z68 : (σ53 9 2).toInt = (σ25 9 2).toInt := (congrArg Int32.toInt (show σ53 9 2 = (σ25 9 2) from (congrFun (f55 9 (of_decide_eq_true rfl)) 2)))
         exact by exact hret σ53 τ _ _ _ _ ⟨rfl, (fun i hi => ((f55 i (imp_58 i hi)).trans (f27 i (imp_59 i hi)))), (fun i hi => ((congrFun (f55 9 (of_decide_eq_true rfl)) i).trans (f28 i hi))), (fun i hi => ((f56 i hi).trans (congrFun (f27 12 (of_decide_eq_true rfl)) i))), I64, I65, I66, I57, p58, (jCp.num (by omega) (by omega) (by omega) (by omega) (by omega) (by rw [w59, show σ25 13 = σ 13 from (f27 13 (of_decide_eq_true rfl)), show (σ25 12 0).toInt = (σ 12 0).toInt from by omega]) k43 (by omega)), (by omega), (by omega), (by omega), (by omega), trivial⟩ hP hS dX7_operand_191
     · obtain ⟨q70, k69⟩ := h22
       have q70 := q70.symm
       subst q70
       refine lv_if_eq (tgt := 36) hx hb dX7_operand_18 (of_decide_eq_true rfl) (fun _ => ?_) (fun c => absurd (of_decide_eq_true rfl) c)
       refine lv_iload_n hx hb dX7_operand_36 rfl (lv_at hl 0 rfl) ?_
       refine jcallS (As := [.int (σ 10 (σ 9 1).toNatClampNeg)]) (rest := []) ⟨hx, hb, hml, hown, hts⟩ hK hP hA hS hZ (c_X7_nameOf l D cI cL ad zz hJ σ τ (σ 10 (σ 9 1).toNatClampNeg) ((σ 10 (σ 9 1).toNatClampNeg).toInt) rfl) cw_RX7_101 ⟨by dsimp only; omega, by dsimp only; omega⟩ rfl rfl rfl hl.1 rfl (Nat.le_of_ble_eq_true rfl) dX7_operand_37 ⟨Nat.zero_le _, Nat.zero_le _⟩ (fun r72 σ71 τ71 H locs h71 hP hS => ?_)
       obtain ⟨⟨rfl, rfl⟩, h71⟩ := h71
       rcases h71 with h73 | h74
       · obtain ⟨q78, k75, k76, k77⟩ := h73
         exact by
          have z79 := jNm_hi (x := (σ 10 (σ 9 1).toNatClampNeg).toInt) (by omega)
          refine lv_if_lt (tgt := 71) hx hb dX7_operand_40 (of_decide_eq_true rfl) (fun c => absurd (jlt c rfl jz_0) (by omega)) (fun c80 => ?_)
          have kc80 := jnlt c80 rfl jz_0
          refine lv_aload_n hx hb dX7_operand_43 rfl (lv_at hl 1 rfl) ?_
          refine va_get (D := D) hx hb hts inlX7 hown hK hP 9 (jc_9 cI cL ad σ τ) rfl 5 (of_decide_eq_true rfl) (hts _ kw_3_23) (fun _ h9 => h9) rfl dX7_operand_44 ?_
          refine lv_sipush (v := 10000) hx hb dX7_operand_47 (of_decide_eq_true rfl) ?_
          refine lv_iload_n hx hb dX7_operand_50 rfl (lv_at hl 0 rfl) ?_
          refine jcallS (As := [.int (σ 10 (σ 9 1).toNatClampNeg)]) (rest := [.int 10000, .ref (ad 12)]) ⟨hx, hb, hml, hown, hts⟩ hK hP hA hS hZ (c_X7_nameOf l D cI cL ad zz hJ σ τ (σ 10 (σ 9 1).toNatClampNeg) ((σ 10 (σ 9 1).toNatClampNeg).toInt) rfl) cw_RX7_101 ⟨by dsimp only; omega, by dsimp only; omega⟩ rfl rfl rfl hl.1 rfl (Nat.le_of_ble_eq_true rfl) dX7_operand_51 ⟨Nat.zero_le _, Nat.zero_le _⟩ (fun r82 σ81 τ81 H locs h81 hP hS => ?_)
          obtain ⟨⟨rfl, rfl⟩, h81⟩ := h81
          exact by
           rcases h81 with h83 | h84
           · obtain ⟨q88, k85, k86, k87⟩ := h83
             have z89 := jNm_hi (x := (σ 10 (σ 9 1).toNatClampNeg).toInt) (by omega)
             have g90 := jrg (rfl : r82.toInt = r82.toInt)
             refine lv_iadd hx hb dX7_operand_54 ?_
             refine lv_topi (fun x91 ex91 => ?_)
             have tx91 : x91.toInt = r82.toInt + 10000 := (jadd ex91 jz_10000 rfl (by omega) (by omega)).trans (by omega)
             refine jcallVv (As := [.int x91]) (rest := []) ⟨hx, hb, hml, hown, hts⟩ hK hP hA hS hZ (c_X10_add_12 l D cI cL ad zz hJ σ τ x91 (r82.toInt + 10000) tx91 hI12 hs_jNd12 (by omega) (by omega)) cw_RX7_86 (jc_12 cI cL ad σ τ) rfl ⟨by dsimp only; omega, by dsimp only; omega⟩ rfl rfl rfl hl.1 rfl (Nat.le_of_ble_eq_true rfl) dX7_operand_55 ⟨Nat.zero_le _, Nat.zero_le _⟩ (fun σ92 τ92 H locs h92 hP hS => ?_)
             obtain ⟨rfl, f94, f95, I96, p97, w98, h92⟩ := h92
             exact by
              obtain ⟨i100, w101⟩ : (0 ≤ (σ92 12 0).toInt ∧ (σ92 12 0).toInt ≤ 160) ∧ (∀ k : Nat, k < 160 → 0 ≤ (σ92 13 k).toInt ∧ (σ92 13 k).toInt ≤ 30000) := id I96
              obtain ⟨k102, h92⟩ := h92
              refine lv_aload_n hx hb dX7_operand_58 rfl (lv_at hl 1 rfl) ?_
              refine lv_dup hx hb dX7_operand_59 rfl ?_
              refine va_get (D := D) hx hb hts inlX7 hown hK hP 9 (jc_9 cI cL ad σ92 τ) rfl 1 (of_decide_eq_true rfl) (hts _ kw_13_17) (fun _ h9 => h9) rfl dX7_operand_60 ?_
              have m103 : σ92 9 1 = (σ 9 1) := (congrFun (f94 9 (of_decide_eq_true rfl)) 1)
              refine jtopr m103 ?_
              refine lv_iconst (v := 1) hx hb dX7_operand_63 (of_decide_eq_true rfl) ?_
              have g104 := jrg (rfl : (σ 9 1).toInt = (σ 9 1).toInt)
              refine lv_iadd hx hb dX7_operand_64 ?_
              refine lv_topi (fun x105 ex105 => ?_)
              exact by
               have tx105 : x105.toInt = (σ 9 1).toInt + 1 := (jadd ex105 rfl jz_1 (by omega) (by omega)).trans (by omega)
               refine jput (ty := .int) hx hb hts inlX7 tyX7 tyX7_ok nmX7 hown hK hP hJ hA hS (jc_9 cI cL ad σ92 τ) rfl (k := 1) (of_decide_eq_true rfl) (Nat.le_of_ble_eq_true rfl) (jp_9_1 cI cL ad σ92 τ x105) (hts _ kw_13_17) (fun _ h9 => h9) rfl (by decide +kernel) rfl rfl dX7_operand_65 (fun σ106 H locs eσ106 hP hS => ?_)
               refine lv_goto (tgt := 191) hx hb dX7_operand_68 (of_decide_eq_true rfl) ?_
               have I107 : jI9 σ106 := jI9_fr ((jkp 0 eσ106 (of_decide_eq_true rfl)).trans (congrFun (f94 9 (of_decide_eq_true rfl)) 0)) ((jnp 10 eσ106 (of_decide_eq_true rfl)).trans (f94 10 (of_decide_eq_true rfl))) ((jnp 11 eσ106 (of_decide_eq_true rfl)).trans (f94 11 (of_decide_eq_true rfl))) hI9
               have z108 : (σ106 9 1).toInt = (σ 9 1).toInt + 1 := ((congrArg Int32.toInt (show σ106 9 1 = x105 from (jsp eσ106))).trans tx105)
               have z109 : (σ106 9 0).toInt = (σ 9 0).toInt := (congrArg Int32.toInt (show σ106 9 0 = (σ 9 0) from ((jkp 0 eσ106 (of_decide_eq_true rfl)).trans (congrFun (f94 9 (of_decide_eq_true rfl)) 0))))
               have I110 : jI91 σ106 := ⟨(by omega), (by omega)⟩
               have I111 : jI92 σ106 := jI92_fr ((jkp 2 eσ106 (of_decide_eq_true rfl)).trans (congrFun (f94 9 (of_decide_eq_true rfl)) 2)) hI92
               have I112 : jI12 σ106 := jI12_fr (congrFun (jnp 12 eσ106 (of_decide_eq_true rfl)) 0) (jnp 13 eσ106 (of_decide_eq_true rfl)) I96
               exact by
                have p113 : jNd12 σ106 := jNd12.fr (congrFun (jnp 12 eσ106 (of_decide_eq_true rfl)) 0) (congrFun (jnp 12 eσ106 (of_decide_eq_true rfl)) 1) (jnp 13 eσ106 (of_decide_eq_true rfl)) p97
                have z114 : (σ106 9 2).toInt = (σ 9 2).toInt := (congrArg Int32.toInt (show σ106 9 2 = (σ 9 2) from ((jkp 2 eσ106 (of_decide_eq_true rfl)).trans (congrFun (f94 9 (of_decide_eq_true rfl)) 2))))
                have z115 : (σ106 12 0).toInt = (σ92 12 0).toInt := (congrArg Int32.toInt (show σ106 12 0 = (σ92 12 0) from (congrFun (jnp 12 eσ106 (of_decide_eq_true rfl)) 0)))
                exact by exact hret σ106 τ _ _ _ _ ⟨rfl, (fun i hi => ((jnp i eσ106 (imp_60 i hi)).trans (f94 i (imp_58 i hi)))), (fun i hi => ((jkp i eσ106 (imp_39 i hi)).trans (congrFun (f94 9 (of_decide_eq_true rfl)) i))), (fun i hi => ((congrFun (jnp 12 eσ106 (of_decide_eq_true rfl)) i).trans (f95 i hi))), I107, I110, I111, I112, p113, (jCp.to (jCp.name (a := (σ106 9 1).toInt) (x := (σ106 9 2).toInt) (by omega) (by rw [k16]; omega) (by omega) (by omega) (by omega) (by omega) w98 (by rw [k16]; have h9 := tx91; omega) (show (σ92 12 0).toInt = (σ 12 0).toInt + 1 by omega)) rfl rfl (jnp 13 eσ106 (of_decide_eq_true rfl)) (by omega)), (by omega), (by omega), (by omega), (by omega), trivial⟩ hP hS dX7_operand_191
           · obtain ⟨q117, k116⟩ := h84
             have q117 := q117.symm
             subst q117
             have z118 := jz_m1
             exact absurd (by omega : False) id
       · obtain ⟨q120, k119⟩ := h74
         have q120 := q120.symm
         subst q120
         have z121 := jz_m1
         refine lv_if_lt (tgt := 71) hx hb dX7_operand_40 (of_decide_eq_true rfl) (fun _ => ?_) (fun c => absurd (of_decide_eq_true rfl) c)
         refine lv_iload_n hx hb dX7_operand_71 rfl (lv_at hl 2 rfl) ?_
         refine lv_bipush (v := 6) hx hb dX7_operand_72 (of_decide_eq_true rfl) ?_
         exact by
          refine lv_icmp_ge (tgt := 133) hx hb dX7_operand_74 (of_decide_eq_true rfl) (fun c122 => ?_) (fun c => absurd (jnle c jz_6 t1) (by omega))
          have kc122 := jle c122 jz_6 t1
          refine lv_iload_n hx hb dX7_operand_133 rfl (lv_at hl 2 rfl) ?_
          refine lv_bipush (v := 6) hx hb dX7_operand_134 (of_decide_eq_true rfl) ?_
          refine lv_icmp_ge (tgt := 183) hx hb dX7_operand_136 (of_decide_eq_true rfl) (fun c123 => ?_) (fun c => absurd (jnle c jz_6 t1) (by omega))
          have kc123 := jle c123 jz_6 t1
          refine lv_aload_n hx hb dX7_operand_183 rfl (lv_at hl 1 rfl) ?_
          refine lv_aload_n hx hb dX7_operand_184 rfl (lv_at hl 1 rfl) ?_
          refine va_get (D := D) hx hb hts inlX7 hown hK hP 9 (jc_9 cI cL ad σ τ) rfl 1 (of_decide_eq_true rfl) (hts _ kw_13_17) (fun _ h9 => h9) rfl dX7_operand_185 ?_
          exact by
           refine jcallVv (As := [.int (σ 9 1)]) (rest := []) ⟨hx, hb, hml, hown, hts⟩ hK hP hA hS hZ (c_X7_fail_9 l D cI cL ad zz hJ σ τ (σ 9 1) ((σ 9 1).toInt) rfl hI92 (by omega)) cw_RX7_43 (jc_9 cI cL ad σ τ) rfl ⟨by dsimp only; omega, by dsimp only; omega⟩ rfl rfl rfl hl.1 rfl (Nat.le_of_ble_eq_true rfl) dX7_operand_188 ⟨Nat.zero_le _, Nat.zero_le _⟩ (fun σ124 τ124 H locs h124 hP hS => ?_)
           obtain ⟨rfl, f126, f127, h124⟩ := h124
           obtain ⟨k129, k130, h124⟩ := h124
           have I131 : jI9 σ124 := jI9_fr (f127 0 (of_decide_eq_true rfl)) (f126 10 (of_decide_eq_true rfl)) (f126 11 (of_decide_eq_true rfl)) hI9
           have I132 : jI91 σ124 := jI91_fr (f127 0 (of_decide_eq_true rfl)) (f127 1 (of_decide_eq_true rfl)) hI91
           have I133 : jI92 σ124 := (show (-1) ≤ (σ124 9 2).toInt ∧ (σ124 9 2).toInt ≤ 80 by omega)
           have I134 : jI12 σ124 := jI12_fr (congrFun (f126 12 (of_decide_eq_true rfl)) 0) (f126 13 (of_decide_eq_true rfl)) hI12
           have p135 : jNd12 σ124 := jNd12.fr (congrFun (f126 12 (of_decide_eq_true rfl)) 0) (congrFun (f126 12 (of_decide_eq_true rfl)) 1) (f126 13 (of_decide_eq_true rfl)) hs_jNd12
           have z136 : (σ124 9 1).toInt = (σ 9 1).toInt := (congrArg Int32.toInt (show σ124 9 1 = (σ 9 1) from (f127 1 (of_decide_eq_true rfl))))
           have z137 : (σ124 12 0).toInt = (σ 12 0).toInt := (congrArg Int32.toInt (show σ124 12 0 = (σ 12 0) from (congrFun (f126 12 (of_decide_eq_true rfl)) 0)))
           exact by exact hret σ124 τ _ _ _ _ ⟨rfl, (fun i hi => (f126 i (imp_59 i hi))), (fun i hi => (f127 i (imp_43 i hi))), (fun i hi => (congrFun (f126 12 (of_decide_eq_true rfl)) i)), I131, I132, I133, I134, p135, (jCp.bad (by omega) (by omega) (by rw [k16]; omega) (by omega) (by omega) (by omega)), (by omega), (by omega), (by omega), (by omega), trivial⟩ hP hS dX7_operand_191
   · obtain ⟨q140, k138, k139⟩ := h13
     have q140 := q140.symm
     subst q140
     refine lv_istore_n (lv' := [(2, .int (-1)), (0, .ref (ad 9)), (1, .int a1)]) hx hb dX7_operand_13 rfl hl (of_decide_eq_true rfl) rfl (fun ls hl => ?_)
     refine lv_iload_n hx hb dX7_operand_14 rfl (lv_at hl 0 rfl) ?_
     refine jcallS (As := [.int (-1)]) (rest := []) ⟨hx, hb, hml, hown, hts⟩ hK hP hA hS hZ (c_X7_isDigit l D cI cL ad zz hJ σ τ (-1) ((-1)) jz_m1) cw_RX7_39 ⟨by dsimp only; omega, by dsimp only; omega⟩ rfl rfl rfl hl.1 rfl (Nat.le_of_ble_eq_true rfl) dX7_operand_15 ⟨Nat.zero_le _, Nat.zero_le _⟩ (fun r142 σ141 τ141 H locs h141 hP hS => ?_)
     obtain ⟨⟨rfl, rfl⟩, h141⟩ := h141
     rcases h141 with h143 | h144
     · obtain ⟨q146, k145⟩ := h143
       exact absurd (by omega : False) id
     · obtain ⟨q148, k147⟩ := h144
       have q148 := q148.symm
       subst q148
       refine lv_if_eq (tgt := 36) hx hb dX7_operand_18 (of_decide_eq_true rfl) (fun _ => ?_) (fun c => absurd (of_decide_eq_true rfl) c)
       refine lv_iload_n hx hb dX7_operand_36 rfl (lv_at hl 0 rfl) ?_
       refine jcallS (As := [.int (-1)]) (rest := []) ⟨hx, hb, hml, hown, hts⟩ hK hP hA hS hZ (c_X7_nameOf l D cI cL ad zz hJ σ τ (-1) ((-1)) jz_m1) cw_RX7_101 ⟨by dsimp only; omega, by dsimp only; omega⟩ rfl rfl rfl hl.1 rfl (Nat.le_of_ble_eq_true rfl) dX7_operand_37 ⟨Nat.zero_le _, Nat.zero_le _⟩ (fun r150 σ149 τ149 H locs h149 hP hS => ?_)
       obtain ⟨⟨rfl, rfl⟩, h149⟩ := h149
       rcases h149 with h151 | h152
       · obtain ⟨q156, k153, k154, k155⟩ := h151
         exact absurd (by omega : False) id
       · obtain ⟨q158, k157⟩ := h152
         have q158 := q158.symm
         subst q158
         have z159 := jz_m1
         refine lv_if_lt (tgt := 71) hx hb dX7_operand_40 (of_decide_eq_true rfl) (fun _ => ?_) (fun c => absurd (of_decide_eq_true rfl) c)
         refine lv_iload_n hx hb dX7_operand_71 rfl (lv_at hl 2 rfl) ?_
         refine lv_bipush (v := 6) hx hb dX7_operand_72 (of_decide_eq_true rfl) ?_
         exact by
          refine lv_icmp_ge (tgt := 133) hx hb dX7_operand_74 (of_decide_eq_true rfl) (fun c160 => ?_) (fun c => absurd (jnle c jz_6 t1) (by omega))
          have kc160 := jle c160 jz_6 t1
          refine lv_iload_n hx hb dX7_operand_133 rfl (lv_at hl 2 rfl) ?_
          refine lv_bipush (v := 6) hx hb dX7_operand_134 (of_decide_eq_true rfl) ?_
          refine lv_icmp_ge (tgt := 183) hx hb dX7_operand_136 (of_decide_eq_true rfl) (fun c161 => ?_) (fun c => absurd (jnle c jz_6 t1) (by omega))
          have kc161 := jle c161 jz_6 t1
          refine lv_aload_n hx hb dX7_operand_183 rfl (lv_at hl 1 rfl) ?_
          refine lv_aload_n hx hb dX7_operand_184 rfl (lv_at hl 1 rfl) ?_
          refine va_get (D := D) hx hb hts inlX7 hown hK hP 9 (jc_9 cI cL ad σ τ) rfl 1 (of_decide_eq_true rfl) (hts _ kw_13_17) (fun _ h9 => h9) rfl dX7_operand_185 ?_
          exact by
           refine jcallVv (As := [.int (σ 9 1)]) (rest := []) ⟨hx, hb, hml, hown, hts⟩ hK hP hA hS hZ (c_X7_fail_9 l D cI cL ad zz hJ σ τ (σ 9 1) ((σ 9 1).toInt) rfl hI92 (by omega)) cw_RX7_43 (jc_9 cI cL ad σ τ) rfl ⟨by dsimp only; omega, by dsimp only; omega⟩ rfl rfl rfl hl.1 rfl (Nat.le_of_ble_eq_true rfl) dX7_operand_188 ⟨Nat.zero_le _, Nat.zero_le _⟩ (fun σ162 τ162 H locs h162 hP hS => ?_)
           obtain ⟨rfl, f164, f165, h162⟩ := h162
           obtain ⟨k167, k168, h162⟩ := h162
           have I169 : jI9 σ162 := jI9_fr (f165 0 (of_decide_eq_true rfl)) (f164 10 (of_decide_eq_true rfl)) (f164 11 (of_decide_eq_true rfl)) hI9
           have I170 : jI91 σ162 := jI91_fr (f165 0 (of_decide_eq_true rfl)) (f165 1 (of_decide_eq_true rfl)) hI91
           have I171 : jI92 σ162 := (show (-1) ≤ (σ162 9 2).toInt ∧ (σ162 9 2).toInt ≤ 80 by omega)
           have I172 : jI12 σ162 := jI12_fr (congrFun (f164 12 (of_decide_eq_true rfl)) 0) (f164 13 (of_decide_eq_true rfl)) hI12
           have p173 : jNd12 σ162 := jNd12.fr (congrFun (f164 12 (of_decide_eq_true rfl)) 0) (congrFun (f164 12 (of_decide_eq_true rfl)) 1) (f164 13 (of_decide_eq_true rfl)) hs_jNd12
           have z174 : (σ162 9 1).toInt = (σ 9 1).toInt := (congrArg Int32.toInt (show σ162 9 1 = (σ 9 1) from (f165 1 (of_decide_eq_true rfl))))
           have z175 : (σ162 12 0).toInt = (σ 12 0).toInt := (congrArg Int32.toInt (show σ162 12 0 = (σ 12 0) from (congrFun (f164 12 (of_decide_eq_true rfl)) 0)))
           exact by exact hret σ162 τ _ _ _ _ ⟨rfl, (fun i hi => (f164 i (imp_59 i hi))), (fun i hi => (f165 i (imp_43 i hi))), (fun i hi => (congrFun (f164 12 (of_decide_eq_true rfl)) i)), I169, I170, I171, I172, p173, (jCp.bad (by omega) (by omega) (by rw [k139]; omega) (by omega) (by omega) (by omega)), (by omega), (by omega), (by omega), (by omega), trivial⟩ hP hS dX7_operand_191
set_option maxHeartbeats 4000000 in
set_option maxRecDepth 100000 in
theorem c_X7_grammar_p5_g (l : Launch) (D : va_G) (cI cL : ClassId) (ad zz : Nat → Nat) (hJ : jD ad) (n : Nat) (h_op : ∀ (σ : Nat → Nat → Int32) (τ : Nat → Nat → Int64) (a1 : Int32) (A1 : Int) (t1 : a1.toInt = A1) (hI9 : jI9 σ) (hI91 : jI91 σ) (hI92 : jI92 σ) (hI12 : jI12 σ) (hs_jNd12 : jNd12 σ) (hp0 : 0 ≤ A1 ∧ A1 ≤ 6) (hp1 : -A1 + 6 ≤ (((n) : Nat) : Int)) (hp2 : (σ 9 2).toInt = (-1)) (hp3 : 3 * (σ 12 0).toInt ≤ 4 * (σ 9 1).toInt + 1), jMv l yX7_operand cX7_operand 3 none ({ frames := (10 + 8 * (n)), cells := 0, slots := 0, locals := (400 + 360 * (n)) }) D cI cL ad zz [.ref (ad 9), .int a1] σ τ (fun σ' τ' => τ = τ' ∧ (∀ i : Nat, (i < 9 ∨ 9 < i) ∧ (i < 12 ∨ 13 < i) → σ' i = σ i) ∧ (∀ k : Nat, (k < 1 ∨ 1 < k) ∧ (k < 2 ∨ 2 < k) → σ' 9 k = σ 9 k) ∧ (∀ k : Nat, (k < 0 ∨ 0 < k) ∧ (k < 1 ∨ 1 < k) → σ' 12 k = σ 12 k) ∧ (jI9 σ') ∧ (jI91 σ') ∧ (jI92 σ') ∧ (jI12 σ') ∧ (jNd12 σ') ∧ (jCp (σ 10) (σ 9 0).toInt 5 (A1) (σ 9 1).toInt (σ' 9 1).toInt (σ' 9 2).toInt (σ 13) (σ' 13) (σ 12 0).toInt (σ' 12 0).toInt) ∧ ((σ 9 1).toInt ≤ (σ' 9 1).toInt) ∧ ((σ' 12 0).toInt - (σ 12 0).toInt ≤ (σ' 9 1).toInt - (σ 9 1).toInt) ∧ (3 * (σ' 12 0).toInt ≤ 4 * (σ' 9 1).toInt + 1) ∧ ((0 ≤ (σ' 9 2).toInt) ∨ ((σ 9 1).toInt + 1 ≤ (σ' 9 1).toInt)) ∧ True)) (σ : Nat → Nat → Int32) (τ : Nat → Nat → Int64) (a2 : Int32) (A2 : Int) (t2 : a2.toInt = A2) (hI9 : jI9 σ) (hI91 : jI91 σ) (hI92 : jI92 σ) (hI12 : jI12 σ) (hs_jNd12 : jNd12 σ) (hp0 : 0 ≤ A2 ∧ A2 ≤ 6) (hp1 : -A2 + 6 ≤ (((n) : Nat) : Int)) (hp2 : (σ 9 2).toInt = (-1)) (hp3 : 3 * (σ 12 0).toInt ≤ 4 * (σ 9 1).toInt + 1) : jMv l yX7_part cX7_part 5 none ({ frames := (11 + 8 * (n)), cells := 0, slots := 0, locals := (440 + 360 * (n)) }) D cI cL ad zz [.ref (ad 9), .int 5, .int a2] σ τ (fun σ' τ' => τ = τ' ∧ (∀ i : Nat, (i < 9 ∨ 9 < i) ∧ (i < 12 ∨ 13 < i) → σ' i = σ i) ∧ (∀ k : Nat, (k < 1 ∨ 1 < k) ∧ (k < 2 ∨ 2 < k) → σ' 9 k = σ 9 k) ∧ (∀ k : Nat, (k < 0 ∨ 0 < k) ∧ (k < 1 ∨ 1 < k) → σ' 12 k = σ 12 k) ∧ (jI9 σ') ∧ (jI91 σ') ∧ (jI92 σ') ∧ (jI12 σ') ∧ (jNd12 σ') ∧ (jCp (σ 10) (σ 9 0).toInt 5 (A2) (σ 9 1).toInt (σ' 9 1).toInt (σ' 9 2).toInt (σ 13) (σ' 13) (σ 12 0).toInt (σ' 12 0).toInt) ∧ ((σ 9 1).toInt ≤ (σ' 9 1).toInt) ∧ ((σ' 12 0).toInt - (σ 12 0).toInt ≤ (σ' 9 1).toInt - (σ 9 1).toInt) ∧ (3 * (σ' 12 0).toInt ≤ 4 * (σ' 9 1).toInt + 1) ∧ ((0 ≤ (σ' 9 2).toInt) ∨ ((σ 9 1).toInt + 1 ≤ (σ' 9 1).toInt)) ∧ True) := by
  refine jMv.of hJ (by decide +kernel) rfl (Nat.le_of_ble_eq_true rfl) ?_
  intro p e s m args below meth c Q ls hC hret hl hP
  obtain ⟨hx, hb, hr, hml, hown, hts, hK, -, hlocks, hZ⟩ := hC
  have hown : s.vm.findClass RX7 = some m.cls := hown
  have hS : va_S (jA ad) s.heap s.heap [] := va_S.rf
  have hA : ∀ q, jA ad q → jA ad q := fun _ h => h
  have hl : lv_has ls 5 [(0, .ref (ad 9)), (1, .int 5), (2, .int a2)] := hl
  have g2 := jrg t2
  obtain ⟨i1, w2, w3⟩ : (0 ≤ (σ 9 0).toInt ∧ (σ 9 0).toInt ≤ 80) ∧ (∀ k : Nat, k < 80 → 0 ≤ (σ 10 k).toInt ∧ (σ 10 k).toInt ≤ 255) ∧ (∀ k : Nat, k < 8 → 0 ≤ (σ 11 k).toInt ∧ (σ 11 k).toInt ≤ 3) := id hI9
  obtain ⟨i4, i5⟩ : (0 ≤ (σ 9 1).toInt) ∧ ((σ 9 1).toInt ≤ (σ 9 0).toInt) := id hI91
  have i6 : (-1) ≤ (σ 9 2).toInt ∧ (σ 9 2).toInt ≤ 80 := hI92
  obtain ⟨i7, w8⟩ : (0 ≤ (σ 12 0).toInt ∧ (σ 12 0).toInt ≤ 160) ∧ (∀ k : Nat, k < 160 → 0 ≤ (σ 13 k).toInt ∧ (σ 13 k).toInt ≤ 30000) := id hI12
  refine lv_iload_n hx hb dX7_part_0 rfl (lv_at hl 1 rfl) ?_
  refine lv_iconst (v := 5) hx hb dX7_part_1 (of_decide_eq_true rfl) ?_
  refine lv_icmp_lt (tgt := 11) hx hb dX7_part_2 (of_decide_eq_true rfl) (fun c => absurd c (of_decide_eq_true rfl)) (fun _ => ?_)
  refine lv_aload_n hx hb dX7_part_5 rfl (lv_at hl 0 rfl) ?_
  refine lv_iload_n hx hb dX7_part_6 rfl (lv_at hl 2 rfl) ?_
  exact by
   refine jcallVv (As := [.int a2]) (rest := []) ⟨hx, hb, hml, hown, hts⟩ hK hP hA hS hZ (h_op σ τ a2 (A2) t2 hI9 hI91 hI92 hI12 hs_jNd12 (by omega) (by omega) (by omega) (by omega)) cw_RX7_95 (jc_9 cI cL ad σ τ) rfl ⟨by dsimp only; omega, by dsimp only; omega⟩ rfl rfl rfl hl.1 rfl (Nat.le_of_ble_eq_true rfl) dX7_part_7 ⟨Nat.zero_le _, Nat.zero_le _⟩ (fun σ9 τ9 H locs h9 hP hS => ?_)
   obtain ⟨rfl, f11, f12, f13, I14, I15, I16, I17, p18, w19, h9⟩ := h9
   obtain ⟨i21, w22, w23⟩ : (0 ≤ (σ9 9 0).toInt ∧ (σ9 9 0).toInt ≤ 80) ∧ (∀ k : Nat, k < 80 → 0 ≤ (σ9 10 k).toInt ∧ (σ9 10 k).toInt ≤ 255) ∧ (∀ k : Nat, k < 8 → 0 ≤ (σ9 11 k).toInt ∧ (σ9 11 k).toInt ≤ 3) := id I14
   obtain ⟨i24, i25⟩ : (0 ≤ (σ9 9 1).toInt) ∧ ((σ9 9 1).toInt ≤ (σ9 9 0).toInt) := id I15
   have i26 : (-1) ≤ (σ9 9 2).toInt ∧ (σ9 9 2).toInt ≤ 80 := I16
   obtain ⟨i27, w28⟩ : (0 ≤ (σ9 12 0).toInt ∧ (σ9 12 0).toInt ≤ 160) ∧ (∀ k : Nat, k < 160 → 0 ≤ (σ9 13 k).toInt ∧ (σ9 13 k).toInt ≤ 30000) := id I17
   have z29 : (σ9 9 0).toInt = (σ 9 0).toInt := (congrArg Int32.toInt (show σ9 9 0 = (σ 9 0) from (f12 0 (of_decide_eq_true rfl))))
   obtain ⟨k30, k31, k32, k33, h9⟩ := h9
   exact by exact hret σ9 τ _ _ _ _ ⟨rfl, (fun i hi => (f11 i hi)), (fun i hi => (f12 i hi)), (fun i hi => (f13 i hi)), I14, I15, I16, I17, p18, w19, (by omega), (by omega), (by omega), (by omega), trivial⟩ hP hS dX7_part_10
set_option maxHeartbeats 4000000 in
set_option maxRecDepth 100000 in
theorem c_X7_grammar_p4_g (l : Launch) (D : va_G) (cI cL : ClassId) (ad zz : Nat → Nat) (hJ : jD ad) (n : Nat) (h_p5 : ∀ (σ : Nat → Nat → Int32) (τ : Nat → Nat → Int64) (a2 : Int32) (A2 : Int) (t2 : a2.toInt = A2) (hI9 : jI9 σ) (hI91 : jI91 σ) (hI92 : jI92 σ) (hI12 : jI12 σ) (hs_jNd12 : jNd12 σ) (hp0 : 0 ≤ A2 ∧ A2 ≤ 6) (hp1 : -A2 + 6 ≤ (((n) : Nat) : Int)) (hp2 : (σ 9 2).toInt = (-1)) (hp3 : 3 * (σ 12 0).toInt ≤ 4 * (σ 9 1).toInt + 1), jMv l yX7_part cX7_part 5 none ({ frames := (11 + 8 * (n)), cells := 0, slots := 0, locals := (440 + 360 * (n)) }) D cI cL ad zz [.ref (ad 9), .int 5, .int a2] σ τ (fun σ' τ' => τ = τ' ∧ (∀ i : Nat, (i < 9 ∨ 9 < i) ∧ (i < 12 ∨ 13 < i) → σ' i = σ i) ∧ (∀ k : Nat, (k < 1 ∨ 1 < k) ∧ (k < 2 ∨ 2 < k) → σ' 9 k = σ 9 k) ∧ (∀ k : Nat, (k < 0 ∨ 0 < k) ∧ (k < 1 ∨ 1 < k) → σ' 12 k = σ 12 k) ∧ (jI9 σ') ∧ (jI91 σ') ∧ (jI92 σ') ∧ (jI12 σ') ∧ (jNd12 σ') ∧ (jCp (σ 10) (σ 9 0).toInt 5 (A2) (σ 9 1).toInt (σ' 9 1).toInt (σ' 9 2).toInt (σ 13) (σ' 13) (σ 12 0).toInt (σ' 12 0).toInt) ∧ ((σ 9 1).toInt ≤ (σ' 9 1).toInt) ∧ ((σ' 12 0).toInt - (σ 12 0).toInt ≤ (σ' 9 1).toInt - (σ 9 1).toInt) ∧ (3 * (σ' 12 0).toInt ≤ 4 * (σ' 9 1).toInt + 1) ∧ ((0 ≤ (σ' 9 2).toInt) ∨ ((σ 9 1).toInt + 1 ≤ (σ' 9 1).toInt)) ∧ True)) (σ : Nat → Nat → Int32) (τ : Nat → Nat → Int64) (a2 : Int32) (A2 : Int) (t2 : a2.toInt = A2) (hI9 : jI9 σ) (hI91 : jI91 σ) (hI92 : jI92 σ) (hI12 : jI12 σ) (hs_jNd12 : jNd12 σ) (hp0 : 0 ≤ A2 ∧ A2 ≤ 6) (hp1 : -A2 + 6 ≤ (((n) : Nat) : Int)) (hp2 : (σ 9 2).toInt = (-1)) (hp3 : 3 * (σ 12 0).toInt ≤ 4 * (σ 9 1).toInt + 1) : jMv l yX7_part cX7_part 5 none ({ frames := (12 + 8 * (n)), cells := 0, slots := 0, locals := (480 + 360 * (n)) }) D cI cL ad zz [.ref (ad 9), .int 4, .int a2] σ τ (fun σ' τ' => τ = τ' ∧ (∀ i : Nat, (i < 9 ∨ 9 < i) ∧ (i < 12 ∨ 13 < i) → σ' i = σ i) ∧ (∀ k : Nat, (k < 1 ∨ 1 < k) ∧ (k < 2 ∨ 2 < k) → σ' 9 k = σ 9 k) ∧ (∀ k : Nat, (k < 0 ∨ 0 < k) ∧ (k < 1 ∨ 1 < k) → σ' 12 k = σ 12 k) ∧ (jI9 σ') ∧ (jI91 σ') ∧ (jI92 σ') ∧ (jI12 σ') ∧ (jNd12 σ') ∧ (jCp (σ 10) (σ 9 0).toInt 4 (A2) (σ 9 1).toInt (σ' 9 1).toInt (σ' 9 2).toInt (σ 13) (σ' 13) (σ 12 0).toInt (σ' 12 0).toInt) ∧ ((σ 9 1).toInt ≤ (σ' 9 1).toInt) ∧ ((σ' 12 0).toInt - (σ 12 0).toInt ≤ (σ' 9 1).toInt - (σ 9 1).toInt) ∧ (3 * (σ' 12 0).toInt ≤ 4 * (σ' 9 1).toInt + 1) ∧ ((0 ≤ (σ' 9 2).toInt) ∨ ((σ 9 1).toInt + 1 ≤ (σ' 9 1).toInt)) ∧ True) := by
  refine jMv.of hJ (by decide +kernel) rfl (Nat.le_of_ble_eq_true rfl) ?_
  intro p e s m args below meth c Q ls hC hret hl hP
  obtain ⟨hx, hb, hr, hml, hown, hts, hK, -, hlocks, hZ⟩ := hC
  have hown : s.vm.findClass RX7 = some m.cls := hown
  have hS : va_S (jA ad) s.heap s.heap [] := va_S.rf
  have hA : ∀ q, jA ad q → jA ad q := fun _ h => h
  have hl : lv_has ls 5 [(0, .ref (ad 9)), (1, .int 4), (2, .int a2)] := hl
  have g2 := jrg t2
  obtain ⟨i1, w2, w3⟩ : (0 ≤ (σ 9 0).toInt ∧ (σ 9 0).toInt ≤ 80) ∧ (∀ k : Nat, k < 80 → 0 ≤ (σ 10 k).toInt ∧ (σ 10 k).toInt ≤ 255) ∧ (∀ k : Nat, k < 8 → 0 ≤ (σ 11 k).toInt ∧ (σ 11 k).toInt ≤ 3) := id hI9
  obtain ⟨i4, i5⟩ : (0 ≤ (σ 9 1).toInt) ∧ ((σ 9 1).toInt ≤ (σ 9 0).toInt) := id hI91
  have i6 : (-1) ≤ (σ 9 2).toInt ∧ (σ 9 2).toInt ≤ 80 := hI92
  obtain ⟨i7, w8⟩ : (0 ≤ (σ 12 0).toInt ∧ (σ 12 0).toInt ≤ 160) ∧ (∀ k : Nat, k < 160 → 0 ≤ (σ 13 k).toInt ∧ (σ 13 k).toInt ≤ 30000) := id hI12
  refine lv_iload_n hx hb dX7_part_0 rfl (lv_at hl 1 rfl) ?_
  refine lv_iconst (v := 5) hx hb dX7_part_1 (of_decide_eq_true rfl) ?_
  refine lv_icmp_lt (tgt := 11) hx hb dX7_part_2 (of_decide_eq_true rfl) (fun _ => ?_) (fun c => absurd (of_decide_eq_true rfl) c)
  refine lv_aload_n hx hb dX7_part_11 rfl (lv_at hl 0 rfl) ?_
  refine lv_iload_n hx hb dX7_part_12 rfl (lv_at hl 1 rfl) ?_
  refine lv_iconst (v := 1) hx hb dX7_part_13 (of_decide_eq_true rfl) ?_
  refine lv_iadd hx hb dX7_part_14 ?_
  refine jtopr (y := 5) (of_decide_eq_true rfl) ?_
  refine lv_iload_n hx hb dX7_part_15 rfl (lv_at hl 2 rfl) ?_
  exact by
   refine jcallVv (As := [.int 5, .int a2]) (rest := []) ⟨hx, hb, hml, hown, hts⟩ hK hP hA hS hZ (h_p5 σ τ a2 (A2) t2 hI9 hI91 hI92 hI12 hs_jNd12 (by omega) (by omega) (by omega) (by omega)) cw_RX7_82 (jc_9 cI cL ad σ τ) rfl ⟨by dsimp only; omega, by dsimp only; omega⟩ rfl rfl rfl hl.1 rfl (Nat.le_of_ble_eq_true rfl) dX7_part_16 ⟨Nat.zero_le _, Nat.zero_le _⟩ (fun σ9 τ9 H locs h9 hP hS => ?_)
   obtain ⟨rfl, f11, f12, f13, I14, I15, I16, I17, p18, w19, h9⟩ := h9
   obtain ⟨i21, w22, w23⟩ : (0 ≤ (σ9 9 0).toInt ∧ (σ9 9 0).toInt ≤ 80) ∧ (∀ k : Nat, k < 80 → 0 ≤ (σ9 10 k).toInt ∧ (σ9 10 k).toInt ≤ 255) ∧ (∀ k : Nat, k < 8 → 0 ≤ (σ9 11 k).toInt ∧ (σ9 11 k).toInt ≤ 3) := id I14
   obtain ⟨i24, i25⟩ : (0 ≤ (σ9 9 1).toInt) ∧ ((σ9 9 1).toInt ≤ (σ9 9 0).toInt) := id I15
   have i26 : (-1) ≤ (σ9 9 2).toInt ∧ (σ9 9 2).toInt ≤ 80 := I16
   obtain ⟨i27, w28⟩ : (0 ≤ (σ9 12 0).toInt ∧ (σ9 12 0).toInt ≤ 160) ∧ (∀ k : Nat, k < 160 → 0 ≤ (σ9 13 k).toInt ∧ (σ9 13 k).toInt ≤ 30000) := id I17
   have z29 : (σ9 9 0).toInt = (σ 9 0).toInt := (congrArg Int32.toInt (show σ9 9 0 = (σ 9 0) from (f12 0 (of_decide_eq_true rfl))))
   obtain ⟨k30, k31, k32, k33, h9⟩ := h9
   refine lv_iconst (v := 0) hx hb dX7_part_19 (of_decide_eq_true rfl) ?_
   refine lv_istore_n (lv' := [(3, .int 0), (0, .ref (ad 9)), (1, .int 4), (2, .int a2)]) hx hb dX7_part_20 rfl hl (of_decide_eq_true rfl) rfl (fun ls hl => ?_)
   have lp34 : ∀ (n35 : Nat) (x36 : Int32) (σ38 : Nat → Nat → Int32) (H : Heap) (locs : List Loc) (ls : Array Slot), (-x36.toInt + 80 : Int) < n35 → 0 ≤ x36.toInt → x36.toInt ≤ 80 → 0 ≤ (σ38 9 1).toInt → (σ38 9 1).toInt ≤ (σ38 9 0).toInt → (-1) ≤ (σ38 9 2).toInt ∧ (σ38 9 2).toInt ≤ 80 → (σ 9 1).toInt ≤ (σ38 9 1).toInt → (σ38 12 0).toInt - (σ 12 0).toInt ≤ (σ38 9 1).toInt - (σ 9 1).toInt → 3 * (σ38 12 0).toInt ≤ 4 * (σ38 9 1).toInt + 1 → ((0 ≤ (σ38 9 2).toInt) ∨ ((σ 9 1).toInt + 1 ≤ (σ38 9 1).toInt)) → x36.toInt ≤ (σ38 9 1).toInt → (∀ i : Nat, (i < 9 ∨ 9 < i) ∧ (i < 12 ∨ 13 < i) → σ38 i = σ9 i) → (∀ k : Nat, (k < 1 ∨ 1 < k) ∧ (k < 2 ∨ 2 < k) → σ38 9 k = σ9 9 k) → (∀ k : Nat, (k < 0 ∨ 0 < k) ∧ (k < 1 ∨ 1 < k) → σ38 12 k = σ9 12 k) → jNd12 σ38 → jI12 σ38 → (jCi (σ 10) (σ 9 0).toInt 4 (A2) (σ 9 1).toInt (σ38 9 1).toInt (σ38 9 2).toInt (σ 13) (σ38 13) (σ 12 0).toInt (σ38 12 0).toInt) → jH D cI cL ad σ38 τ H → va_S (jA ad) s.heap H locs → lv_has ls 5 [(3, .int x36), (0, .ref (ad 9)), (1, .int 4), (2, .int a2)] → W p l e ({ frames := (12 + 8 * (n)), cells := 0, slots := 0, locals := (480 + 360 * (n)) }) s m args below meth c H locs 0 0 Q (F0 m 21 ls []) := by
     intro n35
     induction n35 with
     | zero => intro x36 σ38 H locs ls h40 h41 h42 h43 h44 h45 h46 h47 h48 h49 h50; exact absurd h40 (by omega)
     | succ n35 ihlp34 =>
       intro x36 σ38 H locs ls h40 h41 h42 h43 h44 h45 h46 h47 h48 h49 h50 f51 f52 f53 p54 p55 q56 hP hS hl
       exact by
        obtain ⟨i57, w58⟩ : (0 ≤ (σ38 12 0).toInt ∧ (σ38 12 0).toInt ≤ 160) ∧ (∀ k : Nat, k < 160 → 0 ≤ (σ38 13 k).toInt ∧ (σ38 13 k).toInt ≤ 30000) := id p55
        have z59 : (σ38 9 0).toInt = (σ 9 0).toInt := (congrArg Int32.toInt (show σ38 9 0 = (σ 9 0) from ((f52 0 (of_decide_eq_true rfl)).trans (f12 0 (of_decide_eq_true rfl)))))
        refine lv_iload_n hx hb dX7_part_21 rfl (lv_at hl 0 rfl) ?_
        refine lv_bipush (v := 80) hx hb dX7_part_22 (of_decide_eq_true rfl) ?_
        refine lv_icmp_ge (tgt := 95) hx hb dX7_part_24 (of_decide_eq_true rfl) (fun c60 => ?_) (fun c60 => ?_)
        · have kc60 := jle c60 jz_80 rfl
          have I61 : jI9 σ38 := jI9_fr (f52 0 (of_decide_eq_true rfl)) (f51 10 (of_decide_eq_true rfl)) (f51 11 (of_decide_eq_true rfl)) I14
          have I62 : jI91 σ38 := ⟨(by omega), (by omega)⟩
          have I63 : jI92 σ38 := (show (-1) ≤ (σ38 9 2).toInt ∧ (σ38 9 2).toInt ≤ 80 by omega)
          exact by exact hret σ38 τ _ _ _ _ ⟨rfl, (fun i hi => ((f51 i hi).trans (f11 i hi))), (fun i hi => ((f52 i hi).trans (f12 i hi))), (fun i hi => ((f53 i hi).trans (f13 i hi))), I61, I62, I63, p55, p54, (jCi.fin q56 (of_decide_eq_true rfl) (fun _ => by rw [jYs_n (by omega)]; decide)), (by omega), (by omega), (by omega), (by omega), trivial⟩ hP hS dX7_part_95
        · exact by
           have kc60 := jnle c60 jz_80 rfl
           refine lv_aload_n hx hb dX7_part_27 rfl (lv_at hl 1 rfl) ?_
           refine va_get (D := D) hx hb hts inlX7 hown hK hP 9 (jc_9 cI cL ad σ38 τ) rfl 2 (of_decide_eq_true rfl) (hts _ kw_14_6) (fun _ h9 => h9) rfl dX7_part_28 ?_
           refine lv_iconst (v := (-1)) hx hb dX7_part_31 (of_decide_eq_true rfl) ?_
           refine lv_icmp_ne (tgt := 95) hx hb dX7_part_32 (of_decide_eq_true rfl) (fun c64 => ?_) (fun c64 => ?_)
           · have kc64 := jne c64 rfl jz_m1
             have I65 : jI9 σ38 := jI9_fr (f52 0 (of_decide_eq_true rfl)) (f51 10 (of_decide_eq_true rfl)) (f51 11 (of_decide_eq_true rfl)) I14
             have I66 : jI91 σ38 := ⟨(by omega), (by omega)⟩
             have I67 : jI92 σ38 := (show (-1) ≤ (σ38 9 2).toInt ∧ (σ38 9 2).toInt ≤ 80 by omega)
             exact by exact hret σ38 τ _ _ _ _ ⟨rfl, (fun i hi => ((f51 i hi).trans (f11 i hi))), (fun i hi => ((f52 i hi).trans (f12 i hi))), (fun i hi => ((f53 i hi).trans (f13 i hi))), I65, I66, I67, p55, p54, (jCi.fin q56 (of_decide_eq_true rfl) (fun h9 => absurd h9 (by omega))), (by omega), (by omega), (by omega), (by omega), trivial⟩ hP hS dX7_part_95
           · exact by
              have kc64 := jeq c64 rfl jz_m1
              refine lv_aload_n hx hb dX7_part_35 rfl (lv_at hl 1 rfl) ?_
              have I68 : jI9 σ38 := jI9_fr (f52 0 (of_decide_eq_true rfl)) (f51 10 (of_decide_eq_true rfl)) (f51 11 (of_decide_eq_true rfl)) I14
              refine jcallV (As := []) (rest := []) ⟨hx, hb, hml, hown, hts⟩ hK hP hA hS hZ (c_X7_sign_9 l D cI cL ad zz hJ σ38 τ I68) cw_RX7_35 (jc_9 cI cL ad σ38 τ) rfl ⟨by dsimp only; omega, by dsimp only; omega⟩ rfl rfl rfl hl.1 rfl (Nat.le_of_ble_eq_true rfl) dX7_part_36 ⟨Nat.zero_le _, Nat.zero_le _⟩ (fun r70 σ69 τ69 H locs h69 hP hS => ?_)
              obtain ⟨⟨rfl, rfl⟩, h69⟩ := h69
              rcases h69 with h71 | h72
              · obtain ⟨q76, k73, k74, k75⟩ := h71
                have q77 : r70 = (σ 10 (σ38 9 1).toNatClampNeg) := q76.trans (by rw [f51 10 (of_decide_eq_true rfl), f11 10 (of_decide_eq_true rfl)])
                have q77e : (σ38 10 (σ38 9 1).toNatClampNeg).toInt = (σ 10 (σ38 9 1).toNatClampNeg).toInt := by rw [← q76, ← q77]
                exact by
                 have q77 := q77.symm
                 subst q77
                 try rw [show (σ38 9 0).toInt = (σ 9 0).toInt from by omega] at k75
                 try rw [show σ38 10 = σ 10 from ((f51 10 (of_decide_eq_true rfl)).trans (f11 10 (of_decide_eq_true rfl)))] at k75
                 refine jcallS (As := [.int (σ 10 (σ38 9 1).toNatClampNeg)]) (rest := []) ⟨hx, hb, hml, hown, hts⟩ hK hP hA hS hZ (c_X7_levelOf l D cI cL ad zz hJ σ38 τ (σ 10 (σ38 9 1).toNatClampNeg) ((σ 10 (σ38 9 1).toNatClampNeg).toInt) rfl) cw_RX7_98 ⟨by dsimp only; omega, by dsimp only; omega⟩ rfl rfl rfl hl.1 rfl (Nat.le_of_ble_eq_true rfl) dX7_part_39 ⟨Nat.zero_le _, Nat.zero_le _⟩ (fun r79 σ78 τ78 H locs h78 hP hS => ?_)
                 obtain ⟨⟨rfl, rfl⟩, h78⟩ := h78
                 rcases h78 with h80 | h81
                 · obtain ⟨q85, k82, k83, k84⟩ := h80
                   refine lv_iload_n hx hb dX7_part_42 rfl (lv_at hl 2 rfl) ?_
                   refine lv_icmp_ne (tgt := 95) hx hb dX7_part_43 (of_decide_eq_true rfl) (fun c86 => ?_) (fun c86 => ?_)
                   · have kc86 := jne c86 rfl jz_4
                     exact by
                      have I87 : jI91 σ38 := ⟨(by omega), (by omega)⟩
                      have I88 : jI92 σ38 := (show (-1) ≤ (σ38 9 2).toInt ∧ (σ38 9 2).toInt ≤ 80 by omega)
                      exact by exact hret σ38 τ _ _ _ _ ⟨rfl, (fun i hi => ((f51 i hi).trans (f11 i hi))), (fun i hi => ((f52 i hi).trans (f12 i hi))), (fun i hi => ((f53 i hi).trans (f13 i hi))), I68, I87, I88, p55, p54, (jCi.fin q56 (of_decide_eq_true rfl) (fun _ => by rw [k75]; omega)), (by omega), (by omega), (by omega), (by omega), trivial⟩ hP hS dX7_part_95
                   · have kc86 := jeq c86 rfl jz_4
                     refine lv_aload_n hx hb dX7_part_46 rfl (lv_at hl 1 rfl) ?_
                     refine jcallV (As := []) (rest := []) ⟨hx, hb, hml, hown, hts⟩ hK hP hA hS hZ (c_X7_sign_9 l D cI cL ad zz hJ σ38 τ I68) cw_RX7_35 (jc_9 cI cL ad σ38 τ) rfl ⟨by dsimp only; omega, by dsimp only; omega⟩ rfl rfl rfl hl.1 rfl (Nat.le_of_ble_eq_true rfl) dX7_part_47 ⟨Nat.zero_le _, Nat.zero_le _⟩ (fun r90 σ89 τ89 H locs h89 hP hS => ?_)
                     obtain ⟨⟨rfl, rfl⟩, h89⟩ := h89
                     rcases h89 with h91 | h92
                     · obtain ⟨q96, k93, k94, k95⟩ := h91
                       exact by
                        have q97 : r90 = (σ 10 (σ38 9 1).toNatClampNeg) := q96.trans (by rw [f51 10 (of_decide_eq_true rfl), f11 10 (of_decide_eq_true rfl)])
                        have q97e : (σ38 10 (σ38 9 1).toNatClampNeg).toInt = (σ 10 (σ38 9 1).toNatClampNeg).toInt := by rw [← q96, ← q97]
                        have q97 := q97.symm
                        subst q97
                        try rw [show (σ38 9 0).toInt = (σ 9 0).toInt from by omega] at k95
                        try rw [show σ38 10 = σ 10 from ((f51 10 (of_decide_eq_true rfl)).trans (f11 10 (of_decide_eq_true rfl)))] at k95
                        refine lv_istore (lv' := [(4, .int (σ 10 (σ38 9 1).toNatClampNeg)), (3, .int x36), (0, .ref (ad 9)), (1, .int 4), (2, .int a2)]) hx hb dX7_part_50 hl (of_decide_eq_true rfl) rfl (fun ls hl => ?_)
                        refine lv_aload_n hx hb dX7_part_52 rfl (lv_at hl 2 rfl) ?_
                        refine lv_dup hx hb dX7_part_53 rfl ?_
                        refine va_get (D := D) hx hb hts inlX7 hown hK hP 9 (jc_9 cI cL ad σ38 τ) rfl 1 (of_decide_eq_true rfl) (hts _ kw_13_17) (fun _ h9 => h9) rfl dX7_part_54 ?_
                        refine lv_iconst (v := 1) hx hb dX7_part_57 (of_decide_eq_true rfl) ?_
                        have g98 := jrg (rfl : (σ38 9 1).toInt = (σ38 9 1).toInt)
                        refine lv_iadd hx hb dX7_part_58 ?_
                        refine lv_topi (fun x99 ex99 => ?_)
                        exact by
                         have tx99 : x99.toInt = (σ38 9 1).toInt + 1 := (jadd ex99 rfl jz_1 (by omega) (by omega)).trans (by omega)
                         refine jput (ty := .int) hx hb hts inlX7 tyX7 tyX7_ok nmX7 hown hK hP hJ hA hS (jc_9 cI cL ad σ38 τ) rfl (k := 1) (of_decide_eq_true rfl) (Nat.le_of_ble_eq_true rfl) (jp_9_1 cI cL ad σ38 τ x99) (hts _ kw_13_17) (fun _ h9 => h9) rfl (by decide +kernel) rfl rfl dX7_part_59 (fun σ100 H locs eσ100 hP hS => ?_)
                         refine lv_aload_n hx hb dX7_part_62 rfl (lv_at hl 2 rfl) ?_
                         refine lv_iload_n hx hb dX7_part_63 rfl (lv_at hl 3 rfl) ?_
                         refine lv_iconst (v := 1) hx hb dX7_part_64 (of_decide_eq_true rfl) ?_
                         refine lv_iadd hx hb dX7_part_65 ?_
                         refine jtopr (y := 5) (of_decide_eq_true rfl) ?_
                         refine lv_iload_n hx hb dX7_part_66 rfl (lv_at hl 4 rfl) ?_
                         have I101 : jI9 σ100 := jI9_fr (jkp 0 eσ100 (of_decide_eq_true rfl)) (jnp 10 eσ100 (of_decide_eq_true rfl)) (jnp 11 eσ100 (of_decide_eq_true rfl)) I68
                         have z102 : (σ100 9 1).toInt = (σ38 9 1).toInt + 1 := ((congrArg Int32.toInt (show σ100 9 1 = x99 from (jsp eσ100))).trans tx99)
                         have z103 : (σ100 9 0).toInt = (σ 9 0).toInt := (congrArg Int32.toInt (show σ100 9 0 = (σ 9 0) from ((jkp 0 eσ100 (of_decide_eq_true rfl)).trans ((f52 0 (of_decide_eq_true rfl)).trans (f12 0 (of_decide_eq_true rfl))))))
                         exact by
                          have I104 : jI91 σ100 := ⟨(by omega), (by omega)⟩
                          have z105 : (σ100 9 2).toInt = (σ38 9 2).toInt := (congrArg Int32.toInt (show σ100 9 2 = (σ38 9 2) from (jkp 2 eσ100 (of_decide_eq_true rfl))))
                          have I106 : jI92 σ100 := (show (-1) ≤ (σ100 9 2).toInt ∧ (σ100 9 2).toInt ≤ 80 by omega)
                          have I107 : jI12 σ100 := jI12_fr (congrFun (jnp 12 eσ100 (of_decide_eq_true rfl)) 0) (jnp 13 eσ100 (of_decide_eq_true rfl)) p55
                          have p108 : jNd12 σ100 := jNd12.fr (congrFun (jnp 12 eσ100 (of_decide_eq_true rfl)) 0) (congrFun (jnp 12 eσ100 (of_decide_eq_true rfl)) 1) (jnp 13 eσ100 (of_decide_eq_true rfl)) p54
                          have z109 : (σ100 12 0).toInt = (σ38 12 0).toInt := (congrArg Int32.toInt (show σ100 12 0 = (σ38 12 0) from (congrFun (jnp 12 eσ100 (of_decide_eq_true rfl)) 0)))
                          refine jcallVv (As := [.int 5, .int a2]) (rest := []) ⟨hx, hb, hml, hown, hts⟩ hK hP hA hS hZ (h_p5 σ100 τ a2 (A2) t2 I101 I104 I106 I107 p108 (by omega) (by omega) (by omega) (by omega)) cw_RX7_82 (jc_9 cI cL ad σ100 τ) rfl ⟨by dsimp only; omega, by dsimp only; omega⟩ rfl rfl rfl hl.1 rfl (Nat.le_of_ble_eq_true rfl) dX7_part_67 ⟨Nat.zero_le _, Nat.zero_le _⟩ (fun σ110 τ110 H locs h110 hP hS => ?_)
                          obtain ⟨rfl, f112, f113, f114, I115, I116, I117, I118, p119, w120, h110⟩ := h110
                          obtain ⟨i122, w123, w124⟩ : (0 ≤ (σ110 9 0).toInt ∧ (σ110 9 0).toInt ≤ 80) ∧ (∀ k : Nat, k < 80 → 0 ≤ (σ110 10 k).toInt ∧ (σ110 10 k).toInt ≤ 255) ∧ (∀ k : Nat, k < 8 → 0 ≤ (σ110 11 k).toInt ∧ (σ110 11 k).toInt ≤ 3) := id I115
                          exact by
                           obtain ⟨i125, i126⟩ : (0 ≤ (σ110 9 1).toInt) ∧ ((σ110 9 1).toInt ≤ (σ110 9 0).toInt) := id I116
                           have i127 : (-1) ≤ (σ110 9 2).toInt ∧ (σ110 9 2).toInt ≤ 80 := I117
                           obtain ⟨i128, w129⟩ : (0 ≤ (σ110 12 0).toInt ∧ (σ110 12 0).toInt ≤ 160) ∧ (∀ k : Nat, k < 160 → 0 ≤ (σ110 13 k).toInt ∧ (σ110 13 k).toInt ≤ 30000) := id I118
                           try rw [show (σ100 9 1).toInt = (σ38 9 1).toInt + 1 from by omega] at w120
                           try rw [show (σ100 9 0).toInt = (σ 9 0).toInt from by omega] at w120
                           try rw [show σ100 10 = σ 10 from ((jnp 10 eσ100 (of_decide_eq_true rfl)).trans ((f51 10 (of_decide_eq_true rfl)).trans (f11 10 (of_decide_eq_true rfl))))] at w120
                           try rw [show σ100 13 = σ38 13 from by rw [jnp 13 eσ100 (of_decide_eq_true rfl)]] at w120
                           try rw [show (σ100 12 0).toInt = (σ38 12 0).toInt from by omega] at w120
                           have z130 : (σ110 9 0).toInt = (σ 9 0).toInt := (congrArg Int32.toInt (show σ110 9 0 = (σ 9 0) from ((f113 0 (of_decide_eq_true rfl)).trans ((jkp 0 eσ100 (of_decide_eq_true rfl)).trans ((f52 0 (of_decide_eq_true rfl)).trans (f12 0 (of_decide_eq_true rfl)))))))
                           obtain ⟨k131, k132, k133, k134, h110⟩ := h110
                           refine lv_aload_n hx hb dX7_part_70 rfl (lv_at hl 2 rfl) ?_
                           refine va_get (D := D) hx hb hts inlX7 hown hK hP 9 (jc_9 cI cL ad σ110 τ) rfl 5 (of_decide_eq_true rfl) (hts _ kw_3_23) (fun _ h9 => h9) rfl dX7_part_71 ?_
                           refine lv_sipush (v := 20000) hx hb dX7_part_74 (of_decide_eq_true rfl) ?_
                           refine lv_iload hx hb dX7_part_77 (lv_at hl 0 rfl) ?_
                           have g135 := jrg (rfl : (σ 10 (σ38 9 1).toNatClampNeg).toInt = (σ 10 (σ38 9 1).toNatClampNeg).toInt)
                           refine lv_iadd hx hb dX7_part_79 ?_
                           refine lv_topi (fun x136 ex136 => ?_)
                           exact by
                            have tx136 : x136.toInt = (σ 10 (σ38 9 1).toNatClampNeg).toInt + 20000 := (jadd ex136 jz_20000 rfl (by omega) (by omega)).trans (by omega)
                            refine jcallVv (As := [.int x136]) (rest := []) ⟨hx, hb, hml, hown, hts⟩ hK hP hA hS hZ (c_X10_add_12 l D cI cL ad zz hJ σ110 τ x136 ((σ 10 (σ38 9 1).toNatClampNeg).toInt + 20000) tx136 I118 p119 (by omega) (by omega)) cw_RX7_86 (jc_12 cI cL ad σ110 τ) rfl ⟨by dsimp only; omega, by dsimp only; omega⟩ rfl rfl rfl hl.1 rfl (Nat.le_of_ble_eq_true rfl) dX7_part_80 ⟨Nat.zero_le _, Nat.zero_le _⟩ (fun σ137 τ137 H locs h137 hP hS => ?_)
                            obtain ⟨rfl, f139, f140, I141, p142, w143, h137⟩ := h137
                            obtain ⟨i145, w146⟩ : (0 ≤ (σ137 12 0).toInt ∧ (σ137 12 0).toInt ≤ 160) ∧ (∀ k : Nat, k < 160 → 0 ≤ (σ137 13 k).toInt ∧ (σ137 13 k).toInt ≤ 30000) := id I141
                            obtain ⟨k147, h137⟩ := h137
                            refine lv_iload_n hx hb dX7_part_83 rfl (lv_at hl 3 rfl) ?_
                            refine lv_iconst (v := 2) hx hb dX7_part_84 (of_decide_eq_true rfl) ?_
                            refine lv_icmp_ne (tgt := 89) hx hb dX7_part_85 (of_decide_eq_true rfl) (fun _ => ?_) (fun c => absurd c (of_decide_eq_true rfl))
                            obtain ⟨x148, ex148⟩ : ∃ y : Int32, y = x36 + 1 := ⟨_, rfl⟩
                            exact by
                             have tx148 : x148.toInt = x36.toInt + 1 := (jadd ex148 rfl jz_1 (by omega) (by omega)).trans (by omega)
                             refine lv_iinc (v := x148) (lv' := [(3, .int x148), (4, .int (σ 10 (σ38 9 1).toNatClampNeg)), (0, .ref (ad 9)), (1, .int 4), (2, .int a2)]) hx hb dX7_part_89 hl (k := 1) rfl (by rw [ex148]; rfl) (of_decide_eq_true rfl) rfl (fun ls hl => ?_)
                             refine lv_goto (tgt := 21) hx hb dX7_part_92 (of_decide_eq_true rfl) ?_
                             have z149 : (σ137 9 1).toInt = (σ110 9 1).toInt := (congrArg Int32.toInt (show σ137 9 1 = (σ110 9 1) from (congrFun (f139 9 (of_decide_eq_true rfl)) 1)))
                             have z150 : (σ137 9 0).toInt = (σ 9 0).toInt := (congrArg Int32.toInt (show σ137 9 0 = (σ 9 0) from ((congrFun (f139 9 (of_decide_eq_true rfl)) 0).trans ((f113 0 (of_decide_eq_true rfl)).trans ((jkp 0 eσ100 (of_decide_eq_true rfl)).trans ((f52 0 (of_decide_eq_true rfl)).trans (f12 0 (of_decide_eq_true rfl))))))))
                             have z151 : (σ137 9 2).toInt = (σ110 9 2).toInt := (congrArg Int32.toInt (show σ137 9 2 = (σ110 9 2) from (congrFun (f139 9 (of_decide_eq_true rfl)) 2)))
                             exact by exact ihlp34 x148 σ137 _ _ ls (by have h90 := tx148; omega) (by have h90 := tx148; omega) (by have h90 := tx148; omega) (by have h90 := tx148; omega) (by have h90 := tx148; omega) (by have h90 := tx148; omega) (by have h90 := tx148; omega) (by have h90 := tx148; omega) (by have h90 := tx148; omega) (by have h90 := tx148; omega) (by have h90 := tx148; omega) (fun i hi => ((f139 i (imp_58 i hi)).trans ((f112 i hi).trans ((jnp i eσ100 (imp_60 i hi)).trans (f51 i hi))))) (fun i hi => ((congrFun (f139 9 (of_decide_eq_true rfl)) i).trans ((f113 i hi).trans ((jkp i eσ100 (imp_39 i hi)).trans (f52 i hi))))) (fun i hi => ((f140 i hi).trans ((f114 i hi).trans ((congrFun (jnp 12 eσ100 (of_decide_eq_true rfl)) i).trans (f53 i hi)))))  p142 I141 (jCi.to (jCi.step q56 (by omega) (of_decide_eq_true rfl) (of_decide_eq_true rfl) (by rw [k75]; omega) w120 (of_decide_eq_true rfl) (by omega) w143 (jwd_of (by have h9 := tx136; omega) (by omega) (by omega)) (show (σ137 12 0).toInt = (σ110 12 0).toInt + 1 by omega) (by omega)) (by omega) (by omega) rfl (by omega)) hP hS (lv_sub hl [0, 2, 3, 4] rfl)
                     · obtain ⟨q154, k152, k153⟩ := h92
                       exact absurd (by omega : False) id
                 · exact by
                    obtain ⟨q156, k155⟩ := h81
                    have q156 := q156.symm
                    subst q156
                    rw [jz_5] at k155
                    refine lv_iload_n hx hb dX7_part_42 rfl (lv_at hl 2 rfl) ?_
                    refine lv_icmp_ne (tgt := 95) hx hb dX7_part_43 (of_decide_eq_true rfl) (fun _ => ?_) (fun c => absurd c (of_decide_eq_true rfl))
                    have I157 : jI91 σ38 := ⟨(by omega), (by omega)⟩
                    have I158 : jI92 σ38 := (show (-1) ≤ (σ38 9 2).toInt ∧ (σ38 9 2).toInt ≤ 80 by omega)
                    exact by exact hret σ38 τ _ _ _ _ ⟨rfl, (fun i hi => ((f51 i hi).trans (f11 i hi))), (fun i hi => ((f52 i hi).trans (f12 i hi))), (fun i hi => ((f53 i hi).trans (f13 i hi))), I68, I157, I158, p55, p54, (jCi.fin q56 (of_decide_eq_true rfl) (fun _ => by rw [k75]; omega)), (by omega), (by omega), (by omega), (by omega), trivial⟩ hP hS dX7_part_95
              · exact by
                 obtain ⟨q161, k159, k160⟩ := h72
                 have q161 := q161.symm
                 subst q161
                 try rw [show (σ38 9 0).toInt = (σ 9 0).toInt from by omega] at k160
                 try rw [show σ38 10 = σ 10 from ((f51 10 (of_decide_eq_true rfl)).trans (f11 10 (of_decide_eq_true rfl)))] at k160
                 refine jcallS (As := [.int (-1)]) (rest := []) ⟨hx, hb, hml, hown, hts⟩ hK hP hA hS hZ (c_X7_levelOf l D cI cL ad zz hJ σ38 τ (-1) ((-1)) jz_m1) cw_RX7_98 ⟨by dsimp only; omega, by dsimp only; omega⟩ rfl rfl rfl hl.1 rfl (Nat.le_of_ble_eq_true rfl) dX7_part_39 ⟨Nat.zero_le _, Nat.zero_le _⟩ (fun r163 σ162 τ162 H locs h162 hP hS => ?_)
                 obtain ⟨⟨rfl, rfl⟩, h162⟩ := h162
                 rcases h162 with h164 | h165
                 · obtain ⟨q169, k166, k167, k168⟩ := h164
                   exact absurd (by omega : False) id
                 · obtain ⟨q171, k170⟩ := h165
                   have q171 := q171.symm
                   subst q171
                   rw [jz_5] at k170
                   refine lv_iload_n hx hb dX7_part_42 rfl (lv_at hl 2 rfl) ?_
                   refine lv_icmp_ne (tgt := 95) hx hb dX7_part_43 (of_decide_eq_true rfl) (fun _ => ?_) (fun c => absurd c (of_decide_eq_true rfl))
                   exact by
                    have I172 : jI91 σ38 := ⟨(by omega), (by omega)⟩
                    have I173 : jI92 σ38 := (show (-1) ≤ (σ38 9 2).toInt ∧ (σ38 9 2).toInt ≤ 80 by omega)
                    exact by exact hret σ38 τ _ _ _ _ ⟨rfl, (fun i hi => ((f51 i hi).trans (f11 i hi))), (fun i hi => ((f52 i hi).trans (f12 i hi))), (fun i hi => ((f53 i hi).trans (f13 i hi))), I68, I172, I173, p55, p54, (jCi.fin q56 (of_decide_eq_true rfl) (fun _ => by rw [k160]; omega)), (by omega), (by omega), (by omega), (by omega), trivial⟩ hP hS dX7_part_95
   exact by exact lp34 1000000 0 σ9 _ _ ls (by have h90 := jz_0; omega) (by have h90 := jz_0; omega) (by have h90 := jz_0; omega) (by have h90 := jz_0; omega) (by have h90 := jz_0; omega) (by have h90 := jz_0; omega) (by have h90 := jz_0; omega) (by have h90 := jz_0; omega) (by have h90 := jz_0; omega) (by have h90 := jz_0; omega) (by have h90 := jz_0; omega) (fun _ _ => rfl) (fun _ _ => rfl) (fun _ _ => rfl)  p18 I17 (jCp.begin w19 (of_decide_eq_true rfl) (of_decide_eq_true rfl)) hP hS hl
set_option maxHeartbeats 4000000 in
set_option maxRecDepth 100000 in
theorem c_X7_grammar_p3_g (l : Launch) (D : va_G) (cI cL : ClassId) (ad zz : Nat → Nat) (hJ : jD ad) (n : Nat) (h_p4 : ∀ (σ : Nat → Nat → Int32) (τ : Nat → Nat → Int64) (a2 : Int32) (A2 : Int) (t2 : a2.toInt = A2) (hI9 : jI9 σ) (hI91 : jI91 σ) (hI92 : jI92 σ) (hI12 : jI12 σ) (hs_jNd12 : jNd12 σ) (hp0 : 0 ≤ A2 ∧ A2 ≤ 6) (hp1 : -A2 + 6 ≤ (((n) : Nat) : Int)) (hp2 : (σ 9 2).toInt = (-1)) (hp3 : 3 * (σ 12 0).toInt ≤ 4 * (σ 9 1).toInt + 1), jMv l yX7_part cX7_part 5 none ({ frames := (12 + 8 * (n)), cells := 0, slots := 0, locals := (480 + 360 * (n)) }) D cI cL ad zz [.ref (ad 9), .int 4, .int a2] σ τ (fun σ' τ' => τ = τ' ∧ (∀ i : Nat, (i < 9 ∨ 9 < i) ∧ (i < 12 ∨ 13 < i) → σ' i = σ i) ∧ (∀ k : Nat, (k < 1 ∨ 1 < k) ∧ (k < 2 ∨ 2 < k) → σ' 9 k = σ 9 k) ∧ (∀ k : Nat, (k < 0 ∨ 0 < k) ∧ (k < 1 ∨ 1 < k) → σ' 12 k = σ 12 k) ∧ (jI9 σ') ∧ (jI91 σ') ∧ (jI92 σ') ∧ (jI12 σ') ∧ (jNd12 σ') ∧ (jCp (σ 10) (σ 9 0).toInt 4 (A2) (σ 9 1).toInt (σ' 9 1).toInt (σ' 9 2).toInt (σ 13) (σ' 13) (σ 12 0).toInt (σ' 12 0).toInt) ∧ ((σ 9 1).toInt ≤ (σ' 9 1).toInt) ∧ ((σ' 12 0).toInt - (σ 12 0).toInt ≤ (σ' 9 1).toInt - (σ 9 1).toInt) ∧ (3 * (σ' 12 0).toInt ≤ 4 * (σ' 9 1).toInt + 1) ∧ ((0 ≤ (σ' 9 2).toInt) ∨ ((σ 9 1).toInt + 1 ≤ (σ' 9 1).toInt)) ∧ True)) (σ : Nat → Nat → Int32) (τ : Nat → Nat → Int64) (a2 : Int32) (A2 : Int) (t2 : a2.toInt = A2) (hI9 : jI9 σ) (hI91 : jI91 σ) (hI92 : jI92 σ) (hI12 : jI12 σ) (hs_jNd12 : jNd12 σ) (hp0 : 0 ≤ A2 ∧ A2 ≤ 6) (hp1 : -A2 + 6 ≤ (((n) : Nat) : Int)) (hp2 : (σ 9 2).toInt = (-1)) (hp3 : 3 * (σ 12 0).toInt ≤ 4 * (σ 9 1).toInt + 1) : jMv l yX7_part cX7_part 5 none ({ frames := (13 + 8 * (n)), cells := 0, slots := 0, locals := (520 + 360 * (n)) }) D cI cL ad zz [.ref (ad 9), .int 3, .int a2] σ τ (fun σ' τ' => τ = τ' ∧ (∀ i : Nat, (i < 9 ∨ 9 < i) ∧ (i < 12 ∨ 13 < i) → σ' i = σ i) ∧ (∀ k : Nat, (k < 1 ∨ 1 < k) ∧ (k < 2 ∨ 2 < k) → σ' 9 k = σ 9 k) ∧ (∀ k : Nat, (k < 0 ∨ 0 < k) ∧ (k < 1 ∨ 1 < k) → σ' 12 k = σ 12 k) ∧ (jI9 σ') ∧ (jI91 σ') ∧ (jI92 σ') ∧ (jI12 σ') ∧ (jNd12 σ') ∧ (jCp (σ 10) (σ 9 0).toInt 3 (A2) (σ 9 1).toInt (σ' 9 1).toInt (σ' 9 2).toInt (σ 13) (σ' 13) (σ 12 0).toInt (σ' 12 0).toInt) ∧ ((σ 9 1).toInt ≤ (σ' 9 1).toInt) ∧ ((σ' 12 0).toInt - (σ 12 0).toInt ≤ (σ' 9 1).toInt - (σ 9 1).toInt) ∧ (3 * (σ' 12 0).toInt ≤ 4 * (σ' 9 1).toInt + 1) ∧ ((0 ≤ (σ' 9 2).toInt) ∨ ((σ 9 1).toInt + 1 ≤ (σ' 9 1).toInt)) ∧ True) := by
  refine jMv.of hJ (by decide +kernel) rfl (Nat.le_of_ble_eq_true rfl) ?_
  intro p e s m args below meth c Q ls hC hret hl hP
  obtain ⟨hx, hb, hr, hml, hown, hts, hK, -, hlocks, hZ⟩ := hC
  have hown : s.vm.findClass RX7 = some m.cls := hown
  have hS : va_S (jA ad) s.heap s.heap [] := va_S.rf
  have hA : ∀ q, jA ad q → jA ad q := fun _ h => h
  have hl : lv_has ls 5 [(0, .ref (ad 9)), (1, .int 3), (2, .int a2)] := hl
  have g2 := jrg t2
  obtain ⟨i1, w2, w3⟩ : (0 ≤ (σ 9 0).toInt ∧ (σ 9 0).toInt ≤ 80) ∧ (∀ k : Nat, k < 80 → 0 ≤ (σ 10 k).toInt ∧ (σ 10 k).toInt ≤ 255) ∧ (∀ k : Nat, k < 8 → 0 ≤ (σ 11 k).toInt ∧ (σ 11 k).toInt ≤ 3) := id hI9
  obtain ⟨i4, i5⟩ : (0 ≤ (σ 9 1).toInt) ∧ ((σ 9 1).toInt ≤ (σ 9 0).toInt) := id hI91
  have i6 : (-1) ≤ (σ 9 2).toInt ∧ (σ 9 2).toInt ≤ 80 := hI92
  obtain ⟨i7, w8⟩ : (0 ≤ (σ 12 0).toInt ∧ (σ 12 0).toInt ≤ 160) ∧ (∀ k : Nat, k < 160 → 0 ≤ (σ 13 k).toInt ∧ (σ 13 k).toInt ≤ 30000) := id hI12
  refine lv_iload_n hx hb dX7_part_0 rfl (lv_at hl 1 rfl) ?_
  refine lv_iconst (v := 5) hx hb dX7_part_1 (of_decide_eq_true rfl) ?_
  refine lv_icmp_lt (tgt := 11) hx hb dX7_part_2 (of_decide_eq_true rfl) (fun _ => ?_) (fun c => absurd (of_decide_eq_true rfl) c)
  refine lv_aload_n hx hb dX7_part_11 rfl (lv_at hl 0 rfl) ?_
  refine lv_iload_n hx hb dX7_part_12 rfl (lv_at hl 1 rfl) ?_
  refine lv_iconst (v := 1) hx hb dX7_part_13 (of_decide_eq_true rfl) ?_
  refine lv_iadd hx hb dX7_part_14 ?_
  refine jtopr (y := 4) (of_decide_eq_true rfl) ?_
  refine lv_iload_n hx hb dX7_part_15 rfl (lv_at hl 2 rfl) ?_
  exact by
   refine jcallVv (As := [.int 4, .int a2]) (rest := []) ⟨hx, hb, hml, hown, hts⟩ hK hP hA hS hZ (h_p4 σ τ a2 (A2) t2 hI9 hI91 hI92 hI12 hs_jNd12 (by omega) (by omega) (by omega) (by omega)) cw_RX7_82 (jc_9 cI cL ad σ τ) rfl ⟨by dsimp only; omega, by dsimp only; omega⟩ rfl rfl rfl hl.1 rfl (Nat.le_of_ble_eq_true rfl) dX7_part_16 ⟨Nat.zero_le _, Nat.zero_le _⟩ (fun σ9 τ9 H locs h9 hP hS => ?_)
   obtain ⟨rfl, f11, f12, f13, I14, I15, I16, I17, p18, w19, h9⟩ := h9
   obtain ⟨i21, w22, w23⟩ : (0 ≤ (σ9 9 0).toInt ∧ (σ9 9 0).toInt ≤ 80) ∧ (∀ k : Nat, k < 80 → 0 ≤ (σ9 10 k).toInt ∧ (σ9 10 k).toInt ≤ 255) ∧ (∀ k : Nat, k < 8 → 0 ≤ (σ9 11 k).toInt ∧ (σ9 11 k).toInt ≤ 3) := id I14
   obtain ⟨i24, i25⟩ : (0 ≤ (σ9 9 1).toInt) ∧ ((σ9 9 1).toInt ≤ (σ9 9 0).toInt) := id I15
   have i26 : (-1) ≤ (σ9 9 2).toInt ∧ (σ9 9 2).toInt ≤ 80 := I16
   obtain ⟨i27, w28⟩ : (0 ≤ (σ9 12 0).toInt ∧ (σ9 12 0).toInt ≤ 160) ∧ (∀ k : Nat, k < 160 → 0 ≤ (σ9 13 k).toInt ∧ (σ9 13 k).toInt ≤ 30000) := id I17
   have z29 : (σ9 9 0).toInt = (σ 9 0).toInt := (congrArg Int32.toInt (show σ9 9 0 = (σ 9 0) from (f12 0 (of_decide_eq_true rfl))))
   obtain ⟨k30, k31, k32, k33, h9⟩ := h9
   refine lv_iconst (v := 0) hx hb dX7_part_19 (of_decide_eq_true rfl) ?_
   refine lv_istore_n (lv' := [(3, .int 0), (0, .ref (ad 9)), (1, .int 3), (2, .int a2)]) hx hb dX7_part_20 rfl hl (of_decide_eq_true rfl) rfl (fun ls hl => ?_)
   have lp34 : ∀ (n35 : Nat) (x36 : Int32) (σ38 : Nat → Nat → Int32) (H : Heap) (locs : List Loc) (ls : Array Slot), (-x36.toInt + 80 : Int) < n35 → 0 ≤ x36.toInt → x36.toInt ≤ 80 → 0 ≤ (σ38 9 1).toInt → (σ38 9 1).toInt ≤ (σ38 9 0).toInt → (-1) ≤ (σ38 9 2).toInt ∧ (σ38 9 2).toInt ≤ 80 → (σ 9 1).toInt ≤ (σ38 9 1).toInt → (σ38 12 0).toInt - (σ 12 0).toInt ≤ (σ38 9 1).toInt - (σ 9 1).toInt → 3 * (σ38 12 0).toInt ≤ 4 * (σ38 9 1).toInt + 1 → ((0 ≤ (σ38 9 2).toInt) ∨ ((σ 9 1).toInt + 1 ≤ (σ38 9 1).toInt)) → x36.toInt ≤ (σ38 9 1).toInt → (∀ i : Nat, (i < 9 ∨ 9 < i) ∧ (i < 12 ∨ 13 < i) → σ38 i = σ9 i) → (∀ k : Nat, (k < 1 ∨ 1 < k) ∧ (k < 2 ∨ 2 < k) → σ38 9 k = σ9 9 k) → (∀ k : Nat, (k < 0 ∨ 0 < k) ∧ (k < 1 ∨ 1 < k) → σ38 12 k = σ9 12 k) → jNd12 σ38 → jI12 σ38 → (jCi (σ 10) (σ 9 0).toInt 3 (A2) (σ 9 1).toInt (σ38 9 1).toInt (σ38 9 2).toInt (σ 13) (σ38 13) (σ 12 0).toInt (σ38 12 0).toInt) → jH D cI cL ad σ38 τ H → va_S (jA ad) s.heap H locs → lv_has ls 5 [(3, .int x36), (0, .ref (ad 9)), (1, .int 3), (2, .int a2)] → W p l e ({ frames := (13 + 8 * (n)), cells := 0, slots := 0, locals := (520 + 360 * (n)) }) s m args below meth c H locs 0 0 Q (F0 m 21 ls []) := by
     intro n35
     induction n35 with
     | zero => intro x36 σ38 H locs ls h40 h41 h42 h43 h44 h45 h46 h47 h48 h49 h50; exact absurd h40 (by omega)
     | succ n35 ihlp34 =>
       intro x36 σ38 H locs ls h40 h41 h42 h43 h44 h45 h46 h47 h48 h49 h50 f51 f52 f53 p54 p55 q56 hP hS hl
       exact by
        obtain ⟨i57, w58⟩ : (0 ≤ (σ38 12 0).toInt ∧ (σ38 12 0).toInt ≤ 160) ∧ (∀ k : Nat, k < 160 → 0 ≤ (σ38 13 k).toInt ∧ (σ38 13 k).toInt ≤ 30000) := id p55
        have z59 : (σ38 9 0).toInt = (σ 9 0).toInt := (congrArg Int32.toInt (show σ38 9 0 = (σ 9 0) from ((f52 0 (of_decide_eq_true rfl)).trans (f12 0 (of_decide_eq_true rfl)))))
        refine lv_iload_n hx hb dX7_part_21 rfl (lv_at hl 0 rfl) ?_
        refine lv_bipush (v := 80) hx hb dX7_part_22 (of_decide_eq_true rfl) ?_
        refine lv_icmp_ge (tgt := 95) hx hb dX7_part_24 (of_decide_eq_true rfl) (fun c60 => ?_) (fun c60 => ?_)
        · have kc60 := jle c60 jz_80 rfl
          have I61 : jI9 σ38 := jI9_fr (f52 0 (of_decide_eq_true rfl)) (f51 10 (of_decide_eq_true rfl)) (f51 11 (of_decide_eq_true rfl)) I14
          have I62 : jI91 σ38 := ⟨(by omega), (by omega)⟩
          have I63 : jI92 σ38 := (show (-1) ≤ (σ38 9 2).toInt ∧ (σ38 9 2).toInt ≤ 80 by omega)
          exact by exact hret σ38 τ _ _ _ _ ⟨rfl, (fun i hi => ((f51 i hi).trans (f11 i hi))), (fun i hi => ((f52 i hi).trans (f12 i hi))), (fun i hi => ((f53 i hi).trans (f13 i hi))), I61, I62, I63, p55, p54, (jCi.fin q56 (of_decide_eq_true rfl) (fun _ => by rw [jYs_n (by omega)]; decide)), (by omega), (by omega), (by omega), (by omega), trivial⟩ hP hS dX7_part_95
        · exact by
           have kc60 := jnle c60 jz_80 rfl
           refine lv_aload_n hx hb dX7_part_27 rfl (lv_at hl 1 rfl) ?_
           refine va_get (D := D) hx hb hts inlX7 hown hK hP 9 (jc_9 cI cL ad σ38 τ) rfl 2 (of_decide_eq_true rfl) (hts _ kw_14_6) (fun _ h9 => h9) rfl dX7_part_28 ?_
           refine lv_iconst (v := (-1)) hx hb dX7_part_31 (of_decide_eq_true rfl) ?_
           refine lv_icmp_ne (tgt := 95) hx hb dX7_part_32 (of_decide_eq_true rfl) (fun c64 => ?_) (fun c64 => ?_)
           · have kc64 := jne c64 rfl jz_m1
             have I65 : jI9 σ38 := jI9_fr (f52 0 (of_decide_eq_true rfl)) (f51 10 (of_decide_eq_true rfl)) (f51 11 (of_decide_eq_true rfl)) I14
             have I66 : jI91 σ38 := ⟨(by omega), (by omega)⟩
             have I67 : jI92 σ38 := (show (-1) ≤ (σ38 9 2).toInt ∧ (σ38 9 2).toInt ≤ 80 by omega)
             exact by exact hret σ38 τ _ _ _ _ ⟨rfl, (fun i hi => ((f51 i hi).trans (f11 i hi))), (fun i hi => ((f52 i hi).trans (f12 i hi))), (fun i hi => ((f53 i hi).trans (f13 i hi))), I65, I66, I67, p55, p54, (jCi.fin q56 (of_decide_eq_true rfl) (fun h9 => absurd h9 (by omega))), (by omega), (by omega), (by omega), (by omega), trivial⟩ hP hS dX7_part_95
           · exact by
              have kc64 := jeq c64 rfl jz_m1
              refine lv_aload_n hx hb dX7_part_35 rfl (lv_at hl 1 rfl) ?_
              have I68 : jI9 σ38 := jI9_fr (f52 0 (of_decide_eq_true rfl)) (f51 10 (of_decide_eq_true rfl)) (f51 11 (of_decide_eq_true rfl)) I14
              refine jcallV (As := []) (rest := []) ⟨hx, hb, hml, hown, hts⟩ hK hP hA hS hZ (c_X7_sign_9 l D cI cL ad zz hJ σ38 τ I68) cw_RX7_35 (jc_9 cI cL ad σ38 τ) rfl ⟨by dsimp only; omega, by dsimp only; omega⟩ rfl rfl rfl hl.1 rfl (Nat.le_of_ble_eq_true rfl) dX7_part_36 ⟨Nat.zero_le _, Nat.zero_le _⟩ (fun r70 σ69 τ69 H locs h69 hP hS => ?_)
              obtain ⟨⟨rfl, rfl⟩, h69⟩ := h69
              rcases h69 with h71 | h72
              · obtain ⟨q76, k73, k74, k75⟩ := h71
                have q77 : r70 = (σ 10 (σ38 9 1).toNatClampNeg) := q76.trans (by rw [f51 10 (of_decide_eq_true rfl), f11 10 (of_decide_eq_true rfl)])
                have q77e : (σ38 10 (σ38 9 1).toNatClampNeg).toInt = (σ 10 (σ38 9 1).toNatClampNeg).toInt := by rw [← q76, ← q77]
                exact by
                 have q77 := q77.symm
                 subst q77
                 try rw [show (σ38 9 0).toInt = (σ 9 0).toInt from by omega] at k75
                 try rw [show σ38 10 = σ 10 from ((f51 10 (of_decide_eq_true rfl)).trans (f11 10 (of_decide_eq_true rfl)))] at k75
                 refine jcallS (As := [.int (σ 10 (σ38 9 1).toNatClampNeg)]) (rest := []) ⟨hx, hb, hml, hown, hts⟩ hK hP hA hS hZ (c_X7_levelOf l D cI cL ad zz hJ σ38 τ (σ 10 (σ38 9 1).toNatClampNeg) ((σ 10 (σ38 9 1).toNatClampNeg).toInt) rfl) cw_RX7_98 ⟨by dsimp only; omega, by dsimp only; omega⟩ rfl rfl rfl hl.1 rfl (Nat.le_of_ble_eq_true rfl) dX7_part_39 ⟨Nat.zero_le _, Nat.zero_le _⟩ (fun r79 σ78 τ78 H locs h78 hP hS => ?_)
                 obtain ⟨⟨rfl, rfl⟩, h78⟩ := h78
                 rcases h78 with h80 | h81
                 · obtain ⟨q85, k82, k83, k84⟩ := h80
                   refine lv_iload_n hx hb dX7_part_42 rfl (lv_at hl 2 rfl) ?_
                   refine lv_icmp_ne (tgt := 95) hx hb dX7_part_43 (of_decide_eq_true rfl) (fun c86 => ?_) (fun c86 => ?_)
                   · have kc86 := jne c86 rfl jz_3
                     exact by
                      have I87 : jI91 σ38 := ⟨(by omega), (by omega)⟩
                      have I88 : jI92 σ38 := (show (-1) ≤ (σ38 9 2).toInt ∧ (σ38 9 2).toInt ≤ 80 by omega)
                      exact by exact hret σ38 τ _ _ _ _ ⟨rfl, (fun i hi => ((f51 i hi).trans (f11 i hi))), (fun i hi => ((f52 i hi).trans (f12 i hi))), (fun i hi => ((f53 i hi).trans (f13 i hi))), I68, I87, I88, p55, p54, (jCi.fin q56 (of_decide_eq_true rfl) (fun _ => by rw [k75]; omega)), (by omega), (by omega), (by omega), (by omega), trivial⟩ hP hS dX7_part_95
                   · have kc86 := jeq c86 rfl jz_3
                     refine lv_aload_n hx hb dX7_part_46 rfl (lv_at hl 1 rfl) ?_
                     refine jcallV (As := []) (rest := []) ⟨hx, hb, hml, hown, hts⟩ hK hP hA hS hZ (c_X7_sign_9 l D cI cL ad zz hJ σ38 τ I68) cw_RX7_35 (jc_9 cI cL ad σ38 τ) rfl ⟨by dsimp only; omega, by dsimp only; omega⟩ rfl rfl rfl hl.1 rfl (Nat.le_of_ble_eq_true rfl) dX7_part_47 ⟨Nat.zero_le _, Nat.zero_le _⟩ (fun r90 σ89 τ89 H locs h89 hP hS => ?_)
                     obtain ⟨⟨rfl, rfl⟩, h89⟩ := h89
                     rcases h89 with h91 | h92
                     · obtain ⟨q96, k93, k94, k95⟩ := h91
                       exact by
                        have q97 : r90 = (σ 10 (σ38 9 1).toNatClampNeg) := q96.trans (by rw [f51 10 (of_decide_eq_true rfl), f11 10 (of_decide_eq_true rfl)])
                        have q97e : (σ38 10 (σ38 9 1).toNatClampNeg).toInt = (σ 10 (σ38 9 1).toNatClampNeg).toInt := by rw [← q96, ← q97]
                        have q97 := q97.symm
                        subst q97
                        try rw [show (σ38 9 0).toInt = (σ 9 0).toInt from by omega] at k95
                        try rw [show σ38 10 = σ 10 from ((f51 10 (of_decide_eq_true rfl)).trans (f11 10 (of_decide_eq_true rfl)))] at k95
                        refine lv_istore (lv' := [(4, .int (σ 10 (σ38 9 1).toNatClampNeg)), (3, .int x36), (0, .ref (ad 9)), (1, .int 3), (2, .int a2)]) hx hb dX7_part_50 hl (of_decide_eq_true rfl) rfl (fun ls hl => ?_)
                        refine lv_aload_n hx hb dX7_part_52 rfl (lv_at hl 2 rfl) ?_
                        refine lv_dup hx hb dX7_part_53 rfl ?_
                        refine va_get (D := D) hx hb hts inlX7 hown hK hP 9 (jc_9 cI cL ad σ38 τ) rfl 1 (of_decide_eq_true rfl) (hts _ kw_13_17) (fun _ h9 => h9) rfl dX7_part_54 ?_
                        refine lv_iconst (v := 1) hx hb dX7_part_57 (of_decide_eq_true rfl) ?_
                        have g98 := jrg (rfl : (σ38 9 1).toInt = (σ38 9 1).toInt)
                        refine lv_iadd hx hb dX7_part_58 ?_
                        refine lv_topi (fun x99 ex99 => ?_)
                        exact by
                         have tx99 : x99.toInt = (σ38 9 1).toInt + 1 := (jadd ex99 rfl jz_1 (by omega) (by omega)).trans (by omega)
                         refine jput (ty := .int) hx hb hts inlX7 tyX7 tyX7_ok nmX7 hown hK hP hJ hA hS (jc_9 cI cL ad σ38 τ) rfl (k := 1) (of_decide_eq_true rfl) (Nat.le_of_ble_eq_true rfl) (jp_9_1 cI cL ad σ38 τ x99) (hts _ kw_13_17) (fun _ h9 => h9) rfl (by decide +kernel) rfl rfl dX7_part_59 (fun σ100 H locs eσ100 hP hS => ?_)
                         refine lv_aload_n hx hb dX7_part_62 rfl (lv_at hl 2 rfl) ?_
                         refine lv_iload_n hx hb dX7_part_63 rfl (lv_at hl 3 rfl) ?_
                         refine lv_iconst (v := 1) hx hb dX7_part_64 (of_decide_eq_true rfl) ?_
                         refine lv_iadd hx hb dX7_part_65 ?_
                         refine jtopr (y := 4) (of_decide_eq_true rfl) ?_
                         refine lv_iload_n hx hb dX7_part_66 rfl (lv_at hl 4 rfl) ?_
                         have I101 : jI9 σ100 := jI9_fr (jkp 0 eσ100 (of_decide_eq_true rfl)) (jnp 10 eσ100 (of_decide_eq_true rfl)) (jnp 11 eσ100 (of_decide_eq_true rfl)) I68
                         have z102 : (σ100 9 1).toInt = (σ38 9 1).toInt + 1 := ((congrArg Int32.toInt (show σ100 9 1 = x99 from (jsp eσ100))).trans tx99)
                         have z103 : (σ100 9 0).toInt = (σ 9 0).toInt := (congrArg Int32.toInt (show σ100 9 0 = (σ 9 0) from ((jkp 0 eσ100 (of_decide_eq_true rfl)).trans ((f52 0 (of_decide_eq_true rfl)).trans (f12 0 (of_decide_eq_true rfl))))))
                         exact by
                          have I104 : jI91 σ100 := ⟨(by omega), (by omega)⟩
                          have z105 : (σ100 9 2).toInt = (σ38 9 2).toInt := (congrArg Int32.toInt (show σ100 9 2 = (σ38 9 2) from (jkp 2 eσ100 (of_decide_eq_true rfl))))
                          have I106 : jI92 σ100 := (show (-1) ≤ (σ100 9 2).toInt ∧ (σ100 9 2).toInt ≤ 80 by omega)
                          have I107 : jI12 σ100 := jI12_fr (congrFun (jnp 12 eσ100 (of_decide_eq_true rfl)) 0) (jnp 13 eσ100 (of_decide_eq_true rfl)) p55
                          have p108 : jNd12 σ100 := jNd12.fr (congrFun (jnp 12 eσ100 (of_decide_eq_true rfl)) 0) (congrFun (jnp 12 eσ100 (of_decide_eq_true rfl)) 1) (jnp 13 eσ100 (of_decide_eq_true rfl)) p54
                          have z109 : (σ100 12 0).toInt = (σ38 12 0).toInt := (congrArg Int32.toInt (show σ100 12 0 = (σ38 12 0) from (congrFun (jnp 12 eσ100 (of_decide_eq_true rfl)) 0)))
                          refine jcallVv (As := [.int 4, .int a2]) (rest := []) ⟨hx, hb, hml, hown, hts⟩ hK hP hA hS hZ (h_p4 σ100 τ a2 (A2) t2 I101 I104 I106 I107 p108 (by omega) (by omega) (by omega) (by omega)) cw_RX7_82 (jc_9 cI cL ad σ100 τ) rfl ⟨by dsimp only; omega, by dsimp only; omega⟩ rfl rfl rfl hl.1 rfl (Nat.le_of_ble_eq_true rfl) dX7_part_67 ⟨Nat.zero_le _, Nat.zero_le _⟩ (fun σ110 τ110 H locs h110 hP hS => ?_)
                          obtain ⟨rfl, f112, f113, f114, I115, I116, I117, I118, p119, w120, h110⟩ := h110
                          obtain ⟨i122, w123, w124⟩ : (0 ≤ (σ110 9 0).toInt ∧ (σ110 9 0).toInt ≤ 80) ∧ (∀ k : Nat, k < 80 → 0 ≤ (σ110 10 k).toInt ∧ (σ110 10 k).toInt ≤ 255) ∧ (∀ k : Nat, k < 8 → 0 ≤ (σ110 11 k).toInt ∧ (σ110 11 k).toInt ≤ 3) := id I115
                          exact by
                           obtain ⟨i125, i126⟩ : (0 ≤ (σ110 9 1).toInt) ∧ ((σ110 9 1).toInt ≤ (σ110 9 0).toInt) := id I116
                           have i127 : (-1) ≤ (σ110 9 2).toInt ∧ (σ110 9 2).toInt ≤ 80 := I117
                           obtain ⟨i128, w129⟩ : (0 ≤ (σ110 12 0).toInt ∧ (σ110 12 0).toInt ≤ 160) ∧ (∀ k : Nat, k < 160 → 0 ≤ (σ110 13 k).toInt ∧ (σ110 13 k).toInt ≤ 30000) := id I118
                           try rw [show (σ100 9 1).toInt = (σ38 9 1).toInt + 1 from by omega] at w120
                           try rw [show (σ100 9 0).toInt = (σ 9 0).toInt from by omega] at w120
                           try rw [show σ100 10 = σ 10 from ((jnp 10 eσ100 (of_decide_eq_true rfl)).trans ((f51 10 (of_decide_eq_true rfl)).trans (f11 10 (of_decide_eq_true rfl))))] at w120
                           try rw [show σ100 13 = σ38 13 from by rw [jnp 13 eσ100 (of_decide_eq_true rfl)]] at w120
                           try rw [show (σ100 12 0).toInt = (σ38 12 0).toInt from by omega] at w120
                           have z130 : (σ110 9 0).toInt = (σ 9 0).toInt := (congrArg Int32.toInt (show σ110 9 0 = (σ 9 0) from ((f113 0 (of_decide_eq_true rfl)).trans ((jkp 0 eσ100 (of_decide_eq_true rfl)).trans ((f52 0 (of_decide_eq_true rfl)).trans (f12 0 (of_decide_eq_true rfl)))))))
                           obtain ⟨k131, k132, k133, k134, h110⟩ := h110
                           refine lv_aload_n hx hb dX7_part_70 rfl (lv_at hl 2 rfl) ?_
                           refine va_get (D := D) hx hb hts inlX7 hown hK hP 9 (jc_9 cI cL ad σ110 τ) rfl 5 (of_decide_eq_true rfl) (hts _ kw_3_23) (fun _ h9 => h9) rfl dX7_part_71 ?_
                           refine lv_sipush (v := 20000) hx hb dX7_part_74 (of_decide_eq_true rfl) ?_
                           refine lv_iload hx hb dX7_part_77 (lv_at hl 0 rfl) ?_
                           have g135 := jrg (rfl : (σ 10 (σ38 9 1).toNatClampNeg).toInt = (σ 10 (σ38 9 1).toNatClampNeg).toInt)
                           refine lv_iadd hx hb dX7_part_79 ?_
                           refine lv_topi (fun x136 ex136 => ?_)
                           exact by
                            have tx136 : x136.toInt = (σ 10 (σ38 9 1).toNatClampNeg).toInt + 20000 := (jadd ex136 jz_20000 rfl (by omega) (by omega)).trans (by omega)
                            refine jcallVv (As := [.int x136]) (rest := []) ⟨hx, hb, hml, hown, hts⟩ hK hP hA hS hZ (c_X10_add_12 l D cI cL ad zz hJ σ110 τ x136 ((σ 10 (σ38 9 1).toNatClampNeg).toInt + 20000) tx136 I118 p119 (by omega) (by omega)) cw_RX7_86 (jc_12 cI cL ad σ110 τ) rfl ⟨by dsimp only; omega, by dsimp only; omega⟩ rfl rfl rfl hl.1 rfl (Nat.le_of_ble_eq_true rfl) dX7_part_80 ⟨Nat.zero_le _, Nat.zero_le _⟩ (fun σ137 τ137 H locs h137 hP hS => ?_)
                            obtain ⟨rfl, f139, f140, I141, p142, w143, h137⟩ := h137
                            obtain ⟨i145, w146⟩ : (0 ≤ (σ137 12 0).toInt ∧ (σ137 12 0).toInt ≤ 160) ∧ (∀ k : Nat, k < 160 → 0 ≤ (σ137 13 k).toInt ∧ (σ137 13 k).toInt ≤ 30000) := id I141
                            obtain ⟨k147, h137⟩ := h137
                            refine lv_iload_n hx hb dX7_part_83 rfl (lv_at hl 3 rfl) ?_
                            refine lv_iconst (v := 2) hx hb dX7_part_84 (of_decide_eq_true rfl) ?_
                            refine lv_icmp_ne (tgt := 89) hx hb dX7_part_85 (of_decide_eq_true rfl) (fun _ => ?_) (fun c => absurd c (of_decide_eq_true rfl))
                            obtain ⟨x148, ex148⟩ : ∃ y : Int32, y = x36 + 1 := ⟨_, rfl⟩
                            exact by
                             have tx148 : x148.toInt = x36.toInt + 1 := (jadd ex148 rfl jz_1 (by omega) (by omega)).trans (by omega)
                             refine lv_iinc (v := x148) (lv' := [(3, .int x148), (4, .int (σ 10 (σ38 9 1).toNatClampNeg)), (0, .ref (ad 9)), (1, .int 3), (2, .int a2)]) hx hb dX7_part_89 hl (k := 1) rfl (by rw [ex148]; rfl) (of_decide_eq_true rfl) rfl (fun ls hl => ?_)
                             refine lv_goto (tgt := 21) hx hb dX7_part_92 (of_decide_eq_true rfl) ?_
                             have z149 : (σ137 9 1).toInt = (σ110 9 1).toInt := (congrArg Int32.toInt (show σ137 9 1 = (σ110 9 1) from (congrFun (f139 9 (of_decide_eq_true rfl)) 1)))
                             have z150 : (σ137 9 0).toInt = (σ 9 0).toInt := (congrArg Int32.toInt (show σ137 9 0 = (σ 9 0) from ((congrFun (f139 9 (of_decide_eq_true rfl)) 0).trans ((f113 0 (of_decide_eq_true rfl)).trans ((jkp 0 eσ100 (of_decide_eq_true rfl)).trans ((f52 0 (of_decide_eq_true rfl)).trans (f12 0 (of_decide_eq_true rfl))))))))
                             have z151 : (σ137 9 2).toInt = (σ110 9 2).toInt := (congrArg Int32.toInt (show σ137 9 2 = (σ110 9 2) from (congrFun (f139 9 (of_decide_eq_true rfl)) 2)))
                             exact by exact ihlp34 x148 σ137 _ _ ls (by have h90 := tx148; omega) (by have h90 := tx148; omega) (by have h90 := tx148; omega) (by have h90 := tx148; omega) (by have h90 := tx148; omega) (by have h90 := tx148; omega) (by have h90 := tx148; omega) (by have h90 := tx148; omega) (by have h90 := tx148; omega) (by have h90 := tx148; omega) (by have h90 := tx148; omega) (fun i hi => ((f139 i (imp_58 i hi)).trans ((f112 i hi).trans ((jnp i eσ100 (imp_60 i hi)).trans (f51 i hi))))) (fun i hi => ((congrFun (f139 9 (of_decide_eq_true rfl)) i).trans ((f113 i hi).trans ((jkp i eσ100 (imp_39 i hi)).trans (f52 i hi))))) (fun i hi => ((f140 i hi).trans ((f114 i hi).trans ((congrFun (jnp 12 eσ100 (of_decide_eq_true rfl)) i).trans (f53 i hi)))))  p142 I141 (jCi.to (jCi.step q56 (by omega) (of_decide_eq_true rfl) (of_decide_eq_true rfl) (by rw [k75]; omega) w120 (of_decide_eq_true rfl) (by omega) w143 (jwd_of (by have h9 := tx136; omega) (by omega) (by omega)) (show (σ137 12 0).toInt = (σ110 12 0).toInt + 1 by omega) (by omega)) (by omega) (by omega) rfl (by omega)) hP hS (lv_sub hl [0, 2, 3, 4] rfl)
                     · obtain ⟨q154, k152, k153⟩ := h92
                       exact absurd (by omega : False) id
                 · exact by
                    obtain ⟨q156, k155⟩ := h81
                    have q156 := q156.symm
                    subst q156
                    rw [jz_5] at k155
                    refine lv_iload_n hx hb dX7_part_42 rfl (lv_at hl 2 rfl) ?_
                    refine lv_icmp_ne (tgt := 95) hx hb dX7_part_43 (of_decide_eq_true rfl) (fun _ => ?_) (fun c => absurd c (of_decide_eq_true rfl))
                    have I157 : jI91 σ38 := ⟨(by omega), (by omega)⟩
                    have I158 : jI92 σ38 := (show (-1) ≤ (σ38 9 2).toInt ∧ (σ38 9 2).toInt ≤ 80 by omega)
                    exact by exact hret σ38 τ _ _ _ _ ⟨rfl, (fun i hi => ((f51 i hi).trans (f11 i hi))), (fun i hi => ((f52 i hi).trans (f12 i hi))), (fun i hi => ((f53 i hi).trans (f13 i hi))), I68, I157, I158, p55, p54, (jCi.fin q56 (of_decide_eq_true rfl) (fun _ => by rw [k75]; omega)), (by omega), (by omega), (by omega), (by omega), trivial⟩ hP hS dX7_part_95
              · exact by
                 obtain ⟨q161, k159, k160⟩ := h72
                 have q161 := q161.symm
                 subst q161
                 try rw [show (σ38 9 0).toInt = (σ 9 0).toInt from by omega] at k160
                 try rw [show σ38 10 = σ 10 from ((f51 10 (of_decide_eq_true rfl)).trans (f11 10 (of_decide_eq_true rfl)))] at k160
                 refine jcallS (As := [.int (-1)]) (rest := []) ⟨hx, hb, hml, hown, hts⟩ hK hP hA hS hZ (c_X7_levelOf l D cI cL ad zz hJ σ38 τ (-1) ((-1)) jz_m1) cw_RX7_98 ⟨by dsimp only; omega, by dsimp only; omega⟩ rfl rfl rfl hl.1 rfl (Nat.le_of_ble_eq_true rfl) dX7_part_39 ⟨Nat.zero_le _, Nat.zero_le _⟩ (fun r163 σ162 τ162 H locs h162 hP hS => ?_)
                 obtain ⟨⟨rfl, rfl⟩, h162⟩ := h162
                 rcases h162 with h164 | h165
                 · obtain ⟨q169, k166, k167, k168⟩ := h164
                   exact absurd (by omega : False) id
                 · obtain ⟨q171, k170⟩ := h165
                   have q171 := q171.symm
                   subst q171
                   rw [jz_5] at k170
                   refine lv_iload_n hx hb dX7_part_42 rfl (lv_at hl 2 rfl) ?_
                   refine lv_icmp_ne (tgt := 95) hx hb dX7_part_43 (of_decide_eq_true rfl) (fun _ => ?_) (fun c => absurd c (of_decide_eq_true rfl))
                   exact by
                    have I172 : jI91 σ38 := ⟨(by omega), (by omega)⟩
                    have I173 : jI92 σ38 := (show (-1) ≤ (σ38 9 2).toInt ∧ (σ38 9 2).toInt ≤ 80 by omega)
                    exact by exact hret σ38 τ _ _ _ _ ⟨rfl, (fun i hi => ((f51 i hi).trans (f11 i hi))), (fun i hi => ((f52 i hi).trans (f12 i hi))), (fun i hi => ((f53 i hi).trans (f13 i hi))), I68, I172, I173, p55, p54, (jCi.fin q56 (of_decide_eq_true rfl) (fun _ => by rw [k160]; omega)), (by omega), (by omega), (by omega), (by omega), trivial⟩ hP hS dX7_part_95
   exact by exact lp34 1000000 0 σ9 _ _ ls (by have h90 := jz_0; omega) (by have h90 := jz_0; omega) (by have h90 := jz_0; omega) (by have h90 := jz_0; omega) (by have h90 := jz_0; omega) (by have h90 := jz_0; omega) (by have h90 := jz_0; omega) (by have h90 := jz_0; omega) (by have h90 := jz_0; omega) (by have h90 := jz_0; omega) (by have h90 := jz_0; omega) (fun _ _ => rfl) (fun _ _ => rfl) (fun _ _ => rfl)  p18 I17 (jCp.begin w19 (of_decide_eq_true rfl) (of_decide_eq_true rfl)) hP hS hl
set_option maxHeartbeats 4000000 in
set_option maxRecDepth 100000 in
theorem c_X7_grammar_p2_g (l : Launch) (D : va_G) (cI cL : ClassId) (ad zz : Nat → Nat) (hJ : jD ad) (n : Nat) (h_p3 : ∀ (σ : Nat → Nat → Int32) (τ : Nat → Nat → Int64) (a2 : Int32) (A2 : Int) (t2 : a2.toInt = A2) (hI9 : jI9 σ) (hI91 : jI91 σ) (hI92 : jI92 σ) (hI12 : jI12 σ) (hs_jNd12 : jNd12 σ) (hp0 : 0 ≤ A2 ∧ A2 ≤ 6) (hp1 : -A2 + 6 ≤ (((n) : Nat) : Int)) (hp2 : (σ 9 2).toInt = (-1)) (hp3 : 3 * (σ 12 0).toInt ≤ 4 * (σ 9 1).toInt + 1), jMv l yX7_part cX7_part 5 none ({ frames := (13 + 8 * (n)), cells := 0, slots := 0, locals := (520 + 360 * (n)) }) D cI cL ad zz [.ref (ad 9), .int 3, .int a2] σ τ (fun σ' τ' => τ = τ' ∧ (∀ i : Nat, (i < 9 ∨ 9 < i) ∧ (i < 12 ∨ 13 < i) → σ' i = σ i) ∧ (∀ k : Nat, (k < 1 ∨ 1 < k) ∧ (k < 2 ∨ 2 < k) → σ' 9 k = σ 9 k) ∧ (∀ k : Nat, (k < 0 ∨ 0 < k) ∧ (k < 1 ∨ 1 < k) → σ' 12 k = σ 12 k) ∧ (jI9 σ') ∧ (jI91 σ') ∧ (jI92 σ') ∧ (jI12 σ') ∧ (jNd12 σ') ∧ (jCp (σ 10) (σ 9 0).toInt 3 (A2) (σ 9 1).toInt (σ' 9 1).toInt (σ' 9 2).toInt (σ 13) (σ' 13) (σ 12 0).toInt (σ' 12 0).toInt) ∧ ((σ 9 1).toInt ≤ (σ' 9 1).toInt) ∧ ((σ' 12 0).toInt - (σ 12 0).toInt ≤ (σ' 9 1).toInt - (σ 9 1).toInt) ∧ (3 * (σ' 12 0).toInt ≤ 4 * (σ' 9 1).toInt + 1) ∧ ((0 ≤ (σ' 9 2).toInt) ∨ ((σ 9 1).toInt + 1 ≤ (σ' 9 1).toInt)) ∧ True)) (σ : Nat → Nat → Int32) (τ : Nat → Nat → Int64) (a2 : Int32) (A2 : Int) (t2 : a2.toInt = A2) (hI9 : jI9 σ) (hI91 : jI91 σ) (hI92 : jI92 σ) (hI12 : jI12 σ) (hs_jNd12 : jNd12 σ) (hp0 : 0 ≤ A2 ∧ A2 ≤ 6) (hp1 : -A2 + 6 ≤ (((n) : Nat) : Int)) (hp2 : (σ 9 2).toInt = (-1)) (hp3 : 3 * (σ 12 0).toInt ≤ 4 * (σ 9 1).toInt + 1) : jMv l yX7_part cX7_part 5 none ({ frames := (14 + 8 * (n)), cells := 0, slots := 0, locals := (560 + 360 * (n)) }) D cI cL ad zz [.ref (ad 9), .int 2, .int a2] σ τ (fun σ' τ' => τ = τ' ∧ (∀ i : Nat, (i < 9 ∨ 9 < i) ∧ (i < 12 ∨ 13 < i) → σ' i = σ i) ∧ (∀ k : Nat, (k < 1 ∨ 1 < k) ∧ (k < 2 ∨ 2 < k) → σ' 9 k = σ 9 k) ∧ (∀ k : Nat, (k < 0 ∨ 0 < k) ∧ (k < 1 ∨ 1 < k) → σ' 12 k = σ 12 k) ∧ (jI9 σ') ∧ (jI91 σ') ∧ (jI92 σ') ∧ (jI12 σ') ∧ (jNd12 σ') ∧ (jCp (σ 10) (σ 9 0).toInt 2 (A2) (σ 9 1).toInt (σ' 9 1).toInt (σ' 9 2).toInt (σ 13) (σ' 13) (σ 12 0).toInt (σ' 12 0).toInt) ∧ ((σ 9 1).toInt ≤ (σ' 9 1).toInt) ∧ ((σ' 12 0).toInt - (σ 12 0).toInt ≤ (σ' 9 1).toInt - (σ 9 1).toInt) ∧ (3 * (σ' 12 0).toInt ≤ 4 * (σ' 9 1).toInt + 1) ∧ ((0 ≤ (σ' 9 2).toInt) ∨ ((σ 9 1).toInt + 1 ≤ (σ' 9 1).toInt)) ∧ True) := by
  refine jMv.of hJ (by decide +kernel) rfl (Nat.le_of_ble_eq_true rfl) ?_
  intro p e s m args below meth c Q ls hC hret hl hP
  obtain ⟨hx, hb, hr, hml, hown, hts, hK, -, hlocks, hZ⟩ := hC
  have hown : s.vm.findClass RX7 = some m.cls := hown
  have hS : va_S (jA ad) s.heap s.heap [] := va_S.rf
  have hA : ∀ q, jA ad q → jA ad q := fun _ h => h
  have hl : lv_has ls 5 [(0, .ref (ad 9)), (1, .int 2), (2, .int a2)] := hl
  have g2 := jrg t2
  obtain ⟨i1, w2, w3⟩ : (0 ≤ (σ 9 0).toInt ∧ (σ 9 0).toInt ≤ 80) ∧ (∀ k : Nat, k < 80 → 0 ≤ (σ 10 k).toInt ∧ (σ 10 k).toInt ≤ 255) ∧ (∀ k : Nat, k < 8 → 0 ≤ (σ 11 k).toInt ∧ (σ 11 k).toInt ≤ 3) := id hI9
  obtain ⟨i4, i5⟩ : (0 ≤ (σ 9 1).toInt) ∧ ((σ 9 1).toInt ≤ (σ 9 0).toInt) := id hI91
  have i6 : (-1) ≤ (σ 9 2).toInt ∧ (σ 9 2).toInt ≤ 80 := hI92
  obtain ⟨i7, w8⟩ : (0 ≤ (σ 12 0).toInt ∧ (σ 12 0).toInt ≤ 160) ∧ (∀ k : Nat, k < 160 → 0 ≤ (σ 13 k).toInt ∧ (σ 13 k).toInt ≤ 30000) := id hI12
  refine lv_iload_n hx hb dX7_part_0 rfl (lv_at hl 1 rfl) ?_
  refine lv_iconst (v := 5) hx hb dX7_part_1 (of_decide_eq_true rfl) ?_
  refine lv_icmp_lt (tgt := 11) hx hb dX7_part_2 (of_decide_eq_true rfl) (fun _ => ?_) (fun c => absurd (of_decide_eq_true rfl) c)
  refine lv_aload_n hx hb dX7_part_11 rfl (lv_at hl 0 rfl) ?_
  refine lv_iload_n hx hb dX7_part_12 rfl (lv_at hl 1 rfl) ?_
  refine lv_iconst (v := 1) hx hb dX7_part_13 (of_decide_eq_true rfl) ?_
  refine lv_iadd hx hb dX7_part_14 ?_
  refine jtopr (y := 3) (of_decide_eq_true rfl) ?_
  refine lv_iload_n hx hb dX7_part_15 rfl (lv_at hl 2 rfl) ?_
  exact by
   refine jcallVv (As := [.int 3, .int a2]) (rest := []) ⟨hx, hb, hml, hown, hts⟩ hK hP hA hS hZ (h_p3 σ τ a2 (A2) t2 hI9 hI91 hI92 hI12 hs_jNd12 (by omega) (by omega) (by omega) (by omega)) cw_RX7_82 (jc_9 cI cL ad σ τ) rfl ⟨by dsimp only; omega, by dsimp only; omega⟩ rfl rfl rfl hl.1 rfl (Nat.le_of_ble_eq_true rfl) dX7_part_16 ⟨Nat.zero_le _, Nat.zero_le _⟩ (fun σ9 τ9 H locs h9 hP hS => ?_)
   obtain ⟨rfl, f11, f12, f13, I14, I15, I16, I17, p18, w19, h9⟩ := h9
   obtain ⟨i21, w22, w23⟩ : (0 ≤ (σ9 9 0).toInt ∧ (σ9 9 0).toInt ≤ 80) ∧ (∀ k : Nat, k < 80 → 0 ≤ (σ9 10 k).toInt ∧ (σ9 10 k).toInt ≤ 255) ∧ (∀ k : Nat, k < 8 → 0 ≤ (σ9 11 k).toInt ∧ (σ9 11 k).toInt ≤ 3) := id I14
   obtain ⟨i24, i25⟩ : (0 ≤ (σ9 9 1).toInt) ∧ ((σ9 9 1).toInt ≤ (σ9 9 0).toInt) := id I15
   have i26 : (-1) ≤ (σ9 9 2).toInt ∧ (σ9 9 2).toInt ≤ 80 := I16
   obtain ⟨i27, w28⟩ : (0 ≤ (σ9 12 0).toInt ∧ (σ9 12 0).toInt ≤ 160) ∧ (∀ k : Nat, k < 160 → 0 ≤ (σ9 13 k).toInt ∧ (σ9 13 k).toInt ≤ 30000) := id I17
   have z29 : (σ9 9 0).toInt = (σ 9 0).toInt := (congrArg Int32.toInt (show σ9 9 0 = (σ 9 0) from (f12 0 (of_decide_eq_true rfl))))
   obtain ⟨k30, k31, k32, k33, h9⟩ := h9
   refine lv_iconst (v := 0) hx hb dX7_part_19 (of_decide_eq_true rfl) ?_
   refine lv_istore_n (lv' := [(3, .int 0), (0, .ref (ad 9)), (1, .int 2), (2, .int a2)]) hx hb dX7_part_20 rfl hl (of_decide_eq_true rfl) rfl (fun ls hl => ?_)
   have lp34 : ∀ (n35 : Nat) (x36 : Int32) (σ38 : Nat → Nat → Int32) (H : Heap) (locs : List Loc) (ls : Array Slot), (-x36.toInt + 80 : Int) < n35 → 0 ≤ x36.toInt → x36.toInt ≤ 80 → 0 ≤ (σ38 9 1).toInt → (σ38 9 1).toInt ≤ (σ38 9 0).toInt → (-1) ≤ (σ38 9 2).toInt ∧ (σ38 9 2).toInt ≤ 80 → (σ 9 1).toInt ≤ (σ38 9 1).toInt → (σ38 12 0).toInt - (σ 12 0).toInt ≤ (σ38 9 1).toInt - (σ 9 1).toInt → 3 * (σ38 12 0).toInt ≤ 4 * (σ38 9 1).toInt + 1 → ((0 ≤ (σ38 9 2).toInt) ∨ ((σ 9 1).toInt + 1 ≤ (σ38 9 1).toInt)) → x36.toInt ≤ (σ38 9 1).toInt → (∀ i : Nat, (i < 9 ∨ 9 < i) ∧ (i < 12 ∨ 13 < i) → σ38 i = σ9 i) → (∀ k : Nat, (k < 1 ∨ 1 < k) ∧ (k < 2 ∨ 2 < k) → σ38 9 k = σ9 9 k) → (∀ k : Nat, (k < 0 ∨ 0 < k) ∧ (k < 1 ∨ 1 < k) → σ38 12 k = σ9 12 k) → jNd12 σ38 → jI12 σ38 → (jCi (σ 10) (σ 9 0).toInt 2 (A2) (σ 9 1).toInt (σ38 9 1).toInt (σ38 9 2).toInt (σ 13) (σ38 13) (σ 12 0).toInt (σ38 12 0).toInt) → jH D cI cL ad σ38 τ H → va_S (jA ad) s.heap H locs → lv_has ls 5 [(3, .int x36), (0, .ref (ad 9)), (1, .int 2), (2, .int a2)] → W p l e ({ frames := (14 + 8 * (n)), cells := 0, slots := 0, locals := (560 + 360 * (n)) }) s m args below meth c H locs 0 0 Q (F0 m 21 ls []) := by
     intro n35
     induction n35 with
     | zero => intro x36 σ38 H locs ls h40 h41 h42 h43 h44 h45 h46 h47 h48 h49 h50; exact absurd h40 (by omega)
     | succ n35 ihlp34 =>
       intro x36 σ38 H locs ls h40 h41 h42 h43 h44 h45 h46 h47 h48 h49 h50 f51 f52 f53 p54 p55 q56 hP hS hl
       exact by
        obtain ⟨i57, w58⟩ : (0 ≤ (σ38 12 0).toInt ∧ (σ38 12 0).toInt ≤ 160) ∧ (∀ k : Nat, k < 160 → 0 ≤ (σ38 13 k).toInt ∧ (σ38 13 k).toInt ≤ 30000) := id p55
        have z59 : (σ38 9 0).toInt = (σ 9 0).toInt := (congrArg Int32.toInt (show σ38 9 0 = (σ 9 0) from ((f52 0 (of_decide_eq_true rfl)).trans (f12 0 (of_decide_eq_true rfl)))))
        refine lv_iload_n hx hb dX7_part_21 rfl (lv_at hl 0 rfl) ?_
        refine lv_bipush (v := 80) hx hb dX7_part_22 (of_decide_eq_true rfl) ?_
        refine lv_icmp_ge (tgt := 95) hx hb dX7_part_24 (of_decide_eq_true rfl) (fun c60 => ?_) (fun c60 => ?_)
        · have kc60 := jle c60 jz_80 rfl
          have I61 : jI9 σ38 := jI9_fr (f52 0 (of_decide_eq_true rfl)) (f51 10 (of_decide_eq_true rfl)) (f51 11 (of_decide_eq_true rfl)) I14
          have I62 : jI91 σ38 := ⟨(by omega), (by omega)⟩
          have I63 : jI92 σ38 := (show (-1) ≤ (σ38 9 2).toInt ∧ (σ38 9 2).toInt ≤ 80 by omega)
          exact by exact hret σ38 τ _ _ _ _ ⟨rfl, (fun i hi => ((f51 i hi).trans (f11 i hi))), (fun i hi => ((f52 i hi).trans (f12 i hi))), (fun i hi => ((f53 i hi).trans (f13 i hi))), I61, I62, I63, p55, p54, (jCi.fin q56 (of_decide_eq_true rfl) (fun _ => by rw [jYs_n (by omega)]; decide)), (by omega), (by omega), (by omega), (by omega), trivial⟩ hP hS dX7_part_95
        · exact by
           have kc60 := jnle c60 jz_80 rfl
           refine lv_aload_n hx hb dX7_part_27 rfl (lv_at hl 1 rfl) ?_
           refine va_get (D := D) hx hb hts inlX7 hown hK hP 9 (jc_9 cI cL ad σ38 τ) rfl 2 (of_decide_eq_true rfl) (hts _ kw_14_6) (fun _ h9 => h9) rfl dX7_part_28 ?_
           refine lv_iconst (v := (-1)) hx hb dX7_part_31 (of_decide_eq_true rfl) ?_
           refine lv_icmp_ne (tgt := 95) hx hb dX7_part_32 (of_decide_eq_true rfl) (fun c64 => ?_) (fun c64 => ?_)
           · have kc64 := jne c64 rfl jz_m1
             have I65 : jI9 σ38 := jI9_fr (f52 0 (of_decide_eq_true rfl)) (f51 10 (of_decide_eq_true rfl)) (f51 11 (of_decide_eq_true rfl)) I14
             have I66 : jI91 σ38 := ⟨(by omega), (by omega)⟩
             have I67 : jI92 σ38 := (show (-1) ≤ (σ38 9 2).toInt ∧ (σ38 9 2).toInt ≤ 80 by omega)
             exact by exact hret σ38 τ _ _ _ _ ⟨rfl, (fun i hi => ((f51 i hi).trans (f11 i hi))), (fun i hi => ((f52 i hi).trans (f12 i hi))), (fun i hi => ((f53 i hi).trans (f13 i hi))), I65, I66, I67, p55, p54, (jCi.fin q56 (of_decide_eq_true rfl) (fun h9 => absurd h9 (by omega))), (by omega), (by omega), (by omega), (by omega), trivial⟩ hP hS dX7_part_95
           · exact by
              have kc64 := jeq c64 rfl jz_m1
              refine lv_aload_n hx hb dX7_part_35 rfl (lv_at hl 1 rfl) ?_
              have I68 : jI9 σ38 := jI9_fr (f52 0 (of_decide_eq_true rfl)) (f51 10 (of_decide_eq_true rfl)) (f51 11 (of_decide_eq_true rfl)) I14
              refine jcallV (As := []) (rest := []) ⟨hx, hb, hml, hown, hts⟩ hK hP hA hS hZ (c_X7_sign_9 l D cI cL ad zz hJ σ38 τ I68) cw_RX7_35 (jc_9 cI cL ad σ38 τ) rfl ⟨by dsimp only; omega, by dsimp only; omega⟩ rfl rfl rfl hl.1 rfl (Nat.le_of_ble_eq_true rfl) dX7_part_36 ⟨Nat.zero_le _, Nat.zero_le _⟩ (fun r70 σ69 τ69 H locs h69 hP hS => ?_)
              obtain ⟨⟨rfl, rfl⟩, h69⟩ := h69
              rcases h69 with h71 | h72
              · obtain ⟨q76, k73, k74, k75⟩ := h71
                have q77 : r70 = (σ 10 (σ38 9 1).toNatClampNeg) := q76.trans (by rw [f51 10 (of_decide_eq_true rfl), f11 10 (of_decide_eq_true rfl)])
                have q77e : (σ38 10 (σ38 9 1).toNatClampNeg).toInt = (σ 10 (σ38 9 1).toNatClampNeg).toInt := by rw [← q76, ← q77]
                exact by
                 have q77 := q77.symm
                 subst q77
                 try rw [show (σ38 9 0).toInt = (σ 9 0).toInt from by omega] at k75
                 try rw [show σ38 10 = σ 10 from ((f51 10 (of_decide_eq_true rfl)).trans (f11 10 (of_decide_eq_true rfl)))] at k75
                 refine jcallS (As := [.int (σ 10 (σ38 9 1).toNatClampNeg)]) (rest := []) ⟨hx, hb, hml, hown, hts⟩ hK hP hA hS hZ (c_X7_levelOf l D cI cL ad zz hJ σ38 τ (σ 10 (σ38 9 1).toNatClampNeg) ((σ 10 (σ38 9 1).toNatClampNeg).toInt) rfl) cw_RX7_98 ⟨by dsimp only; omega, by dsimp only; omega⟩ rfl rfl rfl hl.1 rfl (Nat.le_of_ble_eq_true rfl) dX7_part_39 ⟨Nat.zero_le _, Nat.zero_le _⟩ (fun r79 σ78 τ78 H locs h78 hP hS => ?_)
                 obtain ⟨⟨rfl, rfl⟩, h78⟩ := h78
                 rcases h78 with h80 | h81
                 · obtain ⟨q85, k82, k83, k84⟩ := h80
                   refine lv_iload_n hx hb dX7_part_42 rfl (lv_at hl 2 rfl) ?_
                   refine lv_icmp_ne (tgt := 95) hx hb dX7_part_43 (of_decide_eq_true rfl) (fun c86 => ?_) (fun c86 => ?_)
                   · have kc86 := jne c86 rfl jz_2
                     exact by
                      have I87 : jI91 σ38 := ⟨(by omega), (by omega)⟩
                      have I88 : jI92 σ38 := (show (-1) ≤ (σ38 9 2).toInt ∧ (σ38 9 2).toInt ≤ 80 by omega)
                      exact by exact hret σ38 τ _ _ _ _ ⟨rfl, (fun i hi => ((f51 i hi).trans (f11 i hi))), (fun i hi => ((f52 i hi).trans (f12 i hi))), (fun i hi => ((f53 i hi).trans (f13 i hi))), I68, I87, I88, p55, p54, (jCi.fin q56 (of_decide_eq_true rfl) (fun _ => by rw [k75]; omega)), (by omega), (by omega), (by omega), (by omega), trivial⟩ hP hS dX7_part_95
                   · have kc86 := jeq c86 rfl jz_2
                     refine lv_aload_n hx hb dX7_part_46 rfl (lv_at hl 1 rfl) ?_
                     refine jcallV (As := []) (rest := []) ⟨hx, hb, hml, hown, hts⟩ hK hP hA hS hZ (c_X7_sign_9 l D cI cL ad zz hJ σ38 τ I68) cw_RX7_35 (jc_9 cI cL ad σ38 τ) rfl ⟨by dsimp only; omega, by dsimp only; omega⟩ rfl rfl rfl hl.1 rfl (Nat.le_of_ble_eq_true rfl) dX7_part_47 ⟨Nat.zero_le _, Nat.zero_le _⟩ (fun r90 σ89 τ89 H locs h89 hP hS => ?_)
                     obtain ⟨⟨rfl, rfl⟩, h89⟩ := h89
                     rcases h89 with h91 | h92
                     · obtain ⟨q96, k93, k94, k95⟩ := h91
                       exact by
                        have q97 : r90 = (σ 10 (σ38 9 1).toNatClampNeg) := q96.trans (by rw [f51 10 (of_decide_eq_true rfl), f11 10 (of_decide_eq_true rfl)])
                        have q97e : (σ38 10 (σ38 9 1).toNatClampNeg).toInt = (σ 10 (σ38 9 1).toNatClampNeg).toInt := by rw [← q96, ← q97]
                        have q97 := q97.symm
                        subst q97
                        try rw [show (σ38 9 0).toInt = (σ 9 0).toInt from by omega] at k95
                        try rw [show σ38 10 = σ 10 from ((f51 10 (of_decide_eq_true rfl)).trans (f11 10 (of_decide_eq_true rfl)))] at k95
                        refine lv_istore (lv' := [(4, .int (σ 10 (σ38 9 1).toNatClampNeg)), (3, .int x36), (0, .ref (ad 9)), (1, .int 2), (2, .int a2)]) hx hb dX7_part_50 hl (of_decide_eq_true rfl) rfl (fun ls hl => ?_)
                        refine lv_aload_n hx hb dX7_part_52 rfl (lv_at hl 2 rfl) ?_
                        refine lv_dup hx hb dX7_part_53 rfl ?_
                        refine va_get (D := D) hx hb hts inlX7 hown hK hP 9 (jc_9 cI cL ad σ38 τ) rfl 1 (of_decide_eq_true rfl) (hts _ kw_13_17) (fun _ h9 => h9) rfl dX7_part_54 ?_
                        refine lv_iconst (v := 1) hx hb dX7_part_57 (of_decide_eq_true rfl) ?_
                        have g98 := jrg (rfl : (σ38 9 1).toInt = (σ38 9 1).toInt)
                        refine lv_iadd hx hb dX7_part_58 ?_
                        refine lv_topi (fun x99 ex99 => ?_)
                        exact by
                         have tx99 : x99.toInt = (σ38 9 1).toInt + 1 := (jadd ex99 rfl jz_1 (by omega) (by omega)).trans (by omega)
                         refine jput (ty := .int) hx hb hts inlX7 tyX7 tyX7_ok nmX7 hown hK hP hJ hA hS (jc_9 cI cL ad σ38 τ) rfl (k := 1) (of_decide_eq_true rfl) (Nat.le_of_ble_eq_true rfl) (jp_9_1 cI cL ad σ38 τ x99) (hts _ kw_13_17) (fun _ h9 => h9) rfl (by decide +kernel) rfl rfl dX7_part_59 (fun σ100 H locs eσ100 hP hS => ?_)
                         refine lv_aload_n hx hb dX7_part_62 rfl (lv_at hl 2 rfl) ?_
                         refine lv_iload_n hx hb dX7_part_63 rfl (lv_at hl 3 rfl) ?_
                         refine lv_iconst (v := 1) hx hb dX7_part_64 (of_decide_eq_true rfl) ?_
                         refine lv_iadd hx hb dX7_part_65 ?_
                         refine jtopr (y := 3) (of_decide_eq_true rfl) ?_
                         refine lv_iload_n hx hb dX7_part_66 rfl (lv_at hl 4 rfl) ?_
                         have I101 : jI9 σ100 := jI9_fr (jkp 0 eσ100 (of_decide_eq_true rfl)) (jnp 10 eσ100 (of_decide_eq_true rfl)) (jnp 11 eσ100 (of_decide_eq_true rfl)) I68
                         have z102 : (σ100 9 1).toInt = (σ38 9 1).toInt + 1 := ((congrArg Int32.toInt (show σ100 9 1 = x99 from (jsp eσ100))).trans tx99)
                         have z103 : (σ100 9 0).toInt = (σ 9 0).toInt := (congrArg Int32.toInt (show σ100 9 0 = (σ 9 0) from ((jkp 0 eσ100 (of_decide_eq_true rfl)).trans ((f52 0 (of_decide_eq_true rfl)).trans (f12 0 (of_decide_eq_true rfl))))))
                         exact by
                          have I104 : jI91 σ100 := ⟨(by omega), (by omega)⟩
                          have z105 : (σ100 9 2).toInt = (σ38 9 2).toInt := (congrArg Int32.toInt (show σ100 9 2 = (σ38 9 2) from (jkp 2 eσ100 (of_decide_eq_true rfl))))
                          have I106 : jI92 σ100 := (show (-1) ≤ (σ100 9 2).toInt ∧ (σ100 9 2).toInt ≤ 80 by omega)
                          have I107 : jI12 σ100 := jI12_fr (congrFun (jnp 12 eσ100 (of_decide_eq_true rfl)) 0) (jnp 13 eσ100 (of_decide_eq_true rfl)) p55
                          have p108 : jNd12 σ100 := jNd12.fr (congrFun (jnp 12 eσ100 (of_decide_eq_true rfl)) 0) (congrFun (jnp 12 eσ100 (of_decide_eq_true rfl)) 1) (jnp 13 eσ100 (of_decide_eq_true rfl)) p54
                          have z109 : (σ100 12 0).toInt = (σ38 12 0).toInt := (congrArg Int32.toInt (show σ100 12 0 = (σ38 12 0) from (congrFun (jnp 12 eσ100 (of_decide_eq_true rfl)) 0)))
                          refine jcallVv (As := [.int 3, .int a2]) (rest := []) ⟨hx, hb, hml, hown, hts⟩ hK hP hA hS hZ (h_p3 σ100 τ a2 (A2) t2 I101 I104 I106 I107 p108 (by omega) (by omega) (by omega) (by omega)) cw_RX7_82 (jc_9 cI cL ad σ100 τ) rfl ⟨by dsimp only; omega, by dsimp only; omega⟩ rfl rfl rfl hl.1 rfl (Nat.le_of_ble_eq_true rfl) dX7_part_67 ⟨Nat.zero_le _, Nat.zero_le _⟩ (fun σ110 τ110 H locs h110 hP hS => ?_)
                          obtain ⟨rfl, f112, f113, f114, I115, I116, I117, I118, p119, w120, h110⟩ := h110
                          obtain ⟨i122, w123, w124⟩ : (0 ≤ (σ110 9 0).toInt ∧ (σ110 9 0).toInt ≤ 80) ∧ (∀ k : Nat, k < 80 → 0 ≤ (σ110 10 k).toInt ∧ (σ110 10 k).toInt ≤ 255) ∧ (∀ k : Nat, k < 8 → 0 ≤ (σ110 11 k).toInt ∧ (σ110 11 k).toInt ≤ 3) := id I115
                          exact by
                           obtain ⟨i125, i126⟩ : (0 ≤ (σ110 9 1).toInt) ∧ ((σ110 9 1).toInt ≤ (σ110 9 0).toInt) := id I116
                           have i127 : (-1) ≤ (σ110 9 2).toInt ∧ (σ110 9 2).toInt ≤ 80 := I117
                           obtain ⟨i128, w129⟩ : (0 ≤ (σ110 12 0).toInt ∧ (σ110 12 0).toInt ≤ 160) ∧ (∀ k : Nat, k < 160 → 0 ≤ (σ110 13 k).toInt ∧ (σ110 13 k).toInt ≤ 30000) := id I118
                           try rw [show (σ100 9 1).toInt = (σ38 9 1).toInt + 1 from by omega] at w120
                           try rw [show (σ100 9 0).toInt = (σ 9 0).toInt from by omega] at w120
                           try rw [show σ100 10 = σ 10 from ((jnp 10 eσ100 (of_decide_eq_true rfl)).trans ((f51 10 (of_decide_eq_true rfl)).trans (f11 10 (of_decide_eq_true rfl))))] at w120
                           try rw [show σ100 13 = σ38 13 from by rw [jnp 13 eσ100 (of_decide_eq_true rfl)]] at w120
                           try rw [show (σ100 12 0).toInt = (σ38 12 0).toInt from by omega] at w120
                           have z130 : (σ110 9 0).toInt = (σ 9 0).toInt := (congrArg Int32.toInt (show σ110 9 0 = (σ 9 0) from ((f113 0 (of_decide_eq_true rfl)).trans ((jkp 0 eσ100 (of_decide_eq_true rfl)).trans ((f52 0 (of_decide_eq_true rfl)).trans (f12 0 (of_decide_eq_true rfl)))))))
                           obtain ⟨k131, k132, k133, k134, h110⟩ := h110
                           refine lv_aload_n hx hb dX7_part_70 rfl (lv_at hl 2 rfl) ?_
                           refine va_get (D := D) hx hb hts inlX7 hown hK hP 9 (jc_9 cI cL ad σ110 τ) rfl 5 (of_decide_eq_true rfl) (hts _ kw_3_23) (fun _ h9 => h9) rfl dX7_part_71 ?_
                           refine lv_sipush (v := 20000) hx hb dX7_part_74 (of_decide_eq_true rfl) ?_
                           refine lv_iload hx hb dX7_part_77 (lv_at hl 0 rfl) ?_
                           have g135 := jrg (rfl : (σ 10 (σ38 9 1).toNatClampNeg).toInt = (σ 10 (σ38 9 1).toNatClampNeg).toInt)
                           refine lv_iadd hx hb dX7_part_79 ?_
                           refine lv_topi (fun x136 ex136 => ?_)
                           exact by
                            have tx136 : x136.toInt = (σ 10 (σ38 9 1).toNatClampNeg).toInt + 20000 := (jadd ex136 jz_20000 rfl (by omega) (by omega)).trans (by omega)
                            refine jcallVv (As := [.int x136]) (rest := []) ⟨hx, hb, hml, hown, hts⟩ hK hP hA hS hZ (c_X10_add_12 l D cI cL ad zz hJ σ110 τ x136 ((σ 10 (σ38 9 1).toNatClampNeg).toInt + 20000) tx136 I118 p119 (by omega) (by omega)) cw_RX7_86 (jc_12 cI cL ad σ110 τ) rfl ⟨by dsimp only; omega, by dsimp only; omega⟩ rfl rfl rfl hl.1 rfl (Nat.le_of_ble_eq_true rfl) dX7_part_80 ⟨Nat.zero_le _, Nat.zero_le _⟩ (fun σ137 τ137 H locs h137 hP hS => ?_)
                            obtain ⟨rfl, f139, f140, I141, p142, w143, h137⟩ := h137
                            obtain ⟨i145, w146⟩ : (0 ≤ (σ137 12 0).toInt ∧ (σ137 12 0).toInt ≤ 160) ∧ (∀ k : Nat, k < 160 → 0 ≤ (σ137 13 k).toInt ∧ (σ137 13 k).toInt ≤ 30000) := id I141
                            obtain ⟨k147, h137⟩ := h137
                            refine lv_iload_n hx hb dX7_part_83 rfl (lv_at hl 3 rfl) ?_
                            refine lv_iconst (v := 2) hx hb dX7_part_84 (of_decide_eq_true rfl) ?_
                            refine lv_icmp_ne (tgt := 89) hx hb dX7_part_85 (of_decide_eq_true rfl) (fun c => absurd (of_decide_eq_true rfl) c) (fun _ => ?_)
                            have I148 : jI9 σ137 := jI9_fr (congrFun (f139 9 (of_decide_eq_true rfl)) 0) (f139 10 (of_decide_eq_true rfl)) (f139 11 (of_decide_eq_true rfl)) I115
                            exact by
                             have I149 : jI91 σ137 := jI91_fr (congrFun (f139 9 (of_decide_eq_true rfl)) 0) (congrFun (f139 9 (of_decide_eq_true rfl)) 1) I116
                             have I150 : jI92 σ137 := jI92_fr (congrFun (f139 9 (of_decide_eq_true rfl)) 2) I117
                             have z151 : (σ137 9 1).toInt = (σ110 9 1).toInt := (congrArg Int32.toInt (show σ137 9 1 = (σ110 9 1) from (congrFun (f139 9 (of_decide_eq_true rfl)) 1)))
                             have z152 : (σ137 9 2).toInt = (σ110 9 2).toInt := (congrArg Int32.toInt (show σ137 9 2 = (σ110 9 2) from (congrFun (f139 9 (of_decide_eq_true rfl)) 2)))
                             exact by exact hret σ137 τ _ _ _ _ ⟨rfl, (fun i hi => ((f139 i (imp_58 i hi)).trans ((f112 i hi).trans ((jnp i eσ100 (imp_60 i hi)).trans ((f51 i hi).trans (f11 i hi)))))), (fun i hi => ((congrFun (f139 9 (of_decide_eq_true rfl)) i).trans ((f113 i hi).trans ((jkp i eσ100 (imp_39 i hi)).trans ((f52 i hi).trans (f12 i hi)))))), (fun i hi => ((f140 i hi).trans ((f114 i hi).trans ((congrFun (jnp 12 eσ100 (of_decide_eq_true rfl)) i).trans ((f53 i hi).trans (f13 i hi)))))), I148, I149, I150, I141, p142, (jCp.to (jCi.once q56 (by omega) (of_decide_eq_true rfl) (by rw [k75]; omega) w120 (of_decide_eq_true rfl) (by omega) w143 (jwd_of (by have h9 := tx136; omega) (by omega) (by omega)) (show (σ137 12 0).toInt = (σ110 12 0).toInt + 1 by omega) (by omega)) (by omega) (by omega) rfl rfl), (by omega), (by omega), (by omega), (by omega), trivial⟩ hP hS dX7_part_88
                     · obtain ⟨q155, k153, k154⟩ := h92
                       exact absurd (by omega : False) id
                 · obtain ⟨q157, k156⟩ := h81
                   have q157 := q157.symm
                   subst q157
                   rw [jz_5] at k156
                   refine lv_iload_n hx hb dX7_part_42 rfl (lv_at hl 2 rfl) ?_
                   refine lv_icmp_ne (tgt := 95) hx hb dX7_part_43 (of_decide_eq_true rfl) (fun _ => ?_) (fun c => absurd c (of_decide_eq_true rfl))
                   exact by
                    have I158 : jI91 σ38 := ⟨(by omega), (by omega)⟩
                    have I159 : jI92 σ38 := (show (-1) ≤ (σ38 9 2).toInt ∧ (σ38 9 2).toInt ≤ 80 by omega)
                    exact by exact hret σ38 τ _ _ _ _ ⟨rfl, (fun i hi => ((f51 i hi).trans (f11 i hi))), (fun i hi => ((f52 i hi).trans (f12 i hi))), (fun i hi => ((f53 i hi).trans (f13 i hi))), I68, I158, I159, p55, p54, (jCi.fin q56 (of_decide_eq_true rfl) (fun _ => by rw [k75]; omega)), (by omega), (by omega), (by omega), (by omega), trivial⟩ hP hS dX7_part_95
              · obtain ⟨q162, k160, k161⟩ := h72
                have q162 := q162.symm
                subst q162
                try rw [show (σ38 9 0).toInt = (σ 9 0).toInt from by omega] at k161
                try rw [show σ38 10 = σ 10 from ((f51 10 (of_decide_eq_true rfl)).trans (f11 10 (of_decide_eq_true rfl)))] at k161
                refine jcallS (As := [.int (-1)]) (rest := []) ⟨hx, hb, hml, hown, hts⟩ hK hP hA hS hZ (c_X7_levelOf l D cI cL ad zz hJ σ38 τ (-1) ((-1)) jz_m1) cw_RX7_98 ⟨by dsimp only; omega, by dsimp only; omega⟩ rfl rfl rfl hl.1 rfl (Nat.le_of_ble_eq_true rfl) dX7_part_39 ⟨Nat.zero_le _, Nat.zero_le _⟩ (fun r164 σ163 τ163 H locs h163 hP hS => ?_)
                obtain ⟨⟨rfl, rfl⟩, h163⟩ := h163
                rcases h163 with h165 | h166
                · obtain ⟨q170, k167, k168, k169⟩ := h165
                  exact absurd (by omega : False) id
                · obtain ⟨q172, k171⟩ := h166
                  have q172 := q172.symm
                  subst q172
                  rw [jz_5] at k171
                  refine lv_iload_n hx hb dX7_part_42 rfl (lv_at hl 2 rfl) ?_
                  refine lv_icmp_ne (tgt := 95) hx hb dX7_part_43 (of_decide_eq_true rfl) (fun _ => ?_) (fun c => absurd c (of_decide_eq_true rfl))
                  exact by
                   have I173 : jI91 σ38 := ⟨(by omega), (by omega)⟩
                   have I174 : jI92 σ38 := (show (-1) ≤ (σ38 9 2).toInt ∧ (σ38 9 2).toInt ≤ 80 by omega)
                   exact by exact hret σ38 τ _ _ _ _ ⟨rfl, (fun i hi => ((f51 i hi).trans (f11 i hi))), (fun i hi => ((f52 i hi).trans (f12 i hi))), (fun i hi => ((f53 i hi).trans (f13 i hi))), I68, I173, I174, p55, p54, (jCi.fin q56 (of_decide_eq_true rfl) (fun _ => by rw [k161]; omega)), (by omega), (by omega), (by omega), (by omega), trivial⟩ hP hS dX7_part_95
   exact by exact lp34 1000000 0 σ9 _ _ ls (by have h90 := jz_0; omega) (by have h90 := jz_0; omega) (by have h90 := jz_0; omega) (by have h90 := jz_0; omega) (by have h90 := jz_0; omega) (by have h90 := jz_0; omega) (by have h90 := jz_0; omega) (by have h90 := jz_0; omega) (by have h90 := jz_0; omega) (by have h90 := jz_0; omega) (by have h90 := jz_0; omega) (fun _ _ => rfl) (fun _ _ => rfl) (fun _ _ => rfl)  p18 I17 (jCp.begin w19 (of_decide_eq_true rfl) (of_decide_eq_true rfl)) hP hS hl
set_option maxHeartbeats 4000000 in
set_option maxRecDepth 100000 in
theorem c_X7_grammar_p1_g (l : Launch) (D : va_G) (cI cL : ClassId) (ad zz : Nat → Nat) (hJ : jD ad) (n : Nat) (h_p2 : ∀ (σ : Nat → Nat → Int32) (τ : Nat → Nat → Int64) (a2 : Int32) (A2 : Int) (t2 : a2.toInt = A2) (hI9 : jI9 σ) (hI91 : jI91 σ) (hI92 : jI92 σ) (hI12 : jI12 σ) (hs_jNd12 : jNd12 σ) (hp0 : 0 ≤ A2 ∧ A2 ≤ 6) (hp1 : -A2 + 6 ≤ (((n) : Nat) : Int)) (hp2 : (σ 9 2).toInt = (-1)) (hp3 : 3 * (σ 12 0).toInt ≤ 4 * (σ 9 1).toInt + 1), jMv l yX7_part cX7_part 5 none ({ frames := (14 + 8 * (n)), cells := 0, slots := 0, locals := (560 + 360 * (n)) }) D cI cL ad zz [.ref (ad 9), .int 2, .int a2] σ τ (fun σ' τ' => τ = τ' ∧ (∀ i : Nat, (i < 9 ∨ 9 < i) ∧ (i < 12 ∨ 13 < i) → σ' i = σ i) ∧ (∀ k : Nat, (k < 1 ∨ 1 < k) ∧ (k < 2 ∨ 2 < k) → σ' 9 k = σ 9 k) ∧ (∀ k : Nat, (k < 0 ∨ 0 < k) ∧ (k < 1 ∨ 1 < k) → σ' 12 k = σ 12 k) ∧ (jI9 σ') ∧ (jI91 σ') ∧ (jI92 σ') ∧ (jI12 σ') ∧ (jNd12 σ') ∧ (jCp (σ 10) (σ 9 0).toInt 2 (A2) (σ 9 1).toInt (σ' 9 1).toInt (σ' 9 2).toInt (σ 13) (σ' 13) (σ 12 0).toInt (σ' 12 0).toInt) ∧ ((σ 9 1).toInt ≤ (σ' 9 1).toInt) ∧ ((σ' 12 0).toInt - (σ 12 0).toInt ≤ (σ' 9 1).toInt - (σ 9 1).toInt) ∧ (3 * (σ' 12 0).toInt ≤ 4 * (σ' 9 1).toInt + 1) ∧ ((0 ≤ (σ' 9 2).toInt) ∨ ((σ 9 1).toInt + 1 ≤ (σ' 9 1).toInt)) ∧ True)) (σ : Nat → Nat → Int32) (τ : Nat → Nat → Int64) (a2 : Int32) (A2 : Int) (t2 : a2.toInt = A2) (hI9 : jI9 σ) (hI91 : jI91 σ) (hI92 : jI92 σ) (hI12 : jI12 σ) (hs_jNd12 : jNd12 σ) (hp0 : 0 ≤ A2 ∧ A2 ≤ 6) (hp1 : -A2 + 6 ≤ (((n) : Nat) : Int)) (hp2 : (σ 9 2).toInt = (-1)) (hp3 : 3 * (σ 12 0).toInt ≤ 4 * (σ 9 1).toInt + 1) : jMv l yX7_part cX7_part 5 none ({ frames := (15 + 8 * (n)), cells := 0, slots := 0, locals := (600 + 360 * (n)) }) D cI cL ad zz [.ref (ad 9), .int 1, .int a2] σ τ (fun σ' τ' => τ = τ' ∧ (∀ i : Nat, (i < 9 ∨ 9 < i) ∧ (i < 12 ∨ 13 < i) → σ' i = σ i) ∧ (∀ k : Nat, (k < 1 ∨ 1 < k) ∧ (k < 2 ∨ 2 < k) → σ' 9 k = σ 9 k) ∧ (∀ k : Nat, (k < 0 ∨ 0 < k) ∧ (k < 1 ∨ 1 < k) → σ' 12 k = σ 12 k) ∧ (jI9 σ') ∧ (jI91 σ') ∧ (jI92 σ') ∧ (jI12 σ') ∧ (jNd12 σ') ∧ (jCp (σ 10) (σ 9 0).toInt 1 (A2) (σ 9 1).toInt (σ' 9 1).toInt (σ' 9 2).toInt (σ 13) (σ' 13) (σ 12 0).toInt (σ' 12 0).toInt) ∧ ((σ 9 1).toInt ≤ (σ' 9 1).toInt) ∧ ((σ' 12 0).toInt - (σ 12 0).toInt ≤ (σ' 9 1).toInt - (σ 9 1).toInt) ∧ (3 * (σ' 12 0).toInt ≤ 4 * (σ' 9 1).toInt + 1) ∧ ((0 ≤ (σ' 9 2).toInt) ∨ ((σ 9 1).toInt + 1 ≤ (σ' 9 1).toInt)) ∧ True) := by
  refine jMv.of hJ (by decide +kernel) rfl (Nat.le_of_ble_eq_true rfl) ?_
  intro p e s m args below meth c Q ls hC hret hl hP
  obtain ⟨hx, hb, hr, hml, hown, hts, hK, -, hlocks, hZ⟩ := hC
  have hown : s.vm.findClass RX7 = some m.cls := hown
  have hS : va_S (jA ad) s.heap s.heap [] := va_S.rf
  have hA : ∀ q, jA ad q → jA ad q := fun _ h => h
  have hl : lv_has ls 5 [(0, .ref (ad 9)), (1, .int 1), (2, .int a2)] := hl
  have g2 := jrg t2
  obtain ⟨i1, w2, w3⟩ : (0 ≤ (σ 9 0).toInt ∧ (σ 9 0).toInt ≤ 80) ∧ (∀ k : Nat, k < 80 → 0 ≤ (σ 10 k).toInt ∧ (σ 10 k).toInt ≤ 255) ∧ (∀ k : Nat, k < 8 → 0 ≤ (σ 11 k).toInt ∧ (σ 11 k).toInt ≤ 3) := id hI9
  obtain ⟨i4, i5⟩ : (0 ≤ (σ 9 1).toInt) ∧ ((σ 9 1).toInt ≤ (σ 9 0).toInt) := id hI91
  have i6 : (-1) ≤ (σ 9 2).toInt ∧ (σ 9 2).toInt ≤ 80 := hI92
  obtain ⟨i7, w8⟩ : (0 ≤ (σ 12 0).toInt ∧ (σ 12 0).toInt ≤ 160) ∧ (∀ k : Nat, k < 160 → 0 ≤ (σ 13 k).toInt ∧ (σ 13 k).toInt ≤ 30000) := id hI12
  refine lv_iload_n hx hb dX7_part_0 rfl (lv_at hl 1 rfl) ?_
  refine lv_iconst (v := 5) hx hb dX7_part_1 (of_decide_eq_true rfl) ?_
  refine lv_icmp_lt (tgt := 11) hx hb dX7_part_2 (of_decide_eq_true rfl) (fun _ => ?_) (fun c => absurd (of_decide_eq_true rfl) c)
  refine lv_aload_n hx hb dX7_part_11 rfl (lv_at hl 0 rfl) ?_
  refine lv_iload_n hx hb dX7_part_12 rfl (lv_at hl 1 rfl) ?_
  refine lv_iconst (v := 1) hx hb dX7_part_13 (of_decide_eq_true rfl) ?_
  refine lv_iadd hx hb dX7_part_14 ?_
  refine jtopr (y := 2) (of_decide_eq_true rfl) ?_
  refine lv_iload_n hx hb dX7_part_15 rfl (lv_at hl 2 rfl) ?_
  exact by
   refine jcallVv (As := [.int 2, .int a2]) (rest := []) ⟨hx, hb, hml, hown, hts⟩ hK hP hA hS hZ (h_p2 σ τ a2 (A2) t2 hI9 hI91 hI92 hI12 hs_jNd12 (by omega) (by omega) (by omega) (by omega)) cw_RX7_82 (jc_9 cI cL ad σ τ) rfl ⟨by dsimp only; omega, by dsimp only; omega⟩ rfl rfl rfl hl.1 rfl (Nat.le_of_ble_eq_true rfl) dX7_part_16 ⟨Nat.zero_le _, Nat.zero_le _⟩ (fun σ9 τ9 H locs h9 hP hS => ?_)
   obtain ⟨rfl, f11, f12, f13, I14, I15, I16, I17, p18, w19, h9⟩ := h9
   obtain ⟨i21, w22, w23⟩ : (0 ≤ (σ9 9 0).toInt ∧ (σ9 9 0).toInt ≤ 80) ∧ (∀ k : Nat, k < 80 → 0 ≤ (σ9 10 k).toInt ∧ (σ9 10 k).toInt ≤ 255) ∧ (∀ k : Nat, k < 8 → 0 ≤ (σ9 11 k).toInt ∧ (σ9 11 k).toInt ≤ 3) := id I14
   obtain ⟨i24, i25⟩ : (0 ≤ (σ9 9 1).toInt) ∧ ((σ9 9 1).toInt ≤ (σ9 9 0).toInt) := id I15
   have i26 : (-1) ≤ (σ9 9 2).toInt ∧ (σ9 9 2).toInt ≤ 80 := I16
   obtain ⟨i27, w28⟩ : (0 ≤ (σ9 12 0).toInt ∧ (σ9 12 0).toInt ≤ 160) ∧ (∀ k : Nat, k < 160 → 0 ≤ (σ9 13 k).toInt ∧ (σ9 13 k).toInt ≤ 30000) := id I17
   have z29 : (σ9 9 0).toInt = (σ 9 0).toInt := (congrArg Int32.toInt (show σ9 9 0 = (σ 9 0) from (f12 0 (of_decide_eq_true rfl))))
   obtain ⟨k30, k31, k32, k33, h9⟩ := h9
   refine lv_iconst (v := 0) hx hb dX7_part_19 (of_decide_eq_true rfl) ?_
   refine lv_istore_n (lv' := [(3, .int 0), (0, .ref (ad 9)), (1, .int 1), (2, .int a2)]) hx hb dX7_part_20 rfl hl (of_decide_eq_true rfl) rfl (fun ls hl => ?_)
   have lp34 : ∀ (n35 : Nat) (x36 : Int32) (σ38 : Nat → Nat → Int32) (H : Heap) (locs : List Loc) (ls : Array Slot), (-x36.toInt + 80 : Int) < n35 → 0 ≤ x36.toInt → x36.toInt ≤ 80 → 0 ≤ (σ38 9 1).toInt → (σ38 9 1).toInt ≤ (σ38 9 0).toInt → (-1) ≤ (σ38 9 2).toInt ∧ (σ38 9 2).toInt ≤ 80 → (σ 9 1).toInt ≤ (σ38 9 1).toInt → (σ38 12 0).toInt - (σ 12 0).toInt ≤ (σ38 9 1).toInt - (σ 9 1).toInt → 3 * (σ38 12 0).toInt ≤ 4 * (σ38 9 1).toInt + 1 → ((0 ≤ (σ38 9 2).toInt) ∨ ((σ 9 1).toInt + 1 ≤ (σ38 9 1).toInt)) → x36.toInt ≤ (σ38 9 1).toInt → (∀ i : Nat, (i < 9 ∨ 9 < i) ∧ (i < 12 ∨ 13 < i) → σ38 i = σ9 i) → (∀ k : Nat, (k < 1 ∨ 1 < k) ∧ (k < 2 ∨ 2 < k) → σ38 9 k = σ9 9 k) → (∀ k : Nat, (k < 0 ∨ 0 < k) ∧ (k < 1 ∨ 1 < k) → σ38 12 k = σ9 12 k) → jNd12 σ38 → jI12 σ38 → (jCi (σ 10) (σ 9 0).toInt 1 (A2) (σ 9 1).toInt (σ38 9 1).toInt (σ38 9 2).toInt (σ 13) (σ38 13) (σ 12 0).toInt (σ38 12 0).toInt) → jH D cI cL ad σ38 τ H → va_S (jA ad) s.heap H locs → lv_has ls 5 [(3, .int x36), (0, .ref (ad 9)), (1, .int 1), (2, .int a2)] → W p l e ({ frames := (15 + 8 * (n)), cells := 0, slots := 0, locals := (600 + 360 * (n)) }) s m args below meth c H locs 0 0 Q (F0 m 21 ls []) := by
     intro n35
     induction n35 with
     | zero => intro x36 σ38 H locs ls h40 h41 h42 h43 h44 h45 h46 h47 h48 h49 h50; exact absurd h40 (by omega)
     | succ n35 ihlp34 =>
       intro x36 σ38 H locs ls h40 h41 h42 h43 h44 h45 h46 h47 h48 h49 h50 f51 f52 f53 p54 p55 q56 hP hS hl
       exact by
        obtain ⟨i57, w58⟩ : (0 ≤ (σ38 12 0).toInt ∧ (σ38 12 0).toInt ≤ 160) ∧ (∀ k : Nat, k < 160 → 0 ≤ (σ38 13 k).toInt ∧ (σ38 13 k).toInt ≤ 30000) := id p55
        have z59 : (σ38 9 0).toInt = (σ 9 0).toInt := (congrArg Int32.toInt (show σ38 9 0 = (σ 9 0) from ((f52 0 (of_decide_eq_true rfl)).trans (f12 0 (of_decide_eq_true rfl)))))
        refine lv_iload_n hx hb dX7_part_21 rfl (lv_at hl 0 rfl) ?_
        refine lv_bipush (v := 80) hx hb dX7_part_22 (of_decide_eq_true rfl) ?_
        refine lv_icmp_ge (tgt := 95) hx hb dX7_part_24 (of_decide_eq_true rfl) (fun c60 => ?_) (fun c60 => ?_)
        · have kc60 := jle c60 jz_80 rfl
          have I61 : jI9 σ38 := jI9_fr (f52 0 (of_decide_eq_true rfl)) (f51 10 (of_decide_eq_true rfl)) (f51 11 (of_decide_eq_true rfl)) I14
          have I62 : jI91 σ38 := ⟨(by omega), (by omega)⟩
          have I63 : jI92 σ38 := (show (-1) ≤ (σ38 9 2).toInt ∧ (σ38 9 2).toInt ≤ 80 by omega)
          exact by exact hret σ38 τ _ _ _ _ ⟨rfl, (fun i hi => ((f51 i hi).trans (f11 i hi))), (fun i hi => ((f52 i hi).trans (f12 i hi))), (fun i hi => ((f53 i hi).trans (f13 i hi))), I61, I62, I63, p55, p54, (jCi.fin q56 (of_decide_eq_true rfl) (fun _ => by rw [jYs_n (by omega)]; decide)), (by omega), (by omega), (by omega), (by omega), trivial⟩ hP hS dX7_part_95
        · exact by
           have kc60 := jnle c60 jz_80 rfl
           refine lv_aload_n hx hb dX7_part_27 rfl (lv_at hl 1 rfl) ?_
           refine va_get (D := D) hx hb hts inlX7 hown hK hP 9 (jc_9 cI cL ad σ38 τ) rfl 2 (of_decide_eq_true rfl) (hts _ kw_14_6) (fun _ h9 => h9) rfl dX7_part_28 ?_
           refine lv_iconst (v := (-1)) hx hb dX7_part_31 (of_decide_eq_true rfl) ?_
           refine lv_icmp_ne (tgt := 95) hx hb dX7_part_32 (of_decide_eq_true rfl) (fun c64 => ?_) (fun c64 => ?_)
           · have kc64 := jne c64 rfl jz_m1
             have I65 : jI9 σ38 := jI9_fr (f52 0 (of_decide_eq_true rfl)) (f51 10 (of_decide_eq_true rfl)) (f51 11 (of_decide_eq_true rfl)) I14
             have I66 : jI91 σ38 := ⟨(by omega), (by omega)⟩
             have I67 : jI92 σ38 := (show (-1) ≤ (σ38 9 2).toInt ∧ (σ38 9 2).toInt ≤ 80 by omega)
             exact by exact hret σ38 τ _ _ _ _ ⟨rfl, (fun i hi => ((f51 i hi).trans (f11 i hi))), (fun i hi => ((f52 i hi).trans (f12 i hi))), (fun i hi => ((f53 i hi).trans (f13 i hi))), I65, I66, I67, p55, p54, (jCi.fin q56 (of_decide_eq_true rfl) (fun h9 => absurd h9 (by omega))), (by omega), (by omega), (by omega), (by omega), trivial⟩ hP hS dX7_part_95
           · exact by
              have kc64 := jeq c64 rfl jz_m1
              refine lv_aload_n hx hb dX7_part_35 rfl (lv_at hl 1 rfl) ?_
              have I68 : jI9 σ38 := jI9_fr (f52 0 (of_decide_eq_true rfl)) (f51 10 (of_decide_eq_true rfl)) (f51 11 (of_decide_eq_true rfl)) I14
              refine jcallV (As := []) (rest := []) ⟨hx, hb, hml, hown, hts⟩ hK hP hA hS hZ (c_X7_sign_9 l D cI cL ad zz hJ σ38 τ I68) cw_RX7_35 (jc_9 cI cL ad σ38 τ) rfl ⟨by dsimp only; omega, by dsimp only; omega⟩ rfl rfl rfl hl.1 rfl (Nat.le_of_ble_eq_true rfl) dX7_part_36 ⟨Nat.zero_le _, Nat.zero_le _⟩ (fun r70 σ69 τ69 H locs h69 hP hS => ?_)
              obtain ⟨⟨rfl, rfl⟩, h69⟩ := h69
              rcases h69 with h71 | h72
              · obtain ⟨q76, k73, k74, k75⟩ := h71
                have q77 : r70 = (σ 10 (σ38 9 1).toNatClampNeg) := q76.trans (by rw [f51 10 (of_decide_eq_true rfl), f11 10 (of_decide_eq_true rfl)])
                have q77e : (σ38 10 (σ38 9 1).toNatClampNeg).toInt = (σ 10 (σ38 9 1).toNatClampNeg).toInt := by rw [← q76, ← q77]
                exact by
                 have q77 := q77.symm
                 subst q77
                 try rw [show (σ38 9 0).toInt = (σ 9 0).toInt from by omega] at k75
                 try rw [show σ38 10 = σ 10 from ((f51 10 (of_decide_eq_true rfl)).trans (f11 10 (of_decide_eq_true rfl)))] at k75
                 refine jcallS (As := [.int (σ 10 (σ38 9 1).toNatClampNeg)]) (rest := []) ⟨hx, hb, hml, hown, hts⟩ hK hP hA hS hZ (c_X7_levelOf l D cI cL ad zz hJ σ38 τ (σ 10 (σ38 9 1).toNatClampNeg) ((σ 10 (σ38 9 1).toNatClampNeg).toInt) rfl) cw_RX7_98 ⟨by dsimp only; omega, by dsimp only; omega⟩ rfl rfl rfl hl.1 rfl (Nat.le_of_ble_eq_true rfl) dX7_part_39 ⟨Nat.zero_le _, Nat.zero_le _⟩ (fun r79 σ78 τ78 H locs h78 hP hS => ?_)
                 obtain ⟨⟨rfl, rfl⟩, h78⟩ := h78
                 rcases h78 with h80 | h81
                 · obtain ⟨q85, k82, k83, k84⟩ := h80
                   refine lv_iload_n hx hb dX7_part_42 rfl (lv_at hl 2 rfl) ?_
                   refine lv_icmp_ne (tgt := 95) hx hb dX7_part_43 (of_decide_eq_true rfl) (fun c86 => ?_) (fun c86 => ?_)
                   · have kc86 := jne c86 rfl jz_1
                     exact by
                      have I87 : jI91 σ38 := ⟨(by omega), (by omega)⟩
                      have I88 : jI92 σ38 := (show (-1) ≤ (σ38 9 2).toInt ∧ (σ38 9 2).toInt ≤ 80 by omega)
                      exact by exact hret σ38 τ _ _ _ _ ⟨rfl, (fun i hi => ((f51 i hi).trans (f11 i hi))), (fun i hi => ((f52 i hi).trans (f12 i hi))), (fun i hi => ((f53 i hi).trans (f13 i hi))), I68, I87, I88, p55, p54, (jCi.fin q56 (of_decide_eq_true rfl) (fun _ => by rw [k75]; omega)), (by omega), (by omega), (by omega), (by omega), trivial⟩ hP hS dX7_part_95
                   · have kc86 := jeq c86 rfl jz_1
                     refine lv_aload_n hx hb dX7_part_46 rfl (lv_at hl 1 rfl) ?_
                     refine jcallV (As := []) (rest := []) ⟨hx, hb, hml, hown, hts⟩ hK hP hA hS hZ (c_X7_sign_9 l D cI cL ad zz hJ σ38 τ I68) cw_RX7_35 (jc_9 cI cL ad σ38 τ) rfl ⟨by dsimp only; omega, by dsimp only; omega⟩ rfl rfl rfl hl.1 rfl (Nat.le_of_ble_eq_true rfl) dX7_part_47 ⟨Nat.zero_le _, Nat.zero_le _⟩ (fun r90 σ89 τ89 H locs h89 hP hS => ?_)
                     obtain ⟨⟨rfl, rfl⟩, h89⟩ := h89
                     rcases h89 with h91 | h92
                     · obtain ⟨q96, k93, k94, k95⟩ := h91
                       exact by
                        have q97 : r90 = (σ 10 (σ38 9 1).toNatClampNeg) := q96.trans (by rw [f51 10 (of_decide_eq_true rfl), f11 10 (of_decide_eq_true rfl)])
                        have q97e : (σ38 10 (σ38 9 1).toNatClampNeg).toInt = (σ 10 (σ38 9 1).toNatClampNeg).toInt := by rw [← q96, ← q97]
                        have q97 := q97.symm
                        subst q97
                        try rw [show (σ38 9 0).toInt = (σ 9 0).toInt from by omega] at k95
                        try rw [show σ38 10 = σ 10 from ((f51 10 (of_decide_eq_true rfl)).trans (f11 10 (of_decide_eq_true rfl)))] at k95
                        refine lv_istore (lv' := [(4, .int (σ 10 (σ38 9 1).toNatClampNeg)), (3, .int x36), (0, .ref (ad 9)), (1, .int 1), (2, .int a2)]) hx hb dX7_part_50 hl (of_decide_eq_true rfl) rfl (fun ls hl => ?_)
                        refine lv_aload_n hx hb dX7_part_52 rfl (lv_at hl 2 rfl) ?_
                        refine lv_dup hx hb dX7_part_53 rfl ?_
                        refine va_get (D := D) hx hb hts inlX7 hown hK hP 9 (jc_9 cI cL ad σ38 τ) rfl 1 (of_decide_eq_true rfl) (hts _ kw_13_17) (fun _ h9 => h9) rfl dX7_part_54 ?_
                        refine lv_iconst (v := 1) hx hb dX7_part_57 (of_decide_eq_true rfl) ?_
                        have g98 := jrg (rfl : (σ38 9 1).toInt = (σ38 9 1).toInt)
                        refine lv_iadd hx hb dX7_part_58 ?_
                        refine lv_topi (fun x99 ex99 => ?_)
                        exact by
                         have tx99 : x99.toInt = (σ38 9 1).toInt + 1 := (jadd ex99 rfl jz_1 (by omega) (by omega)).trans (by omega)
                         refine jput (ty := .int) hx hb hts inlX7 tyX7 tyX7_ok nmX7 hown hK hP hJ hA hS (jc_9 cI cL ad σ38 τ) rfl (k := 1) (of_decide_eq_true rfl) (Nat.le_of_ble_eq_true rfl) (jp_9_1 cI cL ad σ38 τ x99) (hts _ kw_13_17) (fun _ h9 => h9) rfl (by decide +kernel) rfl rfl dX7_part_59 (fun σ100 H locs eσ100 hP hS => ?_)
                         refine lv_aload_n hx hb dX7_part_62 rfl (lv_at hl 2 rfl) ?_
                         refine lv_iload_n hx hb dX7_part_63 rfl (lv_at hl 3 rfl) ?_
                         refine lv_iconst (v := 1) hx hb dX7_part_64 (of_decide_eq_true rfl) ?_
                         refine lv_iadd hx hb dX7_part_65 ?_
                         refine jtopr (y := 2) (of_decide_eq_true rfl) ?_
                         refine lv_iload_n hx hb dX7_part_66 rfl (lv_at hl 4 rfl) ?_
                         have I101 : jI9 σ100 := jI9_fr (jkp 0 eσ100 (of_decide_eq_true rfl)) (jnp 10 eσ100 (of_decide_eq_true rfl)) (jnp 11 eσ100 (of_decide_eq_true rfl)) I68
                         have z102 : (σ100 9 1).toInt = (σ38 9 1).toInt + 1 := ((congrArg Int32.toInt (show σ100 9 1 = x99 from (jsp eσ100))).trans tx99)
                         have z103 : (σ100 9 0).toInt = (σ 9 0).toInt := (congrArg Int32.toInt (show σ100 9 0 = (σ 9 0) from ((jkp 0 eσ100 (of_decide_eq_true rfl)).trans ((f52 0 (of_decide_eq_true rfl)).trans (f12 0 (of_decide_eq_true rfl))))))
                         exact by
                          have I104 : jI91 σ100 := ⟨(by omega), (by omega)⟩
                          have z105 : (σ100 9 2).toInt = (σ38 9 2).toInt := (congrArg Int32.toInt (show σ100 9 2 = (σ38 9 2) from (jkp 2 eσ100 (of_decide_eq_true rfl))))
                          have I106 : jI92 σ100 := (show (-1) ≤ (σ100 9 2).toInt ∧ (σ100 9 2).toInt ≤ 80 by omega)
                          have I107 : jI12 σ100 := jI12_fr (congrFun (jnp 12 eσ100 (of_decide_eq_true rfl)) 0) (jnp 13 eσ100 (of_decide_eq_true rfl)) p55
                          have p108 : jNd12 σ100 := jNd12.fr (congrFun (jnp 12 eσ100 (of_decide_eq_true rfl)) 0) (congrFun (jnp 12 eσ100 (of_decide_eq_true rfl)) 1) (jnp 13 eσ100 (of_decide_eq_true rfl)) p54
                          have z109 : (σ100 12 0).toInt = (σ38 12 0).toInt := (congrArg Int32.toInt (show σ100 12 0 = (σ38 12 0) from (congrFun (jnp 12 eσ100 (of_decide_eq_true rfl)) 0)))
                          refine jcallVv (As := [.int 2, .int a2]) (rest := []) ⟨hx, hb, hml, hown, hts⟩ hK hP hA hS hZ (h_p2 σ100 τ a2 (A2) t2 I101 I104 I106 I107 p108 (by omega) (by omega) (by omega) (by omega)) cw_RX7_82 (jc_9 cI cL ad σ100 τ) rfl ⟨by dsimp only; omega, by dsimp only; omega⟩ rfl rfl rfl hl.1 rfl (Nat.le_of_ble_eq_true rfl) dX7_part_67 ⟨Nat.zero_le _, Nat.zero_le _⟩ (fun σ110 τ110 H locs h110 hP hS => ?_)
                          obtain ⟨rfl, f112, f113, f114, I115, I116, I117, I118, p119, w120, h110⟩ := h110
                          obtain ⟨i122, w123, w124⟩ : (0 ≤ (σ110 9 0).toInt ∧ (σ110 9 0).toInt ≤ 80) ∧ (∀ k : Nat, k < 80 → 0 ≤ (σ110 10 k).toInt ∧ (σ110 10 k).toInt ≤ 255) ∧ (∀ k : Nat, k < 8 → 0 ≤ (σ110 11 k).toInt ∧ (σ110 11 k).toInt ≤ 3) := id I115
                          exact by
                           obtain ⟨i125, i126⟩ : (0 ≤ (σ110 9 1).toInt) ∧ ((σ110 9 1).toInt ≤ (σ110 9 0).toInt) := id I116
                           have i127 : (-1) ≤ (σ110 9 2).toInt ∧ (σ110 9 2).toInt ≤ 80 := I117
                           obtain ⟨i128, w129⟩ : (0 ≤ (σ110 12 0).toInt ∧ (σ110 12 0).toInt ≤ 160) ∧ (∀ k : Nat, k < 160 → 0 ≤ (σ110 13 k).toInt ∧ (σ110 13 k).toInt ≤ 30000) := id I118
                           try rw [show (σ100 9 1).toInt = (σ38 9 1).toInt + 1 from by omega] at w120
                           try rw [show (σ100 9 0).toInt = (σ 9 0).toInt from by omega] at w120
                           try rw [show σ100 10 = σ 10 from ((jnp 10 eσ100 (of_decide_eq_true rfl)).trans ((f51 10 (of_decide_eq_true rfl)).trans (f11 10 (of_decide_eq_true rfl))))] at w120
                           try rw [show σ100 13 = σ38 13 from by rw [jnp 13 eσ100 (of_decide_eq_true rfl)]] at w120
                           try rw [show (σ100 12 0).toInt = (σ38 12 0).toInt from by omega] at w120
                           have z130 : (σ110 9 0).toInt = (σ 9 0).toInt := (congrArg Int32.toInt (show σ110 9 0 = (σ 9 0) from ((f113 0 (of_decide_eq_true rfl)).trans ((jkp 0 eσ100 (of_decide_eq_true rfl)).trans ((f52 0 (of_decide_eq_true rfl)).trans (f12 0 (of_decide_eq_true rfl)))))))
                           obtain ⟨k131, k132, k133, k134, h110⟩ := h110
                           refine lv_aload_n hx hb dX7_part_70 rfl (lv_at hl 2 rfl) ?_
                           refine va_get (D := D) hx hb hts inlX7 hown hK hP 9 (jc_9 cI cL ad σ110 τ) rfl 5 (of_decide_eq_true rfl) (hts _ kw_3_23) (fun _ h9 => h9) rfl dX7_part_71 ?_
                           refine lv_sipush (v := 20000) hx hb dX7_part_74 (of_decide_eq_true rfl) ?_
                           refine lv_iload hx hb dX7_part_77 (lv_at hl 0 rfl) ?_
                           have g135 := jrg (rfl : (σ 10 (σ38 9 1).toNatClampNeg).toInt = (σ 10 (σ38 9 1).toNatClampNeg).toInt)
                           refine lv_iadd hx hb dX7_part_79 ?_
                           refine lv_topi (fun x136 ex136 => ?_)
                           exact by
                            have tx136 : x136.toInt = (σ 10 (σ38 9 1).toNatClampNeg).toInt + 20000 := (jadd ex136 jz_20000 rfl (by omega) (by omega)).trans (by omega)
                            refine jcallVv (As := [.int x136]) (rest := []) ⟨hx, hb, hml, hown, hts⟩ hK hP hA hS hZ (c_X10_add_12 l D cI cL ad zz hJ σ110 τ x136 ((σ 10 (σ38 9 1).toNatClampNeg).toInt + 20000) tx136 I118 p119 (by omega) (by omega)) cw_RX7_86 (jc_12 cI cL ad σ110 τ) rfl ⟨by dsimp only; omega, by dsimp only; omega⟩ rfl rfl rfl hl.1 rfl (Nat.le_of_ble_eq_true rfl) dX7_part_80 ⟨Nat.zero_le _, Nat.zero_le _⟩ (fun σ137 τ137 H locs h137 hP hS => ?_)
                            obtain ⟨rfl, f139, f140, I141, p142, w143, h137⟩ := h137
                            obtain ⟨i145, w146⟩ : (0 ≤ (σ137 12 0).toInt ∧ (σ137 12 0).toInt ≤ 160) ∧ (∀ k : Nat, k < 160 → 0 ≤ (σ137 13 k).toInt ∧ (σ137 13 k).toInt ≤ 30000) := id I141
                            obtain ⟨k147, h137⟩ := h137
                            refine lv_iload_n hx hb dX7_part_83 rfl (lv_at hl 3 rfl) ?_
                            refine lv_iconst (v := 2) hx hb dX7_part_84 (of_decide_eq_true rfl) ?_
                            refine lv_icmp_ne (tgt := 89) hx hb dX7_part_85 (of_decide_eq_true rfl) (fun _ => ?_) (fun c => absurd c (of_decide_eq_true rfl))
                            obtain ⟨x148, ex148⟩ : ∃ y : Int32, y = x36 + 1 := ⟨_, rfl⟩
                            exact by
                             have tx148 : x148.toInt = x36.toInt + 1 := (jadd ex148 rfl jz_1 (by omega) (by omega)).trans (by omega)
                             refine lv_iinc (v := x148) (lv' := [(3, .int x148), (4, .int (σ 10 (σ38 9 1).toNatClampNeg)), (0, .ref (ad 9)), (1, .int 1), (2, .int a2)]) hx hb dX7_part_89 hl (k := 1) rfl (by rw [ex148]; rfl) (of_decide_eq_true rfl) rfl (fun ls hl => ?_)
                             refine lv_goto (tgt := 21) hx hb dX7_part_92 (of_decide_eq_true rfl) ?_
                             have z149 : (σ137 9 1).toInt = (σ110 9 1).toInt := (congrArg Int32.toInt (show σ137 9 1 = (σ110 9 1) from (congrFun (f139 9 (of_decide_eq_true rfl)) 1)))
                             have z150 : (σ137 9 0).toInt = (σ 9 0).toInt := (congrArg Int32.toInt (show σ137 9 0 = (σ 9 0) from ((congrFun (f139 9 (of_decide_eq_true rfl)) 0).trans ((f113 0 (of_decide_eq_true rfl)).trans ((jkp 0 eσ100 (of_decide_eq_true rfl)).trans ((f52 0 (of_decide_eq_true rfl)).trans (f12 0 (of_decide_eq_true rfl))))))))
                             have z151 : (σ137 9 2).toInt = (σ110 9 2).toInt := (congrArg Int32.toInt (show σ137 9 2 = (σ110 9 2) from (congrFun (f139 9 (of_decide_eq_true rfl)) 2)))
                             exact by exact ihlp34 x148 σ137 _ _ ls (by have h90 := tx148; omega) (by have h90 := tx148; omega) (by have h90 := tx148; omega) (by have h90 := tx148; omega) (by have h90 := tx148; omega) (by have h90 := tx148; omega) (by have h90 := tx148; omega) (by have h90 := tx148; omega) (by have h90 := tx148; omega) (by have h90 := tx148; omega) (by have h90 := tx148; omega) (fun i hi => ((f139 i (imp_58 i hi)).trans ((f112 i hi).trans ((jnp i eσ100 (imp_60 i hi)).trans (f51 i hi))))) (fun i hi => ((congrFun (f139 9 (of_decide_eq_true rfl)) i).trans ((f113 i hi).trans ((jkp i eσ100 (imp_39 i hi)).trans (f52 i hi))))) (fun i hi => ((f140 i hi).trans ((f114 i hi).trans ((congrFun (jnp 12 eσ100 (of_decide_eq_true rfl)) i).trans (f53 i hi)))))  p142 I141 (jCi.to (jCi.step q56 (by omega) (of_decide_eq_true rfl) (of_decide_eq_true rfl) (by rw [k75]; omega) w120 (of_decide_eq_true rfl) (by omega) w143 (jwd_of (by have h9 := tx136; omega) (by omega) (by omega)) (show (σ137 12 0).toInt = (σ110 12 0).toInt + 1 by omega) (by omega)) (by omega) (by omega) rfl (by omega)) hP hS (lv_sub hl [0, 2, 3, 4] rfl)
                     · obtain ⟨q154, k152, k153⟩ := h92
                       exact absurd (by omega : False) id
                 · exact by
                    obtain ⟨q156, k155⟩ := h81
                    have q156 := q156.symm
                    subst q156
                    rw [jz_5] at k155
                    refine lv_iload_n hx hb dX7_part_42 rfl (lv_at hl 2 rfl) ?_
                    refine lv_icmp_ne (tgt := 95) hx hb dX7_part_43 (of_decide_eq_true rfl) (fun _ => ?_) (fun c => absurd c (of_decide_eq_true rfl))
                    have I157 : jI91 σ38 := ⟨(by omega), (by omega)⟩
                    have I158 : jI92 σ38 := (show (-1) ≤ (σ38 9 2).toInt ∧ (σ38 9 2).toInt ≤ 80 by omega)
                    exact by exact hret σ38 τ _ _ _ _ ⟨rfl, (fun i hi => ((f51 i hi).trans (f11 i hi))), (fun i hi => ((f52 i hi).trans (f12 i hi))), (fun i hi => ((f53 i hi).trans (f13 i hi))), I68, I157, I158, p55, p54, (jCi.fin q56 (of_decide_eq_true rfl) (fun _ => by rw [k75]; omega)), (by omega), (by omega), (by omega), (by omega), trivial⟩ hP hS dX7_part_95
              · exact by
                 obtain ⟨q161, k159, k160⟩ := h72
                 have q161 := q161.symm
                 subst q161
                 try rw [show (σ38 9 0).toInt = (σ 9 0).toInt from by omega] at k160
                 try rw [show σ38 10 = σ 10 from ((f51 10 (of_decide_eq_true rfl)).trans (f11 10 (of_decide_eq_true rfl)))] at k160
                 refine jcallS (As := [.int (-1)]) (rest := []) ⟨hx, hb, hml, hown, hts⟩ hK hP hA hS hZ (c_X7_levelOf l D cI cL ad zz hJ σ38 τ (-1) ((-1)) jz_m1) cw_RX7_98 ⟨by dsimp only; omega, by dsimp only; omega⟩ rfl rfl rfl hl.1 rfl (Nat.le_of_ble_eq_true rfl) dX7_part_39 ⟨Nat.zero_le _, Nat.zero_le _⟩ (fun r163 σ162 τ162 H locs h162 hP hS => ?_)
                 obtain ⟨⟨rfl, rfl⟩, h162⟩ := h162
                 rcases h162 with h164 | h165
                 · obtain ⟨q169, k166, k167, k168⟩ := h164
                   exact absurd (by omega : False) id
                 · obtain ⟨q171, k170⟩ := h165
                   have q171 := q171.symm
                   subst q171
                   rw [jz_5] at k170
                   refine lv_iload_n hx hb dX7_part_42 rfl (lv_at hl 2 rfl) ?_
                   refine lv_icmp_ne (tgt := 95) hx hb dX7_part_43 (of_decide_eq_true rfl) (fun _ => ?_) (fun c => absurd c (of_decide_eq_true rfl))
                   exact by
                    have I172 : jI91 σ38 := ⟨(by omega), (by omega)⟩
                    have I173 : jI92 σ38 := (show (-1) ≤ (σ38 9 2).toInt ∧ (σ38 9 2).toInt ≤ 80 by omega)
                    exact by exact hret σ38 τ _ _ _ _ ⟨rfl, (fun i hi => ((f51 i hi).trans (f11 i hi))), (fun i hi => ((f52 i hi).trans (f12 i hi))), (fun i hi => ((f53 i hi).trans (f13 i hi))), I68, I172, I173, p55, p54, (jCi.fin q56 (of_decide_eq_true rfl) (fun _ => by rw [k160]; omega)), (by omega), (by omega), (by omega), (by omega), trivial⟩ hP hS dX7_part_95
   exact by exact lp34 1000000 0 σ9 _ _ ls (by have h90 := jz_0; omega) (by have h90 := jz_0; omega) (by have h90 := jz_0; omega) (by have h90 := jz_0; omega) (by have h90 := jz_0; omega) (by have h90 := jz_0; omega) (by have h90 := jz_0; omega) (by have h90 := jz_0; omega) (by have h90 := jz_0; omega) (by have h90 := jz_0; omega) (by have h90 := jz_0; omega) (fun _ _ => rfl) (fun _ _ => rfl) (fun _ _ => rfl)  p18 I17 (jCp.begin w19 (of_decide_eq_true rfl) (of_decide_eq_true rfl)) hP hS hl
set_option maxHeartbeats 4000000 in
set_option maxRecDepth 100000 in
theorem c_X7_grammar_p0_g (l : Launch) (D : va_G) (cI cL : ClassId) (ad zz : Nat → Nat) (hJ : jD ad) (n : Nat) (h_p1 : ∀ (σ : Nat → Nat → Int32) (τ : Nat → Nat → Int64) (a2 : Int32) (A2 : Int) (t2 : a2.toInt = A2) (hI9 : jI9 σ) (hI91 : jI91 σ) (hI92 : jI92 σ) (hI12 : jI12 σ) (hs_jNd12 : jNd12 σ) (hp0 : 0 ≤ A2 ∧ A2 ≤ 6) (hp1 : -A2 + 6 ≤ (((n) : Nat) : Int)) (hp2 : (σ 9 2).toInt = (-1)) (hp3 : 3 * (σ 12 0).toInt ≤ 4 * (σ 9 1).toInt + 1), jMv l yX7_part cX7_part 5 none ({ frames := (15 + 8 * (n)), cells := 0, slots := 0, locals := (600 + 360 * (n)) }) D cI cL ad zz [.ref (ad 9), .int 1, .int a2] σ τ (fun σ' τ' => τ = τ' ∧ (∀ i : Nat, (i < 9 ∨ 9 < i) ∧ (i < 12 ∨ 13 < i) → σ' i = σ i) ∧ (∀ k : Nat, (k < 1 ∨ 1 < k) ∧ (k < 2 ∨ 2 < k) → σ' 9 k = σ 9 k) ∧ (∀ k : Nat, (k < 0 ∨ 0 < k) ∧ (k < 1 ∨ 1 < k) → σ' 12 k = σ 12 k) ∧ (jI9 σ') ∧ (jI91 σ') ∧ (jI92 σ') ∧ (jI12 σ') ∧ (jNd12 σ') ∧ (jCp (σ 10) (σ 9 0).toInt 1 (A2) (σ 9 1).toInt (σ' 9 1).toInt (σ' 9 2).toInt (σ 13) (σ' 13) (σ 12 0).toInt (σ' 12 0).toInt) ∧ ((σ 9 1).toInt ≤ (σ' 9 1).toInt) ∧ ((σ' 12 0).toInt - (σ 12 0).toInt ≤ (σ' 9 1).toInt - (σ 9 1).toInt) ∧ (3 * (σ' 12 0).toInt ≤ 4 * (σ' 9 1).toInt + 1) ∧ ((0 ≤ (σ' 9 2).toInt) ∨ ((σ 9 1).toInt + 1 ≤ (σ' 9 1).toInt)) ∧ True)) (σ : Nat → Nat → Int32) (τ : Nat → Nat → Int64) (a2 : Int32) (A2 : Int) (t2 : a2.toInt = A2) (hI9 : jI9 σ) (hI91 : jI91 σ) (hI92 : jI92 σ) (hI12 : jI12 σ) (hs_jNd12 : jNd12 σ) (hp0 : 0 ≤ A2 ∧ A2 ≤ 6) (hp1 : -A2 + 6 ≤ (((n) : Nat) : Int)) (hp2 : (σ 9 2).toInt = (-1)) (hp3 : 3 * (σ 12 0).toInt ≤ 4 * (σ 9 1).toInt + 1) : jMv l yX7_part cX7_part 5 none ({ frames := (16 + 8 * (n)), cells := 0, slots := 0, locals := (640 + 360 * (n)) }) D cI cL ad zz [.ref (ad 9), .int 0, .int a2] σ τ (fun σ' τ' => τ = τ' ∧ (∀ i : Nat, (i < 9 ∨ 9 < i) ∧ (i < 12 ∨ 13 < i) → σ' i = σ i) ∧ (∀ k : Nat, (k < 1 ∨ 1 < k) ∧ (k < 2 ∨ 2 < k) → σ' 9 k = σ 9 k) ∧ (∀ k : Nat, (k < 0 ∨ 0 < k) ∧ (k < 1 ∨ 1 < k) → σ' 12 k = σ 12 k) ∧ (jI9 σ') ∧ (jI91 σ') ∧ (jI92 σ') ∧ (jI12 σ') ∧ (jNd12 σ') ∧ (jCp (σ 10) (σ 9 0).toInt 0 (A2) (σ 9 1).toInt (σ' 9 1).toInt (σ' 9 2).toInt (σ 13) (σ' 13) (σ 12 0).toInt (σ' 12 0).toInt) ∧ ((σ 9 1).toInt ≤ (σ' 9 1).toInt) ∧ ((σ' 12 0).toInt - (σ 12 0).toInt ≤ (σ' 9 1).toInt - (σ 9 1).toInt) ∧ (3 * (σ' 12 0).toInt ≤ 4 * (σ' 9 1).toInt + 1) ∧ ((0 ≤ (σ' 9 2).toInt) ∨ ((σ 9 1).toInt + 1 ≤ (σ' 9 1).toInt)) ∧ True) := by
  refine jMv.of hJ (by decide +kernel) rfl (Nat.le_of_ble_eq_true rfl) ?_
  intro p e s m args below meth c Q ls hC hret hl hP
  obtain ⟨hx, hb, hr, hml, hown, hts, hK, -, hlocks, hZ⟩ := hC
  have hown : s.vm.findClass RX7 = some m.cls := hown
  have hS : va_S (jA ad) s.heap s.heap [] := va_S.rf
  have hA : ∀ q, jA ad q → jA ad q := fun _ h => h
  have hl : lv_has ls 5 [(0, .ref (ad 9)), (1, .int 0), (2, .int a2)] := hl
  have g2 := jrg t2
  obtain ⟨i1, w2, w3⟩ : (0 ≤ (σ 9 0).toInt ∧ (σ 9 0).toInt ≤ 80) ∧ (∀ k : Nat, k < 80 → 0 ≤ (σ 10 k).toInt ∧ (σ 10 k).toInt ≤ 255) ∧ (∀ k : Nat, k < 8 → 0 ≤ (σ 11 k).toInt ∧ (σ 11 k).toInt ≤ 3) := id hI9
  obtain ⟨i4, i5⟩ : (0 ≤ (σ 9 1).toInt) ∧ ((σ 9 1).toInt ≤ (σ 9 0).toInt) := id hI91
  have i6 : (-1) ≤ (σ 9 2).toInt ∧ (σ 9 2).toInt ≤ 80 := hI92
  obtain ⟨i7, w8⟩ : (0 ≤ (σ 12 0).toInt ∧ (σ 12 0).toInt ≤ 160) ∧ (∀ k : Nat, k < 160 → 0 ≤ (σ 13 k).toInt ∧ (σ 13 k).toInt ≤ 30000) := id hI12
  refine lv_iload_n hx hb dX7_part_0 rfl (lv_at hl 1 rfl) ?_
  refine lv_iconst (v := 5) hx hb dX7_part_1 (of_decide_eq_true rfl) ?_
  refine lv_icmp_lt (tgt := 11) hx hb dX7_part_2 (of_decide_eq_true rfl) (fun _ => ?_) (fun c => absurd (of_decide_eq_true rfl) c)
  refine lv_aload_n hx hb dX7_part_11 rfl (lv_at hl 0 rfl) ?_
  refine lv_iload_n hx hb dX7_part_12 rfl (lv_at hl 1 rfl) ?_
  refine lv_iconst (v := 1) hx hb dX7_part_13 (of_decide_eq_true rfl) ?_
  refine lv_iadd hx hb dX7_part_14 ?_
  refine jtopr (y := 1) (of_decide_eq_true rfl) ?_
  refine lv_iload_n hx hb dX7_part_15 rfl (lv_at hl 2 rfl) ?_
  exact by
   refine jcallVv (As := [.int 1, .int a2]) (rest := []) ⟨hx, hb, hml, hown, hts⟩ hK hP hA hS hZ (h_p1 σ τ a2 (A2) t2 hI9 hI91 hI92 hI12 hs_jNd12 (by omega) (by omega) (by omega) (by omega)) cw_RX7_82 (jc_9 cI cL ad σ τ) rfl ⟨by dsimp only; omega, by dsimp only; omega⟩ rfl rfl rfl hl.1 rfl (Nat.le_of_ble_eq_true rfl) dX7_part_16 ⟨Nat.zero_le _, Nat.zero_le _⟩ (fun σ9 τ9 H locs h9 hP hS => ?_)
   obtain ⟨rfl, f11, f12, f13, I14, I15, I16, I17, p18, w19, h9⟩ := h9
   obtain ⟨i21, w22, w23⟩ : (0 ≤ (σ9 9 0).toInt ∧ (σ9 9 0).toInt ≤ 80) ∧ (∀ k : Nat, k < 80 → 0 ≤ (σ9 10 k).toInt ∧ (σ9 10 k).toInt ≤ 255) ∧ (∀ k : Nat, k < 8 → 0 ≤ (σ9 11 k).toInt ∧ (σ9 11 k).toInt ≤ 3) := id I14
   obtain ⟨i24, i25⟩ : (0 ≤ (σ9 9 1).toInt) ∧ ((σ9 9 1).toInt ≤ (σ9 9 0).toInt) := id I15
   have i26 : (-1) ≤ (σ9 9 2).toInt ∧ (σ9 9 2).toInt ≤ 80 := I16
   obtain ⟨i27, w28⟩ : (0 ≤ (σ9 12 0).toInt ∧ (σ9 12 0).toInt ≤ 160) ∧ (∀ k : Nat, k < 160 → 0 ≤ (σ9 13 k).toInt ∧ (σ9 13 k).toInt ≤ 30000) := id I17
   have z29 : (σ9 9 0).toInt = (σ 9 0).toInt := (congrArg Int32.toInt (show σ9 9 0 = (σ 9 0) from (f12 0 (of_decide_eq_true rfl))))
   obtain ⟨k30, k31, k32, k33, h9⟩ := h9
   refine lv_iconst (v := 0) hx hb dX7_part_19 (of_decide_eq_true rfl) ?_
   refine lv_istore_n (lv' := [(3, .int 0), (0, .ref (ad 9)), (1, .int 0), (2, .int a2)]) hx hb dX7_part_20 rfl hl (of_decide_eq_true rfl) rfl (fun ls hl => ?_)
   have lp34 : ∀ (n35 : Nat) (x36 : Int32) (σ38 : Nat → Nat → Int32) (H : Heap) (locs : List Loc) (ls : Array Slot), (-x36.toInt + 80 : Int) < n35 → 0 ≤ x36.toInt → x36.toInt ≤ 80 → 0 ≤ (σ38 9 1).toInt → (σ38 9 1).toInt ≤ (σ38 9 0).toInt → (-1) ≤ (σ38 9 2).toInt ∧ (σ38 9 2).toInt ≤ 80 → (σ 9 1).toInt ≤ (σ38 9 1).toInt → (σ38 12 0).toInt - (σ 12 0).toInt ≤ (σ38 9 1).toInt - (σ 9 1).toInt → 3 * (σ38 12 0).toInt ≤ 4 * (σ38 9 1).toInt + 1 → ((0 ≤ (σ38 9 2).toInt) ∨ ((σ 9 1).toInt + 1 ≤ (σ38 9 1).toInt)) → x36.toInt ≤ (σ38 9 1).toInt → (∀ i : Nat, (i < 9 ∨ 9 < i) ∧ (i < 12 ∨ 13 < i) → σ38 i = σ9 i) → (∀ k : Nat, (k < 1 ∨ 1 < k) ∧ (k < 2 ∨ 2 < k) → σ38 9 k = σ9 9 k) → (∀ k : Nat, (k < 0 ∨ 0 < k) ∧ (k < 1 ∨ 1 < k) → σ38 12 k = σ9 12 k) → jNd12 σ38 → jI12 σ38 → (jCi (σ 10) (σ 9 0).toInt 0 (A2) (σ 9 1).toInt (σ38 9 1).toInt (σ38 9 2).toInt (σ 13) (σ38 13) (σ 12 0).toInt (σ38 12 0).toInt) → jH D cI cL ad σ38 τ H → va_S (jA ad) s.heap H locs → lv_has ls 5 [(3, .int x36), (0, .ref (ad 9)), (1, .int 0), (2, .int a2)] → W p l e ({ frames := (16 + 8 * (n)), cells := 0, slots := 0, locals := (640 + 360 * (n)) }) s m args below meth c H locs 0 0 Q (F0 m 21 ls []) := by
     intro n35
     induction n35 with
     | zero => intro x36 σ38 H locs ls h40 h41 h42 h43 h44 h45 h46 h47 h48 h49 h50; exact absurd h40 (by omega)
     | succ n35 ihlp34 =>
       intro x36 σ38 H locs ls h40 h41 h42 h43 h44 h45 h46 h47 h48 h49 h50 f51 f52 f53 p54 p55 q56 hP hS hl
       exact by
        obtain ⟨i57, w58⟩ : (0 ≤ (σ38 12 0).toInt ∧ (σ38 12 0).toInt ≤ 160) ∧ (∀ k : Nat, k < 160 → 0 ≤ (σ38 13 k).toInt ∧ (σ38 13 k).toInt ≤ 30000) := id p55
        have z59 : (σ38 9 0).toInt = (σ 9 0).toInt := (congrArg Int32.toInt (show σ38 9 0 = (σ 9 0) from ((f52 0 (of_decide_eq_true rfl)).trans (f12 0 (of_decide_eq_true rfl)))))
        refine lv_iload_n hx hb dX7_part_21 rfl (lv_at hl 0 rfl) ?_
        refine lv_bipush (v := 80) hx hb dX7_part_22 (of_decide_eq_true rfl) ?_
        refine lv_icmp_ge (tgt := 95) hx hb dX7_part_24 (of_decide_eq_true rfl) (fun c60 => ?_) (fun c60 => ?_)
        · have kc60 := jle c60 jz_80 rfl
          have I61 : jI9 σ38 := jI9_fr (f52 0 (of_decide_eq_true rfl)) (f51 10 (of_decide_eq_true rfl)) (f51 11 (of_decide_eq_true rfl)) I14
          have I62 : jI91 σ38 := ⟨(by omega), (by omega)⟩
          have I63 : jI92 σ38 := (show (-1) ≤ (σ38 9 2).toInt ∧ (σ38 9 2).toInt ≤ 80 by omega)
          exact by exact hret σ38 τ _ _ _ _ ⟨rfl, (fun i hi => ((f51 i hi).trans (f11 i hi))), (fun i hi => ((f52 i hi).trans (f12 i hi))), (fun i hi => ((f53 i hi).trans (f13 i hi))), I61, I62, I63, p55, p54, (jCi.fin q56 (of_decide_eq_true rfl) (fun _ => by rw [jYs_n (by omega)]; decide)), (by omega), (by omega), (by omega), (by omega), trivial⟩ hP hS dX7_part_95
        · exact by
           have kc60 := jnle c60 jz_80 rfl
           refine lv_aload_n hx hb dX7_part_27 rfl (lv_at hl 1 rfl) ?_
           refine va_get (D := D) hx hb hts inlX7 hown hK hP 9 (jc_9 cI cL ad σ38 τ) rfl 2 (of_decide_eq_true rfl) (hts _ kw_14_6) (fun _ h9 => h9) rfl dX7_part_28 ?_
           refine lv_iconst (v := (-1)) hx hb dX7_part_31 (of_decide_eq_true rfl) ?_
           refine lv_icmp_ne (tgt := 95) hx hb dX7_part_32 (of_decide_eq_true rfl) (fun c64 => ?_) (fun c64 => ?_)
           · have kc64 := jne c64 rfl jz_m1
             have I65 : jI9 σ38 := jI9_fr (f52 0 (of_decide_eq_true rfl)) (f51 10 (of_decide_eq_true rfl)) (f51 11 (of_decide_eq_true rfl)) I14
             have I66 : jI91 σ38 := ⟨(by omega), (by omega)⟩
             have I67 : jI92 σ38 := (show (-1) ≤ (σ38 9 2).toInt ∧ (σ38 9 2).toInt ≤ 80 by omega)
             exact by exact hret σ38 τ _ _ _ _ ⟨rfl, (fun i hi => ((f51 i hi).trans (f11 i hi))), (fun i hi => ((f52 i hi).trans (f12 i hi))), (fun i hi => ((f53 i hi).trans (f13 i hi))), I65, I66, I67, p55, p54, (jCi.fin q56 (of_decide_eq_true rfl) (fun h9 => absurd h9 (by omega))), (by omega), (by omega), (by omega), (by omega), trivial⟩ hP hS dX7_part_95
           · exact by
              have kc64 := jeq c64 rfl jz_m1
              refine lv_aload_n hx hb dX7_part_35 rfl (lv_at hl 1 rfl) ?_
              have I68 : jI9 σ38 := jI9_fr (f52 0 (of_decide_eq_true rfl)) (f51 10 (of_decide_eq_true rfl)) (f51 11 (of_decide_eq_true rfl)) I14
              refine jcallV (As := []) (rest := []) ⟨hx, hb, hml, hown, hts⟩ hK hP hA hS hZ (c_X7_sign_9 l D cI cL ad zz hJ σ38 τ I68) cw_RX7_35 (jc_9 cI cL ad σ38 τ) rfl ⟨by dsimp only; omega, by dsimp only; omega⟩ rfl rfl rfl hl.1 rfl (Nat.le_of_ble_eq_true rfl) dX7_part_36 ⟨Nat.zero_le _, Nat.zero_le _⟩ (fun r70 σ69 τ69 H locs h69 hP hS => ?_)
              obtain ⟨⟨rfl, rfl⟩, h69⟩ := h69
              rcases h69 with h71 | h72
              · obtain ⟨q76, k73, k74, k75⟩ := h71
                have q77 : r70 = (σ 10 (σ38 9 1).toNatClampNeg) := q76.trans (by rw [f51 10 (of_decide_eq_true rfl), f11 10 (of_decide_eq_true rfl)])
                have q77e : (σ38 10 (σ38 9 1).toNatClampNeg).toInt = (σ 10 (σ38 9 1).toNatClampNeg).toInt := by rw [← q76, ← q77]
                exact by
                 have q77 := q77.symm
                 subst q77
                 try rw [show (σ38 9 0).toInt = (σ 9 0).toInt from by omega] at k75
                 try rw [show σ38 10 = σ 10 from ((f51 10 (of_decide_eq_true rfl)).trans (f11 10 (of_decide_eq_true rfl)))] at k75
                 refine jcallS (As := [.int (σ 10 (σ38 9 1).toNatClampNeg)]) (rest := []) ⟨hx, hb, hml, hown, hts⟩ hK hP hA hS hZ (c_X7_levelOf l D cI cL ad zz hJ σ38 τ (σ 10 (σ38 9 1).toNatClampNeg) ((σ 10 (σ38 9 1).toNatClampNeg).toInt) rfl) cw_RX7_98 ⟨by dsimp only; omega, by dsimp only; omega⟩ rfl rfl rfl hl.1 rfl (Nat.le_of_ble_eq_true rfl) dX7_part_39 ⟨Nat.zero_le _, Nat.zero_le _⟩ (fun r79 σ78 τ78 H locs h78 hP hS => ?_)
                 obtain ⟨⟨rfl, rfl⟩, h78⟩ := h78
                 rcases h78 with h80 | h81
                 · obtain ⟨q85, k82, k83, k84⟩ := h80
                   refine lv_iload_n hx hb dX7_part_42 rfl (lv_at hl 2 rfl) ?_
                   refine lv_icmp_ne (tgt := 95) hx hb dX7_part_43 (of_decide_eq_true rfl) (fun c86 => ?_) (fun c86 => ?_)
                   · have kc86 := jne c86 rfl jz_0
                     exact by
                      have I87 : jI91 σ38 := ⟨(by omega), (by omega)⟩
                      have I88 : jI92 σ38 := (show (-1) ≤ (σ38 9 2).toInt ∧ (σ38 9 2).toInt ≤ 80 by omega)
                      exact by exact hret σ38 τ _ _ _ _ ⟨rfl, (fun i hi => ((f51 i hi).trans (f11 i hi))), (fun i hi => ((f52 i hi).trans (f12 i hi))), (fun i hi => ((f53 i hi).trans (f13 i hi))), I68, I87, I88, p55, p54, (jCi.fin q56 (of_decide_eq_true rfl) (fun _ => by rw [k75]; omega)), (by omega), (by omega), (by omega), (by omega), trivial⟩ hP hS dX7_part_95
                   · have kc86 := jeq c86 rfl jz_0
                     refine lv_aload_n hx hb dX7_part_46 rfl (lv_at hl 1 rfl) ?_
                     refine jcallV (As := []) (rest := []) ⟨hx, hb, hml, hown, hts⟩ hK hP hA hS hZ (c_X7_sign_9 l D cI cL ad zz hJ σ38 τ I68) cw_RX7_35 (jc_9 cI cL ad σ38 τ) rfl ⟨by dsimp only; omega, by dsimp only; omega⟩ rfl rfl rfl hl.1 rfl (Nat.le_of_ble_eq_true rfl) dX7_part_47 ⟨Nat.zero_le _, Nat.zero_le _⟩ (fun r90 σ89 τ89 H locs h89 hP hS => ?_)
                     obtain ⟨⟨rfl, rfl⟩, h89⟩ := h89
                     rcases h89 with h91 | h92
                     · obtain ⟨q96, k93, k94, k95⟩ := h91
                       exact by
                        have q97 : r90 = (σ 10 (σ38 9 1).toNatClampNeg) := q96.trans (by rw [f51 10 (of_decide_eq_true rfl), f11 10 (of_decide_eq_true rfl)])
                        have q97e : (σ38 10 (σ38 9 1).toNatClampNeg).toInt = (σ 10 (σ38 9 1).toNatClampNeg).toInt := by rw [← q96, ← q97]
                        have q97 := q97.symm
                        subst q97
                        try rw [show (σ38 9 0).toInt = (σ 9 0).toInt from by omega] at k95
                        try rw [show σ38 10 = σ 10 from ((f51 10 (of_decide_eq_true rfl)).trans (f11 10 (of_decide_eq_true rfl)))] at k95
                        refine lv_istore (lv' := [(4, .int (σ 10 (σ38 9 1).toNatClampNeg)), (3, .int x36), (0, .ref (ad 9)), (1, .int 0), (2, .int a2)]) hx hb dX7_part_50 hl (of_decide_eq_true rfl) rfl (fun ls hl => ?_)
                        refine lv_aload_n hx hb dX7_part_52 rfl (lv_at hl 2 rfl) ?_
                        refine lv_dup hx hb dX7_part_53 rfl ?_
                        refine va_get (D := D) hx hb hts inlX7 hown hK hP 9 (jc_9 cI cL ad σ38 τ) rfl 1 (of_decide_eq_true rfl) (hts _ kw_13_17) (fun _ h9 => h9) rfl dX7_part_54 ?_
                        refine lv_iconst (v := 1) hx hb dX7_part_57 (of_decide_eq_true rfl) ?_
                        have g98 := jrg (rfl : (σ38 9 1).toInt = (σ38 9 1).toInt)
                        refine lv_iadd hx hb dX7_part_58 ?_
                        refine lv_topi (fun x99 ex99 => ?_)
                        exact by
                         have tx99 : x99.toInt = (σ38 9 1).toInt + 1 := (jadd ex99 rfl jz_1 (by omega) (by omega)).trans (by omega)
                         refine jput (ty := .int) hx hb hts inlX7 tyX7 tyX7_ok nmX7 hown hK hP hJ hA hS (jc_9 cI cL ad σ38 τ) rfl (k := 1) (of_decide_eq_true rfl) (Nat.le_of_ble_eq_true rfl) (jp_9_1 cI cL ad σ38 τ x99) (hts _ kw_13_17) (fun _ h9 => h9) rfl (by decide +kernel) rfl rfl dX7_part_59 (fun σ100 H locs eσ100 hP hS => ?_)
                         refine lv_aload_n hx hb dX7_part_62 rfl (lv_at hl 2 rfl) ?_
                         refine lv_iload_n hx hb dX7_part_63 rfl (lv_at hl 3 rfl) ?_
                         refine lv_iconst (v := 1) hx hb dX7_part_64 (of_decide_eq_true rfl) ?_
                         refine lv_iadd hx hb dX7_part_65 ?_
                         refine jtopr (y := 1) (of_decide_eq_true rfl) ?_
                         refine lv_iload_n hx hb dX7_part_66 rfl (lv_at hl 4 rfl) ?_
                         have I101 : jI9 σ100 := jI9_fr (jkp 0 eσ100 (of_decide_eq_true rfl)) (jnp 10 eσ100 (of_decide_eq_true rfl)) (jnp 11 eσ100 (of_decide_eq_true rfl)) I68
                         have z102 : (σ100 9 1).toInt = (σ38 9 1).toInt + 1 := ((congrArg Int32.toInt (show σ100 9 1 = x99 from (jsp eσ100))).trans tx99)
                         have z103 : (σ100 9 0).toInt = (σ 9 0).toInt := (congrArg Int32.toInt (show σ100 9 0 = (σ 9 0) from ((jkp 0 eσ100 (of_decide_eq_true rfl)).trans ((f52 0 (of_decide_eq_true rfl)).trans (f12 0 (of_decide_eq_true rfl))))))
                         exact by
                          have I104 : jI91 σ100 := ⟨(by omega), (by omega)⟩
                          have z105 : (σ100 9 2).toInt = (σ38 9 2).toInt := (congrArg Int32.toInt (show σ100 9 2 = (σ38 9 2) from (jkp 2 eσ100 (of_decide_eq_true rfl))))
                          have I106 : jI92 σ100 := (show (-1) ≤ (σ100 9 2).toInt ∧ (σ100 9 2).toInt ≤ 80 by omega)
                          have I107 : jI12 σ100 := jI12_fr (congrFun (jnp 12 eσ100 (of_decide_eq_true rfl)) 0) (jnp 13 eσ100 (of_decide_eq_true rfl)) p55
                          have p108 : jNd12 σ100 := jNd12.fr (congrFun (jnp 12 eσ100 (of_decide_eq_true rfl)) 0) (congrFun (jnp 12 eσ100 (of_decide_eq_true rfl)) 1) (jnp 13 eσ100 (of_decide_eq_true rfl)) p54
                          have z109 : (σ100 12 0).toInt = (σ38 12 0).toInt := (congrArg Int32.toInt (show σ100 12 0 = (σ38 12 0) from (congrFun (jnp 12 eσ100 (of_decide_eq_true rfl)) 0)))
                          refine jcallVv (As := [.int 1, .int a2]) (rest := []) ⟨hx, hb, hml, hown, hts⟩ hK hP hA hS hZ (h_p1 σ100 τ a2 (A2) t2 I101 I104 I106 I107 p108 (by omega) (by omega) (by omega) (by omega)) cw_RX7_82 (jc_9 cI cL ad σ100 τ) rfl ⟨by dsimp only; omega, by dsimp only; omega⟩ rfl rfl rfl hl.1 rfl (Nat.le_of_ble_eq_true rfl) dX7_part_67 ⟨Nat.zero_le _, Nat.zero_le _⟩ (fun σ110 τ110 H locs h110 hP hS => ?_)
                          obtain ⟨rfl, f112, f113, f114, I115, I116, I117, I118, p119, w120, h110⟩ := h110
                          obtain ⟨i122, w123, w124⟩ : (0 ≤ (σ110 9 0).toInt ∧ (σ110 9 0).toInt ≤ 80) ∧ (∀ k : Nat, k < 80 → 0 ≤ (σ110 10 k).toInt ∧ (σ110 10 k).toInt ≤ 255) ∧ (∀ k : Nat, k < 8 → 0 ≤ (σ110 11 k).toInt ∧ (σ110 11 k).toInt ≤ 3) := id I115
                          exact by
                           obtain ⟨i125, i126⟩ : (0 ≤ (σ110 9 1).toInt) ∧ ((σ110 9 1).toInt ≤ (σ110 9 0).toInt) := id I116
                           have i127 : (-1) ≤ (σ110 9 2).toInt ∧ (σ110 9 2).toInt ≤ 80 := I117
                           obtain ⟨i128, w129⟩ : (0 ≤ (σ110 12 0).toInt ∧ (σ110 12 0).toInt ≤ 160) ∧ (∀ k : Nat, k < 160 → 0 ≤ (σ110 13 k).toInt ∧ (σ110 13 k).toInt ≤ 30000) := id I118
                           try rw [show (σ100 9 1).toInt = (σ38 9 1).toInt + 1 from by omega] at w120
                           try rw [show (σ100 9 0).toInt = (σ 9 0).toInt from by omega] at w120
                           try rw [show σ100 10 = σ 10 from ((jnp 10 eσ100 (of_decide_eq_true rfl)).trans ((f51 10 (of_decide_eq_true rfl)).trans (f11 10 (of_decide_eq_true rfl))))] at w120
                           try rw [show σ100 13 = σ38 13 from by rw [jnp 13 eσ100 (of_decide_eq_true rfl)]] at w120
                           try rw [show (σ100 12 0).toInt = (σ38 12 0).toInt from by omega] at w120
                           have z130 : (σ110 9 0).toInt = (σ 9 0).toInt := (congrArg Int32.toInt (show σ110 9 0 = (σ 9 0) from ((f113 0 (of_decide_eq_true rfl)).trans ((jkp 0 eσ100 (of_decide_eq_true rfl)).trans ((f52 0 (of_decide_eq_true rfl)).trans (f12 0 (of_decide_eq_true rfl)))))))
                           obtain ⟨k131, k132, k133, k134, h110⟩ := h110
                           refine lv_aload_n hx hb dX7_part_70 rfl (lv_at hl 2 rfl) ?_
                           refine va_get (D := D) hx hb hts inlX7 hown hK hP 9 (jc_9 cI cL ad σ110 τ) rfl 5 (of_decide_eq_true rfl) (hts _ kw_3_23) (fun _ h9 => h9) rfl dX7_part_71 ?_
                           refine lv_sipush (v := 20000) hx hb dX7_part_74 (of_decide_eq_true rfl) ?_
                           refine lv_iload hx hb dX7_part_77 (lv_at hl 0 rfl) ?_
                           have g135 := jrg (rfl : (σ 10 (σ38 9 1).toNatClampNeg).toInt = (σ 10 (σ38 9 1).toNatClampNeg).toInt)
                           refine lv_iadd hx hb dX7_part_79 ?_
                           refine lv_topi (fun x136 ex136 => ?_)
                           exact by
                            have tx136 : x136.toInt = (σ 10 (σ38 9 1).toNatClampNeg).toInt + 20000 := (jadd ex136 jz_20000 rfl (by omega) (by omega)).trans (by omega)
                            refine jcallVv (As := [.int x136]) (rest := []) ⟨hx, hb, hml, hown, hts⟩ hK hP hA hS hZ (c_X10_add_12 l D cI cL ad zz hJ σ110 τ x136 ((σ 10 (σ38 9 1).toNatClampNeg).toInt + 20000) tx136 I118 p119 (by omega) (by omega)) cw_RX7_86 (jc_12 cI cL ad σ110 τ) rfl ⟨by dsimp only; omega, by dsimp only; omega⟩ rfl rfl rfl hl.1 rfl (Nat.le_of_ble_eq_true rfl) dX7_part_80 ⟨Nat.zero_le _, Nat.zero_le _⟩ (fun σ137 τ137 H locs h137 hP hS => ?_)
                            obtain ⟨rfl, f139, f140, I141, p142, w143, h137⟩ := h137
                            obtain ⟨i145, w146⟩ : (0 ≤ (σ137 12 0).toInt ∧ (σ137 12 0).toInt ≤ 160) ∧ (∀ k : Nat, k < 160 → 0 ≤ (σ137 13 k).toInt ∧ (σ137 13 k).toInt ≤ 30000) := id I141
                            obtain ⟨k147, h137⟩ := h137
                            refine lv_iload_n hx hb dX7_part_83 rfl (lv_at hl 3 rfl) ?_
                            refine lv_iconst (v := 2) hx hb dX7_part_84 (of_decide_eq_true rfl) ?_
                            refine lv_icmp_ne (tgt := 89) hx hb dX7_part_85 (of_decide_eq_true rfl) (fun _ => ?_) (fun c => absurd c (of_decide_eq_true rfl))
                            obtain ⟨x148, ex148⟩ : ∃ y : Int32, y = x36 + 1 := ⟨_, rfl⟩
                            exact by
                             have tx148 : x148.toInt = x36.toInt + 1 := (jadd ex148 rfl jz_1 (by omega) (by omega)).trans (by omega)
                             refine lv_iinc (v := x148) (lv' := [(3, .int x148), (4, .int (σ 10 (σ38 9 1).toNatClampNeg)), (0, .ref (ad 9)), (1, .int 0), (2, .int a2)]) hx hb dX7_part_89 hl (k := 1) rfl (by rw [ex148]; rfl) (of_decide_eq_true rfl) rfl (fun ls hl => ?_)
                             refine lv_goto (tgt := 21) hx hb dX7_part_92 (of_decide_eq_true rfl) ?_
                             have z149 : (σ137 9 1).toInt = (σ110 9 1).toInt := (congrArg Int32.toInt (show σ137 9 1 = (σ110 9 1) from (congrFun (f139 9 (of_decide_eq_true rfl)) 1)))
                             have z150 : (σ137 9 0).toInt = (σ 9 0).toInt := (congrArg Int32.toInt (show σ137 9 0 = (σ 9 0) from ((congrFun (f139 9 (of_decide_eq_true rfl)) 0).trans ((f113 0 (of_decide_eq_true rfl)).trans ((jkp 0 eσ100 (of_decide_eq_true rfl)).trans ((f52 0 (of_decide_eq_true rfl)).trans (f12 0 (of_decide_eq_true rfl))))))))
                             have z151 : (σ137 9 2).toInt = (σ110 9 2).toInt := (congrArg Int32.toInt (show σ137 9 2 = (σ110 9 2) from (congrFun (f139 9 (of_decide_eq_true rfl)) 2)))
                             exact by exact ihlp34 x148 σ137 _ _ ls (by have h90 := tx148; omega) (by have h90 := tx148; omega) (by have h90 := tx148; omega) (by have h90 := tx148; omega) (by have h90 := tx148; omega) (by have h90 := tx148; omega) (by have h90 := tx148; omega) (by have h90 := tx148; omega) (by have h90 := tx148; omega) (by have h90 := tx148; omega) (by have h90 := tx148; omega) (fun i hi => ((f139 i (imp_58 i hi)).trans ((f112 i hi).trans ((jnp i eσ100 (imp_60 i hi)).trans (f51 i hi))))) (fun i hi => ((congrFun (f139 9 (of_decide_eq_true rfl)) i).trans ((f113 i hi).trans ((jkp i eσ100 (imp_39 i hi)).trans (f52 i hi))))) (fun i hi => ((f140 i hi).trans ((f114 i hi).trans ((congrFun (jnp 12 eσ100 (of_decide_eq_true rfl)) i).trans (f53 i hi)))))  p142 I141 (jCi.to (jCi.step q56 (by omega) (of_decide_eq_true rfl) (of_decide_eq_true rfl) (by rw [k75]; omega) w120 (of_decide_eq_true rfl) (by omega) w143 (jwd_of (by have h9 := tx136; omega) (by omega) (by omega)) (show (σ137 12 0).toInt = (σ110 12 0).toInt + 1 by omega) (by omega)) (by omega) (by omega) rfl (by omega)) hP hS (lv_sub hl [0, 2, 3, 4] rfl)
                     · obtain ⟨q154, k152, k153⟩ := h92
                       exact absurd (by omega : False) id
                 · exact by
                    obtain ⟨q156, k155⟩ := h81
                    have q156 := q156.symm
                    subst q156
                    rw [jz_5] at k155
                    refine lv_iload_n hx hb dX7_part_42 rfl (lv_at hl 2 rfl) ?_
                    refine lv_icmp_ne (tgt := 95) hx hb dX7_part_43 (of_decide_eq_true rfl) (fun _ => ?_) (fun c => absurd c (of_decide_eq_true rfl))
                    have I157 : jI91 σ38 := ⟨(by omega), (by omega)⟩
                    have I158 : jI92 σ38 := (show (-1) ≤ (σ38 9 2).toInt ∧ (σ38 9 2).toInt ≤ 80 by omega)
                    exact by exact hret σ38 τ _ _ _ _ ⟨rfl, (fun i hi => ((f51 i hi).trans (f11 i hi))), (fun i hi => ((f52 i hi).trans (f12 i hi))), (fun i hi => ((f53 i hi).trans (f13 i hi))), I68, I157, I158, p55, p54, (jCi.fin q56 (of_decide_eq_true rfl) (fun _ => by rw [k75]; omega)), (by omega), (by omega), (by omega), (by omega), trivial⟩ hP hS dX7_part_95
              · exact by
                 obtain ⟨q161, k159, k160⟩ := h72
                 have q161 := q161.symm
                 subst q161
                 try rw [show (σ38 9 0).toInt = (σ 9 0).toInt from by omega] at k160
                 try rw [show σ38 10 = σ 10 from ((f51 10 (of_decide_eq_true rfl)).trans (f11 10 (of_decide_eq_true rfl)))] at k160
                 refine jcallS (As := [.int (-1)]) (rest := []) ⟨hx, hb, hml, hown, hts⟩ hK hP hA hS hZ (c_X7_levelOf l D cI cL ad zz hJ σ38 τ (-1) ((-1)) jz_m1) cw_RX7_98 ⟨by dsimp only; omega, by dsimp only; omega⟩ rfl rfl rfl hl.1 rfl (Nat.le_of_ble_eq_true rfl) dX7_part_39 ⟨Nat.zero_le _, Nat.zero_le _⟩ (fun r163 σ162 τ162 H locs h162 hP hS => ?_)
                 obtain ⟨⟨rfl, rfl⟩, h162⟩ := h162
                 rcases h162 with h164 | h165
                 · obtain ⟨q169, k166, k167, k168⟩ := h164
                   exact absurd (by omega : False) id
                 · obtain ⟨q171, k170⟩ := h165
                   have q171 := q171.symm
                   subst q171
                   rw [jz_5] at k170
                   refine lv_iload_n hx hb dX7_part_42 rfl (lv_at hl 2 rfl) ?_
                   refine lv_icmp_ne (tgt := 95) hx hb dX7_part_43 (of_decide_eq_true rfl) (fun _ => ?_) (fun c => absurd c (of_decide_eq_true rfl))
                   exact by
                    have I172 : jI91 σ38 := ⟨(by omega), (by omega)⟩
                    have I173 : jI92 σ38 := (show (-1) ≤ (σ38 9 2).toInt ∧ (σ38 9 2).toInt ≤ 80 by omega)
                    exact by exact hret σ38 τ _ _ _ _ ⟨rfl, (fun i hi => ((f51 i hi).trans (f11 i hi))), (fun i hi => ((f52 i hi).trans (f12 i hi))), (fun i hi => ((f53 i hi).trans (f13 i hi))), I68, I172, I173, p55, p54, (jCi.fin q56 (of_decide_eq_true rfl) (fun _ => by rw [k160]; omega)), (by omega), (by omega), (by omega), (by omega), trivial⟩ hP hS dX7_part_95
   exact by exact lp34 1000000 0 σ9 _ _ ls (by have h90 := jz_0; omega) (by have h90 := jz_0; omega) (by have h90 := jz_0; omega) (by have h90 := jz_0; omega) (by have h90 := jz_0; omega) (by have h90 := jz_0; omega) (by have h90 := jz_0; omega) (by have h90 := jz_0; omega) (by have h90 := jz_0; omega) (by have h90 := jz_0; omega) (by have h90 := jz_0; omega) (fun _ _ => rfl) (fun _ _ => rfl) (fun _ _ => rfl)  p18 I17 (jCp.begin w19 (of_decide_eq_true rfl) (of_decide_eq_true rfl)) hP hS hl
set_option maxHeartbeats 4000000 in
set_option maxRecDepth 100000 in
theorem c_X7_grammar (l : Launch) (D : va_G) (cI cL : ClassId) (ad zz : Nat → Nat) (hJ : jD ad) (n : Nat) : (∀ (σ : Nat → Nat → Int32) (τ : Nat → Nat → Int64) (a1 : Int32) (A1 : Int) (t1 : a1.toInt = A1) (hI9 : jI9 σ) (hI91 : jI91 σ) (hI92 : jI92 σ) (hI12 : jI12 σ) (hs_jNd12 : jNd12 σ) (hp0 : 0 ≤ A1 ∧ A1 ≤ 6) (hp1 : -A1 + 6 ≤ (((n) : Nat) : Int)) (hp2 : (σ 9 2).toInt = (-1)) (hp3 : 3 * (σ 12 0).toInt ≤ 4 * (σ 9 1).toInt + 1), jMv l yX7_operand cX7_operand 3 none ({ frames := (10 + 8 * (n)), cells := 0, slots := 0, locals := (400 + 360 * (n)) }) D cI cL ad zz [.ref (ad 9), .int a1] σ τ (fun σ' τ' => τ = τ' ∧ (∀ i : Nat, (i < 9 ∨ 9 < i) ∧ (i < 12 ∨ 13 < i) → σ' i = σ i) ∧ (∀ k : Nat, (k < 1 ∨ 1 < k) ∧ (k < 2 ∨ 2 < k) → σ' 9 k = σ 9 k) ∧ (∀ k : Nat, (k < 0 ∨ 0 < k) ∧ (k < 1 ∨ 1 < k) → σ' 12 k = σ 12 k) ∧ (jI9 σ') ∧ (jI91 σ') ∧ (jI92 σ') ∧ (jI12 σ') ∧ (jNd12 σ') ∧ (jCp (σ 10) (σ 9 0).toInt 5 (A1) (σ 9 1).toInt (σ' 9 1).toInt (σ' 9 2).toInt (σ 13) (σ' 13) (σ 12 0).toInt (σ' 12 0).toInt) ∧ ((σ 9 1).toInt ≤ (σ' 9 1).toInt) ∧ ((σ' 12 0).toInt - (σ 12 0).toInt ≤ (σ' 9 1).toInt - (σ 9 1).toInt) ∧ (3 * (σ' 12 0).toInt ≤ 4 * (σ' 9 1).toInt + 1) ∧ ((0 ≤ (σ' 9 2).toInt) ∨ ((σ 9 1).toInt + 1 ≤ (σ' 9 1).toInt)) ∧ True)) ∧ (∀ (σ : Nat → Nat → Int32) (τ : Nat → Nat → Int64) (a2 : Int32) (A2 : Int) (t2 : a2.toInt = A2) (hI9 : jI9 σ) (hI91 : jI91 σ) (hI92 : jI92 σ) (hI12 : jI12 σ) (hs_jNd12 : jNd12 σ) (hp0 : 0 ≤ A2 ∧ A2 ≤ 6) (hp1 : -A2 + 6 ≤ (((n) : Nat) : Int)) (hp2 : (σ 9 2).toInt = (-1)) (hp3 : 3 * (σ 12 0).toInt ≤ 4 * (σ 9 1).toInt + 1), jMv l yX7_part cX7_part 5 none ({ frames := (11 + 8 * (n)), cells := 0, slots := 0, locals := (440 + 360 * (n)) }) D cI cL ad zz [.ref (ad 9), .int 5, .int a2] σ τ (fun σ' τ' => τ = τ' ∧ (∀ i : Nat, (i < 9 ∨ 9 < i) ∧ (i < 12 ∨ 13 < i) → σ' i = σ i) ∧ (∀ k : Nat, (k < 1 ∨ 1 < k) ∧ (k < 2 ∨ 2 < k) → σ' 9 k = σ 9 k) ∧ (∀ k : Nat, (k < 0 ∨ 0 < k) ∧ (k < 1 ∨ 1 < k) → σ' 12 k = σ 12 k) ∧ (jI9 σ') ∧ (jI91 σ') ∧ (jI92 σ') ∧ (jI12 σ') ∧ (jNd12 σ') ∧ (jCp (σ 10) (σ 9 0).toInt 5 (A2) (σ 9 1).toInt (σ' 9 1).toInt (σ' 9 2).toInt (σ 13) (σ' 13) (σ 12 0).toInt (σ' 12 0).toInt) ∧ ((σ 9 1).toInt ≤ (σ' 9 1).toInt) ∧ ((σ' 12 0).toInt - (σ 12 0).toInt ≤ (σ' 9 1).toInt - (σ 9 1).toInt) ∧ (3 * (σ' 12 0).toInt ≤ 4 * (σ' 9 1).toInt + 1) ∧ ((0 ≤ (σ' 9 2).toInt) ∨ ((σ 9 1).toInt + 1 ≤ (σ' 9 1).toInt)) ∧ True)) ∧ (∀ (σ : Nat → Nat → Int32) (τ : Nat → Nat → Int64) (a2 : Int32) (A2 : Int) (t2 : a2.toInt = A2) (hI9 : jI9 σ) (hI91 : jI91 σ) (hI92 : jI92 σ) (hI12 : jI12 σ) (hs_jNd12 : jNd12 σ) (hp0 : 0 ≤ A2 ∧ A2 ≤ 6) (hp1 : -A2 + 6 ≤ (((n) : Nat) : Int)) (hp2 : (σ 9 2).toInt = (-1)) (hp3 : 3 * (σ 12 0).toInt ≤ 4 * (σ 9 1).toInt + 1), jMv l yX7_part cX7_part 5 none ({ frames := (12 + 8 * (n)), cells := 0, slots := 0, locals := (480 + 360 * (n)) }) D cI cL ad zz [.ref (ad 9), .int 4, .int a2] σ τ (fun σ' τ' => τ = τ' ∧ (∀ i : Nat, (i < 9 ∨ 9 < i) ∧ (i < 12 ∨ 13 < i) → σ' i = σ i) ∧ (∀ k : Nat, (k < 1 ∨ 1 < k) ∧ (k < 2 ∨ 2 < k) → σ' 9 k = σ 9 k) ∧ (∀ k : Nat, (k < 0 ∨ 0 < k) ∧ (k < 1 ∨ 1 < k) → σ' 12 k = σ 12 k) ∧ (jI9 σ') ∧ (jI91 σ') ∧ (jI92 σ') ∧ (jI12 σ') ∧ (jNd12 σ') ∧ (jCp (σ 10) (σ 9 0).toInt 4 (A2) (σ 9 1).toInt (σ' 9 1).toInt (σ' 9 2).toInt (σ 13) (σ' 13) (σ 12 0).toInt (σ' 12 0).toInt) ∧ ((σ 9 1).toInt ≤ (σ' 9 1).toInt) ∧ ((σ' 12 0).toInt - (σ 12 0).toInt ≤ (σ' 9 1).toInt - (σ 9 1).toInt) ∧ (3 * (σ' 12 0).toInt ≤ 4 * (σ' 9 1).toInt + 1) ∧ ((0 ≤ (σ' 9 2).toInt) ∨ ((σ 9 1).toInt + 1 ≤ (σ' 9 1).toInt)) ∧ True)) ∧ (∀ (σ : Nat → Nat → Int32) (τ : Nat → Nat → Int64) (a2 : Int32) (A2 : Int) (t2 : a2.toInt = A2) (hI9 : jI9 σ) (hI91 : jI91 σ) (hI92 : jI92 σ) (hI12 : jI12 σ) (hs_jNd12 : jNd12 σ) (hp0 : 0 ≤ A2 ∧ A2 ≤ 6) (hp1 : -A2 + 6 ≤ (((n) : Nat) : Int)) (hp2 : (σ 9 2).toInt = (-1)) (hp3 : 3 * (σ 12 0).toInt ≤ 4 * (σ 9 1).toInt + 1), jMv l yX7_part cX7_part 5 none ({ frames := (13 + 8 * (n)), cells := 0, slots := 0, locals := (520 + 360 * (n)) }) D cI cL ad zz [.ref (ad 9), .int 3, .int a2] σ τ (fun σ' τ' => τ = τ' ∧ (∀ i : Nat, (i < 9 ∨ 9 < i) ∧ (i < 12 ∨ 13 < i) → σ' i = σ i) ∧ (∀ k : Nat, (k < 1 ∨ 1 < k) ∧ (k < 2 ∨ 2 < k) → σ' 9 k = σ 9 k) ∧ (∀ k : Nat, (k < 0 ∨ 0 < k) ∧ (k < 1 ∨ 1 < k) → σ' 12 k = σ 12 k) ∧ (jI9 σ') ∧ (jI91 σ') ∧ (jI92 σ') ∧ (jI12 σ') ∧ (jNd12 σ') ∧ (jCp (σ 10) (σ 9 0).toInt 3 (A2) (σ 9 1).toInt (σ' 9 1).toInt (σ' 9 2).toInt (σ 13) (σ' 13) (σ 12 0).toInt (σ' 12 0).toInt) ∧ ((σ 9 1).toInt ≤ (σ' 9 1).toInt) ∧ ((σ' 12 0).toInt - (σ 12 0).toInt ≤ (σ' 9 1).toInt - (σ 9 1).toInt) ∧ (3 * (σ' 12 0).toInt ≤ 4 * (σ' 9 1).toInt + 1) ∧ ((0 ≤ (σ' 9 2).toInt) ∨ ((σ 9 1).toInt + 1 ≤ (σ' 9 1).toInt)) ∧ True)) ∧ (∀ (σ : Nat → Nat → Int32) (τ : Nat → Nat → Int64) (a2 : Int32) (A2 : Int) (t2 : a2.toInt = A2) (hI9 : jI9 σ) (hI91 : jI91 σ) (hI92 : jI92 σ) (hI12 : jI12 σ) (hs_jNd12 : jNd12 σ) (hp0 : 0 ≤ A2 ∧ A2 ≤ 6) (hp1 : -A2 + 6 ≤ (((n) : Nat) : Int)) (hp2 : (σ 9 2).toInt = (-1)) (hp3 : 3 * (σ 12 0).toInt ≤ 4 * (σ 9 1).toInt + 1), jMv l yX7_part cX7_part 5 none ({ frames := (14 + 8 * (n)), cells := 0, slots := 0, locals := (560 + 360 * (n)) }) D cI cL ad zz [.ref (ad 9), .int 2, .int a2] σ τ (fun σ' τ' => τ = τ' ∧ (∀ i : Nat, (i < 9 ∨ 9 < i) ∧ (i < 12 ∨ 13 < i) → σ' i = σ i) ∧ (∀ k : Nat, (k < 1 ∨ 1 < k) ∧ (k < 2 ∨ 2 < k) → σ' 9 k = σ 9 k) ∧ (∀ k : Nat, (k < 0 ∨ 0 < k) ∧ (k < 1 ∨ 1 < k) → σ' 12 k = σ 12 k) ∧ (jI9 σ') ∧ (jI91 σ') ∧ (jI92 σ') ∧ (jI12 σ') ∧ (jNd12 σ') ∧ (jCp (σ 10) (σ 9 0).toInt 2 (A2) (σ 9 1).toInt (σ' 9 1).toInt (σ' 9 2).toInt (σ 13) (σ' 13) (σ 12 0).toInt (σ' 12 0).toInt) ∧ ((σ 9 1).toInt ≤ (σ' 9 1).toInt) ∧ ((σ' 12 0).toInt - (σ 12 0).toInt ≤ (σ' 9 1).toInt - (σ 9 1).toInt) ∧ (3 * (σ' 12 0).toInt ≤ 4 * (σ' 9 1).toInt + 1) ∧ ((0 ≤ (σ' 9 2).toInt) ∨ ((σ 9 1).toInt + 1 ≤ (σ' 9 1).toInt)) ∧ True)) ∧ (∀ (σ : Nat → Nat → Int32) (τ : Nat → Nat → Int64) (a2 : Int32) (A2 : Int) (t2 : a2.toInt = A2) (hI9 : jI9 σ) (hI91 : jI91 σ) (hI92 : jI92 σ) (hI12 : jI12 σ) (hs_jNd12 : jNd12 σ) (hp0 : 0 ≤ A2 ∧ A2 ≤ 6) (hp1 : -A2 + 6 ≤ (((n) : Nat) : Int)) (hp2 : (σ 9 2).toInt = (-1)) (hp3 : 3 * (σ 12 0).toInt ≤ 4 * (σ 9 1).toInt + 1), jMv l yX7_part cX7_part 5 none ({ frames := (15 + 8 * (n)), cells := 0, slots := 0, locals := (600 + 360 * (n)) }) D cI cL ad zz [.ref (ad 9), .int 1, .int a2] σ τ (fun σ' τ' => τ = τ' ∧ (∀ i : Nat, (i < 9 ∨ 9 < i) ∧ (i < 12 ∨ 13 < i) → σ' i = σ i) ∧ (∀ k : Nat, (k < 1 ∨ 1 < k) ∧ (k < 2 ∨ 2 < k) → σ' 9 k = σ 9 k) ∧ (∀ k : Nat, (k < 0 ∨ 0 < k) ∧ (k < 1 ∨ 1 < k) → σ' 12 k = σ 12 k) ∧ (jI9 σ') ∧ (jI91 σ') ∧ (jI92 σ') ∧ (jI12 σ') ∧ (jNd12 σ') ∧ (jCp (σ 10) (σ 9 0).toInt 1 (A2) (σ 9 1).toInt (σ' 9 1).toInt (σ' 9 2).toInt (σ 13) (σ' 13) (σ 12 0).toInt (σ' 12 0).toInt) ∧ ((σ 9 1).toInt ≤ (σ' 9 1).toInt) ∧ ((σ' 12 0).toInt - (σ 12 0).toInt ≤ (σ' 9 1).toInt - (σ 9 1).toInt) ∧ (3 * (σ' 12 0).toInt ≤ 4 * (σ' 9 1).toInt + 1) ∧ ((0 ≤ (σ' 9 2).toInt) ∨ ((σ 9 1).toInt + 1 ≤ (σ' 9 1).toInt)) ∧ True)) ∧ (∀ (σ : Nat → Nat → Int32) (τ : Nat → Nat → Int64) (a2 : Int32) (A2 : Int) (t2 : a2.toInt = A2) (hI9 : jI9 σ) (hI91 : jI91 σ) (hI92 : jI92 σ) (hI12 : jI12 σ) (hs_jNd12 : jNd12 σ) (hp0 : 0 ≤ A2 ∧ A2 ≤ 6) (hp1 : -A2 + 6 ≤ (((n) : Nat) : Int)) (hp2 : (σ 9 2).toInt = (-1)) (hp3 : 3 * (σ 12 0).toInt ≤ 4 * (σ 9 1).toInt + 1), jMv l yX7_part cX7_part 5 none ({ frames := (16 + 8 * (n)), cells := 0, slots := 0, locals := (640 + 360 * (n)) }) D cI cL ad zz [.ref (ad 9), .int 0, .int a2] σ τ (fun σ' τ' => τ = τ' ∧ (∀ i : Nat, (i < 9 ∨ 9 < i) ∧ (i < 12 ∨ 13 < i) → σ' i = σ i) ∧ (∀ k : Nat, (k < 1 ∨ 1 < k) ∧ (k < 2 ∨ 2 < k) → σ' 9 k = σ 9 k) ∧ (∀ k : Nat, (k < 0 ∨ 0 < k) ∧ (k < 1 ∨ 1 < k) → σ' 12 k = σ 12 k) ∧ (jI9 σ') ∧ (jI91 σ') ∧ (jI92 σ') ∧ (jI12 σ') ∧ (jNd12 σ') ∧ (jCp (σ 10) (σ 9 0).toInt 0 (A2) (σ 9 1).toInt (σ' 9 1).toInt (σ' 9 2).toInt (σ 13) (σ' 13) (σ 12 0).toInt (σ' 12 0).toInt) ∧ ((σ 9 1).toInt ≤ (σ' 9 1).toInt) ∧ ((σ' 12 0).toInt - (σ 12 0).toInt ≤ (σ' 9 1).toInt - (σ 9 1).toInt) ∧ (3 * (σ' 12 0).toInt ≤ 4 * (σ' 9 1).toInt + 1) ∧ ((0 ≤ (σ' 9 2).toInt) ∨ ((σ 9 1).toInt + 1 ≤ (σ' 9 1).toInt)) ∧ True)) := by
  induction n with
  | zero =>
    have h_op := c_X7_grammar_op_z l D cI cL ad zz hJ
    have h_p5 := c_X7_grammar_p5_g l D cI cL ad zz hJ 0 h_op
    have h_p4 := c_X7_grammar_p4_g l D cI cL ad zz hJ 0 h_p5
    have h_p3 := c_X7_grammar_p3_g l D cI cL ad zz hJ 0 h_p4
    have h_p2 := c_X7_grammar_p2_g l D cI cL ad zz hJ 0 h_p3
    have h_p1 := c_X7_grammar_p1_g l D cI cL ad zz hJ 0 h_p2
    have h_p0 := c_X7_grammar_p0_g l D cI cL ad zz hJ 0 h_p1
    exact ⟨h_op, h_p5, h_p4, h_p3, h_p2, h_p1, h_p0⟩
  | succ n ih =>
    obtain ⟨g_op, g_p5, g_p4, g_p3, g_p2, g_p1, g_p0⟩ := ih
    have h_op := c_X7_grammar_op_g l D cI cL ad zz hJ n g_op g_p0
    have h_p5 := c_X7_grammar_p5_g l D cI cL ad zz hJ (n + 1) h_op
    have h_p4 := c_X7_grammar_p4_g l D cI cL ad zz hJ (n + 1) h_p5
    have h_p3 := c_X7_grammar_p3_g l D cI cL ad zz hJ (n + 1) h_p4
    have h_p2 := c_X7_grammar_p2_g l D cI cL ad zz hJ (n + 1) h_p3
    have h_p1 := c_X7_grammar_p1_g l D cI cL ad zz hJ (n + 1) h_p2
    have h_p0 := c_X7_grammar_p0_g l D cI cL ad zz hJ (n + 1) h_p1
    exact ⟨h_op, h_p5, h_p4, h_p3, h_p2, h_p1, h_p0⟩
set_option maxHeartbeats 4000000 in
set_option maxRecDepth 100000 in
theorem c_X7_readLine_9 (l : Launch) (D : va_G) (cI cL : ClassId) (ad zz : Nat → Nat) (hJ : jD ad) (σ : Nat → Nat → Int32) (τ : Nat → Nat → Int64) (hI9 : jI9 σ) (hI91 : jI91 σ) (hI92 : jI92 σ) (hI12 : jI12 σ) (hs_jNd12 : jNd12 σ) (hp0 : (σ 9 2).toInt = (-1)) (hp1 : 3 * (σ 12 0).toInt ≤ 4 * (σ 9 1).toInt) : jMv l yX7_readLine cX7_readLine 2 none ({ frames := 65, cells := 0, slots := 0, locals := 2824 }) D cI cL ad zz [.ref (ad 9)] σ τ (fun σ' τ' => τ = τ' ∧ (∀ i : Nat, (i < 9 ∨ 9 < i) ∧ (i < 12 ∨ 13 < i) → σ' i = σ i) ∧ (∀ k : Nat, (k < 1 ∨ 1 < k) ∧ (k < 2 ∨ 2 < k) → σ' 9 k = σ 9 k) ∧ (∀ k : Nat, (k < 0 ∨ 0 < k) ∧ (k < 1 ∨ 1 < k) → σ' 12 k = σ 12 k) ∧ (jI9 σ') ∧ (jI91 σ') ∧ (jI92 σ') ∧ (jI12 σ') ∧ (jNd12 σ') ∧ (jCl (σ 10) (σ 9 0).toInt (σ 9 1).toInt (σ' 9 1).toInt (σ' 9 2).toInt (σ 13) (σ' 13) (σ 12 0).toInt (σ' 12 0).toInt) ∧ ((σ 9 1).toInt ≤ (σ' 9 1).toInt) ∧ ((0 ≤ (σ' 9 2).toInt) ∨ (3 * (σ' 12 0).toInt ≤ 4 * (σ' 9 1).toInt + 3)) ∧ True) := by
  refine jMv.of hJ (by decide +kernel) rfl (Nat.le_of_ble_eq_true rfl) ?_
  intro p e s m args below meth c Q ls hC hret hl hP
  obtain ⟨hx, hb, hr, hml, hown, hts, hK, -, hlocks, hZ⟩ := hC
  have hown : s.vm.findClass RX7 = some m.cls := hown
  have hS : va_S (jA ad) s.heap s.heap [] := va_S.rf
  have hA : ∀ q, jA ad q → jA ad q := fun _ h => h
  have hl : lv_has ls 2 [(0, .ref (ad 9))] := hl
  obtain ⟨i1, w2, w3⟩ : (0 ≤ (σ 9 0).toInt ∧ (σ 9 0).toInt ≤ 80) ∧ (∀ k : Nat, k < 80 → 0 ≤ (σ 10 k).toInt ∧ (σ 10 k).toInt ≤ 255) ∧ (∀ k : Nat, k < 8 → 0 ≤ (σ 11 k).toInt ∧ (σ 11 k).toInt ≤ 3) := id hI9
  obtain ⟨i4, i5⟩ : (0 ≤ (σ 9 1).toInt) ∧ ((σ 9 1).toInt ≤ (σ 9 0).toInt) := id hI91
  have i6 : (-1) ≤ (σ 9 2).toInt ∧ (σ 9 2).toInt ≤ 80 := hI92
  obtain ⟨i7, w8⟩ : (0 ≤ (σ 12 0).toInt ∧ (σ 12 0).toInt ≤ 160) ∧ (∀ k : Nat, k < 160 → 0 ≤ (σ 13 k).toInt ∧ (σ 13 k).toInt ≤ 30000) := id hI12
  refine lv_aload_n hx hb dX7_readLine_0 rfl (lv_at hl 0 rfl) ?_
  refine lv_iconst (v := 0) hx hb dX7_readLine_1 (of_decide_eq_true rfl) ?_
  refine lv_iconst (v := 0) hx hb dX7_readLine_2 (of_decide_eq_true rfl) ?_
  exact by
   refine jcallVv (As := [.int 0, .int 0]) (rest := []) ⟨hx, hb, hml, hown, hts⟩ hK hP hA hS hZ ((c_X7_grammar l D cI cL ad zz hJ 6).2.2.2.2.2.2 σ τ 0 (0) jz_0 hI9 hI91 hI92 hI12 hs_jNd12 (by omega) (by omega) (by omega) (by omega)) cw_RX7_82 (jc_9 cI cL ad σ τ) rfl ⟨Nat.le_of_ble_eq_true rfl, Nat.le_of_ble_eq_true rfl⟩ rfl rfl rfl hl.1 rfl (Nat.le_of_ble_eq_true rfl) dX7_readLine_3 ⟨Nat.zero_le _, Nat.zero_le _⟩ (fun σ9 τ9 H locs h9 hP hS => ?_)
   obtain ⟨rfl, f11, f12, f13, I14, I15, I16, I17, p18, w19, h9⟩ := h9
   obtain ⟨i21, w22, w23⟩ : (0 ≤ (σ9 9 0).toInt ∧ (σ9 9 0).toInt ≤ 80) ∧ (∀ k : Nat, k < 80 → 0 ≤ (σ9 10 k).toInt ∧ (σ9 10 k).toInt ≤ 255) ∧ (∀ k : Nat, k < 8 → 0 ≤ (σ9 11 k).toInt ∧ (σ9 11 k).toInt ≤ 3) := id I14
   obtain ⟨i24, i25⟩ : (0 ≤ (σ9 9 1).toInt) ∧ ((σ9 9 1).toInt ≤ (σ9 9 0).toInt) := id I15
   have i26 : (-1) ≤ (σ9 9 2).toInt ∧ (σ9 9 2).toInt ≤ 80 := I16
   obtain ⟨i27, w28⟩ : (0 ≤ (σ9 12 0).toInt ∧ (σ9 12 0).toInt ≤ 160) ∧ (∀ k : Nat, k < 160 → 0 ≤ (σ9 13 k).toInt ∧ (σ9 13 k).toInt ≤ 30000) := id I17
   have z29 : (σ9 9 0).toInt = (σ 9 0).toInt := (congrArg Int32.toInt (show σ9 9 0 = (σ 9 0) from (f12 0 (of_decide_eq_true rfl))))
   obtain ⟨k30, k31, k32, k33, h9⟩ := h9
   refine lv_iconst (v := (-1)) hx hb dX7_readLine_6 (of_decide_eq_true rfl) ?_
   refine lv_istore_n (lv' := [(1, .int (-1)), (0, .ref (ad 9))]) hx hb dX7_readLine_7 rfl hl (of_decide_eq_true rfl) rfl (fun ls hl => ?_)
   refine lv_aload_n hx hb dX7_readLine_8 rfl (lv_at hl 1 rfl) ?_
   refine lv_bipush (v := 63) hx hb dX7_readLine_9 (of_decide_eq_true rfl) ?_
   exact by
    refine jcallV (As := [.int 63]) (rest := []) ⟨hx, hb, hml, hown, hts⟩ hK hP hA hS hZ (c_X7_skip_9 l D cI cL ad zz hJ σ9 τ 63 (63) jz_63 I14 I15 I16 (by omega)) cw_RX7_50 (jc_9 cI cL ad σ9 τ) rfl ⟨Nat.le_of_ble_eq_true rfl, Nat.le_of_ble_eq_true rfl⟩ rfl rfl rfl hl.1 rfl (Nat.le_of_ble_eq_true rfl) dX7_readLine_11 ⟨Nat.zero_le _, Nat.zero_le _⟩ (fun r35 σ34 τ34 H locs h34 hP hS => ?_)
    obtain ⟨rfl, f36, f37, I38, I39, I40, h34⟩ := h34
    obtain ⟨i42, w43, w44⟩ : (0 ≤ (σ34 9 0).toInt ∧ (σ34 9 0).toInt ≤ 80) ∧ (∀ k : Nat, k < 80 → 0 ≤ (σ34 10 k).toInt ∧ (σ34 10 k).toInt ≤ 255) ∧ (∀ k : Nat, k < 8 → 0 ≤ (σ34 11 k).toInt ∧ (σ34 11 k).toInt ≤ 3) := id I38
    obtain ⟨i45, i46⟩ : (0 ≤ (σ34 9 1).toInt) ∧ ((σ34 9 1).toInt ≤ (σ34 9 0).toInt) := id I39
    have i47 : (-1) ≤ (σ34 9 2).toInt ∧ (σ34 9 2).toInt ≤ 80 := I40
    have z48 : (σ34 9 0).toInt = (σ 9 0).toInt := (congrArg Int32.toInt (show σ34 9 0 = (σ 9 0) from ((f37 0 (of_decide_eq_true rfl)).trans (f12 0 (of_decide_eq_true rfl)))))
    have z49 : (σ34 9 2).toInt = (σ9 9 2).toInt := (congrArg Int32.toInt (show σ34 9 2 = (σ9 9 2) from (f37 2 (of_decide_eq_true rfl))))
    rcases h34 with h50 | h51
    · obtain ⟨q57, k52, k53, k54, k55, k56⟩ := h50
      have q57 := q57.symm
      subst q57
      try rw [show (σ9 9 0).toInt = (σ 9 0).toInt from by omega] at k56
      try rw [show σ9 10 = σ 10 from (f11 10 (of_decide_eq_true rfl))] at k56
      refine lv_if_eq (tgt := 49) hx hb dX7_readLine_14 (of_decide_eq_true rfl) (fun c => absurd c (of_decide_eq_true rfl)) (fun _ => ?_)
      refine lv_aload_n hx hb dX7_readLine_17 rfl (lv_at hl 1 rfl) ?_
      refine va_get (D := D) hx hb hts inlX7 hown hK hP 9 (jc_9 cI cL ad σ34 τ) rfl 5 (of_decide_eq_true rfl) (hts _ kw_3_23) (fun _ h9 => h9) rfl dX7_readLine_18 ?_
      refine lv_sipush (v := 20063) hx hb dX7_readLine_21 (of_decide_eq_true rfl) ?_
      have I58 : jI12 σ34 := jI12_fr (congrFun (f36 12 (of_decide_eq_true rfl)) 0) (f36 13 (of_decide_eq_true rfl)) I17
      have p59 : jNd12 σ34 := jNd12.fr (congrFun (f36 12 (of_decide_eq_true rfl)) 0) (congrFun (f36 12 (of_decide_eq_true rfl)) 1) (f36 13 (of_decide_eq_true rfl)) p18
      have z60 : (σ34 12 0).toInt = (σ9 12 0).toInt := (congrArg Int32.toInt (show σ34 12 0 = (σ9 12 0) from (congrFun (f36 12 (of_decide_eq_true rfl)) 0)))
      exact by
       refine jcallVv (As := [.int 20063]) (rest := []) ⟨hx, hb, hml, hown, hts⟩ hK hP hA hS hZ (c_X10_add_12 l D cI cL ad zz hJ σ34 τ 20063 (20063) jz_20063 I58 p59 (by omega) (by omega)) cw_RX7_86 (jc_12 cI cL ad σ34 τ) rfl ⟨Nat.le_of_ble_eq_true rfl, Nat.le_of_ble_eq_true rfl⟩ rfl rfl rfl hl.1 rfl (Nat.le_of_ble_eq_true rfl) dX7_readLine_24 ⟨Nat.zero_le _, Nat.zero_le _⟩ (fun σ61 τ61 H locs h61 hP hS => ?_)
       obtain ⟨rfl, f63, f64, I65, p66, w67, h61⟩ := h61
       obtain ⟨i69, w70⟩ : (0 ≤ (σ61 12 0).toInt ∧ (σ61 12 0).toInt ≤ 160) ∧ (∀ k : Nat, k < 160 → 0 ≤ (σ61 13 k).toInt ∧ (σ61 13 k).toInt ≤ 30000) := id I65
       obtain ⟨k71, h61⟩ := h61
       refine lv_aload_n hx hb dX7_readLine_27 rfl (lv_at hl 1 rfl) ?_
       refine va_get (D := D) hx hb hts inlX7 hown hK hP 9 (jc_9 cI cL ad σ61 τ) rfl 5 (of_decide_eq_true rfl) (hts _ kw_3_23) (fun _ h9 => h9) rfl dX7_readLine_28 ?_
       refine va_get (D := D) hx hb hts inlX10 hown hK hP 12 (jc_12 cI cL ad σ61 τ) rfl 0 (of_decide_eq_true rfl) (hts _ kw_17_2) (fun _ h9 => h9) rfl dX7_readLine_31 ?_
       refine lv_istore_n (lv' := [(1, .int (σ61 12 0)), (0, .ref (ad 9))]) hx hb dX7_readLine_34 rfl hl (of_decide_eq_true rfl) rfl (fun ls hl => ?_)
       refine lv_aload_n hx hb dX7_readLine_35 rfl (lv_at hl 1 rfl) ?_
       refine va_get (D := D) hx hb hts inlX7 hown hK hP 9 (jc_9 cI cL ad σ61 τ) rfl 5 (of_decide_eq_true rfl) (hts _ kw_3_23) (fun _ h9 => h9) rfl dX7_readLine_36 ?_
       refine lv_iconst (v := 0) hx hb dX7_readLine_39 (of_decide_eq_true rfl) ?_
       exact by
        refine jcallVv (As := [.int 0]) (rest := []) ⟨hx, hb, hml, hown, hts⟩ hK hP hA hS hZ (c_X10_add_12 l D cI cL ad zz hJ σ61 τ 0 (0) jz_0 I65 p66 (by omega) (by omega)) cw_RX7_86 (jc_12 cI cL ad σ61 τ) rfl ⟨Nat.le_of_ble_eq_true rfl, Nat.le_of_ble_eq_true rfl⟩ rfl rfl rfl hl.1 rfl (Nat.le_of_ble_eq_true rfl) dX7_readLine_40 ⟨Nat.zero_le _, Nat.zero_le _⟩ (fun σ72 τ72 H locs h72 hP hS => ?_)
        obtain ⟨rfl, f74, f75, I76, p77, w78, h72⟩ := h72
        obtain ⟨i80, w81⟩ : (0 ≤ (σ72 12 0).toInt ∧ (σ72 12 0).toInt ≤ 160) ∧ (∀ k : Nat, k < 160 → 0 ≤ (σ72 13 k).toInt ∧ (σ72 13 k).toInt ≤ 30000) := id I76
        obtain ⟨k82, h72⟩ := h72
        refine lv_aload_n hx hb dX7_readLine_43 rfl (lv_at hl 1 rfl) ?_
        refine lv_iconst (v := 0) hx hb dX7_readLine_44 (of_decide_eq_true rfl) ?_
        refine lv_iconst (v := 0) hx hb dX7_readLine_45 (of_decide_eq_true rfl) ?_
        have I83 : jI9 σ72 := jI9_fr ((congrFun (f74 9 (of_decide_eq_true rfl)) 0).trans (congrFun (f63 9 (of_decide_eq_true rfl)) 0)) ((f74 10 (of_decide_eq_true rfl)).trans (f63 10 (of_decide_eq_true rfl))) ((f74 11 (of_decide_eq_true rfl)).trans (f63 11 (of_decide_eq_true rfl))) I38
        have I84 : jI91 σ72 := jI91_fr ((congrFun (f74 9 (of_decide_eq_true rfl)) 0).trans (congrFun (f63 9 (of_decide_eq_true rfl)) 0)) ((congrFun (f74 9 (of_decide_eq_true rfl)) 1).trans (congrFun (f63 9 (of_decide_eq_true rfl)) 1)) I39
        have I85 : jI92 σ72 := jI92_fr ((congrFun (f74 9 (of_decide_eq_true rfl)) 2).trans (congrFun (f63 9 (of_decide_eq_true rfl)) 2)) I40
        have z86 : (σ72 9 2).toInt = (σ9 9 2).toInt := (congrArg Int32.toInt (show σ72 9 2 = (σ9 9 2) from ((congrFun (f74 9 (of_decide_eq_true rfl)) 2).trans ((congrFun (f63 9 (of_decide_eq_true rfl)) 2).trans (f37 2 (of_decide_eq_true rfl))))))
        have z87 : (σ72 9 1).toInt = (σ34 9 1).toInt := (congrArg Int32.toInt (show σ72 9 1 = (σ34 9 1) from ((congrFun (f74 9 (of_decide_eq_true rfl)) 1).trans (congrFun (f63 9 (of_decide_eq_true rfl)) 1))))
        exact by
         refine jcallVv (As := [.int 0, .int 0]) (rest := []) ⟨hx, hb, hml, hown, hts⟩ hK hP hA hS hZ ((c_X7_grammar l D cI cL ad zz hJ 6).2.2.2.2.2.2 σ72 τ 0 (0) jz_0 I83 I84 I85 I76 p77 (by omega) (by omega) (by omega) (by omega)) cw_RX7_82 (jc_9 cI cL ad σ72 τ) rfl ⟨Nat.le_of_ble_eq_true rfl, Nat.le_of_ble_eq_true rfl⟩ rfl rfl rfl hl.1 rfl (Nat.le_of_ble_eq_true rfl) dX7_readLine_46 ⟨Nat.zero_le _, Nat.zero_le _⟩ (fun σ88 τ88 H locs h88 hP hS => ?_)
         obtain ⟨rfl, f90, f91, f92, I93, I94, I95, I96, p97, w98, h88⟩ := h88
         obtain ⟨i100, w101, w102⟩ : (0 ≤ (σ88 9 0).toInt ∧ (σ88 9 0).toInt ≤ 80) ∧ (∀ k : Nat, k < 80 → 0 ≤ (σ88 10 k).toInt ∧ (σ88 10 k).toInt ≤ 255) ∧ (∀ k : Nat, k < 8 → 0 ≤ (σ88 11 k).toInt ∧ (σ88 11 k).toInt ≤ 3) := id I93
         obtain ⟨i103, i104⟩ : (0 ≤ (σ88 9 1).toInt) ∧ ((σ88 9 1).toInt ≤ (σ88 9 0).toInt) := id I94
         have i105 : (-1) ≤ (σ88 9 2).toInt ∧ (σ88 9 2).toInt ≤ 80 := I95
         obtain ⟨i106, w107⟩ : (0 ≤ (σ88 12 0).toInt ∧ (σ88 12 0).toInt ≤ 160) ∧ (∀ k : Nat, k < 160 → 0 ≤ (σ88 13 k).toInt ∧ (σ88 13 k).toInt ≤ 30000) := id I96
         have z108 : (σ72 9 0).toInt = (σ 9 0).toInt := (congrArg Int32.toInt (show σ72 9 0 = (σ 9 0) from ((congrFun (f74 9 (of_decide_eq_true rfl)) 0).trans ((congrFun (f63 9 (of_decide_eq_true rfl)) 0).trans ((f37 0 (of_decide_eq_true rfl)).trans (f12 0 (of_decide_eq_true rfl)))))))
         try rw [show (σ72 9 1).toInt = (σ34 9 1).toInt from by omega] at w98
         try rw [show (σ72 9 0).toInt = (σ 9 0).toInt from by omega] at w98
         try rw [show σ72 10 = σ 10 from ((f74 10 (of_decide_eq_true rfl)).trans ((f63 10 (of_decide_eq_true rfl)).trans ((f36 10 (of_decide_eq_true rfl)).trans (f11 10 (of_decide_eq_true rfl)))))] at w98
         have z109 : (σ88 9 0).toInt = (σ 9 0).toInt := (congrArg Int32.toInt (show σ88 9 0 = (σ 9 0) from ((f91 0 (of_decide_eq_true rfl)).trans ((congrFun (f74 9 (of_decide_eq_true rfl)) 0).trans ((congrFun (f63 9 (of_decide_eq_true rfl)) 0).trans ((f37 0 (of_decide_eq_true rfl)).trans (f12 0 (of_decide_eq_true rfl))))))))
         obtain ⟨k110, k111, k112, k113, h88⟩ := h88
         refine lv_aload_n hx hb dX7_readLine_49 rfl (lv_at hl 1 rfl) ?_
         refine va_get (D := D) hx hb hts inlX7 hown hK hP 9 (jc_9 cI cL ad σ88 τ) rfl 5 (of_decide_eq_true rfl) (hts _ kw_3_23) (fun _ h9 => h9) rfl dX7_readLine_50 ?_
         refine lv_sipush (v := 20059) hx hb dX7_readLine_53 (of_decide_eq_true rfl) ?_
         exact by
          refine jcallVv (As := [.int 20059]) (rest := []) ⟨hx, hb, hml, hown, hts⟩ hK hP hA hS hZ (c_X10_add_12 l D cI cL ad zz hJ σ88 τ 20059 (20059) jz_20059 I96 p97 (by omega) (by omega)) cw_RX7_86 (jc_12 cI cL ad σ88 τ) rfl ⟨Nat.le_of_ble_eq_true rfl, Nat.le_of_ble_eq_true rfl⟩ rfl rfl rfl hl.1 rfl (Nat.le_of_ble_eq_true rfl) dX7_readLine_56 ⟨Nat.zero_le _, Nat.zero_le _⟩ (fun σ114 τ114 H locs h114 hP hS => ?_)
          obtain ⟨rfl, f116, f117, I118, p119, w120, h114⟩ := h114
          obtain ⟨i122, w123⟩ : (0 ≤ (σ114 12 0).toInt ∧ (σ114 12 0).toInt ≤ 160) ∧ (∀ k : Nat, k < 160 → 0 ≤ (σ114 13 k).toInt ∧ (σ114 13 k).toInt ≤ 30000) := id I118
          obtain ⟨k124, h114⟩ := h114
          refine lv_iload_n hx hb dX7_readLine_59 rfl (lv_at hl 0 rfl) ?_
          refine lv_if_lt (tgt := 86) hx hb dX7_readLine_60 (of_decide_eq_true rfl) (fun c => absurd (jlt c rfl jz_0) (by omega)) (fun c125 => ?_)
          have kc125 := jnlt c125 rfl jz_0
          refine lv_iload_n hx hb dX7_readLine_63 rfl (lv_at hl 0 rfl) ?_
          refine lv_sipush (v := 160) hx hb dX7_readLine_64 (of_decide_eq_true rfl) ?_
          exact by
           refine lv_icmp_ge (tgt := 86) hx hb dX7_readLine_67 (of_decide_eq_true rfl) (fun c => absurd (jle c jz_160 rfl) (by omega)) (fun c126 => ?_)
           have kc126 := jnle c126 jz_160 rfl
           refine lv_aload_n hx hb dX7_readLine_70 rfl (lv_at hl 1 rfl) ?_
           refine va_get (D := D) hx hb hts inlX7 hown hK hP 9 (jc_9 cI cL ad σ114 τ) rfl 5 (of_decide_eq_true rfl) (hts _ kw_3_23) (fun _ h9 => h9) rfl dX7_readLine_71 ?_
           refine va_get (D := D) hx hb hts inlX10 hown hK hP 12 (jc_12 cI cL ad σ114 τ) rfl 2 (of_decide_eq_true rfl) (hts _ kw_17_3) (fun _ h9 => h9) rfl dX7_readLine_74 ?_
           refine lv_iload_n hx hb dX7_readLine_77 rfl (lv_at hl 0 rfl) ?_
           refine lv_aload_n hx hb dX7_readLine_78 rfl (lv_at hl 1 rfl) ?_
           refine va_get (D := D) hx hb hts inlX7 hown hK hP 9 (jc_9 cI cL ad σ114 τ) rfl 5 (of_decide_eq_true rfl) (hts _ kw_3_23) (fun _ h9 => h9) rfl dX7_readLine_79 ?_
           refine va_get (D := D) hx hb hts inlX10 hown hK hP 12 (jc_12 cI cL ad σ114 τ) rfl 0 (of_decide_eq_true rfl) (hts _ kw_17_2) (fun _ h9 => h9) rfl dX7_readLine_82 ?_
           exact by
            refine jast hx hb hK hP hJ hA hS (jc_13 cI cL ad σ114 τ) (ja_13 cI cL ad σ114 τ _ _) (jin rfl (by omega) (by omega)) dX7_readLine_85 (fun σ127 H locs eσ127 hP hS => ?_)
            have p128 : jNd12 σ127 := (jNd12.putw p119 (by rw [eσ127, jup_row]) (congrFun (jnp 12 eσ127 (of_decide_eq_true rfl)) 0) (congrFun (jnp 12 eσ127 (of_decide_eq_true rfl)) 1) (by omega))
            have I129 : jI9 σ127 := jI9_fr ((congrFun (jnp 9 eσ127 (of_decide_eq_true rfl)) 0).trans (congrFun (f116 9 (of_decide_eq_true rfl)) 0)) ((jnp 10 eσ127 (of_decide_eq_true rfl)).trans (f116 10 (of_decide_eq_true rfl))) ((jnp 11 eσ127 (of_decide_eq_true rfl)).trans (f116 11 (of_decide_eq_true rfl))) I93
            have I130 : jI91 σ127 := jI91_fr ((congrFun (jnp 9 eσ127 (of_decide_eq_true rfl)) 0).trans (congrFun (f116 9 (of_decide_eq_true rfl)) 0)) ((congrFun (jnp 9 eσ127 (of_decide_eq_true rfl)) 1).trans (congrFun (f116 9 (of_decide_eq_true rfl)) 1)) I94
            have I131 : jI92 σ127 := jI92_fr ((congrFun (jnp 9 eσ127 (of_decide_eq_true rfl)) 2).trans (congrFun (f116 9 (of_decide_eq_true rfl)) 2)) I95
            have z132 : (σ127 12 0).toInt = (σ114 12 0).toInt := (congrArg Int32.toInt (show σ127 12 0 = (σ114 12 0) from (congrFun (jnp 12 eσ127 (of_decide_eq_true rfl)) 0)))
            have w133 : ∀ k : Nat, k < 160 → 0 ≤ (σ127 13 k).toInt ∧ (σ127 13 k).toInt ≤ 30000 := (by rw [eσ127]; exact jrr_up w123 (by omega) (by omega))
            have I134 : jI12 σ127 := ⟨(by omega), w133⟩
            have z135 : (σ127 9 1).toInt = (σ88 9 1).toInt := (congrArg Int32.toInt (show σ127 9 1 = (σ88 9 1) from ((congrFun (jnp 9 eσ127 (of_decide_eq_true rfl)) 1).trans (congrFun (f116 9 (of_decide_eq_true rfl)) 1))))
            exact by
             have z136 : (σ127 9 2).toInt = (σ88 9 2).toInt := (congrArg Int32.toInt (show σ127 9 2 = (σ88 9 2) from ((congrFun (jnp 9 eσ127 (of_decide_eq_true rfl)) 2).trans (congrFun (f116 9 (of_decide_eq_true rfl)) 2))))
             have z137 : (σ61 9 1).toInt = (σ34 9 1).toInt := (congrArg Int32.toInt (show σ61 9 1 = (σ34 9 1) from (congrFun (f63 9 (of_decide_eq_true rfl)) 1)))
             have z138 : (σ61 9 2).toInt = (σ9 9 2).toInt := (congrArg Int32.toInt (show σ61 9 2 = (σ9 9 2) from ((congrFun (f63 9 (of_decide_eq_true rfl)) 2).trans (f37 2 (of_decide_eq_true rfl)))))
             have z139 : (σ114 9 1).toInt = (σ88 9 1).toInt := (congrArg Int32.toInt (show σ114 9 1 = (σ88 9 1) from (congrFun (f116 9 (of_decide_eq_true rfl)) 1)))
             have z140 : (σ114 9 2).toInt = (σ88 9 2).toInt := (congrArg Int32.toInt (show σ114 9 2 = (σ88 9 2) from (congrFun (f116 9 (of_decide_eq_true rfl)) 2)))
             exact by exact hret σ127 τ _ _ _ _ ⟨rfl, (fun i hi => ((jnp i eσ127 (imp_61 i hi)).trans ((f116 i (imp_58 i hi)).trans ((f90 i hi).trans ((f74 i (imp_58 i hi)).trans ((f63 i (imp_58 i hi)).trans ((f36 i (imp_59 i hi)).trans (f11 i hi)))))))), (fun i hi => ((congrFun (jnp 9 eσ127 (of_decide_eq_true rfl)) i).trans ((congrFun (f116 9 (of_decide_eq_true rfl)) i).trans ((f91 i hi).trans ((congrFun (f74 9 (of_decide_eq_true rfl)) i).trans ((congrFun (f63 9 (of_decide_eq_true rfl)) i).trans ((f37 i (imp_55 i hi)).trans (f12 i hi)))))))), (fun i hi => ((congrFun (jnp 12 eσ127 (of_decide_eq_true rfl)) i).trans ((f117 i hi).trans ((f92 i hi).trans ((f75 i hi).trans ((f64 i hi).trans ((congrFun (f36 12 (of_decide_eq_true rfl)) i).trans (f13 i hi)))))))), I129, I130, I131, I134, p128, (jCl.to (jCl.two w19 (by omega) (by omega) (show σ72 13 = jupd (jupd (σ9 13) (σ9 12 0).toInt.toNat 20063) ((σ9 12 0).toInt + 1).toNat 0 from by rw [w78, show σ61 13 = σ61 13 from rfl, show σ61 13 = jupd (σ9 13) ((σ9 12 0).toInt).toNat 20063 from (by rw [w67, show σ34 13 = σ9 13 from (f36 13 (of_decide_eq_true rfl)), show (σ34 12 0).toInt = (σ9 12 0).toInt from by omega]), show (σ61 12 0).toInt = (σ9 12 0).toInt + 1 from by omega]) (by have h9 := jz_20063; first | omega | decide) (show (σ72 12 0).toInt = (σ9 12 0).toInt + 2 by omega) (by omega) w98 w120 (by have h9 := jz_20059; first | omega | decide) (show (σ114 12 0).toInt = (σ88 12 0).toInt + 1 by omega) (show σ127 13 = jupd (σ114 13) ((σ61 12 0).toInt).toNat (σ114 12 0) from by rw [eσ127, jup_row, show σ114 13 = σ114 13 from rfl, jnc (show (σ61 12 0).toInt = (σ61 12 0).toInt by omega)]) (by omega) (by omega) (by omega) (by omega)) (by omega) (by omega) rfl (by omega)), (by omega), (by omega), trivial⟩ hP hS dX7_readLine_86
    · obtain ⟨q145, k141, k142, k143, k144⟩ := h51
      have q145 := q145.symm
      subst q145
      try rw [show (σ9 9 0).toInt = (σ 9 0).toInt from by omega] at k144
      try rw [show σ9 10 = σ 10 from (f11 10 (of_decide_eq_true rfl))] at k144
      refine lv_if_eq (tgt := 49) hx hb dX7_readLine_14 (of_decide_eq_true rfl) (fun _ => ?_) (fun c => absurd (of_decide_eq_true rfl) c)
      refine lv_aload_n hx hb dX7_readLine_49 rfl (lv_at hl 1 rfl) ?_
      refine va_get (D := D) hx hb hts inlX7 hown hK hP 9 (jc_9 cI cL ad σ34 τ) rfl 5 (of_decide_eq_true rfl) (hts _ kw_3_23) (fun _ h9 => h9) rfl dX7_readLine_50 ?_
      refine lv_sipush (v := 20059) hx hb dX7_readLine_53 (of_decide_eq_true rfl) ?_
      have I146 : jI12 σ34 := jI12_fr (congrFun (f36 12 (of_decide_eq_true rfl)) 0) (f36 13 (of_decide_eq_true rfl)) I17
      have p147 : jNd12 σ34 := jNd12.fr (congrFun (f36 12 (of_decide_eq_true rfl)) 0) (congrFun (f36 12 (of_decide_eq_true rfl)) 1) (f36 13 (of_decide_eq_true rfl)) p18
      have z148 : (σ34 12 0).toInt = (σ9 12 0).toInt := (congrArg Int32.toInt (show σ34 12 0 = (σ9 12 0) from (congrFun (f36 12 (of_decide_eq_true rfl)) 0)))
      exact by
       refine jcallVv (As := [.int 20059]) (rest := []) ⟨hx, hb, hml, hown, hts⟩ hK hP hA hS hZ (c_X10_add_12 l D cI cL ad zz hJ σ34 τ 20059 (20059) jz_20059 I146 p147 (by omega) (by omega)) cw_RX7_86 (jc_12 cI cL ad σ34 τ) rfl ⟨Nat.le_of_ble_eq_true rfl, Nat.le_of_ble_eq_true rfl⟩ rfl rfl rfl hl.1 rfl (Nat.le_of_ble_eq_true rfl) dX7_readLine_56 ⟨Nat.zero_le _, Nat.zero_le _⟩ (fun σ149 τ149 H locs h149 hP hS => ?_)
       obtain ⟨rfl, f151, f152, I153, p154, w155, h149⟩ := h149
       obtain ⟨i157, w158⟩ : (0 ≤ (σ149 12 0).toInt ∧ (σ149 12 0).toInt ≤ 160) ∧ (∀ k : Nat, k < 160 → 0 ≤ (σ149 13 k).toInt ∧ (σ149 13 k).toInt ≤ 30000) := id I153
       obtain ⟨k159, h149⟩ := h149
       refine lv_iload_n hx hb dX7_readLine_59 rfl (lv_at hl 0 rfl) ?_
       refine lv_if_lt (tgt := 86) hx hb dX7_readLine_60 (of_decide_eq_true rfl) (fun _ => ?_) (fun c => absurd (of_decide_eq_true rfl) c)
       have I160 : jI9 σ149 := jI9_fr (congrFun (f151 9 (of_decide_eq_true rfl)) 0) (f151 10 (of_decide_eq_true rfl)) (f151 11 (of_decide_eq_true rfl)) I38
       have I161 : jI91 σ149 := jI91_fr (congrFun (f151 9 (of_decide_eq_true rfl)) 0) (congrFun (f151 9 (of_decide_eq_true rfl)) 1) I39
       have I162 : jI92 σ149 := jI92_fr (congrFun (f151 9 (of_decide_eq_true rfl)) 2) I40
       have z163 : (σ149 9 1).toInt = (σ34 9 1).toInt := (congrArg Int32.toInt (show σ149 9 1 = (σ34 9 1) from (congrFun (f151 9 (of_decide_eq_true rfl)) 1)))
       have z164 : (σ149 9 2).toInt = (σ9 9 2).toInt := (congrArg Int32.toInt (show σ149 9 2 = (σ9 9 2) from ((congrFun (f151 9 (of_decide_eq_true rfl)) 2).trans (f37 2 (of_decide_eq_true rfl)))))
       exact by exact hret σ149 τ _ _ _ _ ⟨rfl, (fun i hi => ((f151 i (imp_58 i hi)).trans ((f36 i (imp_59 i hi)).trans (f11 i hi)))), (fun i hi => ((congrFun (f151 9 (of_decide_eq_true rfl)) i).trans ((f37 i (imp_55 i hi)).trans (f12 i hi)))), (fun i hi => ((f152 i hi).trans ((congrFun (f36 12 (of_decide_eq_true rfl)) i).trans (f13 i hi)))), I160, I161, I162, I153, p154, (jCl.to (jCl.one w19 (fun z => k144 (by omega)) (by rw [w155, show σ34 13 = σ9 13 from (f36 13 (of_decide_eq_true rfl)), show (σ34 12 0).toInt = (σ9 12 0).toInt from by omega]) (by have h9 := jz_20059; first | omega | decide) (show (σ149 12 0).toInt = (σ9 12 0).toInt + 1 by omega) (by omega)) (by omega) (by omega) rfl (by omega)), (by omega), (by omega), trivial⟩ hP hS dX7_readLine_86
set_option maxHeartbeats 4000000 in
set_option maxRecDepth 100000 in
theorem c_X7_readText_9 (l : Launch) (D : va_G) (cI cL : ClassId) (ad zz : Nat → Nat) (hJ : jD ad) (σ : Nat → Nat → Int32) (τ : Nat → Nat → Int64) (hI9 : jI9 σ) (hI12 : jI12 σ) (hI18 : jI18 σ) (hs_jNd12 : jNd12 σ) : jM l yX7_readText cX7_readText 3 (some .int) ({ frames := 66, cells := 0, slots := 0, locals := 2845 }) D cI cL ad zz [.ref (ad 9), .ref (ad 18)] σ τ (fun r σ' τ' => τ = τ' ∧ (∀ i : Nat, (i < 9 ∨ 9 < i) ∧ (i < 12 ∨ 13 < i) ∧ (i < 18 ∨ 19 < i) → σ' i = σ i) ∧ (∀ k : Nat, (k < 0 ∨ 0 < k) ∧ (k < 1 ∨ 1 < k) ∧ (k < 2 ∨ 2 < k) → σ' 9 k = σ 9 k) ∧ (∀ k : Nat, (k < 0 ∨ 0 < k) ∧ (k < 1 ∨ 1 < k) → σ' 12 k = σ 12 k) ∧ (∀ k : Nat, (k < 0 ∨ 0 < k) ∧ (k < 1 ∨ 1 < k) → σ' 18 k = σ 18 k) ∧ (jI9 σ') ∧ (jI12 σ') ∧ (jI18 σ') ∧ (jNd12 σ') ∧ (jCx (σ 10) (σ 9 0).toInt (r.toInt) (σ 13) (σ' 13) (σ' 12 0).toInt) ∧ (jTn (σ 10) (σ 9 0).toInt (r.toInt) (σ' 19) (σ 19) (σ' 18 0).toInt (σ 18 0).toInt (σ' 18 1) (σ 18 1)) ∧ ((σ' 9 0).toInt = 0) ∧ ((True ∧ ((-1) ≤ r.toInt ∧ r.toInt ≤ 80)))) := by
  refine jM.of hJ (by decide +kernel) (nt := .int) rfl (Nat.le_of_ble_eq_true rfl) ?_
  intro p e s m args below meth c Q ls hC hret hl hP
  obtain ⟨hx, hb, hr, hml, hown, hts, hK, -, hlocks, hZ⟩ := hC
  have hown : s.vm.findClass RX7 = some m.cls := hown
  have hS : va_S (jA ad) s.heap s.heap [] := va_S.rf
  have hA : ∀ q, jA ad q → jA ad q := fun _ h => h
  have hl : lv_has ls 3 [(0, .ref (ad 9)), (1, .ref (ad 18))] := hl
  obtain ⟨i1, w2, w3⟩ : (0 ≤ (σ 9 0).toInt ∧ (σ 9 0).toInt ≤ 80) ∧ (∀ k : Nat, k < 80 → 0 ≤ (σ 10 k).toInt ∧ (σ 10 k).toInt ≤ 255) ∧ (∀ k : Nat, k < 8 → 0 ≤ (σ 11 k).toInt ∧ (σ 11 k).toInt ≤ 3) := id hI9
  obtain ⟨i4, w5⟩ : (0 ≤ (σ 12 0).toInt ∧ (σ 12 0).toInt ≤ 160) ∧ (∀ k : Nat, k < 160 → 0 ≤ (σ 13 k).toInt ∧ (σ 13 k).toInt ≤ 30000) := id hI12
  refine lv_aload_n hx hb dX7_readText_0 rfl (lv_at hl 0 rfl) ?_
  refine jcallVv (As := []) (rest := []) ⟨hx, hb, hml, hown, hts⟩ hK hP hA hS hZ (c_X7_begin_9 l D cI cL ad zz hJ σ τ hI9) cw_RX7_47 (jc_9 cI cL ad σ τ) rfl ⟨Nat.le_of_ble_eq_true rfl, Nat.le_of_ble_eq_true rfl⟩ rfl rfl rfl hl.1 rfl (Nat.le_of_ble_eq_true rfl) dX7_readText_1 ⟨Nat.zero_le _, Nat.zero_le _⟩ (fun σ6 τ6 H locs h6 hP hS => ?_)
  obtain ⟨rfl, f8, f9, m10, m11, I12, I13, I14, h6⟩ := h6
  obtain ⟨i16, w17, w18⟩ : (0 ≤ (σ6 9 0).toInt ∧ (σ6 9 0).toInt ≤ 80) ∧ (∀ k : Nat, k < 80 → 0 ≤ (σ6 10 k).toInt ∧ (σ6 10 k).toInt ≤ 255) ∧ (∀ k : Nat, k < 8 → 0 ≤ (σ6 11 k).toInt ∧ (σ6 11 k).toInt ≤ 3) := id I12
  obtain ⟨i19, i20⟩ : (0 ≤ (σ6 9 1).toInt) ∧ ((σ6 9 1).toInt ≤ (σ6 9 0).toInt) := id I13
  have i21 : (-1) ≤ (σ6 9 2).toInt ∧ (σ6 9 2).toInt ≤ 80 := I14
  have z22 : (σ6 9 0).toInt = (σ 9 0).toInt := (congrArg Int32.toInt (show σ6 9 0 = (σ 9 0) from (f9 0 (of_decide_eq_true rfl))))
  have z23 : (σ6 9 1).toInt = 0 := ((congrArg Int32.toInt (show σ6 9 1 = 0 from m10)).trans jz_0)
  have z24 : (σ6 9 2).toInt = (-1) := ((congrArg Int32.toInt (show σ6 9 2 = (-1) from m11)).trans jz_m1)
  refine lv_aload_n hx hb dX7_readText_4 rfl (lv_at hl 0 rfl) ?_
  refine va_get (D := D) hx hb hts inlX7 hown hK hP 9 (jc_9 cI cL ad σ6 τ) rfl 5 (of_decide_eq_true rfl) (hts _ kw_3_23) (fun _ h9 => h9) rfl dX7_readText_5 ?_
  have w25 : ∀ k : Nat, k < 160 → 0 ≤ (σ6 13 k).toInt ∧ (σ6 13 k).toInt ≤ 30000 := (jrr_fr (f8 13 (of_decide_eq_true rfl)) w5)
  have p26 : jNd12 σ6 := jNd12.fr (congrFun (f8 12 (of_decide_eq_true rfl)) 0) (congrFun (f8 12 (of_decide_eq_true rfl)) 1) (f8 13 (of_decide_eq_true rfl)) hs_jNd12
  refine jcallVv (As := []) (rest := []) ⟨hx, hb, hml, hown, hts⟩ hK hP hA hS hZ (c_X10_begin_12 l D cI cL ad zz hJ σ6 τ w25 p26) cw_RX7_74 (jc_12 cI cL ad σ6 τ) rfl ⟨Nat.le_of_ble_eq_true rfl, Nat.le_of_ble_eq_true rfl⟩ rfl rfl rfl hl.1 rfl (Nat.le_of_ble_eq_true rfl) dX7_readText_8 ⟨Nat.zero_le _, Nat.zero_le _⟩ (fun σ27 τ27 H locs h27 hP hS => ?_)
  obtain ⟨rfl, f29, f30, m31, m32, I33, p34, w35, h27⟩ := h27
  obtain ⟨i37, w38⟩ : (0 ≤ (σ27 12 0).toInt ∧ (σ27 12 0).toInt ≤ 160) ∧ (∀ k : Nat, k < 160 → 0 ≤ (σ27 13 k).toInt ∧ (σ27 13 k).toInt ≤ 30000) := id I33
  have z39 : (σ27 12 0).toInt = 0 := ((congrArg Int32.toInt (show σ27 12 0 = 0 from m31)).trans jz_0)
  refine lv_aload_n hx hb dX7_readText_11 rfl (lv_at hl 0 rfl) ?_
  have I40 : jI9 σ27 := jI9_fr (congrFun (f29 9 (of_decide_eq_true rfl)) 0) (f29 10 (of_decide_eq_true rfl)) (f29 11 (of_decide_eq_true rfl)) I12
  have I41 : jI91 σ27 := jI91_fr (congrFun (f29 9 (of_decide_eq_true rfl)) 0) (congrFun (f29 9 (of_decide_eq_true rfl)) 1) I13
  have I42 : jI92 σ27 := jI92_fr (congrFun (f29 9 (of_decide_eq_true rfl)) 2) I14
  have z43 : (σ27 9 2).toInt = (-1) := ((congrArg Int32.toInt (show σ27 9 2 = (-1) from ((congrFun (f29 9 (of_decide_eq_true rfl)) 2).trans m11))).trans jz_m1)
  have z44 : (σ27 9 1).toInt = 0 := ((congrArg Int32.toInt (show σ27 9 1 = 0 from ((congrFun (f29 9 (of_decide_eq_true rfl)) 1).trans m10))).trans jz_0)
  exact by
   refine jcallVv (As := []) (rest := []) ⟨hx, hb, hml, hown, hts⟩ hK hP hA hS hZ (c_X7_readLine_9 l D cI cL ad zz hJ σ27 τ I40 I41 I42 I33 p34 (by omega) (by omega)) cw_RX7_75 (jc_9 cI cL ad σ27 τ) rfl ⟨Nat.le_of_ble_eq_true rfl, Nat.le_of_ble_eq_true rfl⟩ rfl rfl rfl hl.1 rfl (Nat.le_of_ble_eq_true rfl) dX7_readText_12 ⟨Nat.zero_le _, Nat.zero_le _⟩ (fun σ45 τ45 H locs h45 hP hS => ?_)
   obtain ⟨rfl, f47, f48, f49, I50, I51, I52, I53, p54, w55, h45⟩ := h45
   obtain ⟨i57, w58, w59⟩ : (0 ≤ (σ45 9 0).toInt ∧ (σ45 9 0).toInt ≤ 80) ∧ (∀ k : Nat, k < 80 → 0 ≤ (σ45 10 k).toInt ∧ (σ45 10 k).toInt ≤ 255) ∧ (∀ k : Nat, k < 8 → 0 ≤ (σ45 11 k).toInt ∧ (σ45 11 k).toInt ≤ 3) := id I50
   obtain ⟨i60, i61⟩ : (0 ≤ (σ45 9 1).toInt) ∧ ((σ45 9 1).toInt ≤ (σ45 9 0).toInt) := id I51
   have i62 : (-1) ≤ (σ45 9 2).toInt ∧ (σ45 9 2).toInt ≤ 80 := I52
   obtain ⟨i63, w64⟩ : (0 ≤ (σ45 12 0).toInt ∧ (σ45 12 0).toInt ≤ 160) ∧ (∀ k : Nat, k < 160 → 0 ≤ (σ45 13 k).toInt ∧ (σ45 13 k).toInt ≤ 30000) := id I53
   have z65 : (σ27 9 0).toInt = (σ 9 0).toInt := (congrArg Int32.toInt (show σ27 9 0 = (σ 9 0) from ((congrFun (f29 9 (of_decide_eq_true rfl)) 0).trans (f9 0 (of_decide_eq_true rfl)))))
   try rw [show (σ27 9 1).toInt = 0 from by omega] at w55
   try rw [show (σ27 9 0).toInt = (σ 9 0).toInt from by omega] at w55
   try rw [show σ27 10 = σ 10 from ((f29 10 (of_decide_eq_true rfl)).trans (f8 10 (of_decide_eq_true rfl)))] at w55
   try rw [show σ27 13 = σ 13 from by rw [f29 13 (of_decide_eq_true rfl), f8 13 (of_decide_eq_true rfl)]] at w55
   try rw [show (σ27 12 0).toInt = 0 from by omega] at w55
   have z66 : (σ45 9 0).toInt = (σ 9 0).toInt := (congrArg Int32.toInt (show σ45 9 0 = (σ 9 0) from ((f48 0 (of_decide_eq_true rfl)).trans ((congrFun (f29 9 (of_decide_eq_true rfl)) 0).trans (f9 0 (of_decide_eq_true rfl))))))
   obtain ⟨k67, k68, h45⟩ := h45
   refine lv_iconst (v := 0) hx hb dX7_readText_15 (of_decide_eq_true rfl) ?_
   refine lv_istore_n (lv' := [(2, .int 0), (0, .ref (ad 9)), (1, .ref (ad 18))]) hx hb dX7_readText_16 rfl hl (of_decide_eq_true rfl) rfl (fun ls hl => ?_)
   have lp69 : ∀ (n70 : Nat) (x71 : Int32) (σ72 : Nat → Nat → Int32) (H : Heap) (locs : List Loc) (ls : Array Slot), (-x71.toInt + 80 : Int) < n70 → 0 ≤ x71.toInt → x71.toInt ≤ 80 → 0 ≤ (σ72 9 1).toInt → (σ72 9 1).toInt ≤ (σ72 9 0).toInt → (-1) ≤ (σ72 9 2).toInt ∧ (σ72 9 2).toInt ≤ 80 → ((0 ≤ (σ72 9 2).toInt) ∨ (3 * (σ72 12 0).toInt ≤ 4 * (σ72 9 1).toInt + 3)) → x71.toInt ≤ (σ72 9 1).toInt → (∀ i : Nat, (i < 9 ∨ 9 < i) ∧ (i < 12 ∨ 13 < i) → σ72 i = σ45 i) → (∀ k : Nat, (k < 1 ∨ 1 < k) ∧ (k < 2 ∨ 2 < k) → σ72 9 k = σ45 9 k) → (∀ k : Nat, (k < 0 ∨ 0 < k) ∧ (k < 1 ∨ 1 < k) → σ72 12 k = σ45 12 k) → jNd12 σ72 → jI12 σ72 → (jCt (σ 10) (σ 9 0).toInt (σ72 9 1).toInt (σ72 9 2).toInt (σ 13) (σ72 13) (σ72 12 0).toInt) → jH D cI cL ad σ72 τ H → va_S (jA ad) s.heap H locs → lv_has ls 3 [(2, .int x71), (0, .ref (ad 9)), (1, .ref (ad 18))] → W p l e ({ frames := 66, cells := 0, slots := 0, locals := 2845 }) s m args below meth c H locs 0 0 Q (F0 m 17 ls []) := by
     intro n70
     induction n70 with
     | zero => intro x71 σ72 H locs ls h74 h75 h76 h77 h78 h79 h80 h81; exact absurd h74 (by omega)
     | succ n70 ihlp69 =>
       intro x71 σ72 H locs ls h74 h75 h76 h77 h78 h79 h80 h81 f82 f83 f84 p85 p86 q87 hP hS hl
       exact by
        obtain ⟨i88, w89⟩ : (0 ≤ (σ72 12 0).toInt ∧ (σ72 12 0).toInt ≤ 160) ∧ (∀ k : Nat, k < 160 → 0 ≤ (σ72 13 k).toInt ∧ (σ72 13 k).toInt ≤ 30000) := id p86
        have z90 : (σ72 9 0).toInt = (σ 9 0).toInt := (congrArg Int32.toInt (show σ72 9 0 = (σ 9 0) from ((f83 0 (of_decide_eq_true rfl)).trans ((f48 0 (of_decide_eq_true rfl)).trans ((congrFun (f29 9 (of_decide_eq_true rfl)) 0).trans (f9 0 (of_decide_eq_true rfl)))))))
        refine lv_iload_n hx hb dX7_readText_17 rfl (lv_at hl 0 rfl) ?_
        refine lv_bipush (v := 80) hx hb dX7_readText_18 (of_decide_eq_true rfl) ?_
        refine lv_icmp_ge (tgt := 42) hx hb dX7_readText_20 (of_decide_eq_true rfl) (fun c91 => ?_) (fun c91 => ?_)
        · have kc91 := jle c91 jz_80 rfl
          refine lv_aload_n hx hb dX7_readText_42 rfl (lv_at hl 1 rfl) ?_
          have I92 : jI9 σ72 := jI9_fr (f83 0 (of_decide_eq_true rfl)) (f82 10 (of_decide_eq_true rfl)) (f82 11 (of_decide_eq_true rfl)) I50
          have I93 : jI91 σ72 := ⟨(by omega), (by omega)⟩
          exact by
           have I94 : jI92 σ72 := (show (-1) ≤ (σ72 9 2).toInt ∧ (σ72 9 2).toInt ≤ 80 by omega)
           refine jcallV (As := []) (rest := []) ⟨hx, hb, hml, hown, hts⟩ hK hP hA hS hZ (c_X7_end_9 l D cI cL ad zz hJ σ72 τ I92 I93 I94) cw_RX7_57 (jc_9 cI cL ad σ72 τ) rfl ⟨Nat.le_of_ble_eq_true rfl, Nat.le_of_ble_eq_true rfl⟩ rfl rfl rfl hl.1 rfl (Nat.le_of_ble_eq_true rfl) dX7_readText_43 ⟨Nat.zero_le _, Nat.zero_le _⟩ (fun r96 σ95 τ95 H locs h95 hP hS => ?_)
           obtain ⟨rfl, f97, f98, I99, I100, h95⟩ := h95
           obtain ⟨i102, w103, w104⟩ : (0 ≤ (σ95 9 0).toInt ∧ (σ95 9 0).toInt ≤ 80) ∧ (∀ k : Nat, k < 80 → 0 ≤ (σ95 10 k).toInt ∧ (σ95 10 k).toInt ≤ 255) ∧ (∀ k : Nat, k < 8 → 0 ≤ (σ95 11 k).toInt ∧ (σ95 11 k).toInt ≤ 3) := id I99
           have i105 : (-1) ≤ (σ95 9 2).toInt ∧ (σ95 9 2).toInt ≤ 80 := I100
           obtain ⟨k106, h95⟩ := h95
           rcases h95 with h107 | h108
           · obtain ⟨q111, k109, k110⟩ := h107
             have q111 := q111.symm
             subst q111
             refine lv_istore_n (lv' := [(2, .int (-1)), (0, .ref (ad 9)), (1, .ref (ad 18))]) hx hb dX7_readText_46 rfl hl (of_decide_eq_true rfl) rfl (fun ls hl => ?_)
             refine lv_iload_n hx hb dX7_readText_47 rfl (lv_at hl 0 rfl) ?_
             refine lv_iconst (v := (-1)) hx hb dX7_readText_48 (of_decide_eq_true rfl) ?_
             refine lv_icmp_ne (tgt := 60) hx hb dX7_readText_49 (of_decide_eq_true rfl) (fun c => absurd (of_decide_eq_true rfl) c) (fun _ => ?_)
             refine lv_aload_n hx hb dX7_readText_52 rfl (lv_at hl 2 rfl) ?_
             refine lv_aload_n hx hb dX7_readText_53 rfl (lv_at hl 1 rfl) ?_
             refine va_get (D := D) hx hb hts inlX7 hown hK hP 9 (jc_9 cI cL ad σ95 τ) rfl 5 (of_decide_eq_true rfl) (hts _ kw_3_23) (fun _ h9 => h9) rfl dX7_readText_54 ?_
             have I112 : jI12 σ95 := jI12_fr (congrFun (f97 12 (of_decide_eq_true rfl)) 0) (f97 13 (of_decide_eq_true rfl)) p86
             have I113 : jI18 σ95 := jI18_fr ((congrFun (f97 18 (of_decide_eq_true rfl)) 0).trans ((congrFun (f82 18 (of_decide_eq_true rfl)) 0).trans ((congrFun (f47 18 (of_decide_eq_true rfl)) 0).trans ((congrFun (f29 18 (of_decide_eq_true rfl)) 0).trans (congrFun (f8 18 (of_decide_eq_true rfl)) 0))))) ((f97 19 (of_decide_eq_true rfl)).trans ((f82 19 (of_decide_eq_true rfl)).trans ((f47 19 (of_decide_eq_true rfl)).trans ((f29 19 (of_decide_eq_true rfl)).trans (f8 19 (of_decide_eq_true rfl)))))) hI18
             refine jcallVv (As := [.ref (ad 12)]) (rest := []) ⟨hx, hb, hml, hown, hts⟩ hK hP hA hS hZ (c_X10_copyFrom_18 l D cI cL ad zz hJ σ95 τ I112 I113) cw_RX7_78 (jc_18 cI cL ad σ95 τ) rfl ⟨Nat.le_of_ble_eq_true rfl, Nat.le_of_ble_eq_true rfl⟩ rfl rfl rfl hl.1 rfl (Nat.le_of_ble_eq_true rfl) dX7_readText_57 ⟨Nat.zero_le _, Nat.zero_le _⟩ (fun σ114 τ114 H locs h114 hP hS => ?_)
             obtain ⟨rfl, f116, f117, I118, w119, h114⟩ := h114
             refine lv_iload_n hx hb dX7_readText_60 rfl (lv_at hl 0 rfl) ?_
             have I121 : jI9 σ114 := jI9_fr (congrFun (f116 9 (of_decide_eq_true rfl)) 0) (f116 10 (of_decide_eq_true rfl)) (f116 11 (of_decide_eq_true rfl)) I99
             have I122 : jI12 σ114 := jI12_fr (congrFun (f116 12 (of_decide_eq_true rfl)) 0) (f116 13 (of_decide_eq_true rfl)) I112
             have p123 : jNd12 σ114 := jNd12.fr ((congrFun (f116 12 (of_decide_eq_true rfl)) 0).trans (congrFun (f97 12 (of_decide_eq_true rfl)) 0)) ((congrFun (f116 12 (of_decide_eq_true rfl)) 1).trans (congrFun (f97 12 (of_decide_eq_true rfl)) 1)) ((f116 13 (of_decide_eq_true rfl)).trans (f97 13 (of_decide_eq_true rfl))) p85
             have z124 : (σ114 12 0).toInt = (σ72 12 0).toInt := (congrArg Int32.toInt (show σ114 12 0 = (σ72 12 0) from ((congrFun (f116 12 (of_decide_eq_true rfl)) 0).trans (congrFun (f97 12 (of_decide_eq_true rfl)) 0))))
             have z125 : (σ95 12 0).toInt = (σ72 12 0).toInt := (congrArg Int32.toInt (show σ95 12 0 = (σ72 12 0) from (congrFun (f97 12 (of_decide_eq_true rfl)) 0)))
             have z126 : (σ114 9 0).toInt = (σ95 9 0).toInt := (congrArg Int32.toInt (show σ114 9 0 = (σ95 9 0) from (congrFun (f116 9 (of_decide_eq_true rfl)) 0)))
             exact by exact hret (-1) σ114 τ _ _ _ _ rfl ⟨rfl, (fun i hi => ((f116 i (imp_62 i hi)).trans ((f97 i (imp_63 i hi)).trans ((f82 i (imp_64 i hi)).trans ((f47 i (imp_64 i hi)).trans ((f29 i (imp_65 i hi)).trans (f8 i (imp_63 i hi)))))))), (fun i hi => ((congrFun (f116 9 (of_decide_eq_true rfl)) i).trans ((f98 i (imp_48 i hi)).trans ((f83 i (imp_49 i hi)).trans ((f48 i (imp_49 i hi)).trans ((congrFun (f29 9 (of_decide_eq_true rfl)) i).trans (f9 i (imp_49 i hi)))))))), (fun i hi => ((congrFun (f116 12 (of_decide_eq_true rfl)) i).trans ((congrFun (f97 12 (of_decide_eq_true rfl)) i).trans ((f84 i hi).trans ((f49 i hi).trans ((f30 i hi).trans (congrFun (f8 12 (of_decide_eq_true rfl)) i))))))), (fun i hi => ((f117 i hi).trans ((congrFun (f97 18 (of_decide_eq_true rfl)) i).trans ((congrFun (f82 18 (of_decide_eq_true rfl)) i).trans ((congrFun (f47 18 (of_decide_eq_true rfl)) i).trans ((congrFun (f29 18 (of_decide_eq_true rfl)) i).trans (congrFun (f8 18 (of_decide_eq_true rfl)) i))))))), I121, I122, I118, p123, (jCx.to (jCt.fin (e := ((-1) : Int32).toInt) q87 (fun _ => by rw [jYs_n (by omega)]; decide) (by have h9 := jz_m1; omega)) ((f116 13 (of_decide_eq_true rfl)).trans (f97 13 (of_decide_eq_true rfl))) (by omega)), (jTn.of (jCx.to (g2 := σ114 13) (l2 := (σ114 12 0).toInt) (jCt.fin (e := ((-1) : Int32).toInt) q87 (fun _ => by rw [jYs_n (by omega)]; decide) (by have h9 := jz_m1; omega)) ((f116 13 (of_decide_eq_true rfl)).trans (f97 13 (of_decide_eq_true rfl))) (by omega)) (by omega) p123 (Or.inl ⟨(by have h9 := jz_m1; omega), (fun j hj => ((w119).1 j (by omega)).trans (congrFun (show σ95 13 = σ114 13 from ((f116 13 (of_decide_eq_true rfl))).symm) j)), by omega, (w119).2.2.trans (show σ95 12 1 = σ114 12 1 from ((congrFun (f116 12 (of_decide_eq_true rfl)) 1)).symm)⟩)), (by omega), ⟨trivial, (by have h9 := jz_m1; omega)⟩⟩ hP hS dX7_readText_61
           · obtain ⟨q129, k127, k128⟩ := h108
             refine lv_istore_n (lv' := [(2, .int r96), (0, .ref (ad 9)), (1, .ref (ad 18))]) hx hb dX7_readText_46 rfl hl (of_decide_eq_true rfl) rfl (fun ls hl => ?_)
             refine lv_iload_n hx hb dX7_readText_47 rfl (lv_at hl 0 rfl) ?_
             refine lv_iconst (v := (-1)) hx hb dX7_readText_48 (of_decide_eq_true rfl) ?_
             exact by
              refine lv_icmp_ne (tgt := 60) hx hb dX7_readText_49 (of_decide_eq_true rfl) (fun c130 => ?_) (fun c => absurd (jeq c rfl jz_m1) (by omega))
              have kc130 := jne c130 rfl jz_m1
              refine lv_iload_n hx hb dX7_readText_60 rfl (lv_at hl 0 rfl) ?_
              have I131 : jI12 σ95 := jI12_fr (congrFun (f97 12 (of_decide_eq_true rfl)) 0) (f97 13 (of_decide_eq_true rfl)) p86
              have I132 : jI18 σ95 := jI18_fr ((congrFun (f97 18 (of_decide_eq_true rfl)) 0).trans ((congrFun (f82 18 (of_decide_eq_true rfl)) 0).trans ((congrFun (f47 18 (of_decide_eq_true rfl)) 0).trans ((congrFun (f29 18 (of_decide_eq_true rfl)) 0).trans (congrFun (f8 18 (of_decide_eq_true rfl)) 0))))) ((f97 19 (of_decide_eq_true rfl)).trans ((f82 19 (of_decide_eq_true rfl)).trans ((f47 19 (of_decide_eq_true rfl)).trans ((f29 19 (of_decide_eq_true rfl)).trans (f8 19 (of_decide_eq_true rfl)))))) hI18
              have p133 : jNd12 σ95 := jNd12.fr (congrFun (f97 12 (of_decide_eq_true rfl)) 0) (congrFun (f97 12 (of_decide_eq_true rfl)) 1) (f97 13 (of_decide_eq_true rfl)) p85
              have z134 : (σ95 12 0).toInt = (σ72 12 0).toInt := (congrArg Int32.toInt (show σ95 12 0 = (σ72 12 0) from (congrFun (f97 12 (of_decide_eq_true rfl)) 0)))
              have z135 : (σ95 18 0).toInt = (σ 18 0).toInt := (congrArg Int32.toInt (show σ95 18 0 = (σ 18 0) from ((congrFun (f97 18 (of_decide_eq_true rfl)) 0).trans ((congrFun (f82 18 (of_decide_eq_true rfl)) 0).trans ((congrFun (f47 18 (of_decide_eq_true rfl)) 0).trans ((congrFun (f29 18 (of_decide_eq_true rfl)) 0).trans (congrFun (f8 18 (of_decide_eq_true rfl)) 0)))))))
              exact by exact hret r96 σ95 τ _ _ _ _ rfl ⟨rfl, (fun i hi => ((f97 i (imp_63 i hi)).trans ((f82 i (imp_64 i hi)).trans ((f47 i (imp_64 i hi)).trans ((f29 i (imp_65 i hi)).trans (f8 i (imp_63 i hi))))))), (fun i hi => ((f98 i (imp_48 i hi)).trans ((f83 i (imp_49 i hi)).trans ((f48 i (imp_49 i hi)).trans ((congrFun (f29 9 (of_decide_eq_true rfl)) i).trans (f9 i (imp_49 i hi))))))), (fun i hi => ((congrFun (f97 12 (of_decide_eq_true rfl)) i).trans ((f84 i hi).trans ((f49 i hi).trans ((f30 i hi).trans (congrFun (f8 12 (of_decide_eq_true rfl)) i)))))), (fun i hi => ((congrFun (f97 18 (of_decide_eq_true rfl)) i).trans ((congrFun (f82 18 (of_decide_eq_true rfl)) i).trans ((congrFun (f47 18 (of_decide_eq_true rfl)) i).trans ((congrFun (f29 18 (of_decide_eq_true rfl)) i).trans (congrFun (f8 18 (of_decide_eq_true rfl)) i)))))), I99, I131, I132, p133, (jCx.to (jCt.fin (e := (r96 : Int32).toInt) q87 (fun _ => by rw [jYs_n (by omega)]; decide) (by omega)) (f97 13 (of_decide_eq_true rfl)) (by omega)), (jTn.of (jCx.to (g2 := σ95 13) (l2 := (σ95 12 0).toInt) (jCt.fin (e := (r96 : Int32).toInt) q87 (fun _ => by rw [jYs_n (by omega)]; decide) (by omega)) (f97 13 (of_decide_eq_true rfl)) (by omega)) (by omega) p133 (Or.inr ⟨(by omega), ((f97 19 (of_decide_eq_true rfl)).trans ((f82 19 (of_decide_eq_true rfl)).trans ((f47 19 (of_decide_eq_true rfl)).trans ((f29 19 (of_decide_eq_true rfl)).trans (f8 19 (of_decide_eq_true rfl)))))), by omega, ((congrFun (f97 18 (of_decide_eq_true rfl)) 1).trans ((congrFun (f82 18 (of_decide_eq_true rfl)) 1).trans ((congrFun (f47 18 (of_decide_eq_true rfl)) 1).trans ((congrFun (f29 18 (of_decide_eq_true rfl)) 1).trans (congrFun (f8 18 (of_decide_eq_true rfl)) 1)))))⟩)), (by omega), ⟨trivial, (by omega)⟩⟩ hP hS dX7_readText_61
        · have kc91 := jnle c91 jz_80 rfl
          refine lv_aload_n hx hb dX7_readText_23 rfl (lv_at hl 1 rfl) ?_
          refine lv_bipush (v := 59) hx hb dX7_readText_24 (of_decide_eq_true rfl) ?_
          have I136 : jI9 σ72 := jI9_fr (f83 0 (of_decide_eq_true rfl)) (f82 10 (of_decide_eq_true rfl)) (f82 11 (of_decide_eq_true rfl)) I50
          exact by
           have I137 : jI91 σ72 := ⟨(by omega), (by omega)⟩
           have I138 : jI92 σ72 := (show (-1) ≤ (σ72 9 2).toInt ∧ (σ72 9 2).toInt ≤ 80 by omega)
           refine jcallV (As := [.int 59]) (rest := []) ⟨hx, hb, hml, hown, hts⟩ hK hP hA hS hZ (c_X7_skip_9 l D cI cL ad zz hJ σ72 τ 59 (59) jz_59 I136 I137 I138 (by omega)) cw_RX7_50 (jc_9 cI cL ad σ72 τ) rfl ⟨Nat.le_of_ble_eq_true rfl, Nat.le_of_ble_eq_true rfl⟩ rfl rfl rfl hl.1 rfl (Nat.le_of_ble_eq_true rfl) dX7_readText_26 ⟨Nat.zero_le _, Nat.zero_le _⟩ (fun r140 σ139 τ139 H locs h139 hP hS => ?_)
           obtain ⟨rfl, f141, f142, I143, I144, I145, h139⟩ := h139
           obtain ⟨i147, w148, w149⟩ : (0 ≤ (σ139 9 0).toInt ∧ (σ139 9 0).toInt ≤ 80) ∧ (∀ k : Nat, k < 80 → 0 ≤ (σ139 10 k).toInt ∧ (σ139 10 k).toInt ≤ 255) ∧ (∀ k : Nat, k < 8 → 0 ≤ (σ139 11 k).toInt ∧ (σ139 11 k).toInt ≤ 3) := id I143
           obtain ⟨i150, i151⟩ : (0 ≤ (σ139 9 1).toInt) ∧ ((σ139 9 1).toInt ≤ (σ139 9 0).toInt) := id I144
           have i152 : (-1) ≤ (σ139 9 2).toInt ∧ (σ139 9 2).toInt ≤ 80 := I145
           have z153 : (σ139 9 0).toInt = (σ 9 0).toInt := (congrArg Int32.toInt (show σ139 9 0 = (σ 9 0) from ((f142 0 (of_decide_eq_true rfl)).trans ((f83 0 (of_decide_eq_true rfl)).trans ((f48 0 (of_decide_eq_true rfl)).trans ((congrFun (f29 9 (of_decide_eq_true rfl)) 0).trans (f9 0 (of_decide_eq_true rfl))))))))
           have z154 : (σ139 9 2).toInt = (σ72 9 2).toInt := (congrArg Int32.toInt (show σ139 9 2 = (σ72 9 2) from (f142 2 (of_decide_eq_true rfl))))
           exact by
            rcases h139 with h155 | h156
            · obtain ⟨q162, k157, k158, k159, k160, k161⟩ := h155
              have q162 := q162.symm
              subst q162
              try rw [show (σ72 9 0).toInt = (σ 9 0).toInt from by omega] at k161
              try rw [show σ72 10 = σ 10 from ((f82 10 (of_decide_eq_true rfl)).trans ((f47 10 (of_decide_eq_true rfl)).trans ((f29 10 (of_decide_eq_true rfl)).trans (f8 10 (of_decide_eq_true rfl)))))] at k161
              refine lv_if_eq (tgt := 42) hx hb dX7_readText_29 (of_decide_eq_true rfl) (fun c => absurd c (of_decide_eq_true rfl)) (fun _ => ?_)
              refine lv_aload_n hx hb dX7_readText_32 rfl (lv_at hl 1 rfl) ?_
              have I163 : jI12 σ139 := jI12_fr (congrFun (f141 12 (of_decide_eq_true rfl)) 0) (f141 13 (of_decide_eq_true rfl)) p86
              have p164 : jNd12 σ139 := jNd12.fr (congrFun (f141 12 (of_decide_eq_true rfl)) 0) (congrFun (f141 12 (of_decide_eq_true rfl)) 1) (f141 13 (of_decide_eq_true rfl)) p85
              have z165 : (σ139 12 0).toInt = (σ72 12 0).toInt := (congrArg Int32.toInt (show σ139 12 0 = (σ72 12 0) from (congrFun (f141 12 (of_decide_eq_true rfl)) 0)))
              exact by
               refine jcallVv (As := []) (rest := []) ⟨hx, hb, hml, hown, hts⟩ hK hP hA hS hZ (c_X7_readLine_9 l D cI cL ad zz hJ σ139 τ I143 I144 I145 I163 p164 (by omega) (by omega)) cw_RX7_75 (jc_9 cI cL ad σ139 τ) rfl ⟨Nat.le_of_ble_eq_true rfl, Nat.le_of_ble_eq_true rfl⟩ rfl rfl rfl hl.1 rfl (Nat.le_of_ble_eq_true rfl) dX7_readText_33 ⟨Nat.zero_le _, Nat.zero_le _⟩ (fun σ166 τ166 H locs h166 hP hS => ?_)
               obtain ⟨rfl, f168, f169, f170, I171, I172, I173, I174, p175, w176, h166⟩ := h166
               obtain ⟨i178, w179, w180⟩ : (0 ≤ (σ166 9 0).toInt ∧ (σ166 9 0).toInt ≤ 80) ∧ (∀ k : Nat, k < 80 → 0 ≤ (σ166 10 k).toInt ∧ (σ166 10 k).toInt ≤ 255) ∧ (∀ k : Nat, k < 8 → 0 ≤ (σ166 11 k).toInt ∧ (σ166 11 k).toInt ≤ 3) := id I171
               obtain ⟨i181, i182⟩ : (0 ≤ (σ166 9 1).toInt) ∧ ((σ166 9 1).toInt ≤ (σ166 9 0).toInt) := id I172
               have i183 : (-1) ≤ (σ166 9 2).toInt ∧ (σ166 9 2).toInt ≤ 80 := I173
               obtain ⟨i184, w185⟩ : (0 ≤ (σ166 12 0).toInt ∧ (σ166 12 0).toInt ≤ 160) ∧ (∀ k : Nat, k < 160 → 0 ≤ (σ166 13 k).toInt ∧ (σ166 13 k).toInt ≤ 30000) := id I174
               try rw [show (σ139 9 0).toInt = (σ 9 0).toInt from by omega] at w176
               try rw [show σ139 10 = σ 10 from ((f141 10 (of_decide_eq_true rfl)).trans ((f82 10 (of_decide_eq_true rfl)).trans ((f47 10 (of_decide_eq_true rfl)).trans ((f29 10 (of_decide_eq_true rfl)).trans (f8 10 (of_decide_eq_true rfl))))))] at w176
               try rw [show σ139 13 = σ72 13 from by rw [f141 13 (of_decide_eq_true rfl)]] at w176
               try rw [show (σ139 12 0).toInt = (σ72 12 0).toInt from by omega] at w176
               have z186 : (σ166 9 0).toInt = (σ 9 0).toInt := (congrArg Int32.toInt (show σ166 9 0 = (σ 9 0) from ((f169 0 (of_decide_eq_true rfl)).trans ((f142 0 (of_decide_eq_true rfl)).trans ((f83 0 (of_decide_eq_true rfl)).trans ((f48 0 (of_decide_eq_true rfl)).trans ((congrFun (f29 9 (of_decide_eq_true rfl)) 0).trans (f9 0 (of_decide_eq_true rfl)))))))))
               obtain ⟨k187, k188, h166⟩ := h166
               obtain ⟨x189, ex189⟩ : ∃ y : Int32, y = x71 + 1 := ⟨_, rfl⟩
               exact by
                have tx189 : x189.toInt = x71.toInt + 1 := (jadd ex189 rfl jz_1 (by omega) (by omega)).trans (by omega)
                refine lv_iinc (v := x189) (lv' := [(2, .int x189), (0, .ref (ad 9)), (1, .ref (ad 18))]) hx hb dX7_readText_36 hl (k := 0) rfl (by rw [ex189]; rfl) (of_decide_eq_true rfl) rfl (fun ls hl => ?_)
                refine lv_goto (tgt := 17) hx hb dX7_readText_39 (of_decide_eq_true rfl) ?_
                exact by exact ihlp69 x189 σ166 _ _ ls (by have h90 := tx189; omega) (by have h90 := tx189; omega) (by have h90 := tx189; omega) (by have h90 := tx189; omega) (by have h90 := tx189; omega) (by have h90 := tx189; omega) (by have h90 := tx189; omega) (by have h90 := tx189; omega) (fun i hi => ((f168 i hi).trans ((f141 i (imp_59 i hi)).trans (f82 i hi)))) (fun i hi => ((f169 i hi).trans ((f142 i (imp_55 i hi)).trans (f83 i hi)))) (fun i hi => ((f170 i hi).trans ((congrFun (f141 12 (of_decide_eq_true rfl)) i).trans (f84 i hi))))  p175 I174 (jCt.step q87 (by omega) (by omega) w176 (by omega)) hP hS (lv_sub hl [0, 1, 2] rfl)
            · obtain ⟨q194, k190, k191, k192, k193⟩ := h156
              have q194 := q194.symm
              subst q194
              try rw [show (σ72 9 0).toInt = (σ 9 0).toInt from by omega] at k193
              try rw [show σ72 10 = σ 10 from ((f82 10 (of_decide_eq_true rfl)).trans ((f47 10 (of_decide_eq_true rfl)).trans ((f29 10 (of_decide_eq_true rfl)).trans (f8 10 (of_decide_eq_true rfl)))))] at k193
              exact by
               refine lv_if_eq (tgt := 42) hx hb dX7_readText_29 (of_decide_eq_true rfl) (fun _ => ?_) (fun c => absurd (of_decide_eq_true rfl) c)
               refine lv_aload_n hx hb dX7_readText_42 rfl (lv_at hl 1 rfl) ?_
               refine jcallV (As := []) (rest := []) ⟨hx, hb, hml, hown, hts⟩ hK hP hA hS hZ (c_X7_end_9 l D cI cL ad zz hJ σ139 τ I143 I144 I145) cw_RX7_57 (jc_9 cI cL ad σ139 τ) rfl ⟨Nat.le_of_ble_eq_true rfl, Nat.le_of_ble_eq_true rfl⟩ rfl rfl rfl hl.1 rfl (Nat.le_of_ble_eq_true rfl) dX7_readText_43 ⟨Nat.zero_le _, Nat.zero_le _⟩ (fun r196 σ195 τ195 H locs h195 hP hS => ?_)
               obtain ⟨rfl, f197, f198, I199, I200, h195⟩ := h195
               obtain ⟨i202, w203, w204⟩ : (0 ≤ (σ195 9 0).toInt ∧ (σ195 9 0).toInt ≤ 80) ∧ (∀ k : Nat, k < 80 → 0 ≤ (σ195 10 k).toInt ∧ (σ195 10 k).toInt ≤ 255) ∧ (∀ k : Nat, k < 8 → 0 ≤ (σ195 11 k).toInt ∧ (σ195 11 k).toInt ≤ 3) := id I199
               have i205 : (-1) ≤ (σ195 9 2).toInt ∧ (σ195 9 2).toInt ≤ 80 := I200
               obtain ⟨k206, h195⟩ := h195
               rcases h195 with h207 | h208
               · obtain ⟨q211, k209, k210⟩ := h207
                 have q211 := q211.symm
                 subst q211
                 refine lv_istore_n (lv' := [(2, .int (-1)), (0, .ref (ad 9)), (1, .ref (ad 18))]) hx hb dX7_readText_46 rfl hl (of_decide_eq_true rfl) rfl (fun ls hl => ?_)
                 refine lv_iload_n hx hb dX7_readText_47 rfl (lv_at hl 0 rfl) ?_
                 refine lv_iconst (v := (-1)) hx hb dX7_readText_48 (of_decide_eq_true rfl) ?_
                 refine lv_icmp_ne (tgt := 60) hx hb dX7_readText_49 (of_decide_eq_true rfl) (fun c => absurd (of_decide_eq_true rfl) c) (fun _ => ?_)
                 refine lv_aload_n hx hb dX7_readText_52 rfl (lv_at hl 2 rfl) ?_
                 refine lv_aload_n hx hb dX7_readText_53 rfl (lv_at hl 1 rfl) ?_
                 refine va_get (D := D) hx hb hts inlX7 hown hK hP 9 (jc_9 cI cL ad σ195 τ) rfl 5 (of_decide_eq_true rfl) (hts _ kw_3_23) (fun _ h9 => h9) rfl dX7_readText_54 ?_
                 have I212 : jI12 σ195 := jI12_fr ((congrFun (f197 12 (of_decide_eq_true rfl)) 0).trans (congrFun (f141 12 (of_decide_eq_true rfl)) 0)) ((f197 13 (of_decide_eq_true rfl)).trans (f141 13 (of_decide_eq_true rfl))) p86
                 have I213 : jI18 σ195 := jI18_fr ((congrFun (f197 18 (of_decide_eq_true rfl)) 0).trans ((congrFun (f141 18 (of_decide_eq_true rfl)) 0).trans ((congrFun (f82 18 (of_decide_eq_true rfl)) 0).trans ((congrFun (f47 18 (of_decide_eq_true rfl)) 0).trans ((congrFun (f29 18 (of_decide_eq_true rfl)) 0).trans (congrFun (f8 18 (of_decide_eq_true rfl)) 0)))))) ((f197 19 (of_decide_eq_true rfl)).trans ((f141 19 (of_decide_eq_true rfl)).trans ((f82 19 (of_decide_eq_true rfl)).trans ((f47 19 (of_decide_eq_true rfl)).trans ((f29 19 (of_decide_eq_true rfl)).trans (f8 19 (of_decide_eq_true rfl))))))) hI18
                 refine jcallVv (As := [.ref (ad 12)]) (rest := []) ⟨hx, hb, hml, hown, hts⟩ hK hP hA hS hZ (c_X10_copyFrom_18 l D cI cL ad zz hJ σ195 τ I212 I213) cw_RX7_78 (jc_18 cI cL ad σ195 τ) rfl ⟨Nat.le_of_ble_eq_true rfl, Nat.le_of_ble_eq_true rfl⟩ rfl rfl rfl hl.1 rfl (Nat.le_of_ble_eq_true rfl) dX7_readText_57 ⟨Nat.zero_le _, Nat.zero_le _⟩ (fun σ214 τ214 H locs h214 hP hS => ?_)
                 obtain ⟨rfl, f216, f217, I218, w219, h214⟩ := h214
                 refine lv_iload_n hx hb dX7_readText_60 rfl (lv_at hl 0 rfl) ?_
                 have I221 : jI9 σ214 := jI9_fr (congrFun (f216 9 (of_decide_eq_true rfl)) 0) (f216 10 (of_decide_eq_true rfl)) (f216 11 (of_decide_eq_true rfl)) I199
                 have I222 : jI12 σ214 := jI12_fr (congrFun (f216 12 (of_decide_eq_true rfl)) 0) (f216 13 (of_decide_eq_true rfl)) I212
                 have p223 : jNd12 σ214 := jNd12.fr ((congrFun (f216 12 (of_decide_eq_true rfl)) 0).trans ((congrFun (f197 12 (of_decide_eq_true rfl)) 0).trans (congrFun (f141 12 (of_decide_eq_true rfl)) 0))) ((congrFun (f216 12 (of_decide_eq_true rfl)) 1).trans ((congrFun (f197 12 (of_decide_eq_true rfl)) 1).trans (congrFun (f141 12 (of_decide_eq_true rfl)) 1))) ((f216 13 (of_decide_eq_true rfl)).trans ((f197 13 (of_decide_eq_true rfl)).trans (f141 13 (of_decide_eq_true rfl)))) p85
                 have z224 : (σ214 12 0).toInt = (σ72 12 0).toInt := (congrArg Int32.toInt (show σ214 12 0 = (σ72 12 0) from ((congrFun (f216 12 (of_decide_eq_true rfl)) 0).trans ((congrFun (f197 12 (of_decide_eq_true rfl)) 0).trans (congrFun (f141 12 (of_decide_eq_true rfl)) 0)))))
                 have z225 : (σ195 12 0).toInt = (σ72 12 0).toInt := (congrArg Int32.toInt (show σ195 12 0 = (σ72 12 0) from ((congrFun (f197 12 (of_decide_eq_true rfl)) 0).trans (congrFun (f141 12 (of_decide_eq_true rfl)) 0))))
                 have z226 : (σ214 9 0).toInt = (σ195 9 0).toInt := (congrArg Int32.toInt (show σ214 9 0 = (σ195 9 0) from (congrFun (f216 9 (of_decide_eq_true rfl)) 0)))
                 exact by exact hret (-1) σ214 τ _ _ _ _ rfl ⟨rfl, (fun i hi => ((f216 i (imp_62 i hi)).trans ((f197 i (imp_63 i hi)).trans ((f141 i (imp_63 i hi)).trans ((f82 i (imp_64 i hi)).trans ((f47 i (imp_64 i hi)).trans ((f29 i (imp_65 i hi)).trans (f8 i (imp_63 i hi))))))))), (fun i hi => ((congrFun (f216 9 (of_decide_eq_true rfl)) i).trans ((f198 i (imp_48 i hi)).trans ((f142 i (imp_51 i hi)).trans ((f83 i (imp_49 i hi)).trans ((f48 i (imp_49 i hi)).trans ((congrFun (f29 9 (of_decide_eq_true rfl)) i).trans (f9 i (imp_49 i hi))))))))), (fun i hi => ((congrFun (f216 12 (of_decide_eq_true rfl)) i).trans ((congrFun (f197 12 (of_decide_eq_true rfl)) i).trans ((congrFun (f141 12 (of_decide_eq_true rfl)) i).trans ((f84 i hi).trans ((f49 i hi).trans ((f30 i hi).trans (congrFun (f8 12 (of_decide_eq_true rfl)) i)))))))), (fun i hi => ((f217 i hi).trans ((congrFun (f197 18 (of_decide_eq_true rfl)) i).trans ((congrFun (f141 18 (of_decide_eq_true rfl)) i).trans ((congrFun (f82 18 (of_decide_eq_true rfl)) i).trans ((congrFun (f47 18 (of_decide_eq_true rfl)) i).trans ((congrFun (f29 18 (of_decide_eq_true rfl)) i).trans (congrFun (f8 18 (of_decide_eq_true rfl)) i)))))))), I221, I222, I218, p223, (jCx.to (jCt.fin (e := ((-1) : Int32).toInt) q87 (fun z => k193 (by omega)) (by have h9 := jz_m1; omega)) ((f216 13 (of_decide_eq_true rfl)).trans ((f197 13 (of_decide_eq_true rfl)).trans (f141 13 (of_decide_eq_true rfl)))) (by omega)), (jTn.of (jCx.to (g2 := σ214 13) (l2 := (σ214 12 0).toInt) (jCt.fin (e := ((-1) : Int32).toInt) q87 (fun z => k193 (by omega)) (by have h9 := jz_m1; omega)) ((f216 13 (of_decide_eq_true rfl)).trans ((f197 13 (of_decide_eq_true rfl)).trans (f141 13 (of_decide_eq_true rfl)))) (by omega)) (by omega) p223 (Or.inl ⟨(by have h9 := jz_m1; omega), (fun j hj => ((w219).1 j (by omega)).trans (congrFun (show σ195 13 = σ214 13 from ((f216 13 (of_decide_eq_true rfl))).symm) j)), by omega, (w219).2.2.trans (show σ195 12 1 = σ214 12 1 from ((congrFun (f216 12 (of_decide_eq_true rfl)) 1)).symm)⟩)), (by omega), ⟨trivial, (by have h9 := jz_m1; omega)⟩⟩ hP hS dX7_readText_61
               · obtain ⟨q229, k227, k228⟩ := h208
                 refine lv_istore_n (lv' := [(2, .int r196), (0, .ref (ad 9)), (1, .ref (ad 18))]) hx hb dX7_readText_46 rfl hl (of_decide_eq_true rfl) rfl (fun ls hl => ?_)
                 refine lv_iload_n hx hb dX7_readText_47 rfl (lv_at hl 0 rfl) ?_
                 refine lv_iconst (v := (-1)) hx hb dX7_readText_48 (of_decide_eq_true rfl) ?_
                 exact by
                  refine lv_icmp_ne (tgt := 60) hx hb dX7_readText_49 (of_decide_eq_true rfl) (fun c230 => ?_) (fun c => absurd (jeq c rfl jz_m1) (by omega))
                  have kc230 := jne c230 rfl jz_m1
                  refine lv_iload_n hx hb dX7_readText_60 rfl (lv_at hl 0 rfl) ?_
                  have I231 : jI12 σ195 := jI12_fr ((congrFun (f197 12 (of_decide_eq_true rfl)) 0).trans (congrFun (f141 12 (of_decide_eq_true rfl)) 0)) ((f197 13 (of_decide_eq_true rfl)).trans (f141 13 (of_decide_eq_true rfl))) p86
                  have I232 : jI18 σ195 := jI18_fr ((congrFun (f197 18 (of_decide_eq_true rfl)) 0).trans ((congrFun (f141 18 (of_decide_eq_true rfl)) 0).trans ((congrFun (f82 18 (of_decide_eq_true rfl)) 0).trans ((congrFun (f47 18 (of_decide_eq_true rfl)) 0).trans ((congrFun (f29 18 (of_decide_eq_true rfl)) 0).trans (congrFun (f8 18 (of_decide_eq_true rfl)) 0)))))) ((f197 19 (of_decide_eq_true rfl)).trans ((f141 19 (of_decide_eq_true rfl)).trans ((f82 19 (of_decide_eq_true rfl)).trans ((f47 19 (of_decide_eq_true rfl)).trans ((f29 19 (of_decide_eq_true rfl)).trans (f8 19 (of_decide_eq_true rfl))))))) hI18
                  have p233 : jNd12 σ195 := jNd12.fr ((congrFun (f197 12 (of_decide_eq_true rfl)) 0).trans (congrFun (f141 12 (of_decide_eq_true rfl)) 0)) ((congrFun (f197 12 (of_decide_eq_true rfl)) 1).trans (congrFun (f141 12 (of_decide_eq_true rfl)) 1)) ((f197 13 (of_decide_eq_true rfl)).trans (f141 13 (of_decide_eq_true rfl))) p85
                  have z234 : (σ195 12 0).toInt = (σ72 12 0).toInt := (congrArg Int32.toInt (show σ195 12 0 = (σ72 12 0) from ((congrFun (f197 12 (of_decide_eq_true rfl)) 0).trans (congrFun (f141 12 (of_decide_eq_true rfl)) 0))))
                  have z235 : (σ195 18 0).toInt = (σ 18 0).toInt := (congrArg Int32.toInt (show σ195 18 0 = (σ 18 0) from ((congrFun (f197 18 (of_decide_eq_true rfl)) 0).trans ((congrFun (f141 18 (of_decide_eq_true rfl)) 0).trans ((congrFun (f82 18 (of_decide_eq_true rfl)) 0).trans ((congrFun (f47 18 (of_decide_eq_true rfl)) 0).trans ((congrFun (f29 18 (of_decide_eq_true rfl)) 0).trans (congrFun (f8 18 (of_decide_eq_true rfl)) 0))))))))
                  exact by exact hret r196 σ195 τ _ _ _ _ rfl ⟨rfl, (fun i hi => ((f197 i (imp_63 i hi)).trans ((f141 i (imp_63 i hi)).trans ((f82 i (imp_64 i hi)).trans ((f47 i (imp_64 i hi)).trans ((f29 i (imp_65 i hi)).trans (f8 i (imp_63 i hi)))))))), (fun i hi => ((f198 i (imp_48 i hi)).trans ((f142 i (imp_51 i hi)).trans ((f83 i (imp_49 i hi)).trans ((f48 i (imp_49 i hi)).trans ((congrFun (f29 9 (of_decide_eq_true rfl)) i).trans (f9 i (imp_49 i hi)))))))), (fun i hi => ((congrFun (f197 12 (of_decide_eq_true rfl)) i).trans ((congrFun (f141 12 (of_decide_eq_true rfl)) i).trans ((f84 i hi).trans ((f49 i hi).trans ((f30 i hi).trans (congrFun (f8 12 (of_decide_eq_true rfl)) i))))))), (fun i hi => ((congrFun (f197 18 (of_decide_eq_true rfl)) i).trans ((congrFun (f141 18 (of_decide_eq_true rfl)) i).trans ((congrFun (f82 18 (of_decide_eq_true rfl)) i).trans ((congrFun (f47 18 (of_decide_eq_true rfl)) i).trans ((congrFun (f29 18 (of_decide_eq_true rfl)) i).trans (congrFun (f8 18 (of_decide_eq_true rfl)) i))))))), I199, I231, I232, p233, (jCx.to (jCt.fin (e := (r196 : Int32).toInt) q87 (fun z => k193 (by omega)) (by omega)) ((f197 13 (of_decide_eq_true rfl)).trans (f141 13 (of_decide_eq_true rfl))) (by omega)), (jTn.of (jCx.to (g2 := σ195 13) (l2 := (σ195 12 0).toInt) (jCt.fin (e := (r196 : Int32).toInt) q87 (fun z => k193 (by omega)) (by omega)) ((f197 13 (of_decide_eq_true rfl)).trans (f141 13 (of_decide_eq_true rfl))) (by omega)) (by omega) p233 (Or.inr ⟨(by omega), ((f197 19 (of_decide_eq_true rfl)).trans ((f141 19 (of_decide_eq_true rfl)).trans ((f82 19 (of_decide_eq_true rfl)).trans ((f47 19 (of_decide_eq_true rfl)).trans ((f29 19 (of_decide_eq_true rfl)).trans (f8 19 (of_decide_eq_true rfl))))))), by omega, ((congrFun (f197 18 (of_decide_eq_true rfl)) 1).trans ((congrFun (f141 18 (of_decide_eq_true rfl)) 1).trans ((congrFun (f82 18 (of_decide_eq_true rfl)) 1).trans ((congrFun (f47 18 (of_decide_eq_true rfl)) 1).trans ((congrFun (f29 18 (of_decide_eq_true rfl)) 1).trans (congrFun (f8 18 (of_decide_eq_true rfl)) 1))))))⟩)), (by omega), ⟨trivial, (by omega)⟩⟩ hP hS dX7_readText_61
   exact by exact lp69 1000000 0 σ45 _ _ ls (by have h90 := jz_0; omega) (by have h90 := jz_0; omega) (by have h90 := jz_0; omega) (by have h90 := jz_0; omega) (by have h90 := jz_0; omega) (by have h90 := jz_0; omega) (by have h90 := jz_0; omega) (by have h90 := jz_0; omega) (fun _ _ => rfl) (fun _ _ => rfl) (fun _ _ => rfl)  p54 I53 (jCt.begin w55 (by omega) (by omega)) hP hS hl
set_option maxHeartbeats 4000000 in
set_option maxRecDepth 100000 in
theorem c_X7_readText_9_v1 (l : Launch) (D : va_G) (cI cL : ClassId) (ad zz : Nat → Nat) (hJ : jD ad) (σ : Nat → Nat → Int32) (τ : Nat → Nat → Int64) (hI9 : jI9 σ) (hI12 : jI12 σ) (hI22 : jI22 σ) (hs_jNd12 : jNd12 σ) : jM l yX7_readText cX7_readText 3 (some .int) ({ frames := 66, cells := 0, slots := 0, locals := 2845 }) D cI cL ad zz [.ref (ad 9), .ref (ad 22)] σ τ (fun r σ' τ' => τ = τ' ∧ (∀ i : Nat, (i < 9 ∨ 9 < i) ∧ (i < 12 ∨ 13 < i) ∧ (i < 22 ∨ 23 < i) → σ' i = σ i) ∧ (∀ k : Nat, (k < 0 ∨ 0 < k) ∧ (k < 1 ∨ 1 < k) ∧ (k < 2 ∨ 2 < k) → σ' 9 k = σ 9 k) ∧ (∀ k : Nat, (k < 0 ∨ 0 < k) ∧ (k < 1 ∨ 1 < k) → σ' 12 k = σ 12 k) ∧ (∀ k : Nat, (k < 0 ∨ 0 < k) ∧ (k < 1 ∨ 1 < k) → σ' 22 k = σ 22 k) ∧ (jI9 σ') ∧ (jI12 σ') ∧ (jI22 σ') ∧ (jNd12 σ') ∧ (jCx (σ 10) (σ 9 0).toInt (r.toInt) (σ 13) (σ' 13) (σ' 12 0).toInt) ∧ (jTn (σ 10) (σ 9 0).toInt (r.toInt) (σ' 23) (σ 23) (σ' 22 0).toInt (σ 22 0).toInt (σ' 22 1) (σ 22 1)) ∧ ((σ' 9 0).toInt = 0) ∧ ((True ∧ ((-1) ≤ r.toInt ∧ r.toInt ≤ 80)))) := by
  refine jM.of hJ (by decide +kernel) (nt := .int) rfl (Nat.le_of_ble_eq_true rfl) ?_
  intro p e s m args below meth c Q ls hC hret hl hP
  obtain ⟨hx, hb, hr, hml, hown, hts, hK, -, hlocks, hZ⟩ := hC
  have hown : s.vm.findClass RX7 = some m.cls := hown
  have hS : va_S (jA ad) s.heap s.heap [] := va_S.rf
  have hA : ∀ q, jA ad q → jA ad q := fun _ h => h
  have hl : lv_has ls 3 [(0, .ref (ad 9)), (1, .ref (ad 22))] := hl
  obtain ⟨i1, w2, w3⟩ : (0 ≤ (σ 9 0).toInt ∧ (σ 9 0).toInt ≤ 80) ∧ (∀ k : Nat, k < 80 → 0 ≤ (σ 10 k).toInt ∧ (σ 10 k).toInt ≤ 255) ∧ (∀ k : Nat, k < 8 → 0 ≤ (σ 11 k).toInt ∧ (σ 11 k).toInt ≤ 3) := id hI9
  obtain ⟨i4, w5⟩ : (0 ≤ (σ 12 0).toInt ∧ (σ 12 0).toInt ≤ 160) ∧ (∀ k : Nat, k < 160 → 0 ≤ (σ 13 k).toInt ∧ (σ 13 k).toInt ≤ 30000) := id hI12
  refine lv_aload_n hx hb dX7_readText_0 rfl (lv_at hl 0 rfl) ?_
  refine jcallVv (As := []) (rest := []) ⟨hx, hb, hml, hown, hts⟩ hK hP hA hS hZ (c_X7_begin_9 l D cI cL ad zz hJ σ τ hI9) cw_RX7_47 (jc_9 cI cL ad σ τ) rfl ⟨Nat.le_of_ble_eq_true rfl, Nat.le_of_ble_eq_true rfl⟩ rfl rfl rfl hl.1 rfl (Nat.le_of_ble_eq_true rfl) dX7_readText_1 ⟨Nat.zero_le _, Nat.zero_le _⟩ (fun σ6 τ6 H locs h6 hP hS => ?_)
  obtain ⟨rfl, f8, f9, m10, m11, I12, I13, I14, h6⟩ := h6
  obtain ⟨i16, w17, w18⟩ : (0 ≤ (σ6 9 0).toInt ∧ (σ6 9 0).toInt ≤ 80) ∧ (∀ k : Nat, k < 80 → 0 ≤ (σ6 10 k).toInt ∧ (σ6 10 k).toInt ≤ 255) ∧ (∀ k : Nat, k < 8 → 0 ≤ (σ6 11 k).toInt ∧ (σ6 11 k).toInt ≤ 3) := id I12
  obtain ⟨i19, i20⟩ : (0 ≤ (σ6 9 1).toInt) ∧ ((σ6 9 1).toInt ≤ (σ6 9 0).toInt) := id I13
  have i21 : (-1) ≤ (σ6 9 2).toInt ∧ (σ6 9 2).toInt ≤ 80 := I14
  have z22 : (σ6 9 0).toInt = (σ 9 0).toInt := (congrArg Int32.toInt (show σ6 9 0 = (σ 9 0) from (f9 0 (of_decide_eq_true rfl))))
  have z23 : (σ6 9 1).toInt = 0 := ((congrArg Int32.toInt (show σ6 9 1 = 0 from m10)).trans jz_0)
  have z24 : (σ6 9 2).toInt = (-1) := ((congrArg Int32.toInt (show σ6 9 2 = (-1) from m11)).trans jz_m1)
  refine lv_aload_n hx hb dX7_readText_4 rfl (lv_at hl 0 rfl) ?_
  refine va_get (D := D) hx hb hts inlX7 hown hK hP 9 (jc_9 cI cL ad σ6 τ) rfl 5 (of_decide_eq_true rfl) (hts _ kw_3_23) (fun _ h9 => h9) rfl dX7_readText_5 ?_
  have w25 : ∀ k : Nat, k < 160 → 0 ≤ (σ6 13 k).toInt ∧ (σ6 13 k).toInt ≤ 30000 := (jrr_fr (f8 13 (of_decide_eq_true rfl)) w5)
  have p26 : jNd12 σ6 := jNd12.fr (congrFun (f8 12 (of_decide_eq_true rfl)) 0) (congrFun (f8 12 (of_decide_eq_true rfl)) 1) (f8 13 (of_decide_eq_true rfl)) hs_jNd12
  refine jcallVv (As := []) (rest := []) ⟨hx, hb, hml, hown, hts⟩ hK hP hA hS hZ (c_X10_begin_12 l D cI cL ad zz hJ σ6 τ w25 p26) cw_RX7_74 (jc_12 cI cL ad σ6 τ) rfl ⟨Nat.le_of_ble_eq_true rfl, Nat.le_of_ble_eq_true rfl⟩ rfl rfl rfl hl.1 rfl (Nat.le_of_ble_eq_true rfl) dX7_readText_8 ⟨Nat.zero_le _, Nat.zero_le _⟩ (fun σ27 τ27 H locs h27 hP hS => ?_)
  obtain ⟨rfl, f29, f30, m31, m32, I33, p34, w35, h27⟩ := h27
  obtain ⟨i37, w38⟩ : (0 ≤ (σ27 12 0).toInt ∧ (σ27 12 0).toInt ≤ 160) ∧ (∀ k : Nat, k < 160 → 0 ≤ (σ27 13 k).toInt ∧ (σ27 13 k).toInt ≤ 30000) := id I33
  have z39 : (σ27 12 0).toInt = 0 := ((congrArg Int32.toInt (show σ27 12 0 = 0 from m31)).trans jz_0)
  refine lv_aload_n hx hb dX7_readText_11 rfl (lv_at hl 0 rfl) ?_
  have I40 : jI9 σ27 := jI9_fr (congrFun (f29 9 (of_decide_eq_true rfl)) 0) (f29 10 (of_decide_eq_true rfl)) (f29 11 (of_decide_eq_true rfl)) I12
  have I41 : jI91 σ27 := jI91_fr (congrFun (f29 9 (of_decide_eq_true rfl)) 0) (congrFun (f29 9 (of_decide_eq_true rfl)) 1) I13
  have I42 : jI92 σ27 := jI92_fr (congrFun (f29 9 (of_decide_eq_true rfl)) 2) I14
  have z43 : (σ27 9 2).toInt = (-1) := ((congrArg Int32.toInt (show σ27 9 2 = (-1) from ((congrFun (f29 9 (of_decide_eq_true rfl)) 2).trans m11))).trans jz_m1)
  have z44 : (σ27 9 1).toInt = 0 := ((congrArg Int32.toInt (show σ27 9 1 = 0 from ((congrFun (f29 9 (of_decide_eq_true rfl)) 1).trans m10))).trans jz_0)
  exact by
   refine jcallVv (As := []) (rest := []) ⟨hx, hb, hml, hown, hts⟩ hK hP hA hS hZ (c_X7_readLine_9 l D cI cL ad zz hJ σ27 τ I40 I41 I42 I33 p34 (by omega) (by omega)) cw_RX7_75 (jc_9 cI cL ad σ27 τ) rfl ⟨Nat.le_of_ble_eq_true rfl, Nat.le_of_ble_eq_true rfl⟩ rfl rfl rfl hl.1 rfl (Nat.le_of_ble_eq_true rfl) dX7_readText_12 ⟨Nat.zero_le _, Nat.zero_le _⟩ (fun σ45 τ45 H locs h45 hP hS => ?_)
   obtain ⟨rfl, f47, f48, f49, I50, I51, I52, I53, p54, w55, h45⟩ := h45
   obtain ⟨i57, w58, w59⟩ : (0 ≤ (σ45 9 0).toInt ∧ (σ45 9 0).toInt ≤ 80) ∧ (∀ k : Nat, k < 80 → 0 ≤ (σ45 10 k).toInt ∧ (σ45 10 k).toInt ≤ 255) ∧ (∀ k : Nat, k < 8 → 0 ≤ (σ45 11 k).toInt ∧ (σ45 11 k).toInt ≤ 3) := id I50
   obtain ⟨i60, i61⟩ : (0 ≤ (σ45 9 1).toInt) ∧ ((σ45 9 1).toInt ≤ (σ45 9 0).toInt) := id I51
   have i62 : (-1) ≤ (σ45 9 2).toInt ∧ (σ45 9 2).toInt ≤ 80 := I52
   obtain ⟨i63, w64⟩ : (0 ≤ (σ45 12 0).toInt ∧ (σ45 12 0).toInt ≤ 160) ∧ (∀ k : Nat, k < 160 → 0 ≤ (σ45 13 k).toInt ∧ (σ45 13 k).toInt ≤ 30000) := id I53
   have z65 : (σ27 9 0).toInt = (σ 9 0).toInt := (congrArg Int32.toInt (show σ27 9 0 = (σ 9 0) from ((congrFun (f29 9 (of_decide_eq_true rfl)) 0).trans (f9 0 (of_decide_eq_true rfl)))))
   try rw [show (σ27 9 1).toInt = 0 from by omega] at w55
   try rw [show (σ27 9 0).toInt = (σ 9 0).toInt from by omega] at w55
   try rw [show σ27 10 = σ 10 from ((f29 10 (of_decide_eq_true rfl)).trans (f8 10 (of_decide_eq_true rfl)))] at w55
   try rw [show σ27 13 = σ 13 from by rw [f29 13 (of_decide_eq_true rfl), f8 13 (of_decide_eq_true rfl)]] at w55
   try rw [show (σ27 12 0).toInt = 0 from by omega] at w55
   have z66 : (σ45 9 0).toInt = (σ 9 0).toInt := (congrArg Int32.toInt (show σ45 9 0 = (σ 9 0) from ((f48 0 (of_decide_eq_true rfl)).trans ((congrFun (f29 9 (of_decide_eq_true rfl)) 0).trans (f9 0 (of_decide_eq_true rfl))))))
   obtain ⟨k67, k68, h45⟩ := h45
   refine lv_iconst (v := 0) hx hb dX7_readText_15 (of_decide_eq_true rfl) ?_
   refine lv_istore_n (lv' := [(2, .int 0), (0, .ref (ad 9)), (1, .ref (ad 22))]) hx hb dX7_readText_16 rfl hl (of_decide_eq_true rfl) rfl (fun ls hl => ?_)
   have lp69 : ∀ (n70 : Nat) (x71 : Int32) (σ72 : Nat → Nat → Int32) (H : Heap) (locs : List Loc) (ls : Array Slot), (-x71.toInt + 80 : Int) < n70 → 0 ≤ x71.toInt → x71.toInt ≤ 80 → 0 ≤ (σ72 9 1).toInt → (σ72 9 1).toInt ≤ (σ72 9 0).toInt → (-1) ≤ (σ72 9 2).toInt ∧ (σ72 9 2).toInt ≤ 80 → ((0 ≤ (σ72 9 2).toInt) ∨ (3 * (σ72 12 0).toInt ≤ 4 * (σ72 9 1).toInt + 3)) → x71.toInt ≤ (σ72 9 1).toInt → (∀ i : Nat, (i < 9 ∨ 9 < i) ∧ (i < 12 ∨ 13 < i) → σ72 i = σ45 i) → (∀ k : Nat, (k < 1 ∨ 1 < k) ∧ (k < 2 ∨ 2 < k) → σ72 9 k = σ45 9 k) → (∀ k : Nat, (k < 0 ∨ 0 < k) ∧ (k < 1 ∨ 1 < k) → σ72 12 k = σ45 12 k) → jNd12 σ72 → jI12 σ72 → (jCt (σ 10) (σ 9 0).toInt (σ72 9 1).toInt (σ72 9 2).toInt (σ 13) (σ72 13) (σ72 12 0).toInt) → jH D cI cL ad σ72 τ H → va_S (jA ad) s.heap H locs → lv_has ls 3 [(2, .int x71), (0, .ref (ad 9)), (1, .ref (ad 22))] → W p l e ({ frames := 66, cells := 0, slots := 0, locals := 2845 }) s m args below meth c H locs 0 0 Q (F0 m 17 ls []) := by
     intro n70
     induction n70 with
     | zero => intro x71 σ72 H locs ls h74 h75 h76 h77 h78 h79 h80 h81; exact absurd h74 (by omega)
     | succ n70 ihlp69 =>
       intro x71 σ72 H locs ls h74 h75 h76 h77 h78 h79 h80 h81 f82 f83 f84 p85 p86 q87 hP hS hl
       exact by
        obtain ⟨i88, w89⟩ : (0 ≤ (σ72 12 0).toInt ∧ (σ72 12 0).toInt ≤ 160) ∧ (∀ k : Nat, k < 160 → 0 ≤ (σ72 13 k).toInt ∧ (σ72 13 k).toInt ≤ 30000) := id p86
        have z90 : (σ72 9 0).toInt = (σ 9 0).toInt := (congrArg Int32.toInt (show σ72 9 0 = (σ 9 0) from ((f83 0 (of_decide_eq_true rfl)).trans ((f48 0 (of_decide_eq_true rfl)).trans ((congrFun (f29 9 (of_decide_eq_true rfl)) 0).trans (f9 0 (of_decide_eq_true rfl)))))))
        refine lv_iload_n hx hb dX7_readText_17 rfl (lv_at hl 0 rfl) ?_
        refine lv_bipush (v := 80) hx hb dX7_readText_18 (of_decide_eq_true rfl) ?_
        refine lv_icmp_ge (tgt := 42) hx hb dX7_readText_20 (of_decide_eq_true rfl) (fun c91 => ?_) (fun c91 => ?_)
        · have kc91 := jle c91 jz_80 rfl
          refine lv_aload_n hx hb dX7_readText_42 rfl (lv_at hl 1 rfl) ?_
          have I92 : jI9 σ72 := jI9_fr (f83 0 (of_decide_eq_true rfl)) (f82 10 (of_decide_eq_true rfl)) (f82 11 (of_decide_eq_true rfl)) I50
          have I93 : jI91 σ72 := ⟨(by omega), (by omega)⟩
          exact by
           have I94 : jI92 σ72 := (show (-1) ≤ (σ72 9 2).toInt ∧ (σ72 9 2).toInt ≤ 80 by omega)
           refine jcallV (As := []) (rest := []) ⟨hx, hb, hml, hown, hts⟩ hK hP hA hS hZ (c_X7_end_9 l D cI cL ad zz hJ σ72 τ I92 I93 I94) cw_RX7_57 (jc_9 cI cL ad σ72 τ) rfl ⟨Nat.le_of_ble_eq_true rfl, Nat.le_of_ble_eq_true rfl⟩ rfl rfl rfl hl.1 rfl (Nat.le_of_ble_eq_true rfl) dX7_readText_43 ⟨Nat.zero_le _, Nat.zero_le _⟩ (fun r96 σ95 τ95 H locs h95 hP hS => ?_)
           obtain ⟨rfl, f97, f98, I99, I100, h95⟩ := h95
           obtain ⟨i102, w103, w104⟩ : (0 ≤ (σ95 9 0).toInt ∧ (σ95 9 0).toInt ≤ 80) ∧ (∀ k : Nat, k < 80 → 0 ≤ (σ95 10 k).toInt ∧ (σ95 10 k).toInt ≤ 255) ∧ (∀ k : Nat, k < 8 → 0 ≤ (σ95 11 k).toInt ∧ (σ95 11 k).toInt ≤ 3) := id I99
           have i105 : (-1) ≤ (σ95 9 2).toInt ∧ (σ95 9 2).toInt ≤ 80 := I100
           obtain ⟨k106, h95⟩ := h95
           rcases h95 with h107 | h108
           · obtain ⟨q111, k109, k110⟩ := h107
             have q111 := q111.symm
             subst q111
             refine lv_istore_n (lv' := [(2, .int (-1)), (0, .ref (ad 9)), (1, .ref (ad 22))]) hx hb dX7_readText_46 rfl hl (of_decide_eq_true rfl) rfl (fun ls hl => ?_)
             refine lv_iload_n hx hb dX7_readText_47 rfl (lv_at hl 0 rfl) ?_
             refine lv_iconst (v := (-1)) hx hb dX7_readText_48 (of_decide_eq_true rfl) ?_
             refine lv_icmp_ne (tgt := 60) hx hb dX7_readText_49 (of_decide_eq_true rfl) (fun c => absurd (of_decide_eq_true rfl) c) (fun _ => ?_)
             refine lv_aload_n hx hb dX7_readText_52 rfl (lv_at hl 2 rfl) ?_
             refine lv_aload_n hx hb dX7_readText_53 rfl (lv_at hl 1 rfl) ?_
             refine va_get (D := D) hx hb hts inlX7 hown hK hP 9 (jc_9 cI cL ad σ95 τ) rfl 5 (of_decide_eq_true rfl) (hts _ kw_3_23) (fun _ h9 => h9) rfl dX7_readText_54 ?_
             have I112 : jI12 σ95 := jI12_fr (congrFun (f97 12 (of_decide_eq_true rfl)) 0) (f97 13 (of_decide_eq_true rfl)) p86
             have I113 : jI22 σ95 := jI22_fr ((congrFun (f97 22 (of_decide_eq_true rfl)) 0).trans ((congrFun (f82 22 (of_decide_eq_true rfl)) 0).trans ((congrFun (f47 22 (of_decide_eq_true rfl)) 0).trans ((congrFun (f29 22 (of_decide_eq_true rfl)) 0).trans (congrFun (f8 22 (of_decide_eq_true rfl)) 0))))) ((f97 23 (of_decide_eq_true rfl)).trans ((f82 23 (of_decide_eq_true rfl)).trans ((f47 23 (of_decide_eq_true rfl)).trans ((f29 23 (of_decide_eq_true rfl)).trans (f8 23 (of_decide_eq_true rfl)))))) hI22
             refine jcallVv (As := [.ref (ad 12)]) (rest := []) ⟨hx, hb, hml, hown, hts⟩ hK hP hA hS hZ (c_X10_copyFrom_22 l D cI cL ad zz hJ σ95 τ I112 I113) cw_RX7_78 (jc_22 cI cL ad σ95 τ) rfl ⟨Nat.le_of_ble_eq_true rfl, Nat.le_of_ble_eq_true rfl⟩ rfl rfl rfl hl.1 rfl (Nat.le_of_ble_eq_true rfl) dX7_readText_57 ⟨Nat.zero_le _, Nat.zero_le _⟩ (fun σ114 τ114 H locs h114 hP hS => ?_)
             obtain ⟨rfl, f116, f117, I118, w119, h114⟩ := h114
             refine lv_iload_n hx hb dX7_readText_60 rfl (lv_at hl 0 rfl) ?_
             have I121 : jI9 σ114 := jI9_fr (congrFun (f116 9 (of_decide_eq_true rfl)) 0) (f116 10 (of_decide_eq_true rfl)) (f116 11 (of_decide_eq_true rfl)) I99
             have I122 : jI12 σ114 := jI12_fr (congrFun (f116 12 (of_decide_eq_true rfl)) 0) (f116 13 (of_decide_eq_true rfl)) I112
             have p123 : jNd12 σ114 := jNd12.fr ((congrFun (f116 12 (of_decide_eq_true rfl)) 0).trans (congrFun (f97 12 (of_decide_eq_true rfl)) 0)) ((congrFun (f116 12 (of_decide_eq_true rfl)) 1).trans (congrFun (f97 12 (of_decide_eq_true rfl)) 1)) ((f116 13 (of_decide_eq_true rfl)).trans (f97 13 (of_decide_eq_true rfl))) p85
             have z124 : (σ114 12 0).toInt = (σ72 12 0).toInt := (congrArg Int32.toInt (show σ114 12 0 = (σ72 12 0) from ((congrFun (f116 12 (of_decide_eq_true rfl)) 0).trans (congrFun (f97 12 (of_decide_eq_true rfl)) 0))))
             have z125 : (σ95 12 0).toInt = (σ72 12 0).toInt := (congrArg Int32.toInt (show σ95 12 0 = (σ72 12 0) from (congrFun (f97 12 (of_decide_eq_true rfl)) 0)))
             have z126 : (σ114 9 0).toInt = (σ95 9 0).toInt := (congrArg Int32.toInt (show σ114 9 0 = (σ95 9 0) from (congrFun (f116 9 (of_decide_eq_true rfl)) 0)))
             exact by exact hret (-1) σ114 τ _ _ _ _ rfl ⟨rfl, (fun i hi => ((f116 i (imp_66 i hi)).trans ((f97 i (imp_67 i hi)).trans ((f82 i (imp_68 i hi)).trans ((f47 i (imp_68 i hi)).trans ((f29 i (imp_69 i hi)).trans (f8 i (imp_67 i hi)))))))), (fun i hi => ((congrFun (f116 9 (of_decide_eq_true rfl)) i).trans ((f98 i (imp_48 i hi)).trans ((f83 i (imp_49 i hi)).trans ((f48 i (imp_49 i hi)).trans ((congrFun (f29 9 (of_decide_eq_true rfl)) i).trans (f9 i (imp_49 i hi)))))))), (fun i hi => ((congrFun (f116 12 (of_decide_eq_true rfl)) i).trans ((congrFun (f97 12 (of_decide_eq_true rfl)) i).trans ((f84 i hi).trans ((f49 i hi).trans ((f30 i hi).trans (congrFun (f8 12 (of_decide_eq_true rfl)) i))))))), (fun i hi => ((f117 i hi).trans ((congrFun (f97 22 (of_decide_eq_true rfl)) i).trans ((congrFun (f82 22 (of_decide_eq_true rfl)) i).trans ((congrFun (f47 22 (of_decide_eq_true rfl)) i).trans ((congrFun (f29 22 (of_decide_eq_true rfl)) i).trans (congrFun (f8 22 (of_decide_eq_true rfl)) i))))))), I121, I122, I118, p123, (jCx.to (jCt.fin (e := ((-1) : Int32).toInt) q87 (fun _ => by rw [jYs_n (by omega)]; decide) (by have h9 := jz_m1; omega)) ((f116 13 (of_decide_eq_true rfl)).trans (f97 13 (of_decide_eq_true rfl))) (by omega)), (jTn.of (jCx.to (g2 := σ114 13) (l2 := (σ114 12 0).toInt) (jCt.fin (e := ((-1) : Int32).toInt) q87 (fun _ => by rw [jYs_n (by omega)]; decide) (by have h9 := jz_m1; omega)) ((f116 13 (of_decide_eq_true rfl)).trans (f97 13 (of_decide_eq_true rfl))) (by omega)) (by omega) p123 (Or.inl ⟨(by have h9 := jz_m1; omega), (fun j hj => ((w119).1 j (by omega)).trans (congrFun (show σ95 13 = σ114 13 from ((f116 13 (of_decide_eq_true rfl))).symm) j)), by omega, (w119).2.2.trans (show σ95 12 1 = σ114 12 1 from ((congrFun (f116 12 (of_decide_eq_true rfl)) 1)).symm)⟩)), (by omega), ⟨trivial, (by have h9 := jz_m1; omega)⟩⟩ hP hS dX7_readText_61
           · obtain ⟨q129, k127, k128⟩ := h108
             refine lv_istore_n (lv' := [(2, .int r96), (0, .ref (ad 9)), (1, .ref (ad 22))]) hx hb dX7_readText_46 rfl hl (of_decide_eq_true rfl) rfl (fun ls hl => ?_)
             refine lv_iload_n hx hb dX7_readText_47 rfl (lv_at hl 0 rfl) ?_
             refine lv_iconst (v := (-1)) hx hb dX7_readText_48 (of_decide_eq_true rfl) ?_
             exact by
              refine lv_icmp_ne (tgt := 60) hx hb dX7_readText_49 (of_decide_eq_true rfl) (fun c130 => ?_) (fun c => absurd (jeq c rfl jz_m1) (by omega))
              have kc130 := jne c130 rfl jz_m1
              refine lv_iload_n hx hb dX7_readText_60 rfl (lv_at hl 0 rfl) ?_
              have I131 : jI12 σ95 := jI12_fr (congrFun (f97 12 (of_decide_eq_true rfl)) 0) (f97 13 (of_decide_eq_true rfl)) p86
              have I132 : jI22 σ95 := jI22_fr ((congrFun (f97 22 (of_decide_eq_true rfl)) 0).trans ((congrFun (f82 22 (of_decide_eq_true rfl)) 0).trans ((congrFun (f47 22 (of_decide_eq_true rfl)) 0).trans ((congrFun (f29 22 (of_decide_eq_true rfl)) 0).trans (congrFun (f8 22 (of_decide_eq_true rfl)) 0))))) ((f97 23 (of_decide_eq_true rfl)).trans ((f82 23 (of_decide_eq_true rfl)).trans ((f47 23 (of_decide_eq_true rfl)).trans ((f29 23 (of_decide_eq_true rfl)).trans (f8 23 (of_decide_eq_true rfl)))))) hI22
              have p133 : jNd12 σ95 := jNd12.fr (congrFun (f97 12 (of_decide_eq_true rfl)) 0) (congrFun (f97 12 (of_decide_eq_true rfl)) 1) (f97 13 (of_decide_eq_true rfl)) p85
              have z134 : (σ95 12 0).toInt = (σ72 12 0).toInt := (congrArg Int32.toInt (show σ95 12 0 = (σ72 12 0) from (congrFun (f97 12 (of_decide_eq_true rfl)) 0)))
              have z135 : (σ95 22 0).toInt = (σ 22 0).toInt := (congrArg Int32.toInt (show σ95 22 0 = (σ 22 0) from ((congrFun (f97 22 (of_decide_eq_true rfl)) 0).trans ((congrFun (f82 22 (of_decide_eq_true rfl)) 0).trans ((congrFun (f47 22 (of_decide_eq_true rfl)) 0).trans ((congrFun (f29 22 (of_decide_eq_true rfl)) 0).trans (congrFun (f8 22 (of_decide_eq_true rfl)) 0)))))))
              exact by exact hret r96 σ95 τ _ _ _ _ rfl ⟨rfl, (fun i hi => ((f97 i (imp_67 i hi)).trans ((f82 i (imp_68 i hi)).trans ((f47 i (imp_68 i hi)).trans ((f29 i (imp_69 i hi)).trans (f8 i (imp_67 i hi))))))), (fun i hi => ((f98 i (imp_48 i hi)).trans ((f83 i (imp_49 i hi)).trans ((f48 i (imp_49 i hi)).trans ((congrFun (f29 9 (of_decide_eq_true rfl)) i).trans (f9 i (imp_49 i hi))))))), (fun i hi => ((congrFun (f97 12 (of_decide_eq_true rfl)) i).trans ((f84 i hi).trans ((f49 i hi).trans ((f30 i hi).trans (congrFun (f8 12 (of_decide_eq_true rfl)) i)))))), (fun i hi => ((congrFun (f97 22 (of_decide_eq_true rfl)) i).trans ((congrFun (f82 22 (of_decide_eq_true rfl)) i).trans ((congrFun (f47 22 (of_decide_eq_true rfl)) i).trans ((congrFun (f29 22 (of_decide_eq_true rfl)) i).trans (congrFun (f8 22 (of_decide_eq_true rfl)) i)))))), I99, I131, I132, p133, (jCx.to (jCt.fin (e := (r96 : Int32).toInt) q87 (fun _ => by rw [jYs_n (by omega)]; decide) (by omega)) (f97 13 (of_decide_eq_true rfl)) (by omega)), (jTn.of (jCx.to (g2 := σ95 13) (l2 := (σ95 12 0).toInt) (jCt.fin (e := (r96 : Int32).toInt) q87 (fun _ => by rw [jYs_n (by omega)]; decide) (by omega)) (f97 13 (of_decide_eq_true rfl)) (by omega)) (by omega) p133 (Or.inr ⟨(by omega), ((f97 23 (of_decide_eq_true rfl)).trans ((f82 23 (of_decide_eq_true rfl)).trans ((f47 23 (of_decide_eq_true rfl)).trans ((f29 23 (of_decide_eq_true rfl)).trans (f8 23 (of_decide_eq_true rfl)))))), by omega, ((congrFun (f97 22 (of_decide_eq_true rfl)) 1).trans ((congrFun (f82 22 (of_decide_eq_true rfl)) 1).trans ((congrFun (f47 22 (of_decide_eq_true rfl)) 1).trans ((congrFun (f29 22 (of_decide_eq_true rfl)) 1).trans (congrFun (f8 22 (of_decide_eq_true rfl)) 1)))))⟩)), (by omega), ⟨trivial, (by omega)⟩⟩ hP hS dX7_readText_61
        · have kc91 := jnle c91 jz_80 rfl
          refine lv_aload_n hx hb dX7_readText_23 rfl (lv_at hl 1 rfl) ?_
          refine lv_bipush (v := 59) hx hb dX7_readText_24 (of_decide_eq_true rfl) ?_
          have I136 : jI9 σ72 := jI9_fr (f83 0 (of_decide_eq_true rfl)) (f82 10 (of_decide_eq_true rfl)) (f82 11 (of_decide_eq_true rfl)) I50
          exact by
           have I137 : jI91 σ72 := ⟨(by omega), (by omega)⟩
           have I138 : jI92 σ72 := (show (-1) ≤ (σ72 9 2).toInt ∧ (σ72 9 2).toInt ≤ 80 by omega)
           refine jcallV (As := [.int 59]) (rest := []) ⟨hx, hb, hml, hown, hts⟩ hK hP hA hS hZ (c_X7_skip_9 l D cI cL ad zz hJ σ72 τ 59 (59) jz_59 I136 I137 I138 (by omega)) cw_RX7_50 (jc_9 cI cL ad σ72 τ) rfl ⟨Nat.le_of_ble_eq_true rfl, Nat.le_of_ble_eq_true rfl⟩ rfl rfl rfl hl.1 rfl (Nat.le_of_ble_eq_true rfl) dX7_readText_26 ⟨Nat.zero_le _, Nat.zero_le _⟩ (fun r140 σ139 τ139 H locs h139 hP hS => ?_)
           obtain ⟨rfl, f141, f142, I143, I144, I145, h139⟩ := h139
           obtain ⟨i147, w148, w149⟩ : (0 ≤ (σ139 9 0).toInt ∧ (σ139 9 0).toInt ≤ 80) ∧ (∀ k : Nat, k < 80 → 0 ≤ (σ139 10 k).toInt ∧ (σ139 10 k).toInt ≤ 255) ∧ (∀ k : Nat, k < 8 → 0 ≤ (σ139 11 k).toInt ∧ (σ139 11 k).toInt ≤ 3) := id I143
           obtain ⟨i150, i151⟩ : (0 ≤ (σ139 9 1).toInt) ∧ ((σ139 9 1).toInt ≤ (σ139 9 0).toInt) := id I144
           have i152 : (-1) ≤ (σ139 9 2).toInt ∧ (σ139 9 2).toInt ≤ 80 := I145
           have z153 : (σ139 9 0).toInt = (σ 9 0).toInt := (congrArg Int32.toInt (show σ139 9 0 = (σ 9 0) from ((f142 0 (of_decide_eq_true rfl)).trans ((f83 0 (of_decide_eq_true rfl)).trans ((f48 0 (of_decide_eq_true rfl)).trans ((congrFun (f29 9 (of_decide_eq_true rfl)) 0).trans (f9 0 (of_decide_eq_true rfl))))))))
           have z154 : (σ139 9 2).toInt = (σ72 9 2).toInt := (congrArg Int32.toInt (show σ139 9 2 = (σ72 9 2) from (f142 2 (of_decide_eq_true rfl))))
           exact by
            rcases h139 with h155 | h156
            · obtain ⟨q162, k157, k158, k159, k160, k161⟩ := h155
              have q162 := q162.symm
              subst q162
              try rw [show (σ72 9 0).toInt = (σ 9 0).toInt from by omega] at k161
              try rw [show σ72 10 = σ 10 from ((f82 10 (of_decide_eq_true rfl)).trans ((f47 10 (of_decide_eq_true rfl)).trans ((f29 10 (of_decide_eq_true rfl)).trans (f8 10 (of_decide_eq_true rfl)))))] at k161
              refine lv_if_eq (tgt := 42) hx hb dX7_readText_29 (of_decide_eq_true rfl) (fun c => absurd c (of_decide_eq_true rfl)) (fun _ => ?_)
              refine lv_aload_n hx hb dX7_readText_32 rfl (lv_at hl 1 rfl) ?_
              have I163 : jI12 σ139 := jI12_fr (congrFun (f141 12 (of_decide_eq_true rfl)) 0) (f141 13 (of_decide_eq_true rfl)) p86
              have p164 : jNd12 σ139 := jNd12.fr (congrFun (f141 12 (of_decide_eq_true rfl)) 0) (congrFun (f141 12 (of_decide_eq_true rfl)) 1) (f141 13 (of_decide_eq_true rfl)) p85
              have z165 : (σ139 12 0).toInt = (σ72 12 0).toInt := (congrArg Int32.toInt (show σ139 12 0 = (σ72 12 0) from (congrFun (f141 12 (of_decide_eq_true rfl)) 0)))
              exact by
               refine jcallVv (As := []) (rest := []) ⟨hx, hb, hml, hown, hts⟩ hK hP hA hS hZ (c_X7_readLine_9 l D cI cL ad zz hJ σ139 τ I143 I144 I145 I163 p164 (by omega) (by omega)) cw_RX7_75 (jc_9 cI cL ad σ139 τ) rfl ⟨Nat.le_of_ble_eq_true rfl, Nat.le_of_ble_eq_true rfl⟩ rfl rfl rfl hl.1 rfl (Nat.le_of_ble_eq_true rfl) dX7_readText_33 ⟨Nat.zero_le _, Nat.zero_le _⟩ (fun σ166 τ166 H locs h166 hP hS => ?_)
               obtain ⟨rfl, f168, f169, f170, I171, I172, I173, I174, p175, w176, h166⟩ := h166
               obtain ⟨i178, w179, w180⟩ : (0 ≤ (σ166 9 0).toInt ∧ (σ166 9 0).toInt ≤ 80) ∧ (∀ k : Nat, k < 80 → 0 ≤ (σ166 10 k).toInt ∧ (σ166 10 k).toInt ≤ 255) ∧ (∀ k : Nat, k < 8 → 0 ≤ (σ166 11 k).toInt ∧ (σ166 11 k).toInt ≤ 3) := id I171
               obtain ⟨i181, i182⟩ : (0 ≤ (σ166 9 1).toInt) ∧ ((σ166 9 1).toInt ≤ (σ166 9 0).toInt) := id I172
               have i183 : (-1) ≤ (σ166 9 2).toInt ∧ (σ166 9 2).toInt ≤ 80 := I173
               obtain ⟨i184, w185⟩ : (0 ≤ (σ166 12 0).toInt ∧ (σ166 12 0).toInt ≤ 160) ∧ (∀ k : Nat, k < 160 → 0 ≤ (σ166 13 k).toInt ∧ (σ166 13 k).toInt ≤ 30000) := id I174
               try rw [show (σ139 9 0).toInt = (σ 9 0).toInt from by omega] at w176
               try rw [show σ139 10 = σ 10 from ((f141 10 (of_decide_eq_true rfl)).trans ((f82 10 (of_decide_eq_true rfl)).trans ((f47 10 (of_decide_eq_true rfl)).trans ((f29 10 (of_decide_eq_true rfl)).trans (f8 10 (of_decide_eq_true rfl))))))] at w176
               try rw [show σ139 13 = σ72 13 from by rw [f141 13 (of_decide_eq_true rfl)]] at w176
               try rw [show (σ139 12 0).toInt = (σ72 12 0).toInt from by omega] at w176
               have z186 : (σ166 9 0).toInt = (σ 9 0).toInt := (congrArg Int32.toInt (show σ166 9 0 = (σ 9 0) from ((f169 0 (of_decide_eq_true rfl)).trans ((f142 0 (of_decide_eq_true rfl)).trans ((f83 0 (of_decide_eq_true rfl)).trans ((f48 0 (of_decide_eq_true rfl)).trans ((congrFun (f29 9 (of_decide_eq_true rfl)) 0).trans (f9 0 (of_decide_eq_true rfl)))))))))
               obtain ⟨k187, k188, h166⟩ := h166
               obtain ⟨x189, ex189⟩ : ∃ y : Int32, y = x71 + 1 := ⟨_, rfl⟩
               exact by
                have tx189 : x189.toInt = x71.toInt + 1 := (jadd ex189 rfl jz_1 (by omega) (by omega)).trans (by omega)
                refine lv_iinc (v := x189) (lv' := [(2, .int x189), (0, .ref (ad 9)), (1, .ref (ad 22))]) hx hb dX7_readText_36 hl (k := 0) rfl (by rw [ex189]; rfl) (of_decide_eq_true rfl) rfl (fun ls hl => ?_)
                refine lv_goto (tgt := 17) hx hb dX7_readText_39 (of_decide_eq_true rfl) ?_
                exact by exact ihlp69 x189 σ166 _ _ ls (by have h90 := tx189; omega) (by have h90 := tx189; omega) (by have h90 := tx189; omega) (by have h90 := tx189; omega) (by have h90 := tx189; omega) (by have h90 := tx189; omega) (by have h90 := tx189; omega) (by have h90 := tx189; omega) (fun i hi => ((f168 i hi).trans ((f141 i (imp_59 i hi)).trans (f82 i hi)))) (fun i hi => ((f169 i hi).trans ((f142 i (imp_55 i hi)).trans (f83 i hi)))) (fun i hi => ((f170 i hi).trans ((congrFun (f141 12 (of_decide_eq_true rfl)) i).trans (f84 i hi))))  p175 I174 (jCt.step q87 (by omega) (by omega) w176 (by omega)) hP hS (lv_sub hl [0, 1, 2] rfl)
            · obtain ⟨q194, k190, k191, k192, k193⟩ := h156
              have q194 := q194.symm
              subst q194
              try rw [show (σ72 9 0).toInt = (σ 9 0).toInt from by omega] at k193
              try rw [show σ72 10 = σ 10 from ((f82 10 (of_decide_eq_true rfl)).trans ((f47 10 (of_decide_eq_true rfl)).trans ((f29 10 (of_decide_eq_true rfl)).trans (f8 10 (of_decide_eq_true rfl)))))] at k193
              exact by
               refine lv_if_eq (tgt := 42) hx hb dX7_readText_29 (of_decide_eq_true rfl) (fun _ => ?_) (fun c => absurd (of_decide_eq_true rfl) c)
               refine lv_aload_n hx hb dX7_readText_42 rfl (lv_at hl 1 rfl) ?_
               refine jcallV (As := []) (rest := []) ⟨hx, hb, hml, hown, hts⟩ hK hP hA hS hZ (c_X7_end_9 l D cI cL ad zz hJ σ139 τ I143 I144 I145) cw_RX7_57 (jc_9 cI cL ad σ139 τ) rfl ⟨Nat.le_of_ble_eq_true rfl, Nat.le_of_ble_eq_true rfl⟩ rfl rfl rfl hl.1 rfl (Nat.le_of_ble_eq_true rfl) dX7_readText_43 ⟨Nat.zero_le _, Nat.zero_le _⟩ (fun r196 σ195 τ195 H locs h195 hP hS => ?_)
               obtain ⟨rfl, f197, f198, I199, I200, h195⟩ := h195
               obtain ⟨i202, w203, w204⟩ : (0 ≤ (σ195 9 0).toInt ∧ (σ195 9 0).toInt ≤ 80) ∧ (∀ k : Nat, k < 80 → 0 ≤ (σ195 10 k).toInt ∧ (σ195 10 k).toInt ≤ 255) ∧ (∀ k : Nat, k < 8 → 0 ≤ (σ195 11 k).toInt ∧ (σ195 11 k).toInt ≤ 3) := id I199
               have i205 : (-1) ≤ (σ195 9 2).toInt ∧ (σ195 9 2).toInt ≤ 80 := I200
               obtain ⟨k206, h195⟩ := h195
               rcases h195 with h207 | h208
               · obtain ⟨q211, k209, k210⟩ := h207
                 have q211 := q211.symm
                 subst q211
                 refine lv_istore_n (lv' := [(2, .int (-1)), (0, .ref (ad 9)), (1, .ref (ad 22))]) hx hb dX7_readText_46 rfl hl (of_decide_eq_true rfl) rfl (fun ls hl => ?_)
                 refine lv_iload_n hx hb dX7_readText_47 rfl (lv_at hl 0 rfl) ?_
                 refine lv_iconst (v := (-1)) hx hb dX7_readText_48 (of_decide_eq_true rfl) ?_
                 refine lv_icmp_ne (tgt := 60) hx hb dX7_readText_49 (of_decide_eq_true rfl) (fun c => absurd (of_decide_eq_true rfl) c) (fun _ => ?_)
                 refine lv_aload_n hx hb dX7_readText_52 rfl (lv_at hl 2 rfl) ?_
                 refine lv_aload_n hx hb dX7_readText_53 rfl (lv_at hl 1 rfl) ?_
                 refine va_get (D := D) hx hb hts inlX7 hown hK hP 9 (jc_9 cI cL ad σ195 τ) rfl 5 (of_decide_eq_true rfl) (hts _ kw_3_23) (fun _ h9 => h9) rfl dX7_readText_54 ?_
                 have I212 : jI12 σ195 := jI12_fr ((congrFun (f197 12 (of_decide_eq_true rfl)) 0).trans (congrFun (f141 12 (of_decide_eq_true rfl)) 0)) ((f197 13 (of_decide_eq_true rfl)).trans (f141 13 (of_decide_eq_true rfl))) p86
                 have I213 : jI22 σ195 := jI22_fr ((congrFun (f197 22 (of_decide_eq_true rfl)) 0).trans ((congrFun (f141 22 (of_decide_eq_true rfl)) 0).trans ((congrFun (f82 22 (of_decide_eq_true rfl)) 0).trans ((congrFun (f47 22 (of_decide_eq_true rfl)) 0).trans ((congrFun (f29 22 (of_decide_eq_true rfl)) 0).trans (congrFun (f8 22 (of_decide_eq_true rfl)) 0)))))) ((f197 23 (of_decide_eq_true rfl)).trans ((f141 23 (of_decide_eq_true rfl)).trans ((f82 23 (of_decide_eq_true rfl)).trans ((f47 23 (of_decide_eq_true rfl)).trans ((f29 23 (of_decide_eq_true rfl)).trans (f8 23 (of_decide_eq_true rfl))))))) hI22
                 refine jcallVv (As := [.ref (ad 12)]) (rest := []) ⟨hx, hb, hml, hown, hts⟩ hK hP hA hS hZ (c_X10_copyFrom_22 l D cI cL ad zz hJ σ195 τ I212 I213) cw_RX7_78 (jc_22 cI cL ad σ195 τ) rfl ⟨Nat.le_of_ble_eq_true rfl, Nat.le_of_ble_eq_true rfl⟩ rfl rfl rfl hl.1 rfl (Nat.le_of_ble_eq_true rfl) dX7_readText_57 ⟨Nat.zero_le _, Nat.zero_le _⟩ (fun σ214 τ214 H locs h214 hP hS => ?_)
                 obtain ⟨rfl, f216, f217, I218, w219, h214⟩ := h214
                 refine lv_iload_n hx hb dX7_readText_60 rfl (lv_at hl 0 rfl) ?_
                 have I221 : jI9 σ214 := jI9_fr (congrFun (f216 9 (of_decide_eq_true rfl)) 0) (f216 10 (of_decide_eq_true rfl)) (f216 11 (of_decide_eq_true rfl)) I199
                 have I222 : jI12 σ214 := jI12_fr (congrFun (f216 12 (of_decide_eq_true rfl)) 0) (f216 13 (of_decide_eq_true rfl)) I212
                 have p223 : jNd12 σ214 := jNd12.fr ((congrFun (f216 12 (of_decide_eq_true rfl)) 0).trans ((congrFun (f197 12 (of_decide_eq_true rfl)) 0).trans (congrFun (f141 12 (of_decide_eq_true rfl)) 0))) ((congrFun (f216 12 (of_decide_eq_true rfl)) 1).trans ((congrFun (f197 12 (of_decide_eq_true rfl)) 1).trans (congrFun (f141 12 (of_decide_eq_true rfl)) 1))) ((f216 13 (of_decide_eq_true rfl)).trans ((f197 13 (of_decide_eq_true rfl)).trans (f141 13 (of_decide_eq_true rfl)))) p85
                 have z224 : (σ214 12 0).toInt = (σ72 12 0).toInt := (congrArg Int32.toInt (show σ214 12 0 = (σ72 12 0) from ((congrFun (f216 12 (of_decide_eq_true rfl)) 0).trans ((congrFun (f197 12 (of_decide_eq_true rfl)) 0).trans (congrFun (f141 12 (of_decide_eq_true rfl)) 0)))))
                 have z225 : (σ195 12 0).toInt = (σ72 12 0).toInt := (congrArg Int32.toInt (show σ195 12 0 = (σ72 12 0) from ((congrFun (f197 12 (of_decide_eq_true rfl)) 0).trans (congrFun (f141 12 (of_decide_eq_true rfl)) 0))))
                 have z226 : (σ214 9 0).toInt = (σ195 9 0).toInt := (congrArg Int32.toInt (show σ214 9 0 = (σ195 9 0) from (congrFun (f216 9 (of_decide_eq_true rfl)) 0)))
                 exact by exact hret (-1) σ214 τ _ _ _ _ rfl ⟨rfl, (fun i hi => ((f216 i (imp_66 i hi)).trans ((f197 i (imp_67 i hi)).trans ((f141 i (imp_67 i hi)).trans ((f82 i (imp_68 i hi)).trans ((f47 i (imp_68 i hi)).trans ((f29 i (imp_69 i hi)).trans (f8 i (imp_67 i hi))))))))), (fun i hi => ((congrFun (f216 9 (of_decide_eq_true rfl)) i).trans ((f198 i (imp_48 i hi)).trans ((f142 i (imp_51 i hi)).trans ((f83 i (imp_49 i hi)).trans ((f48 i (imp_49 i hi)).trans ((congrFun (f29 9 (of_decide_eq_true rfl)) i).trans (f9 i (imp_49 i hi))))))))), (fun i hi => ((congrFun (f216 12 (of_decide_eq_true rfl)) i).trans ((congrFun (f197 12 (of_decide_eq_true rfl)) i).trans ((congrFun (f141 12 (of_decide_eq_true rfl)) i).trans ((f84 i hi).trans ((f49 i hi).trans ((f30 i hi).trans (congrFun (f8 12 (of_decide_eq_true rfl)) i)))))))), (fun i hi => ((f217 i hi).trans ((congrFun (f197 22 (of_decide_eq_true rfl)) i).trans ((congrFun (f141 22 (of_decide_eq_true rfl)) i).trans ((congrFun (f82 22 (of_decide_eq_true rfl)) i).trans ((congrFun (f47 22 (of_decide_eq_true rfl)) i).trans ((congrFun (f29 22 (of_decide_eq_true rfl)) i).trans (congrFun (f8 22 (of_decide_eq_true rfl)) i)))))))), I221, I222, I218, p223, (jCx.to (jCt.fin (e := ((-1) : Int32).toInt) q87 (fun z => k193 (by omega)) (by have h9 := jz_m1; omega)) ((f216 13 (of_decide_eq_true rfl)).trans ((f197 13 (of_decide_eq_true rfl)).trans (f141 13 (of_decide_eq_true rfl)))) (by omega)), (jTn.of (jCx.to (g2 := σ214 13) (l2 := (σ214 12 0).toInt) (jCt.fin (e := ((-1) : Int32).toInt) q87 (fun z => k193 (by omega)) (by have h9 := jz_m1; omega)) ((f216 13 (of_decide_eq_true rfl)).trans ((f197 13 (of_decide_eq_true rfl)).trans (f141 13 (of_decide_eq_true rfl)))) (by omega)) (by omega) p223 (Or.inl ⟨(by have h9 := jz_m1; omega), (fun j hj => ((w219).1 j (by omega)).trans (congrFun (show σ195 13 = σ214 13 from ((f216 13 (of_decide_eq_true rfl))).symm) j)), by omega, (w219).2.2.trans (show σ195 12 1 = σ214 12 1 from ((congrFun (f216 12 (of_decide_eq_true rfl)) 1)).symm)⟩)), (by omega), ⟨trivial, (by have h9 := jz_m1; omega)⟩⟩ hP hS dX7_readText_61
               · obtain ⟨q229, k227, k228⟩ := h208
                 refine lv_istore_n (lv' := [(2, .int r196), (0, .ref (ad 9)), (1, .ref (ad 22))]) hx hb dX7_readText_46 rfl hl (of_decide_eq_true rfl) rfl (fun ls hl => ?_)
                 refine lv_iload_n hx hb dX7_readText_47 rfl (lv_at hl 0 rfl) ?_
                 refine lv_iconst (v := (-1)) hx hb dX7_readText_48 (of_decide_eq_true rfl) ?_
                 exact by
                  refine lv_icmp_ne (tgt := 60) hx hb dX7_readText_49 (of_decide_eq_true rfl) (fun c230 => ?_) (fun c => absurd (jeq c rfl jz_m1) (by omega))
                  have kc230 := jne c230 rfl jz_m1
                  refine lv_iload_n hx hb dX7_readText_60 rfl (lv_at hl 0 rfl) ?_
                  have I231 : jI12 σ195 := jI12_fr ((congrFun (f197 12 (of_decide_eq_true rfl)) 0).trans (congrFun (f141 12 (of_decide_eq_true rfl)) 0)) ((f197 13 (of_decide_eq_true rfl)).trans (f141 13 (of_decide_eq_true rfl))) p86
                  have I232 : jI22 σ195 := jI22_fr ((congrFun (f197 22 (of_decide_eq_true rfl)) 0).trans ((congrFun (f141 22 (of_decide_eq_true rfl)) 0).trans ((congrFun (f82 22 (of_decide_eq_true rfl)) 0).trans ((congrFun (f47 22 (of_decide_eq_true rfl)) 0).trans ((congrFun (f29 22 (of_decide_eq_true rfl)) 0).trans (congrFun (f8 22 (of_decide_eq_true rfl)) 0)))))) ((f197 23 (of_decide_eq_true rfl)).trans ((f141 23 (of_decide_eq_true rfl)).trans ((f82 23 (of_decide_eq_true rfl)).trans ((f47 23 (of_decide_eq_true rfl)).trans ((f29 23 (of_decide_eq_true rfl)).trans (f8 23 (of_decide_eq_true rfl))))))) hI22
                  have p233 : jNd12 σ195 := jNd12.fr ((congrFun (f197 12 (of_decide_eq_true rfl)) 0).trans (congrFun (f141 12 (of_decide_eq_true rfl)) 0)) ((congrFun (f197 12 (of_decide_eq_true rfl)) 1).trans (congrFun (f141 12 (of_decide_eq_true rfl)) 1)) ((f197 13 (of_decide_eq_true rfl)).trans (f141 13 (of_decide_eq_true rfl))) p85
                  have z234 : (σ195 12 0).toInt = (σ72 12 0).toInt := (congrArg Int32.toInt (show σ195 12 0 = (σ72 12 0) from ((congrFun (f197 12 (of_decide_eq_true rfl)) 0).trans (congrFun (f141 12 (of_decide_eq_true rfl)) 0))))
                  have z235 : (σ195 22 0).toInt = (σ 22 0).toInt := (congrArg Int32.toInt (show σ195 22 0 = (σ 22 0) from ((congrFun (f197 22 (of_decide_eq_true rfl)) 0).trans ((congrFun (f141 22 (of_decide_eq_true rfl)) 0).trans ((congrFun (f82 22 (of_decide_eq_true rfl)) 0).trans ((congrFun (f47 22 (of_decide_eq_true rfl)) 0).trans ((congrFun (f29 22 (of_decide_eq_true rfl)) 0).trans (congrFun (f8 22 (of_decide_eq_true rfl)) 0))))))))
                  exact by exact hret r196 σ195 τ _ _ _ _ rfl ⟨rfl, (fun i hi => ((f197 i (imp_67 i hi)).trans ((f141 i (imp_67 i hi)).trans ((f82 i (imp_68 i hi)).trans ((f47 i (imp_68 i hi)).trans ((f29 i (imp_69 i hi)).trans (f8 i (imp_67 i hi)))))))), (fun i hi => ((f198 i (imp_48 i hi)).trans ((f142 i (imp_51 i hi)).trans ((f83 i (imp_49 i hi)).trans ((f48 i (imp_49 i hi)).trans ((congrFun (f29 9 (of_decide_eq_true rfl)) i).trans (f9 i (imp_49 i hi)))))))), (fun i hi => ((congrFun (f197 12 (of_decide_eq_true rfl)) i).trans ((congrFun (f141 12 (of_decide_eq_true rfl)) i).trans ((f84 i hi).trans ((f49 i hi).trans ((f30 i hi).trans (congrFun (f8 12 (of_decide_eq_true rfl)) i))))))), (fun i hi => ((congrFun (f197 22 (of_decide_eq_true rfl)) i).trans ((congrFun (f141 22 (of_decide_eq_true rfl)) i).trans ((congrFun (f82 22 (of_decide_eq_true rfl)) i).trans ((congrFun (f47 22 (of_decide_eq_true rfl)) i).trans ((congrFun (f29 22 (of_decide_eq_true rfl)) i).trans (congrFun (f8 22 (of_decide_eq_true rfl)) i))))))), I199, I231, I232, p233, (jCx.to (jCt.fin (e := (r196 : Int32).toInt) q87 (fun z => k193 (by omega)) (by omega)) ((f197 13 (of_decide_eq_true rfl)).trans (f141 13 (of_decide_eq_true rfl))) (by omega)), (jTn.of (jCx.to (g2 := σ195 13) (l2 := (σ195 12 0).toInt) (jCt.fin (e := (r196 : Int32).toInt) q87 (fun z => k193 (by omega)) (by omega)) ((f197 13 (of_decide_eq_true rfl)).trans (f141 13 (of_decide_eq_true rfl))) (by omega)) (by omega) p233 (Or.inr ⟨(by omega), ((f197 23 (of_decide_eq_true rfl)).trans ((f141 23 (of_decide_eq_true rfl)).trans ((f82 23 (of_decide_eq_true rfl)).trans ((f47 23 (of_decide_eq_true rfl)).trans ((f29 23 (of_decide_eq_true rfl)).trans (f8 23 (of_decide_eq_true rfl))))))), by omega, ((congrFun (f197 22 (of_decide_eq_true rfl)) 1).trans ((congrFun (f141 22 (of_decide_eq_true rfl)) 1).trans ((congrFun (f82 22 (of_decide_eq_true rfl)) 1).trans ((congrFun (f47 22 (of_decide_eq_true rfl)) 1).trans ((congrFun (f29 22 (of_decide_eq_true rfl)) 1).trans (congrFun (f8 22 (of_decide_eq_true rfl)) 1))))))⟩)), (by omega), ⟨trivial, (by omega)⟩⟩ hP hS dX7_readText_61
   exact by exact lp69 1000000 0 σ45 _ _ ls (by have h90 := jz_0; omega) (by have h90 := jz_0; omega) (by have h90 := jz_0; omega) (by have h90 := jz_0; omega) (by have h90 := jz_0; omega) (by have h90 := jz_0; omega) (by have h90 := jz_0; omega) (by have h90 := jz_0; omega) (fun _ _ => rfl) (fun _ _ => rfl) (fun _ _ => rfl)  p54 I53 (jCt.begin w55 (by omega) (by omega)) hP hS hl
