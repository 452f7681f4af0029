set_option maxHeartbeats 4000000 in
set_option maxRecDepth 100000 in
theorem c_X12_numberRead_2 (l : Launch) (D : va_G) (cI cL : ClassId) (ad zz : Nat → Nat) (hJ : jD ad) (σ : Nat → Nat → Int32) (τ : Nat → Nat → Int64) (hI121 : jI121 σ) (hp0 : (σ 55 18).toInt = (-1)) (hp1 : (σ 55 21).toInt = (-1)) : jM l yX12_numberRead cX12_numberRead 6 (some .int) ({ frames := 1, cells := 0, slots := 0, locals := 25 }) D cI cL ad zz [.ref (ad 55), .int 2, .int 1, .int 12] σ τ (fun r σ' τ' => τ = τ' ∧ (∀ i : Nat, (i < 55 ∨ 55 < i) → σ' i = σ i) ∧ (∀ k : Nat, (k < 19 ∨ 19 < k) ∧ (k < 21 ∨ 21 < k) → σ' 55 k = σ 55 k) ∧ (jI121 σ') ∧ ((True ∧ (((σ' 55 21).toInt = (-1) ∧ 1 ≤ r.toInt ∧ r.toInt ≤ 12) ∨ (0 ≤ (σ' 55 21).toInt ∧ (σ' 55 21).toInt ≤ 80)) ∧ (∃ q v : Int, jNb (σ 63) ((σ 55 20).toInt) ((σ 55 19).toInt) 2 q v ∧ (((q = 0 ∨ v < 1 ∨ 12 < v) ∧ (σ' 55 21).toInt = (σ 55 19).toInt) ∨ (1 ≤ q ∧ 1 ≤ v ∧ v ≤ 12 ∧ r.toInt = v ∧ (σ' 55 19).toInt = (σ 55 19).toInt + q ∧ (σ' 55 21).toInt = -1)))))) := by
  refine jM.of hJ (by decide +kernel) (nt := .int) rfl (Nat.le_of_ble_eq_true rfl) ?_
  intro p e s m args below meth c Q ls hC hret hl hP
  obtain ⟨hx, hb, hr, hml, hown, hts, hK, -, hlocks, hZ⟩ := hC
  have hown : s.vm.findClass RX12 = some m.cls := hown
  have hS : va_S (jA ad) s.heap s.heap [] := va_S.rf
  have hA : ∀ q, jA ad q → jA ad q := fun _ h => h
  have hl : lv_has ls 6 [(0, .ref (ad 55)), (1, .int 2), (2, .int 1), (3, .int 12)] := hl
  obtain ⟨i1, i2, i3, i4, i5⟩ : ((-1) ≤ (σ 55 18).toInt ∧ (σ 55 18).toInt ≤ 80) ∧ (0 ≤ (σ 55 19).toInt) ∧ ((σ 55 19).toInt ≤ (σ 55 20).toInt) ∧ ((σ 55 20).toInt ≤ 80) ∧ ((-1) ≤ (σ 55 21).toInt) := id hI121
  refine lv_aload_n hx hb dX12_numberRead_0 rfl (lv_at hl 0 rfl) ?_
  refine va_get (D := D) hx hb hts inlX12 hown hK hP 55 (jc_55 cI cL ad σ τ) rfl 19 (by decide) (hts _ kw_15_11) (fun _ h9 => h9) rfl dX12_numberRead_1 ?_
  refine lv_istore (lv' := [(4, .int (σ 55 19)), (0, .ref (ad 55)), (1, .int 2), (2, .int 1), (3, .int 12)]) hx hb dX12_numberRead_4 hl (by decide) rfl (fun ls hl => ?_)
  refine lv_iconst (v := 0) hx hb dX12_numberRead_6 (by decide) ?_
  refine lv_istore (lv' := [(5, .int 0), (4, .int (σ 55 19)), (0, .ref (ad 55)), (1, .int 2), (2, .int 1), (3, .int 12)]) hx hb dX12_numberRead_7 hl (by decide) rfl (fun ls hl => ?_)
  refine lv_aload_n hx hb dX12_numberRead_9 rfl (lv_at hl 2 rfl) ?_
  refine va_get (D := D) hx hb hts inlX12 hown hK hP 55 (jc_55 cI cL ad σ τ) rfl 21 (by decide) (hts _ kw_15_13) (fun _ h9 => h9) rfl dX12_numberRead_10 ?_
  refine lv_if_ge (tgt := 73) hx hb dX12_numberRead_13 (by decide) (fun c => absurd (jle c jz_0 rfl) (by omega)) (fun c6 => ?_)
  have kc6 := jnle c6 jz_0 rfl
  refine lv_aload_n hx hb dX12_numberRead_16 rfl (lv_at hl 2 rfl) ?_
  refine va_get (D := D) hx hb hts inlX12 hown hK hP 55 (jc_55 cI cL ad σ τ) rfl 19 (by decide) (hts _ kw_15_11) (fun _ h9 => h9) rfl dX12_numberRead_17 ?_
  refine lv_iload hx hb dX12_numberRead_20 (lv_at hl 1 rfl) ?_
  refine lv_iload_n hx hb dX12_numberRead_22 rfl (lv_at hl 3 rfl) ?_
  have g7 := jrg (rfl : (σ 55 19).toInt = (σ 55 19).toInt)
  refine lv_iadd hx hb dX12_numberRead_23 ?_
  refine lv_topi (fun x8 ex8 => ?_)
  have tx8 : x8.toInt = (σ 55 19).toInt + 2 := (jadd ex8 rfl jz_2 (by omega) (by omega)).trans (by omega)
  refine lv_icmp_ge (tgt := 73) hx hb dX12_numberRead_24 (by decide) (fun c => absurd (jle c tx8 rfl) (by omega)) (fun c9 => ?_)
  have kc9 := jnle c9 tx8 rfl
  refine lv_aload_n hx hb dX12_numberRead_27 rfl (lv_at hl 2 rfl) ?_
  refine jcallV (As := []) (rest := []) ⟨hx, hb, hml, hown, hts⟩ hK hP hA hS hZ (c_X12_byteAt_t l D cI cL ad zz hJ σ τ hI121 (by omega)) cw_RX12_189 (jc_55 cI cL ad σ τ) rfl ⟨Nat.le_of_ble_eq_true rfl, Nat.le_of_ble_eq_true rfl⟩ rfl rfl rfl hl.1 rfl (Nat.le_of_ble_eq_true rfl) dX12_numberRead_28 ⟨Nat.zero_le _, Nat.zero_le _⟩ (fun r11 σ10 τ10 H locs h10 hP hS => ?_)
  obtain ⟨⟨rfl, rfl⟩, h10⟩ := h10
  rcases h10 with h12 | h13
  · obtain ⟨q15, k14⟩ := h12
    have q16 : r11 = (σ 63 (σ 55 19).toNatClampNeg) := q15.trans rfl
    have q16 := q16.symm
    subst q16
    refine lv_bipush (v := 48) hx hb dX12_numberRead_31 (by decide) ?_
    refine lv_icmp_lt (tgt := 73) hx hb dX12_numberRead_33 (by decide) (fun c17 => ?_) (fun c17 => ?_)
    · have kc17 := jlt c17 rfl jz_48
      refine lv_aload_n hx hb dX12_numberRead_73 rfl (lv_at hl 2 rfl) ?_
      refine va_get (D := D) hx hb hts inlX12 hown hK hP 55 (jc_55 cI cL ad σ τ) rfl 21 (by decide) (hts _ kw_15_13) (fun _ h9 => h9) rfl dX12_numberRead_74 ?_
      refine lv_if_ge (tgt := 113) hx hb dX12_numberRead_77 (by decide) (fun c => absurd (jle c jz_0 rfl) (by omega)) (fun c18 => ?_)
      have kc18 := jnle c18 jz_0 rfl
      refine lv_aload_n hx hb dX12_numberRead_80 rfl (lv_at hl 2 rfl) ?_
      refine va_get (D := D) hx hb hts inlX12 hown hK hP 55 (jc_55 cI cL ad σ τ) rfl 19 (by decide) (hts _ kw_15_11) (fun _ h9 => h9) rfl dX12_numberRead_81 ?_
      refine lv_iload hx hb dX12_numberRead_84 (lv_at hl 1 rfl) ?_
      refine lv_icmp_le (tgt := 113) hx hb dX12_numberRead_86 (by decide) (fun c19 => ?_) (fun c => absurd (jnle c rfl rfl) (by omega))
      have kc19 := jle c19 rfl rfl
      refine lv_aload_n hx hb dX12_numberRead_113 rfl (lv_at hl 2 rfl) ?_
      refine va_get (D := D) hx hb hts inlX12 hown hK hP 55 (jc_55 cI cL ad σ τ) rfl 19 (by decide) (hts _ kw_15_11) (fun _ h9 => h9) rfl dX12_numberRead_114 ?_
      refine lv_iload hx hb dX12_numberRead_117 (lv_at hl 1 rfl) ?_
      refine lv_icmp_ne (tgt := 129) hx hb dX12_numberRead_119 (by decide) (fun c => absurd (jne c rfl rfl) (by omega)) (fun c20 => ?_)
      have kc20 := jeq c20 rfl rfl
      refine lv_aload_n hx hb dX12_numberRead_122 rfl (lv_at hl 2 rfl) ?_
      refine jcallV (As := []) (rest := []) ⟨hx, hb, hml, hown, hts⟩ hK hP hA hS hZ (c_X12_wrong l D cI cL ad zz hJ σ τ hI121) cw_RX12_214 (jc_55 cI cL ad σ τ) rfl ⟨Nat.le_of_ble_eq_true rfl, Nat.le_of_ble_eq_true rfl⟩ rfl rfl rfl hl.1 rfl (Nat.le_of_ble_eq_true rfl) dX12_numberRead_123 ⟨Nat.zero_le _, Nat.zero_le _⟩ (fun r22 σ21 τ21 H locs h21 hP hS => ?_)
      obtain ⟨rfl, f23, f24, I25, h21⟩ := h21
      obtain ⟨i27, i28, i29, i30, i31⟩ : ((-1) ≤ (σ21 55 18).toInt ∧ (σ21 55 18).toInt ≤ 80) ∧ (0 ≤ (σ21 55 19).toInt) ∧ ((σ21 55 19).toInt ≤ (σ21 55 20).toInt) ∧ ((σ21 55 20).toInt ≤ 80) ∧ ((-1) ≤ (σ21 55 21).toInt) := id I25
      have z32 : (σ21 55 18).toInt = (σ 55 18).toInt := (congrArg Int32.toInt (show σ21 55 18 = (σ 55 18) from (f24 18 (by decide))))
      have z33 : (σ21 55 19).toInt = (σ 55 19).toInt := (congrArg Int32.toInt (show σ21 55 19 = (σ 55 19) from (f24 19 (by decide))))
      have z34 : (σ21 55 20).toInt = (σ 55 20).toInt := (congrArg Int32.toInt (show σ21 55 20 = (σ 55 20) from (f24 20 (by decide))))
      obtain ⟨k35, k36, h21⟩ := h21
      have h37 := h21
      obtain ⟨q39, k38⟩ := h37
      have q39 := q39.symm
      subst q39
      refine lv_goto (tgt := 131) hx hb dX12_numberRead_126 (by decide) ?_
      exact hret 0 σ21 τ _ _ _ _ rfl ⟨rfl, (fun i hi => (f23 i hi)), (fun i hi => (f24 i (imp_219 i hi))), I25, ⟨trivial, (by have h9 := jz_0; omega), ⟨0, 0, (by have i0 := jix (f := σ 63) (show (σ 55 19).toInt = (σ 55 19).toInt by omega); unfold jNb jDg; omega), (by have h9 := jz_0; omega)⟩⟩⟩ hP hS dX12_numberRead_131
    · have kc17 := jnlt c17 rfl jz_48
      refine lv_aload_n hx hb dX12_numberRead_36 rfl (lv_at hl 2 rfl) ?_
      refine jcallV (As := []) (rest := []) ⟨hx, hb, hml, hown, hts⟩ hK hP hA hS hZ (c_X12_byteAt_t l D cI cL ad zz hJ σ τ hI121 (by omega)) cw_RX12_189 (jc_55 cI cL ad σ τ) rfl ⟨Nat.le_of_ble_eq_true rfl, Nat.le_of_ble_eq_true rfl⟩ rfl rfl rfl hl.1 rfl (Nat.le_of_ble_eq_true rfl) dX12_numberRead_37 ⟨Nat.zero_le _, Nat.zero_le _⟩ (fun r41 σ40 τ40 H locs h40 hP hS => ?_)
      obtain ⟨⟨rfl, rfl⟩, h40⟩ := h40
      rcases h40 with h42 | h43
      · obtain ⟨q45, k44⟩ := h42
        have q46 : r41 = (σ 63 (σ 55 19).toNatClampNeg) := q45.trans rfl
        have q46 := q46.symm
        subst q46
        refine lv_bipush (v := 57) hx hb dX12_numberRead_40 (by decide) ?_
        refine lv_icmp_gt (tgt := 73) hx hb dX12_numberRead_42 (by decide) (fun c47 => ?_) (fun c47 => ?_)
        · have kc47 := jlt c47 jz_57 rfl
          refine lv_aload_n hx hb dX12_numberRead_73 rfl (lv_at hl 2 rfl) ?_
          refine va_get (D := D) hx hb hts inlX12 hown hK hP 55 (jc_55 cI cL ad σ τ) rfl 21 (by decide) (hts _ kw_15_13) (fun _ h9 => h9) rfl dX12_numberRead_74 ?_
          refine lv_if_ge (tgt := 113) hx hb dX12_numberRead_77 (by decide) (fun c => absurd (jle c jz_0 rfl) (by omega)) (fun c48 => ?_)
          have kc48 := jnle c48 jz_0 rfl
          refine lv_aload_n hx hb dX12_numberRead_80 rfl (lv_at hl 2 rfl) ?_
          refine va_get (D := D) hx hb hts inlX12 hown hK hP 55 (jc_55 cI cL ad σ τ) rfl 19 (by decide) (hts _ kw_15_11) (fun _ h9 => h9) rfl dX12_numberRead_81 ?_
          refine lv_iload hx hb dX12_numberRead_84 (lv_at hl 1 rfl) ?_
          refine lv_icmp_le (tgt := 113) hx hb dX12_numberRead_86 (by decide) (fun c49 => ?_) (fun c => absurd (jnle c rfl rfl) (by omega))
          have kc49 := jle c49 rfl rfl
          refine lv_aload_n hx hb dX12_numberRead_113 rfl (lv_at hl 2 rfl) ?_
          refine va_get (D := D) hx hb hts inlX12 hown hK hP 55 (jc_55 cI cL ad σ τ) rfl 19 (by decide) (hts _ kw_15_11) (fun _ h9 => h9) rfl dX12_numberRead_114 ?_
          refine lv_iload hx hb dX12_numberRead_117 (lv_at hl 1 rfl) ?_
          refine lv_icmp_ne (tgt := 129) hx hb dX12_numberRead_119 (by decide) (fun c => absurd (jne c rfl rfl) (by omega)) (fun c50 => ?_)
          have kc50 := jeq c50 rfl rfl
          refine lv_aload_n hx hb dX12_numberRead_122 rfl (lv_at hl 2 rfl) ?_
          refine jcallV (As := []) (rest := []) ⟨hx, hb, hml, hown, hts⟩ hK hP hA hS hZ (c_X12_wrong l D cI cL ad zz hJ σ τ hI121) cw_RX12_214 (jc_55 cI cL ad σ τ) rfl ⟨Nat.le_of_ble_eq_true rfl, Nat.le_of_ble_eq_true rfl⟩ rfl rfl rfl hl.1 rfl (Nat.le_of_ble_eq_true rfl) dX12_numberRead_123 ⟨Nat.zero_le _, Nat.zero_le _⟩ (fun r52 σ51 τ51 H locs h51 hP hS => ?_)
          obtain ⟨rfl, f53, f54, I55, h51⟩ := h51
          obtain ⟨i57, i58, i59, i60, i61⟩ : ((-1) ≤ (σ51 55 18).toInt ∧ (σ51 55 18).toInt ≤ 80) ∧ (0 ≤ (σ51 55 19).toInt) ∧ ((σ51 55 19).toInt ≤ (σ51 55 20).toInt) ∧ ((σ51 55 20).toInt ≤ 80) ∧ ((-1) ≤ (σ51 55 21).toInt) := id I55
          have z62 : (σ51 55 18).toInt = (σ 55 18).toInt := (congrArg Int32.toInt (show σ51 55 18 = (σ 55 18) from (f54 18 (by decide))))
          have z63 : (σ51 55 19).toInt = (σ 55 19).toInt := (congrArg Int32.toInt (show σ51 55 19 = (σ 55 19) from (f54 19 (by decide))))
          have z64 : (σ51 55 20).toInt = (σ 55 20).toInt := (congrArg Int32.toInt (show σ51 55 20 = (σ 55 20) from (f54 20 (by decide))))
          obtain ⟨k65, k66, h51⟩ := h51
          have h67 := h51
          obtain ⟨q69, k68⟩ := h67
          have q69 := q69.symm
          subst q69
          refine lv_goto (tgt := 131) hx hb dX12_numberRead_126 (by decide) ?_
          exact hret 0 σ51 τ _ _ _ _ rfl ⟨rfl, (fun i hi => (f53 i hi)), (fun i hi => (f54 i (imp_219 i hi))), I55, ⟨trivial, (by have h9 := jz_0; omega), ⟨0, 0, (by have i0 := jix (f := σ 63) (show (σ 55 19).toInt = (σ 55 19).toInt by omega); unfold jNb jDg; omega), (by have h9 := jz_0; omega)⟩⟩⟩ hP hS dX12_numberRead_131
        · have kc47 := jnlt c47 jz_57 rfl
          refine lv_bipush (v := 10) hx hb dX12_numberRead_45 (by decide) ?_
          refine lv_iload hx hb dX12_numberRead_47 (lv_at hl 0 rfl) ?_
          refine lv_imul hx hb dX12_numberRead_49 ?_
          refine jtopr (y := 0) (by decide) ?_
          refine lv_aload_n hx hb dX12_numberRead_50 rfl (lv_at hl 2 rfl) ?_
          refine jcallV (As := []) (rest := [.int 0]) ⟨hx, hb, hml, hown, hts⟩ hK hP hA hS hZ (c_X12_byteAt_t l D cI cL ad zz hJ σ τ hI121 (by omega)) cw_RX12_189 (jc_55 cI cL ad σ τ) rfl ⟨Nat.le_of_ble_eq_true rfl, Nat.le_of_ble_eq_true rfl⟩ rfl rfl rfl hl.1 rfl (Nat.le_of_ble_eq_true rfl) dX12_numberRead_51 ⟨Nat.zero_le _, Nat.zero_le _⟩ (fun r71 σ70 τ70 H locs h70 hP hS => ?_)
          obtain ⟨⟨rfl, rfl⟩, h70⟩ := h70
          rcases h70 with h72 | h73
          · obtain ⟨q75, k74⟩ := h72
            have q76 : r71 = (σ 63 (σ 55 19).toNatClampNeg) := q75.trans rfl
            have q76 := q76.symm
            subst q76
            refine lv_iadd hx hb dX12_numberRead_54 ?_
            refine jtopr (y := (σ 63 (σ 55 19).toNatClampNeg)) (by rw [Int32.zero_add]) ?_
            refine lv_bipush (v := 48) hx hb dX12_numberRead_55 (by decide) ?_
            have g77 := jrg (rfl : (σ 63 (σ 55 19).toNatClampNeg).toInt = (σ 63 (σ 55 19).toNatClampNeg).toInt)
            refine lv_isub hx hb dX12_numberRead_57 ?_
            refine lv_topi (fun x78 ex78 => ?_)
            have tx78 : x78.toInt = (σ 63 (σ 55 19).toNatClampNeg).toInt - 48 := (jsub ex78 rfl jz_48 (by omega) (by omega)).trans (by omega)
            refine lv_istore (lv' := [(5, .int x78), (4, .int (σ 55 19)), (0, .ref (ad 55)), (1, .int 2), (2, .int 1), (3, .int 12)]) hx hb dX12_numberRead_58 hl (by decide) rfl (fun ls hl => ?_)
            refine lv_aload_n hx hb dX12_numberRead_60 rfl (lv_at hl 2 rfl) ?_
            refine lv_dup hx hb dX12_numberRead_61 rfl ?_
            refine va_get (D := D) hx hb hts inlX12 hown hK hP 55 (jc_55 cI cL ad σ τ) rfl 19 (by decide) (hts _ kw_15_11) (fun _ h9 => h9) rfl dX12_numberRead_62 ?_
            refine lv_iconst (v := 1) hx hb dX12_numberRead_65 (by decide) ?_
            refine lv_iadd hx hb dX12_numberRead_66 ?_
            refine lv_topi (fun x79 ex79 => ?_)
            have tx79 : x79.toInt = (σ 55 19).toInt + 1 := (jadd ex79 rfl jz_1 (by omega) (by omega)).trans (by omega)
            refine jput (ty := .int) hx hb hts inlX12 tyX12 tyX12_ok nmX12 hown hK hP hJ hA hS (jc_55 cI cL ad σ τ) rfl (k := 19) (by decide) (Nat.le_of_ble_eq_true rfl) (jp_55_19 cI cL ad σ τ x79) (hts _ kw_15_11) (fun _ h9 => h9) rfl (by decide +kernel) rfl rfl dX12_numberRead_67 (fun σ80 H locs eσ80 hP hS => ?_)
            refine lv_goto (tgt := 9) hx hb dX12_numberRead_70 (by decide) ?_
            refine lv_aload_n hx hb dX12_numberRead_9 rfl (lv_at hl 2 rfl) ?_
            refine va_get (D := D) hx hb hts inlX12 hown hK hP 55 (jc_55 cI cL ad σ80 τ) rfl 21 (by decide) (hts _ kw_15_13) (fun _ h9 => h9) rfl dX12_numberRead_10 ?_
            have m81 : σ80 55 21 = (σ 55 21) := (jkp 21 eσ80 (by decide))
            refine jtopr m81 ?_
            refine lv_if_ge (tgt := 73) hx hb dX12_numberRead_13 (by decide) (fun c => absurd (jle c jz_0 rfl) (by omega)) (fun c82 => ?_)
            have kc82 := jnle c82 jz_0 rfl
            refine lv_aload_n hx hb dX12_numberRead_16 rfl (lv_at hl 2 rfl) ?_
            refine va_get (D := D) hx hb hts inlX12 hown hK hP 55 (jc_55 cI cL ad σ80 τ) rfl 19 (by decide) (hts _ kw_15_11) (fun _ h9 => h9) rfl dX12_numberRead_17 ?_
            have m83 : σ80 55 19 = x79 := (jsp eσ80)
            refine jtopr m83 ?_
            refine lv_iload hx hb dX12_numberRead_20 (lv_at hl 1 rfl) ?_
            refine lv_iload_n hx hb dX12_numberRead_22 rfl (lv_at hl 3 rfl) ?_
            refine lv_iadd hx hb dX12_numberRead_23 ?_
            refine lv_topi (fun x84 ex84 => ?_)
            have tx84 : x84.toInt = (σ 55 19).toInt + 2 := (jadd ex84 rfl jz_2 (by omega) (by omega)).trans (by omega)
            refine lv_icmp_ge (tgt := 73) hx hb dX12_numberRead_24 (by decide) (fun c => absurd (jle c tx84 tx79) (by omega)) (fun c85 => ?_)
            have kc85 := jnle c85 tx84 tx79
            refine lv_aload_n hx hb dX12_numberRead_27 rfl (lv_at hl 2 rfl) ?_
            have z86 : (σ80 55 18).toInt = (σ 55 18).toInt := (congrArg Int32.toInt (show σ80 55 18 = (σ 55 18) from (jkp 18 eσ80 (by decide))))
            have z87 : (σ80 55 19).toInt = (σ 55 19).toInt + 1 := ((congrArg Int32.toInt (show σ80 55 19 = x79 from m83)).trans tx79)
            have z88 : (σ80 55 20).toInt = (σ 55 20).toInt := (congrArg Int32.toInt (show σ80 55 20 = (σ 55 20) from (jkp 20 eσ80 (by decide))))
            have z89 : (σ80 55 21).toInt = (σ 55 21).toInt := (congrArg Int32.toInt (show σ80 55 21 = (σ 55 21) from m81))
            have I90 : jI121 σ80 := ⟨(by omega), (by omega), (by omega), (by omega), (by omega)⟩
            refine jcallV (As := []) (rest := []) ⟨hx, hb, hml, hown, hts⟩ hK hP hA hS hZ (c_X12_byteAt_t l D cI cL ad zz hJ σ80 τ I90 (by omega)) cw_RX12_189 (jc_55 cI cL ad σ80 τ) rfl ⟨Nat.le_of_ble_eq_true rfl, Nat.le_of_ble_eq_true rfl⟩ rfl rfl rfl hl.1 rfl (Nat.le_of_ble_eq_true rfl) dX12_numberRead_28 ⟨Nat.zero_le _, Nat.zero_le _⟩ (fun r92 σ91 τ91 H locs h91 hP hS => ?_)
            obtain ⟨⟨rfl, rfl⟩, h91⟩ := h91
            rcases h91 with h93 | h94
            · obtain ⟨q96, k95⟩ := h93
              have q97 : r92 = (σ 63 x79.toNatClampNeg) := q96.trans (by rw [(show σ80 55 19 = x79 from m83), jnp 63 eσ80 (by decide)])
              have q97e : (σ80 63 (σ80 55 19).toNatClampNeg).toInt = (σ 63 x79.toNatClampNeg).toInt := by rw [← q96, ← q97]
              have q97 := q97.symm
              subst q97
              refine lv_bipush (v := 48) hx hb dX12_numberRead_31 (by decide) ?_
              refine lv_icmp_lt (tgt := 73) hx hb dX12_numberRead_33 (by decide) (fun c98 => ?_) (fun c98 => ?_)
              · have kc98 := jlt c98 rfl jz_48
                refine lv_aload_n hx hb dX12_numberRead_73 rfl (lv_at hl 2 rfl) ?_
                refine va_get (D := D) hx hb hts inlX12 hown hK hP 55 (jc_55 cI cL ad σ80 τ) rfl 21 (by decide) (hts _ kw_15_13) (fun _ h9 => h9) rfl dX12_numberRead_74 ?_
                refine jtopr m81 ?_
                refine lv_if_ge (tgt := 113) hx hb dX12_numberRead_77 (by decide) (fun c => absurd (jle c jz_0 rfl) (by omega)) (fun c99 => ?_)
                have kc99 := jnle c99 jz_0 rfl
                refine lv_aload_n hx hb dX12_numberRead_80 rfl (lv_at hl 2 rfl) ?_
                refine va_get (D := D) hx hb hts inlX12 hown hK hP 55 (jc_55 cI cL ad σ80 τ) rfl 19 (by decide) (hts _ kw_15_11) (fun _ h9 => h9) rfl dX12_numberRead_81 ?_
                refine jtopr m83 ?_
                refine lv_iload hx hb dX12_numberRead_84 (lv_at hl 1 rfl) ?_
                refine lv_icmp_le (tgt := 113) hx hb dX12_numberRead_86 (by decide) (fun c => absurd (jle c tx79 rfl) (by omega)) (fun c100 => ?_)
                have kc100 := jnle c100 tx79 rfl
                refine lv_iload hx hb dX12_numberRead_89 (lv_at hl 0 rfl) ?_
                refine lv_i2l (v := x78.toInt64) hx hb dX12_numberRead_91 rfl ?_
                refine lv_iload_n hx hb dX12_numberRead_92 rfl (lv_at hl 4 rfl) ?_
                refine lv_i2l (v := 1) hx hb dX12_numberRead_93 (by decide) ?_
                refine lv_iload_n hx hb dX12_numberRead_94 rfl (lv_at hl 5 rfl) ?_
                refine lv_i2l (v := 12) hx hb dX12_numberRead_95 (by decide) ?_
                refine jcallS (As := [.long x78.toInt64, .long 1, .long 12]) (rest := []) ⟨hx, hb, hml, hown, hts⟩ hK hP hA hS hZ (c_X12_within l D cI cL ad zz hJ σ80 τ x78.toInt64 ((σ 63 (σ 55 19).toNatClampNeg).toInt - 48) (jtoL tx78) 1 (1) jzl_1 12 (12) jzl_12) cw_RX12_136 ⟨Nat.le_of_ble_eq_true rfl, Nat.le_of_ble_eq_true rfl⟩ rfl rfl rfl hl.1 rfl (Nat.le_of_ble_eq_true rfl) dX12_numberRead_96 ⟨Nat.zero_le _, Nat.zero_le _⟩ (fun r102 σ101 τ101 H locs h101 hP hS => ?_)
                obtain ⟨⟨rfl, rfl⟩, h101⟩ := h101
                rcases h101 with h103 | h104
                · obtain ⟨q106, k105⟩ := h103
                  have q106 := q106.symm
                  subst q106
                  refine lv_if_ne (tgt := 113) hx hb dX12_numberRead_99 (by decide) (fun _ => ?_) (fun c => absurd c (by decide))
                  refine lv_aload_n hx hb dX12_numberRead_113 rfl (lv_at hl 2 rfl) ?_
                  refine va_get (D := D) hx hb hts inlX12 hown hK hP 55 (jc_55 cI cL ad σ80 τ) rfl 19 (by decide) (hts _ kw_15_11) (fun _ h9 => h9) rfl dX12_numberRead_114 ?_
                  refine jtopr m83 ?_
                  refine lv_iload hx hb dX12_numberRead_117 (lv_at hl 1 rfl) ?_
                  refine lv_icmp_ne (tgt := 129) hx hb dX12_numberRead_119 (by decide) (fun c107 => ?_) (fun c => absurd (jeq c tx79 rfl) (by omega))
                  have kc107 := jne c107 tx79 rfl
                  refine lv_iload hx hb dX12_numberRead_129 (lv_at hl 0 rfl) ?_
                  exact hret x78 σ80 τ _ _ _ _ rfl ⟨rfl, (fun i hi => (jnp i eσ80 (imp_165 i hi))), (fun i hi => (jkp i eσ80 (imp_220 i hi))), I90, ⟨trivial, (by have h9 := tx78; omega), ⟨1, x78.toInt, (by have i0 := jix (f := σ 63) (show (σ 55 19).toInt = (σ 55 19).toInt by omega); have p1 := tx79; have i1 := jix (f := σ 63) (show x79.toInt = (σ 55 19).toInt + 1 by omega); unfold jNb jDg; omega), (by have h9 := tx78; omega)⟩⟩⟩ hP hS dX12_numberRead_131
                · obtain ⟨q109, k108⟩ := h104
                  have q109 := q109.symm
                  subst q109
                  refine lv_if_ne (tgt := 113) hx hb dX12_numberRead_99 (by decide) (fun c => absurd (by decide) c) (fun _ => ?_)
                  refine lv_aload_n hx hb dX12_numberRead_102 rfl (lv_at hl 2 rfl) ?_
                  refine lv_iload hx hb dX12_numberRead_103 (lv_at hl 1 rfl) ?_
                  refine jput (ty := .int) hx hb hts inlX12 tyX12 tyX12_ok nmX12 hown hK hP hJ hA hS (jc_55 cI cL ad σ80 τ) rfl (k := 19) (by decide) (Nat.le_of_ble_eq_true rfl) (jp_55_19 cI cL ad σ80 τ (σ 55 19)) (hts _ kw_15_11) (fun _ h9 => h9) rfl (by decide +kernel) rfl rfl dX12_numberRead_105 (fun σ110 H locs eσ110 hP hS => ?_)
                  refine lv_aload_n hx hb dX12_numberRead_108 rfl (lv_at hl 2 rfl) ?_
                  have z111 : (σ110 55 18).toInt = (σ 55 18).toInt := (congrArg Int32.toInt (show σ110 55 18 = (σ 55 18) from ((jkp 18 eσ110 (by decide)).trans (jkp 18 eσ80 (by decide)))))
                  have z112 : (σ110 55 19).toInt = (σ 55 19).toInt := (congrArg Int32.toInt (show σ110 55 19 = (σ 55 19) from (jsp eσ110)))
                  have z113 : (σ110 55 20).toInt = (σ 55 20).toInt := (congrArg Int32.toInt (show σ110 55 20 = (σ 55 20) from ((jkp 20 eσ110 (by decide)).trans (jkp 20 eσ80 (by decide)))))
                  have z114 : (σ110 55 21).toInt = (σ 55 21).toInt := (congrArg Int32.toInt (show σ110 55 21 = (σ 55 21) from ((jkp 21 eσ110 (by decide)).trans m81)))
                  have I115 : jI121 σ110 := ⟨(by omega), (by omega), (by omega), (by omega), (by omega)⟩
                  refine jcallV (As := []) (rest := []) ⟨hx, hb, hml, hown, hts⟩ hK hP hA hS hZ (c_X12_wrong l D cI cL ad zz hJ σ110 τ I115) cw_RX12_214 (jc_55 cI cL ad σ110 τ) rfl ⟨Nat.le_of_ble_eq_true rfl, Nat.le_of_ble_eq_true rfl⟩ rfl rfl rfl hl.1 rfl (Nat.le_of_ble_eq_true rfl) dX12_numberRead_109 ⟨Nat.zero_le _, Nat.zero_le _⟩ (fun r117 σ116 τ116 H locs h116 hP hS => ?_)
                  obtain ⟨rfl, f118, f119, I120, h116⟩ := h116
                  obtain ⟨i122, i123, i124, i125, i126⟩ : ((-1) ≤ (σ116 55 18).toInt ∧ (σ116 55 18).toInt ≤ 80) ∧ (0 ≤ (σ116 55 19).toInt) ∧ ((σ116 55 19).toInt ≤ (σ116 55 20).toInt) ∧ ((σ116 55 20).toInt ≤ 80) ∧ ((-1) ≤ (σ116 55 21).toInt) := id I120
                  have z127 : (σ116 55 18).toInt = (σ 55 18).toInt := (congrArg Int32.toInt (show σ116 55 18 = (σ 55 18) from ((f119 18 (by decide)).trans ((jkp 18 eσ110 (by decide)).trans (jkp 18 eσ80 (by decide))))))
                  have z128 : (σ116 55 19).toInt = (σ 55 19).toInt := (congrArg Int32.toInt (show σ116 55 19 = (σ 55 19) from ((f119 19 (by decide)).trans (jsp eσ110))))
                  have z129 : (σ116 55 20).toInt = (σ 55 20).toInt := (congrArg Int32.toInt (show σ116 55 20 = (σ 55 20) from ((f119 20 (by decide)).trans ((jkp 20 eσ110 (by decide)).trans (jkp 20 eσ80 (by decide))))))
                  obtain ⟨k130, k131, h116⟩ := h116
                  have h132 := h116
                  obtain ⟨q134, k133⟩ := h132
                  have q134 := q134.symm
                  subst q134
                  exact hret 0 σ116 τ _ _ _ _ rfl ⟨rfl, (fun i hi => ((f118 i hi).trans ((jnp i eσ110 (imp_165 i hi)).trans (jnp i eσ80 (imp_165 i hi))))), (fun i hi => ((f119 i (imp_219 i hi)).trans ((jkp i eσ110 (imp_220 i hi)).trans (jkp i eσ80 (imp_220 i hi))))), I120, ⟨trivial, (by have h9 := jz_0; omega), ⟨1, x78.toInt, (by have i0 := jix (f := σ 63) (show (σ 55 19).toInt = (σ 55 19).toInt by omega); have p1 := tx79; have i1 := jix (f := σ 63) (show x79.toInt = (σ 55 19).toInt + 1 by omega); unfold jNb jDg; omega), (by have h9 := jz_0; omega)⟩⟩⟩ hP hS dX12_numberRead_112
              · have kc98 := jnlt c98 rfl jz_48
                refine lv_aload_n hx hb dX12_numberRead_36 rfl (lv_at hl 2 rfl) ?_
                refine jcallV (As := []) (rest := []) ⟨hx, hb, hml, hown, hts⟩ hK hP hA hS hZ (c_X12_byteAt_t l D cI cL ad zz hJ σ80 τ I90 (by omega)) cw_RX12_189 (jc_55 cI cL ad σ80 τ) rfl ⟨Nat.le_of_ble_eq_true rfl, Nat.le_of_ble_eq_true rfl⟩ rfl rfl rfl hl.1 rfl (Nat.le_of_ble_eq_true rfl) dX12_numberRead_37 ⟨Nat.zero_le _, Nat.zero_le _⟩ (fun r136 σ135 τ135 H locs h135 hP hS => ?_)
                obtain ⟨⟨rfl, rfl⟩, h135⟩ := h135
                rcases h135 with h137 | h138
                · obtain ⟨q140, k139⟩ := h137
                  have q141 : r136 = (σ 63 x79.toNatClampNeg) := q140.trans (by rw [(show σ80 55 19 = x79 from m83), jnp 63 eσ80 (by decide)])
                  have q141e : (σ80 63 (σ80 55 19).toNatClampNeg).toInt = (σ 63 x79.toNatClampNeg).toInt := by rw [← q140, ← q141]
                  have q141 := q141.symm
                  subst q141
                  refine lv_bipush (v := 57) hx hb dX12_numberRead_40 (by decide) ?_
                  refine lv_icmp_gt (tgt := 73) hx hb dX12_numberRead_42 (by decide) (fun c142 => ?_) (fun c142 => ?_)
                  · have kc142 := jlt c142 jz_57 rfl
                    refine lv_aload_n hx hb dX12_numberRead_73 rfl (lv_at hl 2 rfl) ?_
                    refine va_get (D := D) hx hb hts inlX12 hown hK hP 55 (jc_55 cI cL ad σ80 τ) rfl 21 (by decide) (hts _ kw_15_13) (fun _ h9 => h9) rfl dX12_numberRead_74 ?_
                    refine jtopr m81 ?_
                    refine lv_if_ge (tgt := 113) hx hb dX12_numberRead_77 (by decide) (fun c => absurd (jle c jz_0 rfl) (by omega)) (fun c143 => ?_)
                    have kc143 := jnle c143 jz_0 rfl
                    refine lv_aload_n hx hb dX12_numberRead_80 rfl (lv_at hl 2 rfl) ?_
                    refine va_get (D := D) hx hb hts inlX12 hown hK hP 55 (jc_55 cI cL ad σ80 τ) rfl 19 (by decide) (hts _ kw_15_11) (fun _ h9 => h9) rfl dX12_numberRead_81 ?_
                    refine jtopr m83 ?_
                    refine lv_iload hx hb dX12_numberRead_84 (lv_at hl 1 rfl) ?_
                    refine lv_icmp_le (tgt := 113) hx hb dX12_numberRead_86 (by decide) (fun c => absurd (jle c tx79 rfl) (by omega)) (fun c144 => ?_)
                    have kc144 := jnle c144 tx79 rfl
                    refine lv_iload hx hb dX12_numberRead_89 (lv_at hl 0 rfl) ?_
                    refine lv_i2l (v := x78.toInt64) hx hb dX12_numberRead_91 rfl ?_
                    refine lv_iload_n hx hb dX12_numberRead_92 rfl (lv_at hl 4 rfl) ?_
                    refine lv_i2l (v := 1) hx hb dX12_numberRead_93 (by decide) ?_
                    refine lv_iload_n hx hb dX12_numberRead_94 rfl (lv_at hl 5 rfl) ?_
                    refine lv_i2l (v := 12) hx hb dX12_numberRead_95 (by decide) ?_
                    refine jcallS (As := [.long x78.toInt64, .long 1, .long 12]) (rest := []) ⟨hx, hb, hml, hown, hts⟩ hK hP hA hS hZ (c_X12_within l D cI cL ad zz hJ σ80 τ x78.toInt64 ((σ 63 (σ 55 19).toNatClampNeg).toInt - 48) (jtoL tx78) 1 (1) jzl_1 12 (12) jzl_12) cw_RX12_136 ⟨Nat.le_of_ble_eq_true rfl, Nat.le_of_ble_eq_true rfl⟩ rfl rfl rfl hl.1 rfl (Nat.le_of_ble_eq_true rfl) dX12_numberRead_96 ⟨Nat.zero_le _, Nat.zero_le _⟩ (fun r146 σ145 τ145 H locs h145 hP hS => ?_)
                    obtain ⟨⟨rfl, rfl⟩, h145⟩ := h145
                    rcases h145 with h147 | h148
                    · obtain ⟨q150, k149⟩ := h147
                      have q150 := q150.symm
                      subst q150
                      refine lv_if_ne (tgt := 113) hx hb dX12_numberRead_99 (by decide) (fun _ => ?_) (fun c => absurd c (by decide))
                      refine lv_aload_n hx hb dX12_numberRead_113 rfl (lv_at hl 2 rfl) ?_
                      refine va_get (D := D) hx hb hts inlX12 hown hK hP 55 (jc_55 cI cL ad σ80 τ) rfl 19 (by decide) (hts _ kw_15_11) (fun _ h9 => h9) rfl dX12_numberRead_114 ?_
                      refine jtopr m83 ?_
                      refine lv_iload hx hb dX12_numberRead_117 (lv_at hl 1 rfl) ?_
                      refine lv_icmp_ne (tgt := 129) hx hb dX12_numberRead_119 (by decide) (fun c151 => ?_) (fun c => absurd (jeq c tx79 rfl) (by omega))
                      have kc151 := jne c151 tx79 rfl
                      refine lv_iload hx hb dX12_numberRead_129 (lv_at hl 0 rfl) ?_
                      exact hret x78 σ80 τ _ _ _ _ rfl ⟨rfl, (fun i hi => (jnp i eσ80 (imp_165 i hi))), (fun i hi => (jkp i eσ80 (imp_220 i hi))), I90, ⟨trivial, (by have h9 := tx78; omega), ⟨1, x78.toInt, (by have i0 := jix (f := σ 63) (show (σ 55 19).toInt = (σ 55 19).toInt by omega); have p1 := tx79; have i1 := jix (f := σ 63) (show x79.toInt = (σ 55 19).toInt + 1 by omega); unfold jNb jDg; omega), (by have h9 := tx78; omega)⟩⟩⟩ hP hS dX12_numberRead_131
                    · obtain ⟨q153, k152⟩ := h148
                      have q153 := q153.symm
                      subst q153
                      refine lv_if_ne (tgt := 113) hx hb dX12_numberRead_99 (by decide) (fun c => absurd (by decide) c) (fun _ => ?_)
                      refine lv_aload_n hx hb dX12_numberRead_102 rfl (lv_at hl 2 rfl) ?_
                      refine lv_iload hx hb dX12_numberRead_103 (lv_at hl 1 rfl) ?_
                      refine jput (ty := .int) hx hb hts inlX12 tyX12 tyX12_ok nmX12 hown hK hP hJ hA hS (jc_55 cI cL ad σ80 τ) rfl (k := 19) (by decide) (Nat.le_of_ble_eq_true rfl) (jp_55_19 cI cL ad σ80 τ (σ 55 19)) (hts _ kw_15_11) (fun _ h9 => h9) rfl (by decide +kernel) rfl rfl dX12_numberRead_105 (fun σ154 H locs eσ154 hP hS => ?_)
                      refine lv_aload_n hx hb dX12_numberRead_108 rfl (lv_at hl 2 rfl) ?_
                      have z155 : (σ154 55 18).toInt = (σ 55 18).toInt := (congrArg Int32.toInt (show σ154 55 18 = (σ 55 18) from ((jkp 18 eσ154 (by decide)).trans (jkp 18 eσ80 (by decide)))))
                      have z156 : (σ154 55 19).toInt = (σ 55 19).toInt := (congrArg Int32.toInt (show σ154 55 19 = (σ 55 19) from (jsp eσ154)))
                      have z157 : (σ154 55 20).toInt = (σ 55 20).toInt := (congrArg Int32.toInt (show σ154 55 20 = (σ 55 20) from ((jkp 20 eσ154 (by decide)).trans (jkp 20 eσ80 (by decide)))))
                      have z158 : (σ154 55 21).toInt = (σ 55 21).toInt := (congrArg Int32.toInt (show σ154 55 21 = (σ 55 21) from ((jkp 21 eσ154 (by decide)).trans m81)))
                      have I159 : jI121 σ154 := ⟨(by omega), (by omega), (by omega), (by omega), (by omega)⟩
                      refine jcallV (As := []) (rest := []) ⟨hx, hb, hml, hown, hts⟩ hK hP hA hS hZ (c_X12_wrong l D cI cL ad zz hJ σ154 τ I159) cw_RX12_214 (jc_55 cI cL ad σ154 τ) rfl ⟨Nat.le_of_ble_eq_true rfl, Nat.le_of_ble_eq_true rfl⟩ rfl rfl rfl hl.1 rfl (Nat.le_of_ble_eq_true rfl) dX12_numberRead_109 ⟨Nat.zero_le _, Nat.zero_le _⟩ (fun r161 σ160 τ160 H locs h160 hP hS => ?_)
                      obtain ⟨rfl, f162, f163, I164, h160⟩ := h160
                      obtain ⟨i166, i167, i168, i169, i170⟩ : ((-1) ≤ (σ160 55 18).toInt ∧ (σ160 55 18).toInt ≤ 80) ∧ (0 ≤ (σ160 55 19).toInt) ∧ ((σ160 55 19).toInt ≤ (σ160 55 20).toInt) ∧ ((σ160 55 20).toInt ≤ 80) ∧ ((-1) ≤ (σ160 55 21).toInt) := id I164
                      have z171 : (σ160 55 18).toInt = (σ 55 18).toInt := (congrArg Int32.toInt (show σ160 55 18 = (σ 55 18) from ((f163 18 (by decide)).trans ((jkp 18 eσ154 (by decide)).trans (jkp 18 eσ80 (by decide))))))
                      have z172 : (σ160 55 19).toInt = (σ 55 19).toInt := (congrArg Int32.toInt (show σ160 55 19 = (σ 55 19) from ((f163 19 (by decide)).trans (jsp eσ154))))
                      have z173 : (σ160 55 20).toInt = (σ 55 20).toInt := (congrArg Int32.toInt (show σ160 55 20 = (σ 55 20) from ((f163 20 (by decide)).trans ((jkp 20 eσ154 (by decide)).trans (jkp 20 eσ80 (by decide))))))
                      obtain ⟨k174, k175, h160⟩ := h160
                      have h176 := h160
                      obtain ⟨q178, k177⟩ := h176
                      have q178 := q178.symm
                      subst q178
                      exact hret 0 σ160 τ _ _ _ _ rfl ⟨rfl, (fun i hi => ((f162 i hi).trans ((jnp i eσ154 (imp_165 i hi)).trans (jnp i eσ80 (imp_165 i hi))))), (fun i hi => ((f163 i (imp_219 i hi)).trans ((jkp i eσ154 (imp_220 i hi)).trans (jkp i eσ80 (imp_220 i hi))))), I164, ⟨trivial, (by have h9 := jz_0; omega), ⟨1, x78.toInt, (by have i0 := jix (f := σ 63) (show (σ 55 19).toInt = (σ 55 19).toInt by omega); have p1 := tx79; have i1 := jix (f := σ 63) (show x79.toInt = (σ 55 19).toInt + 1 by omega); unfold jNb jDg; omega), (by have h9 := jz_0; omega)⟩⟩⟩ hP hS dX12_numberRead_112
                  · have kc142 := jnlt c142 jz_57 rfl
                    refine lv_bipush (v := 10) hx hb dX12_numberRead_45 (by decide) ?_
                    refine lv_iload hx hb dX12_numberRead_47 (lv_at hl 0 rfl) ?_
                    refine lv_imul hx hb dX12_numberRead_49 ?_
                    refine lv_topi (fun x179 ex179 => ?_)
                    have tx179 : x179.toInt = 10 * (σ 63 (σ 55 19).toNatClampNeg).toInt - 480 := (jmul ex179 jz_10 tx78 (by omega) (by omega)).trans (by omega)
                    refine lv_aload_n hx hb dX12_numberRead_50 rfl (lv_at hl 2 rfl) ?_
                    refine jcallV (As := []) (rest := [.int x179]) ⟨hx, hb, hml, hown, hts⟩ hK hP hA hS hZ (c_X12_byteAt_t l D cI cL ad zz hJ σ80 τ I90 (by omega)) cw_RX12_189 (jc_55 cI cL ad σ80 τ) rfl ⟨Nat.le_of_ble_eq_true rfl, Nat.le_of_ble_eq_true rfl⟩ rfl rfl rfl hl.1 rfl (Nat.le_of_ble_eq_true rfl) dX12_numberRead_51 ⟨Nat.zero_le _, Nat.zero_le _⟩ (fun r181 σ180 τ180 H locs h180 hP hS => ?_)
                    obtain ⟨⟨rfl, rfl⟩, h180⟩ := h180
                    rcases h180 with h182 | h183
                    · obtain ⟨q185, k184⟩ := h182
                      have q186 : r181 = (σ 63 x79.toNatClampNeg) := q185.trans (by rw [(show σ80 55 19 = x79 from m83), jnp 63 eσ80 (by decide)])
                      have q186e : (σ80 63 (σ80 55 19).toNatClampNeg).toInt = (σ 63 x79.toNatClampNeg).toInt := by rw [← q185, ← q186]
                      have q186 := q186.symm
                      subst q186
                      have g187 := jrg (rfl : (σ 63 x79.toNatClampNeg).toInt = (σ 63 x79.toNatClampNeg).toInt)
                      refine lv_iadd hx hb dX12_numberRead_54 ?_
                      refine lv_topi (fun x188 ex188 => ?_)
                      have tx188 : x188.toInt = 10 * (σ 63 (σ 55 19).toNatClampNeg).toInt + (σ 63 x79.toNatClampNeg).toInt - 480 := (jadd ex188 tx179 rfl (by omega) (by omega)).trans (by omega)
                      refine lv_bipush (v := 48) hx hb dX12_numberRead_55 (by decide) ?_
                      refine lv_isub hx hb dX12_numberRead_57 ?_
                      refine lv_topi (fun x189 ex189 => ?_)
                      have tx189 : x189.toInt = 10 * (σ 63 (σ 55 19).toNatClampNeg).toInt + (σ 63 x79.toNatClampNeg).toInt - 528 := (jsub ex189 tx188 jz_48 (by omega) (by omega)).trans (by omega)
                      refine lv_istore (lv' := [(5, .int x189), (4, .int (σ 55 19)), (0, .ref (ad 55)), (1, .int 2), (2, .int 1), (3, .int 12)]) hx hb dX12_numberRead_58 hl (by decide) rfl (fun ls hl => ?_)
                      refine lv_aload_n hx hb dX12_numberRead_60 rfl (lv_at hl 2 rfl) ?_
                      refine lv_dup hx hb dX12_numberRead_61 rfl ?_
                      refine va_get (D := D) hx hb hts inlX12 hown hK hP 55 (jc_55 cI cL ad σ80 τ) rfl 19 (by decide) (hts _ kw_15_11) (fun _ h9 => h9) rfl dX12_numberRead_62 ?_
                      refine jtopr m83 ?_
                      refine lv_iconst (v := 1) hx hb dX12_numberRead_65 (by decide) ?_
                      refine lv_iadd hx hb dX12_numberRead_66 ?_
                      refine lv_topi (fun x190 ex190 => ?_)
                      have tx190 : x190.toInt = (σ 55 19).toInt + 2 := (jadd ex190 tx79 jz_1 (by omega) (by omega)).trans (by omega)
                      refine jput (ty := .int) hx hb hts inlX12 tyX12 tyX12_ok nmX12 hown hK hP hJ hA hS (jc_55 cI cL ad σ80 τ) rfl (k := 19) (by decide) (Nat.le_of_ble_eq_true rfl) (jp_55_19 cI cL ad σ80 τ x190) (hts _ kw_15_11) (fun _ h9 => h9) rfl (by decide +kernel) rfl rfl dX12_numberRead_67 (fun σ191 H locs eσ191 hP hS => ?_)
                      refine lv_goto (tgt := 9) hx hb dX12_numberRead_70 (by decide) ?_
                      refine lv_aload_n hx hb dX12_numberRead_9 rfl (lv_at hl 2 rfl) ?_
                      refine va_get (D := D) hx hb hts inlX12 hown hK hP 55 (jc_55 cI cL ad σ191 τ) rfl 21 (by decide) (hts _ kw_15_13) (fun _ h9 => h9) rfl dX12_numberRead_10 ?_
                      have m192 : σ191 55 21 = (σ 55 21) := ((jkp 21 eσ191 (by decide)).trans m81)
                      refine jtopr m192 ?_
                      refine lv_if_ge (tgt := 73) hx hb dX12_numberRead_13 (by decide) (fun c => absurd (jle c jz_0 rfl) (by omega)) (fun c193 => ?_)
                      have kc193 := jnle c193 jz_0 rfl
                      refine lv_aload_n hx hb dX12_numberRead_16 rfl (lv_at hl 2 rfl) ?_
                      refine va_get (D := D) hx hb hts inlX12 hown hK hP 55 (jc_55 cI cL ad σ191 τ) rfl 19 (by decide) (hts _ kw_15_11) (fun _ h9 => h9) rfl dX12_numberRead_17 ?_
                      have m194 : σ191 55 19 = x190 := (jsp eσ191)
                      refine jtopr m194 ?_
                      refine lv_iload hx hb dX12_numberRead_20 (lv_at hl 1 rfl) ?_
                      refine lv_iload_n hx hb dX12_numberRead_22 rfl (lv_at hl 3 rfl) ?_
                      refine lv_iadd hx hb dX12_numberRead_23 ?_
                      refine lv_topi (fun x195 ex195 => ?_)
                      have tx195 : x195.toInt = (σ 55 19).toInt + 2 := (jadd ex195 rfl jz_2 (by omega) (by omega)).trans (by omega)
                      refine lv_icmp_ge (tgt := 73) hx hb dX12_numberRead_24 (by decide) (fun c196 => ?_) (fun c => absurd (jnle c tx195 tx190) (by omega))
                      have kc196 := jle c196 tx195 tx190
                      refine lv_aload_n hx hb dX12_numberRead_73 rfl (lv_at hl 2 rfl) ?_
                      refine va_get (D := D) hx hb hts inlX12 hown hK hP 55 (jc_55 cI cL ad σ191 τ) rfl 21 (by decide) (hts _ kw_15_13) (fun _ h9 => h9) rfl dX12_numberRead_74 ?_
                      refine jtopr m192 ?_
                      refine lv_if_ge (tgt := 113) hx hb dX12_numberRead_77 (by decide) (fun c => absurd (jle c jz_0 rfl) (by omega)) (fun c197 => ?_)
                      have kc197 := jnle c197 jz_0 rfl
                      refine lv_aload_n hx hb dX12_numberRead_80 rfl (lv_at hl 2 rfl) ?_
                      refine va_get (D := D) hx hb hts inlX12 hown hK hP 55 (jc_55 cI cL ad σ191 τ) rfl 19 (by decide) (hts _ kw_15_11) (fun _ h9 => h9) rfl dX12_numberRead_81 ?_
                      refine jtopr m194 ?_
                      refine lv_iload hx hb dX12_numberRead_84 (lv_at hl 1 rfl) ?_
                      refine lv_icmp_le (tgt := 113) hx hb dX12_numberRead_86 (by decide) (fun c => absurd (jle c tx190 rfl) (by omega)) (fun c198 => ?_)
                      have kc198 := jnle c198 tx190 rfl
                      refine lv_iload hx hb dX12_numberRead_89 (lv_at hl 0 rfl) ?_
                      refine lv_i2l (v := x189.toInt64) hx hb dX12_numberRead_91 rfl ?_
                      refine lv_iload_n hx hb dX12_numberRead_92 rfl (lv_at hl 4 rfl) ?_
                      refine lv_i2l (v := 1) hx hb dX12_numberRead_93 (by decide) ?_
                      refine lv_iload_n hx hb dX12_numberRead_94 rfl (lv_at hl 5 rfl) ?_
                      refine lv_i2l (v := 12) hx hb dX12_numberRead_95 (by decide) ?_
                      refine jcallS (As := [.long x189.toInt64, .long 1, .long 12]) (rest := []) ⟨hx, hb, hml, hown, hts⟩ hK hP hA hS hZ (c_X12_within l D cI cL ad zz hJ σ191 τ x189.toInt64 (10 * (σ 63 (σ 55 19).toNatClampNeg).toInt + (σ 63 x79.toNatClampNeg).toInt - 528) (jtoL tx189) 1 (1) jzl_1 12 (12) jzl_12) cw_RX12_136 ⟨Nat.le_of_ble_eq_true rfl, Nat.le_of_ble_eq_true rfl⟩ rfl rfl rfl hl.1 rfl (Nat.le_of_ble_eq_true rfl) dX12_numberRead_96 ⟨Nat.zero_le _, Nat.zero_le _⟩ (fun r200 σ199 τ199 H locs h199 hP hS => ?_)
                      obtain ⟨⟨rfl, rfl⟩, h199⟩ := h199
                      rcases h199 with h201 | h202
                      · obtain ⟨q204, k203⟩ := h201
                        have q204 := q204.symm
                        subst q204
                        refine lv_if_ne (tgt := 113) hx hb dX12_numberRead_99 (by decide) (fun _ => ?_) (fun c => absurd c (by decide))
                        refine lv_aload_n hx hb dX12_numberRead_113 rfl (lv_at hl 2 rfl) ?_
                        refine va_get (D := D) hx hb hts inlX12 hown hK hP 55 (jc_55 cI cL ad σ191 τ) rfl 19 (by decide) (hts _ kw_15_11) (fun _ h9 => h9) rfl dX12_numberRead_114 ?_
                        refine jtopr m194 ?_
                        refine lv_iload hx hb dX12_numberRead_117 (lv_at hl 1 rfl) ?_
                        refine lv_icmp_ne (tgt := 129) hx hb dX12_numberRead_119 (by decide) (fun c205 => ?_) (fun c => absurd (jeq c tx190 rfl) (by omega))
                        have kc205 := jne c205 tx190 rfl
                        refine lv_iload hx hb dX12_numberRead_129 (lv_at hl 0 rfl) ?_
                        have z206 : (σ191 55 18).toInt = (σ 55 18).toInt := (congrArg Int32.toInt (show σ191 55 18 = (σ 55 18) from ((jkp 18 eσ191 (by decide)).trans (jkp 18 eσ80 (by decide)))))
                        have z207 : (σ191 55 19).toInt = (σ 55 19).toInt + 2 := ((congrArg Int32.toInt (show σ191 55 19 = x190 from m194)).trans tx190)
                        have z208 : (σ191 55 20).toInt = (σ 55 20).toInt := (congrArg Int32.toInt (show σ191 55 20 = (σ 55 20) from ((jkp 20 eσ191 (by decide)).trans (jkp 20 eσ80 (by decide)))))
                        have z209 : (σ191 55 21).toInt = (σ 55 21).toInt := (congrArg Int32.toInt (show σ191 55 21 = (σ 55 21) from m192))
                        have I210 : jI121 σ191 := ⟨(by omega), (by omega), (by omega), (by omega), (by omega)⟩
                        exact hret x189 σ191 τ _ _ _ _ rfl ⟨rfl, (fun i hi => ((jnp i eσ191 (imp_165 i hi)).trans (jnp i eσ80 (imp_165 i hi)))), (fun i hi => ((jkp i eσ191 (imp_220 i hi)).trans (jkp i eσ80 (imp_220 i hi)))), I210, ⟨trivial, (by have h9 := tx189; omega), ⟨2, x189.toInt, (by have i0 := jix (f := σ 63) (show (σ 55 19).toInt = (σ 55 19).toInt by omega); have p1 := tx79; have i1 := jix (f := σ 63) (show x79.toInt = (σ 55 19).toInt + 1 by omega); unfold jNb jDg; omega), (by have h9 := tx189; omega)⟩⟩⟩ hP hS dX12_numberRead_131
                      · obtain ⟨q212, k211⟩ := h202
                        have q212 := q212.symm
                        subst q212
                        refine lv_if_ne (tgt := 113) hx hb dX12_numberRead_99 (by decide) (fun c => absurd (by decide) c) (fun _ => ?_)
                        refine lv_aload_n hx hb dX12_numberRead_102 rfl (lv_at hl 2 rfl) ?_
                        refine lv_iload hx hb dX12_numberRead_103 (lv_at hl 1 rfl) ?_
                        refine jput (ty := .int) hx hb hts inlX12 tyX12 tyX12_ok nmX12 hown hK hP hJ hA hS (jc_55 cI cL ad σ191 τ) rfl (k := 19) (by decide) (Nat.le_of_ble_eq_true rfl) (jp_55_19 cI cL ad σ191 τ (σ 55 19)) (hts _ kw_15_11) (fun _ h9 => h9) rfl (by decide +kernel) rfl rfl dX12_numberRead_105 (fun σ213 H locs eσ213 hP hS => ?_)
                        refine lv_aload_n hx hb dX12_numberRead_108 rfl (lv_at hl 2 rfl) ?_
                        have z214 : (σ213 55 18).toInt = (σ 55 18).toInt := (congrArg Int32.toInt (show σ213 55 18 = (σ 55 18) from ((jkp 18 eσ213 (by decide)).trans ((jkp 18 eσ191 (by decide)).trans (jkp 18 eσ80 (by decide))))))
                        have z215 : (σ213 55 19).toInt = (σ 55 19).toInt := (congrArg Int32.toInt (show σ213 55 19 = (σ 55 19) from (jsp eσ213)))
                        have z216 : (σ213 55 20).toInt = (σ 55 20).toInt := (congrArg Int32.toInt (show σ213 55 20 = (σ 55 20) from ((jkp 20 eσ213 (by decide)).trans ((jkp 20 eσ191 (by decide)).trans (jkp 20 eσ80 (by decide))))))
                        have z217 : (σ213 55 21).toInt = (σ 55 21).toInt := (congrArg Int32.toInt (show σ213 55 21 = (σ 55 21) from ((jkp 21 eσ213 (by decide)).trans m192)))
                        have I218 : jI121 σ213 := ⟨(by omega), (by omega), (by omega), (by omega), (by omega)⟩
                        refine jcallV (As := []) (rest := []) ⟨hx, hb, hml, hown, hts⟩ hK hP hA hS hZ (c_X12_wrong l D cI cL ad zz hJ σ213 τ I218) cw_RX12_214 (jc_55 cI cL ad σ213 τ) rfl ⟨Nat.le_of_ble_eq_true rfl, Nat.le_of_ble_eq_true rfl⟩ rfl rfl rfl hl.1 rfl (Nat.le_of_ble_eq_true rfl) dX12_numberRead_109 ⟨Nat.zero_le _, Nat.zero_le _⟩ (fun r220 σ219 τ219 H locs h219 hP hS => ?_)
                        obtain ⟨rfl, f221, f222, I223, h219⟩ := h219
                        obtain ⟨i225, i226, i227, i228, i229⟩ : ((-1) ≤ (σ219 55 18).toInt ∧ (σ219 55 18).toInt ≤ 80) ∧ (0 ≤ (σ219 55 19).toInt) ∧ ((σ219 55 19).toInt ≤ (σ219 55 20).toInt) ∧ ((σ219 55 20).toInt ≤ 80) ∧ ((-1) ≤ (σ219 55 21).toInt) := id I223
                        have z230 : (σ219 55 18).toInt = (σ 55 18).toInt := (congrArg Int32.toInt (show σ219 55 18 = (σ 55 18) from ((f222 18 (by decide)).trans ((jkp 18 eσ213 (by decide)).trans ((jkp 18 eσ191 (by decide)).trans (jkp 18 eσ80 (by decide)))))))
                        have z231 : (σ219 55 19).toInt = (σ 55 19).toInt := (congrArg Int32.toInt (show σ219 55 19 = (σ 55 19) from ((f222 19 (by decide)).trans (jsp eσ213))))
                        have z232 : (σ219 55 20).toInt = (σ 55 20).toInt := (congrArg Int32.toInt (show σ219 55 20 = (σ 55 20) from ((f222 20 (by decide)).trans ((jkp 20 eσ213 (by decide)).trans ((jkp 20 eσ191 (by decide)).trans (jkp 20 eσ80 (by decide)))))))
                        obtain ⟨k233, k234, h219⟩ := h219
                        have h235 := h219
                        obtain ⟨q237, k236⟩ := h235
                        have q237 := q237.symm
                        subst q237
                        exact hret 0 σ219 τ _ _ _ _ rfl ⟨rfl, (fun i hi => ((f221 i hi).trans ((jnp i eσ213 (imp_165 i hi)).trans ((jnp i eσ191 (imp_165 i hi)).trans (jnp i eσ80 (imp_165 i hi)))))), (fun i hi => ((f222 i (imp_219 i hi)).trans ((jkp i eσ213 (imp_220 i hi)).trans ((jkp i eσ191 (imp_220 i hi)).trans (jkp i eσ80 (imp_220 i hi)))))), I223, ⟨trivial, (by have h9 := jz_0; omega), ⟨2, x189.toInt, (by have i0 := jix (f := σ 63) (show (σ 55 19).toInt = (σ 55 19).toInt by omega); have p1 := tx79; have i1 := jix (f := σ 63) (show x79.toInt = (σ 55 19).toInt + 1 by omega); unfold jNb jDg; omega), (by have h9 := jz_0; omega)⟩⟩⟩ hP hS dX12_numberRead_112
                    · obtain ⟨q239, k238⟩ := h183
                      exact absurd (by omega : False) id
                · obtain ⟨q241, k240⟩ := h138
                  exact absurd (by omega : False) id
            · obtain ⟨q243, k242⟩ := h94
              have q243 := q243.symm
              subst q243
              refine lv_bipush (v := 48) hx hb dX12_numberRead_31 (by decide) ?_
              refine lv_icmp_lt (tgt := 73) hx hb dX12_numberRead_33 (by decide) (fun _ => ?_) (fun c => absurd (by decide) c)
              refine lv_aload_n hx hb dX12_numberRead_73 rfl (lv_at hl 2 rfl) ?_
              refine va_get (D := D) hx hb hts inlX12 hown hK hP 55 (jc_55 cI cL ad σ80 τ) rfl 21 (by decide) (hts _ kw_15_13) (fun _ h9 => h9) rfl dX12_numberRead_74 ?_
              refine jtopr m81 ?_
              refine lv_if_ge (tgt := 113) hx hb dX12_numberRead_77 (by decide) (fun c => absurd (jle c jz_0 rfl) (by omega)) (fun c244 => ?_)
              have kc244 := jnle c244 jz_0 rfl
              refine lv_aload_n hx hb dX12_numberRead_80 rfl (lv_at hl 2 rfl) ?_
              refine va_get (D := D) hx hb hts inlX12 hown hK hP 55 (jc_55 cI cL ad σ80 τ) rfl 19 (by decide) (hts _ kw_15_11) (fun _ h9 => h9) rfl dX12_numberRead_81 ?_
              refine jtopr m83 ?_
              refine lv_iload hx hb dX12_numberRead_84 (lv_at hl 1 rfl) ?_
              refine lv_icmp_le (tgt := 113) hx hb dX12_numberRead_86 (by decide) (fun c => absurd (jle c tx79 rfl) (by omega)) (fun c245 => ?_)
              have kc245 := jnle c245 tx79 rfl
              refine lv_iload hx hb dX12_numberRead_89 (lv_at hl 0 rfl) ?_
              refine lv_i2l (v := x78.toInt64) hx hb dX12_numberRead_91 rfl ?_
              refine lv_iload_n hx hb dX12_numberRead_92 rfl (lv_at hl 4 rfl) ?_
              refine lv_i2l (v := 1) hx hb dX12_numberRead_93 (by decide) ?_
              refine lv_iload_n hx hb dX12_numberRead_94 rfl (lv_at hl 5 rfl) ?_
              refine lv_i2l (v := 12) hx hb dX12_numberRead_95 (by decide) ?_
              refine jcallS (As := [.long x78.toInt64, .long 1, .long 12]) (rest := []) ⟨hx, hb, hml, hown, hts⟩ hK hP hA hS hZ (c_X12_within l D cI cL ad zz hJ σ80 τ x78.toInt64 ((σ 63 (σ 55 19).toNatClampNeg).toInt - 48) (jtoL tx78) 1 (1) jzl_1 12 (12) jzl_12) cw_RX12_136 ⟨Nat.le_of_ble_eq_true rfl, Nat.le_of_ble_eq_true rfl⟩ rfl rfl rfl hl.1 rfl (Nat.le_of_ble_eq_true rfl) dX12_numberRead_96 ⟨Nat.zero_le _, Nat.zero_le _⟩ (fun r247 σ246 τ246 H locs h246 hP hS => ?_)
              obtain ⟨⟨rfl, rfl⟩, h246⟩ := h246
              rcases h246 with h248 | h249
              · obtain ⟨q251, k250⟩ := h248
                have q251 := q251.symm
                subst q251
                refine lv_if_ne (tgt := 113) hx hb dX12_numberRead_99 (by decide) (fun _ => ?_) (fun c => absurd c (by decide))
                refine lv_aload_n hx hb dX12_numberRead_113 rfl (lv_at hl 2 rfl) ?_
                refine va_get (D := D) hx hb hts inlX12 hown hK hP 55 (jc_55 cI cL ad σ80 τ) rfl 19 (by decide) (hts _ kw_15_11) (fun _ h9 => h9) rfl dX12_numberRead_114 ?_
                refine jtopr m83 ?_
                refine lv_iload hx hb dX12_numberRead_117 (lv_at hl 1 rfl) ?_
                refine lv_icmp_ne (tgt := 129) hx hb dX12_numberRead_119 (by decide) (fun c252 => ?_) (fun c => absurd (jeq c tx79 rfl) (by omega))
                have kc252 := jne c252 tx79 rfl
                refine lv_iload hx hb dX12_numberRead_129 (lv_at hl 0 rfl) ?_
                exact hret x78 σ80 τ _ _ _ _ rfl ⟨rfl, (fun i hi => (jnp i eσ80 (imp_165 i hi))), (fun i hi => (jkp i eσ80 (imp_220 i hi))), I90, ⟨trivial, (by have h9 := tx78; omega), ⟨1, x78.toInt, (by have i0 := jix (f := σ 63) (show (σ 55 19).toInt = (σ 55 19).toInt by omega); unfold jNb jDg; omega), (by have h9 := tx78; omega)⟩⟩⟩ hP hS dX12_numberRead_131
              · obtain ⟨q254, k253⟩ := h249
                have q254 := q254.symm
                subst q254
                refine lv_if_ne (tgt := 113) hx hb dX12_numberRead_99 (by decide) (fun c => absurd (by decide) c) (fun _ => ?_)
                refine lv_aload_n hx hb dX12_numberRead_102 rfl (lv_at hl 2 rfl) ?_
                refine lv_iload hx hb dX12_numberRead_103 (lv_at hl 1 rfl) ?_
                refine jput (ty := .int) hx hb hts inlX12 tyX12 tyX12_ok nmX12 hown hK hP hJ hA hS (jc_55 cI cL ad σ80 τ) rfl (k := 19) (by decide) (Nat.le_of_ble_eq_true rfl) (jp_55_19 cI cL ad σ80 τ (σ 55 19)) (hts _ kw_15_11) (fun _ h9 => h9) rfl (by decide +kernel) rfl rfl dX12_numberRead_105 (fun σ255 H locs eσ255 hP hS => ?_)
                refine lv_aload_n hx hb dX12_numberRead_108 rfl (lv_at hl 2 rfl) ?_
                have z256 : (σ255 55 18).toInt = (σ 55 18).toInt := (congrArg Int32.toInt (show σ255 55 18 = (σ 55 18) from ((jkp 18 eσ255 (by decide)).trans (jkp 18 eσ80 (by decide)))))
                have z257 : (σ255 55 19).toInt = (σ 55 19).toInt := (congrArg Int32.toInt (show σ255 55 19 = (σ 55 19) from (jsp eσ255)))
                have z258 : (σ255 55 20).toInt = (σ 55 20).toInt := (congrArg Int32.toInt (show σ255 55 20 = (σ 55 20) from ((jkp 20 eσ255 (by decide)).trans (jkp 20 eσ80 (by decide)))))
                have z259 : (σ255 55 21).toInt = (σ 55 21).toInt := (congrArg Int32.toInt (show σ255 55 21 = (σ 55 21) from ((jkp 21 eσ255 (by decide)).trans m81)))
                have I260 : jI121 σ255 := ⟨(by omega), (by omega), (by omega), (by omega), (by omega)⟩
                refine jcallV (As := []) (rest := []) ⟨hx, hb, hml, hown, hts⟩ hK hP hA hS hZ (c_X12_wrong l D cI cL ad zz hJ σ255 τ I260) cw_RX12_214 (jc_55 cI cL ad σ255 τ) rfl ⟨Nat.le_of_ble_eq_true rfl, Nat.le_of_ble_eq_true rfl⟩ rfl rfl rfl hl.1 rfl (Nat.le_of_ble_eq_true rfl) dX12_numberRead_109 ⟨Nat.zero_le _, Nat.zero_le _⟩ (fun r262 σ261 τ261 H locs h261 hP hS => ?_)
                obtain ⟨rfl, f263, f264, I265, h261⟩ := h261
                obtain ⟨i267, i268, i269, i270, i271⟩ : ((-1) ≤ (σ261 55 18).toInt ∧ (σ261 55 18).toInt ≤ 80) ∧ (0 ≤ (σ261 55 19).toInt) ∧ ((σ261 55 19).toInt ≤ (σ261 55 20).toInt) ∧ ((σ261 55 20).toInt ≤ 80) ∧ ((-1) ≤ (σ261 55 21).toInt) := id I265
                have z272 : (σ261 55 18).toInt = (σ 55 18).toInt := (congrArg Int32.toInt (show σ261 55 18 = (σ 55 18) from ((f264 18 (by decide)).trans ((jkp 18 eσ255 (by decide)).trans (jkp 18 eσ80 (by decide))))))
                have z273 : (σ261 55 19).toInt = (σ 55 19).toInt := (congrArg Int32.toInt (show σ261 55 19 = (σ 55 19) from ((f264 19 (by decide)).trans (jsp eσ255))))
                have z274 : (σ261 55 20).toInt = (σ 55 20).toInt := (congrArg Int32.toInt (show σ261 55 20 = (σ 55 20) from ((f264 20 (by decide)).trans ((jkp 20 eσ255 (by decide)).trans (jkp 20 eσ80 (by decide))))))
                obtain ⟨k275, k276, h261⟩ := h261
                have h277 := h261
                obtain ⟨q279, k278⟩ := h277
                have q279 := q279.symm
                subst q279
                exact hret 0 σ261 τ _ _ _ _ rfl ⟨rfl, (fun i hi => ((f263 i hi).trans ((jnp i eσ255 (imp_165 i hi)).trans (jnp i eσ80 (imp_165 i hi))))), (fun i hi => ((f264 i (imp_219 i hi)).trans ((jkp i eσ255 (imp_220 i hi)).trans (jkp i eσ80 (imp_220 i hi))))), I265, ⟨trivial, (by have h9 := jz_0; omega), ⟨1, x78.toInt, (by have i0 := jix (f := σ 63) (show (σ 55 19).toInt = (σ 55 19).toInt by omega); unfold jNb jDg; omega), (by have h9 := jz_0; omega)⟩⟩⟩ hP hS dX12_numberRead_112
          · obtain ⟨q281, k280⟩ := h73
            exact absurd (by omega : False) id
      · obtain ⟨q283, k282⟩ := h43
        exact absurd (by omega : False) id
  · obtain ⟨q285, k284⟩ := h13
    have q285 := q285.symm
    subst q285
    refine lv_bipush (v := 48) hx hb dX12_numberRead_31 (by decide) ?_
    refine lv_icmp_lt (tgt := 73) hx hb dX12_numberRead_33 (by decide) (fun _ => ?_) (fun c => absurd (by decide) c)
    refine lv_aload_n hx hb dX12_numberRead_73 rfl (lv_at hl 2 rfl) ?_
    refine va_get (D := D) hx hb hts inlX12 hown hK hP 55 (jc_55 cI cL ad σ τ) rfl 21 (by decide) (hts _ kw_15_13) (fun _ h9 => h9) rfl dX12_numberRead_74 ?_
    refine lv_if_ge (tgt := 113) hx hb dX12_numberRead_77 (by decide) (fun c => absurd (jle c jz_0 rfl) (by omega)) (fun c286 => ?_)
    have kc286 := jnle c286 jz_0 rfl
    refine lv_aload_n hx hb dX12_numberRead_80 rfl (lv_at hl 2 rfl) ?_
    refine va_get (D := D) hx hb hts inlX12 hown hK hP 55 (jc_55 cI cL ad σ τ) rfl 19 (by decide) (hts _ kw_15_11) (fun _ h9 => h9) rfl dX12_numberRead_81 ?_
    refine lv_iload hx hb dX12_numberRead_84 (lv_at hl 1 rfl) ?_
    refine lv_icmp_le (tgt := 113) hx hb dX12_numberRead_86 (by decide) (fun c287 => ?_) (fun c => absurd (jnle c rfl rfl) (by omega))
    have kc287 := jle c287 rfl rfl
    refine lv_aload_n hx hb dX12_numberRead_113 rfl (lv_at hl 2 rfl) ?_
    refine va_get (D := D) hx hb hts inlX12 hown hK hP 55 (jc_55 cI cL ad σ τ) rfl 19 (by decide) (hts _ kw_15_11) (fun _ h9 => h9) rfl dX12_numberRead_114 ?_
    refine lv_iload hx hb dX12_numberRead_117 (lv_at hl 1 rfl) ?_
    refine lv_icmp_ne (tgt := 129) hx hb dX12_numberRead_119 (by decide) (fun c => absurd (jne c rfl rfl) (by omega)) (fun c288 => ?_)
    have kc288 := jeq c288 rfl rfl
    refine lv_aload_n hx hb dX12_numberRead_122 rfl (lv_at hl 2 rfl) ?_
    refine jcallV (As := []) (rest := []) ⟨hx, hb, hml, hown, hts⟩ hK hP hA hS hZ (c_X12_wrong l D cI cL ad zz hJ σ τ hI121) cw_RX12_214 (jc_55 cI cL ad σ τ) rfl ⟨Nat.le_of_ble_eq_true rfl, Nat.le_of_ble_eq_true rfl⟩ rfl rfl rfl hl.1 rfl (Nat.le_of_ble_eq_true rfl) dX12_numberRead_123 ⟨Nat.zero_le _, Nat.zero_le _⟩ (fun r290 σ289 τ289 H locs h289 hP hS => ?_)
    obtain ⟨rfl, f291, f292, I293, h289⟩ := h289
    obtain ⟨i295, i296, i297, i298, i299⟩ : ((-1) ≤ (σ289 55 18).toInt ∧ (σ289 55 18).toInt ≤ 80) ∧ (0 ≤ (σ289 55 19).toInt) ∧ ((σ289 55 19).toInt ≤ (σ289 55 20).toInt) ∧ ((σ289 55 20).toInt ≤ 80) ∧ ((-1) ≤ (σ289 55 21).toInt) := id I293
    have z300 : (σ289 55 18).toInt = (σ 55 18).toInt := (congrArg Int32.toInt (show σ289 55 18 = (σ 55 18) from (f292 18 (by decide))))
    have z301 : (σ289 55 19).toInt = (σ 55 19).toInt := (congrArg Int32.toInt (show σ289 55 19 = (σ 55 19) from (f292 19 (by decide))))
    have z302 : (σ289 55 20).toInt = (σ 55 20).toInt := (congrArg Int32.toInt (show σ289 55 20 = (σ 55 20) from (f292 20 (by decide))))
    obtain ⟨k303, k304, h289⟩ := h289
    have h305 := h289
    obtain ⟨q307, k306⟩ := h305
    have q307 := q307.symm
    subst q307
    refine lv_goto (tgt := 131) hx hb dX12_numberRead_126 (by decide) ?_
    exact hret 0 σ289 τ _ _ _ _ rfl ⟨rfl, (fun i hi => (f291 i hi)), (fun i hi => (f292 i (imp_219 i hi))), I293, ⟨trivial, (by have h9 := jz_0; omega), ⟨0, 0, (by unfold jNb jDg; omega), (by have h9 := jz_0; omega)⟩⟩⟩ hP hS dX12_numberRead_131
set_option maxHeartbeats 4000000 in
set_option maxRecDepth 100000 in
theorem c_X12_numberRead_3 (l : Launch) (D : va_G) (cI cL : ClassId) (ad zz : Nat → Nat) (hJ : jD ad) (σ : Nat → Nat → Int32) (τ : Nat → Nat → Int64) (hI121 : jI121 σ) (hp0 : (σ 55 18).toInt = (-1)) (hp1 : (σ 55 21).toInt = (-1)) : jM l yX12_numberRead cX12_numberRead 6 (some .int) ({ frames := 1, cells := 0, slots := 0, locals := 25 }) D cI cL ad zz [.ref (ad 55), .int 3, .int 0, .int 999] σ τ (fun r σ' τ' => τ = τ' ∧ (∀ i : Nat, (i < 55 ∨ 55 < i) → σ' i = σ i) ∧ (∀ k : Nat, (k < 19 ∨ 19 < k) ∧ (k < 21 ∨ 21 < k) → σ' 55 k = σ 55 k) ∧ (jI121 σ') ∧ ((True ∧ (((σ' 55 21).toInt = (-1) ∧ 0 ≤ r.toInt ∧ r.toInt ≤ 999) ∨ (0 ≤ (σ' 55 21).toInt ∧ (σ' 55 21).toInt ≤ 80)) ∧ (∃ q v : Int, jNb (σ 63) ((σ 55 20).toInt) ((σ 55 19).toInt) 3 q v ∧ (((q = 0 ∨ v < 0 ∨ 999 < v) ∧ (σ' 55 21).toInt = (σ 55 19).toInt) ∨ (1 ≤ q ∧ 0 ≤ v ∧ v ≤ 999 ∧ r.toInt = v ∧ (σ' 55 19).toInt = (σ 55 19).toInt + q ∧ (σ' 55 21).toInt = -1)))))) := by
  refine jM.of hJ (by decide +kernel) (nt := .int) rfl (Nat.le_of_ble_eq_true rfl) ?_
  intro p e s m args below meth c Q ls hC hret hl hP
  obtain ⟨hx, hb, hr, hml, hown, hts, hK, -, hlocks, hZ⟩ := hC
  have hown : s.vm.findClass RX12 = some m.cls := hown
  have hS : va_S (jA ad) s.heap s.heap [] := va_S.rf
  have hA : ∀ q, jA ad q → jA ad q := fun _ h => h
  have hl : lv_has ls 6 [(0, .ref (ad 55)), (1, .int 3), (2, .int 0), (3, .int 999)] := hl
  obtain ⟨i1, i2, i3, i4, i5⟩ : ((-1) ≤ (σ 55 18).toInt ∧ (σ 55 18).toInt ≤ 80) ∧ (0 ≤ (σ 55 19).toInt) ∧ ((σ 55 19).toInt ≤ (σ 55 20).toInt) ∧ ((σ 55 20).toInt ≤ 80) ∧ ((-1) ≤ (σ 55 21).toInt) := id hI121
  refine lv_aload_n hx hb dX12_numberRead_0 rfl (lv_at hl 0 rfl) ?_
  refine va_get (D := D) hx hb hts inlX12 hown hK hP 55 (jc_55 cI cL ad σ τ) rfl 19 (by decide) (hts _ kw_15_11) (fun _ h9 => h9) rfl dX12_numberRead_1 ?_
  refine lv_istore (lv' := [(4, .int (σ 55 19)), (0, .ref (ad 55)), (1, .int 3), (2, .int 0), (3, .int 999)]) hx hb dX12_numberRead_4 hl (by decide) rfl (fun ls hl => ?_)
  refine lv_iconst (v := 0) hx hb dX12_numberRead_6 (by decide) ?_
  refine lv_istore (lv' := [(5, .int 0), (4, .int (σ 55 19)), (0, .ref (ad 55)), (1, .int 3), (2, .int 0), (3, .int 999)]) hx hb dX12_numberRead_7 hl (by decide) rfl (fun ls hl => ?_)
  refine lv_aload_n hx hb dX12_numberRead_9 rfl (lv_at hl 2 rfl) ?_
  refine va_get (D := D) hx hb hts inlX12 hown hK hP 55 (jc_55 cI cL ad σ τ) rfl 21 (by decide) (hts _ kw_15_13) (fun _ h9 => h9) rfl dX12_numberRead_10 ?_
  refine lv_if_ge (tgt := 73) hx hb dX12_numberRead_13 (by decide) (fun c => absurd (jle c jz_0 rfl) (by omega)) (fun c6 => ?_)
  have kc6 := jnle c6 jz_0 rfl
  refine lv_aload_n hx hb dX12_numberRead_16 rfl (lv_at hl 2 rfl) ?_
  refine va_get (D := D) hx hb hts inlX12 hown hK hP 55 (jc_55 cI cL ad σ τ) rfl 19 (by decide) (hts _ kw_15_11) (fun _ h9 => h9) rfl dX12_numberRead_17 ?_
  refine lv_iload hx hb dX12_numberRead_20 (lv_at hl 1 rfl) ?_
  refine lv_iload_n hx hb dX12_numberRead_22 rfl (lv_at hl 3 rfl) ?_
  have g7 := jrg (rfl : (σ 55 19).toInt = (σ 55 19).toInt)
  refine lv_iadd hx hb dX12_numberRead_23 ?_
  refine lv_topi (fun x8 ex8 => ?_)
  have tx8 : x8.toInt = (σ 55 19).toInt + 3 := (jadd ex8 rfl jz_3 (by omega) (by omega)).trans (by omega)
  refine lv_icmp_ge (tgt := 73) hx hb dX12_numberRead_24 (by decide) (fun c => absurd (jle c tx8 rfl) (by omega)) (fun c9 => ?_)
  have kc9 := jnle c9 tx8 rfl
  refine lv_aload_n hx hb dX12_numberRead_27 rfl (lv_at hl 2 rfl) ?_
  refine jcallV (As := []) (rest := []) ⟨hx, hb, hml, hown, hts⟩ hK hP hA hS hZ (c_X12_byteAt_t l D cI cL ad zz hJ σ τ hI121 (by omega)) cw_RX12_189 (jc_55 cI cL ad σ τ) rfl ⟨Nat.le_of_ble_eq_true rfl, Nat.le_of_ble_eq_true rfl⟩ rfl rfl rfl hl.1 rfl (Nat.le_of_ble_eq_true rfl) dX12_numberRead_28 ⟨Nat.zero_le _, Nat.zero_le _⟩ (fun r11 σ10 τ10 H locs h10 hP hS => ?_)
  obtain ⟨⟨rfl, rfl⟩, h10⟩ := h10
  rcases h10 with h12 | h13
  · obtain ⟨q15, k14⟩ := h12
    have q16 : r11 = (σ 63 (σ 55 19).toNatClampNeg) := q15.trans rfl
    have q16 := q16.symm
    subst q16
    refine lv_bipush (v := 48) hx hb dX12_numberRead_31 (by decide) ?_
    refine lv_icmp_lt (tgt := 73) hx hb dX12_numberRead_33 (by decide) (fun c17 => ?_) (fun c17 => ?_)
    · have kc17 := jlt c17 rfl jz_48
      refine lv_aload_n hx hb dX12_numberRead_73 rfl (lv_at hl 2 rfl) ?_
      refine va_get (D := D) hx hb hts inlX12 hown hK hP 55 (jc_55 cI cL ad σ τ) rfl 21 (by decide) (hts _ kw_15_13) (fun _ h9 => h9) rfl dX12_numberRead_74 ?_
      refine lv_if_ge (tgt := 113) hx hb dX12_numberRead_77 (by decide) (fun c => absurd (jle c jz_0 rfl) (by omega)) (fun c18 => ?_)
      have kc18 := jnle c18 jz_0 rfl
      refine lv_aload_n hx hb dX12_numberRead_80 rfl (lv_at hl 2 rfl) ?_
      refine va_get (D := D) hx hb hts inlX12 hown hK hP 55 (jc_55 cI cL ad σ τ) rfl 19 (by decide) (hts _ kw_15_11) (fun _ h9 => h9) rfl dX12_numberRead_81 ?_
      refine lv_iload hx hb dX12_numberRead_84 (lv_at hl 1 rfl) ?_
      refine lv_icmp_le (tgt := 113) hx hb dX12_numberRead_86 (by decide) (fun c19 => ?_) (fun c => absurd (jnle c rfl rfl) (by omega))
      have kc19 := jle c19 rfl rfl
      refine lv_aload_n hx hb dX12_numberRead_113 rfl (lv_at hl 2 rfl) ?_
      refine va_get (D := D) hx hb hts inlX12 hown hK hP 55 (jc_55 cI cL ad σ τ) rfl 19 (by decide) (hts _ kw_15_11) (fun _ h9 => h9) rfl dX12_numberRead_114 ?_
      refine lv_iload hx hb dX12_numberRead_117 (lv_at hl 1 rfl) ?_
      refine lv_icmp_ne (tgt := 129) hx hb dX12_numberRead_119 (by decide) (fun c => absurd (jne c rfl rfl) (by omega)) (fun c20 => ?_)
      have kc20 := jeq c20 rfl rfl
      refine lv_aload_n hx hb dX12_numberRead_122 rfl (lv_at hl 2 rfl) ?_
      refine jcallV (As := []) (rest := []) ⟨hx, hb, hml, hown, hts⟩ hK hP hA hS hZ (c_X12_wrong l D cI cL ad zz hJ σ τ hI121) cw_RX12_214 (jc_55 cI cL ad σ τ) rfl ⟨Nat.le_of_ble_eq_true rfl, Nat.le_of_ble_eq_true rfl⟩ rfl rfl rfl hl.1 rfl (Nat.le_of_ble_eq_true rfl) dX12_numberRead_123 ⟨Nat.zero_le _, Nat.zero_le _⟩ (fun r22 σ21 τ21 H locs h21 hP hS => ?_)
      obtain ⟨rfl, f23, f24, I25, h21⟩ := h21
      obtain ⟨i27, i28, i29, i30, i31⟩ : ((-1) ≤ (σ21 55 18).toInt ∧ (σ21 55 18).toInt ≤ 80) ∧ (0 ≤ (σ21 55 19).toInt) ∧ ((σ21 55 19).toInt ≤ (σ21 55 20).toInt) ∧ ((σ21 55 20).toInt ≤ 80) ∧ ((-1) ≤ (σ21 55 21).toInt) := id I25
      have z32 : (σ21 55 18).toInt = (σ 55 18).toInt := (congrArg Int32.toInt (show σ21 55 18 = (σ 55 18) from (f24 18 (by decide))))
      have z33 : (σ21 55 19).toInt = (σ 55 19).toInt := (congrArg Int32.toInt (show σ21 55 19 = (σ 55 19) from (f24 19 (by decide))))
      have z34 : (σ21 55 20).toInt = (σ 55 20).toInt := (congrArg Int32.toInt (show σ21 55 20 = (σ 55 20) from (f24 20 (by decide))))
      obtain ⟨k35, k36, h21⟩ := h21
      have h37 := h21
      obtain ⟨q39, k38⟩ := h37
      have q39 := q39.symm
      subst q39
      refine lv_goto (tgt := 131) hx hb dX12_numberRead_126 (by decide) ?_
      exact hret 0 σ21 τ _ _ _ _ rfl ⟨rfl, (fun i hi => (f23 i hi)), (fun i hi => (f24 i (imp_219 i hi))), I25, ⟨trivial, (by have h9 := jz_0; omega), ⟨0, 0, (by have i0 := jix (f := σ 63) (show (σ 55 19).toInt = (σ 55 19).toInt by omega); unfold jNb jDg; omega), (by have h9 := jz_0; omega)⟩⟩⟩ hP hS dX12_numberRead_131
    · have kc17 := jnlt c17 rfl jz_48
      refine lv_aload_n hx hb dX12_numberRead_36 rfl (lv_at hl 2 rfl) ?_
      refine jcallV (As := []) (rest := []) ⟨hx, hb, hml, hown, hts⟩ hK hP hA hS hZ (c_X12_byteAt_t l D cI cL ad zz hJ σ τ hI121 (by omega)) cw_RX12_189 (jc_55 cI cL ad σ τ) rfl ⟨Nat.le_of_ble_eq_true rfl, Nat.le_of_ble_eq_true rfl⟩ rfl rfl rfl hl.1 rfl (Nat.le_of_ble_eq_true rfl) dX12_numberRead_37 ⟨Nat.zero_le _, Nat.zero_le _⟩ (fun r41 σ40 τ40 H locs h40 hP hS => ?_)
      obtain ⟨⟨rfl, rfl⟩, h40⟩ := h40
      rcases h40 with h42 | h43
      · obtain ⟨q45, k44⟩ := h42
        have q46 : r41 = (σ 63 (σ 55 19).toNatClampNeg) := q45.trans rfl
        have q46 := q46.symm
        subst q46
        refine lv_bipush (v := 57) hx hb dX12_numberRead_40 (by decide) ?_
        refine lv_icmp_gt (tgt := 73) hx hb dX12_numberRead_42 (by decide) (fun c47 => ?_) (fun c47 => ?_)
        · have kc47 := jlt c47 jz_57 rfl
          refine lv_aload_n hx hb dX12_numberRead_73 rfl (lv_at hl 2 rfl) ?_
          refine va_get (D := D) hx hb hts inlX12 hown hK hP 55 (jc_55 cI cL ad σ τ) rfl 21 (by decide) (hts _ kw_15_13) (fun _ h9 => h9) rfl dX12_numberRead_74 ?_
          refine lv_if_ge (tgt := 113) hx hb dX12_numberRead_77 (by decide) (fun c => absurd (jle c jz_0 rfl) (by omega)) (fun c48 => ?_)
          have kc48 := jnle c48 jz_0 rfl
          refine lv_aload_n hx hb dX12_numberRead_80 rfl (lv_at hl 2 rfl) ?_
          refine va_get (D := D) hx hb hts inlX12 hown hK hP 55 (jc_55 cI cL ad σ τ) rfl 19 (by decide) (hts _ kw_15_11) (fun _ h9 => h9) rfl dX12_numberRead_81 ?_
          refine lv_iload hx hb dX12_numberRead_84 (lv_at hl 1 rfl) ?_
          refine lv_icmp_le (tgt := 113) hx hb dX12_numberRead_86 (by decide) (fun c49 => ?_) (fun c => absurd (jnle c rfl rfl) (by omega))
          have kc49 := jle c49 rfl rfl
          refine lv_aload_n hx hb dX12_numberRead_113 rfl (lv_at hl 2 rfl) ?_
          refine va_get (D := D) hx hb hts inlX12 hown hK hP 55 (jc_55 cI cL ad σ τ) rfl 19 (by decide) (hts _ kw_15_11) (fun _ h9 => h9) rfl dX12_numberRead_114 ?_
          refine lv_iload hx hb dX12_numberRead_117 (lv_at hl 1 rfl) ?_
          refine lv_icmp_ne (tgt := 129) hx hb dX12_numberRead_119 (by decide) (fun c => absurd (jne c rfl rfl) (by omega)) (fun c50 => ?_)
          have kc50 := jeq c50 rfl rfl
          refine lv_aload_n hx hb dX12_numberRead_122 rfl (lv_at hl 2 rfl) ?_
          refine jcallV (As := []) (rest := []) ⟨hx, hb, hml, hown, hts⟩ hK hP hA hS hZ (c_X12_wrong l D cI cL ad zz hJ σ τ hI121) cw_RX12_214 (jc_55 cI cL ad σ τ) rfl ⟨Nat.le_of_ble_eq_true rfl, Nat.le_of_ble_eq_true rfl⟩ rfl rfl rfl hl.1 rfl (Nat.le_of_ble_eq_true rfl) dX12_numberRead_123 ⟨Nat.zero_le _, Nat.zero_le _⟩ (fun r52 σ51 τ51 H locs h51 hP hS => ?_)
          obtain ⟨rfl, f53, f54, I55, h51⟩ := h51
          obtain ⟨i57, i58, i59, i60, i61⟩ : ((-1) ≤ (σ51 55 18).toInt ∧ (σ51 55 18).toInt ≤ 80) ∧ (0 ≤ (σ51 55 19).toInt) ∧ ((σ51 55 19).toInt ≤ (σ51 55 20).toInt) ∧ ((σ51 55 20).toInt ≤ 80) ∧ ((-1) ≤ (σ51 55 21).toInt) := id I55
          have z62 : (σ51 55 18).toInt = (σ 55 18).toInt := (congrArg Int32.toInt (show σ51 55 18 = (σ 55 18) from (f54 18 (by decide))))
          have z63 : (σ51 55 19).toInt = (σ 55 19).toInt := (congrArg Int32.toInt (show σ51 55 19 = (σ 55 19) from (f54 19 (by decide))))
          have z64 : (σ51 55 20).toInt = (σ 55 20).toInt := (congrArg Int32.toInt (show σ51 55 20 = (σ 55 20) from (f54 20 (by decide))))
          obtain ⟨k65, k66, h51⟩ := h51
          have h67 := h51
          obtain ⟨q69, k68⟩ := h67
          have q69 := q69.symm
          subst q69
          refine lv_goto (tgt := 131) hx hb dX12_numberRead_126 (by decide) ?_
          exact hret 0 σ51 τ _ _ _ _ rfl ⟨rfl, (fun i hi => (f53 i hi)), (fun i hi => (f54 i (imp_219 i hi))), I55, ⟨trivial, (by have h9 := jz_0; omega), ⟨0, 0, (by have i0 := jix (f := σ 63) (show (σ 55 19).toInt = (σ 55 19).toInt by omega); unfold jNb jDg; omega), (by have h9 := jz_0; omega)⟩⟩⟩ hP hS dX12_numberRead_131
        · have kc47 := jnlt c47 jz_57 rfl
          refine lv_bipush (v := 10) hx hb dX12_numberRead_45 (by decide) ?_
          refine lv_iload hx hb dX12_numberRead_47 (lv_at hl 0 rfl) ?_
          refine lv_imul hx hb dX12_numberRead_49 ?_
          refine jtopr (y := 0) (by decide) ?_
          refine lv_aload_n hx hb dX12_numberRead_50 rfl (lv_at hl 2 rfl) ?_
          refine jcallV (As := []) (rest := [.int 0]) ⟨hx, hb, hml, hown, hts⟩ hK hP hA hS hZ (c_X12_byteAt_t l D cI cL ad zz hJ σ τ hI121 (by omega)) cw_RX12_189 (jc_55 cI cL ad σ τ) rfl ⟨Nat.le_of_ble_eq_true rfl, Nat.le_of_ble_eq_true rfl⟩ rfl rfl rfl hl.1 rfl (Nat.le_of_ble_eq_true rfl) dX12_numberRead_51 ⟨Nat.zero_le _, Nat.zero_le _⟩ (fun r71 σ70 τ70 H locs h70 hP hS => ?_)
          obtain ⟨⟨rfl, rfl⟩, h70⟩ := h70
          rcases h70 with h72 | h73
          · obtain ⟨q75, k74⟩ := h72
            have q76 : r71 = (σ 63 (σ 55 19).toNatClampNeg) := q75.trans rfl
            have q76 := q76.symm
            subst q76
            refine lv_iadd hx hb dX12_numberRead_54 ?_
            refine jtopr (y := (σ 63 (σ 55 19).toNatClampNeg)) (by rw [Int32.zero_add]) ?_
            refine lv_bipush (v := 48) hx hb dX12_numberRead_55 (by decide) ?_
            have g77 := jrg (rfl : (σ 63 (σ 55 19).toNatClampNeg).toInt = (σ 63 (σ 55 19).toNatClampNeg).toInt)
            refine lv_isub hx hb dX12_numberRead_57 ?_
            refine lv_topi (fun x78 ex78 => ?_)
            have tx78 : x78.toInt = (σ 63 (σ 55 19).toNatClampNeg).toInt - 48 := (jsub ex78 rfl jz_48 (by omega) (by omega)).trans (by omega)
            refine lv_istore (lv' := [(5, .int x78), (4, .int (σ 55 19)), (0, .ref (ad 55)), (1, .int 3), (2, .int 0), (3, .int 999)]) hx hb dX12_numberRead_58 hl (by decide) rfl (fun ls hl => ?_)
            refine lv_aload_n hx hb dX12_numberRead_60 rfl (lv_at hl 2 rfl) ?_
            refine lv_dup hx hb dX12_numberRead_61 rfl ?_
            refine va_get (D := D) hx hb hts inlX12 hown hK hP 55 (jc_55 cI cL ad σ τ) rfl 19 (by decide) (hts _ kw_15_11) (fun _ h9 => h9) rfl dX12_numberRead_62 ?_
            refine lv_iconst (v := 1) hx hb dX12_numberRead_65 (by decide) ?_
            refine lv_iadd hx hb dX12_numberRead_66 ?_
            refine lv_topi (fun x79 ex79 => ?_)
            have tx79 : x79.toInt = (σ 55 19).toInt + 1 := (jadd ex79 rfl jz_1 (by omega) (by omega)).trans (by omega)
            refine jput (ty := .int) hx hb hts inlX12 tyX12 tyX12_ok nmX12 hown hK hP hJ hA hS (jc_55 cI cL ad σ τ) rfl (k := 19) (by decide) (Nat.le_of_ble_eq_true rfl) (jp_55_19 cI cL ad σ τ x79) (hts _ kw_15_11) (fun _ h9 => h9) rfl (by decide +kernel) rfl rfl dX12_numberRead_67 (fun σ80 H locs eσ80 hP hS => ?_)
            refine lv_goto (tgt := 9) hx hb dX12_numberRead_70 (by decide) ?_
            refine lv_aload_n hx hb dX12_numberRead_9 rfl (lv_at hl 2 rfl) ?_
            refine va_get (D := D) hx hb hts inlX12 hown hK hP 55 (jc_55 cI cL ad σ80 τ) rfl 21 (by decide) (hts _ kw_15_13) (fun _ h9 => h9) rfl dX12_numberRead_10 ?_
            have m81 : σ80 55 21 = (σ 55 21) := (jkp 21 eσ80 (by decide))
            refine jtopr m81 ?_
            refine lv_if_ge (tgt := 73) hx hb dX12_numberRead_13 (by decide) (fun c => absurd (jle c jz_0 rfl) (by omega)) (fun c82 => ?_)
            have kc82 := jnle c82 jz_0 rfl
            refine lv_aload_n hx hb dX12_numberRead_16 rfl (lv_at hl 2 rfl) ?_
            refine va_get (D := D) hx hb hts inlX12 hown hK hP 55 (jc_55 cI cL ad σ80 τ) rfl 19 (by decide) (hts _ kw_15_11) (fun _ h9 => h9) rfl dX12_numberRead_17 ?_
            have m83 : σ80 55 19 = x79 := (jsp eσ80)
            refine jtopr m83 ?_
            refine lv_iload hx hb dX12_numberRead_20 (lv_at hl 1 rfl) ?_
            refine lv_iload_n hx hb dX12_numberRead_22 rfl (lv_at hl 3 rfl) ?_
            refine lv_iadd hx hb dX12_numberRead_23 ?_
            refine lv_topi (fun x84 ex84 => ?_)
            have tx84 : x84.toInt = (σ 55 19).toInt + 3 := (jadd ex84 rfl jz_3 (by omega) (by omega)).trans (by omega)
            refine lv_icmp_ge (tgt := 73) hx hb dX12_numberRead_24 (by decide) (fun c => absurd (jle c tx84 tx79) (by omega)) (fun c85 => ?_)
            have kc85 := jnle c85 tx84 tx79
            refine lv_aload_n hx hb dX12_numberRead_27 rfl (lv_at hl 2 rfl) ?_
            have z86 : (σ80 55 18).toInt = (σ 55 18).toInt := (congrArg Int32.toInt (show σ80 55 18 = (σ 55 18) from (jkp 18 eσ80 (by decide))))
            have z87 : (σ80 55 19).toInt = (σ 55 19).toInt + 1 := ((congrArg Int32.toInt (show σ80 55 19 = x79 from m83)).trans tx79)
            have z88 : (σ80 55 20).toInt = (σ 55 20).toInt := (congrArg Int32.toInt (show σ80 55 20 = (σ 55 20) from (jkp 20 eσ80 (by decide))))
            have z89 : (σ80 55 21).toInt = (σ 55 21).toInt := (congrArg Int32.toInt (show σ80 55 21 = (σ 55 21) from m81))
            have I90 : jI121 σ80 := ⟨(by omega), (by omega), (by omega), (by omega), (by omega)⟩
            refine jcallV (As := []) (rest := []) ⟨hx, hb, hml, hown, hts⟩ hK hP hA hS hZ (c_X12_byteAt_t l D cI cL ad zz hJ σ80 τ I90 (by omega)) cw_RX12_189 (jc_55 cI cL ad σ80 τ) rfl ⟨Nat.le_of_ble_eq_true rfl, Nat.le_of_ble_eq_true rfl⟩ rfl rfl rfl hl.1 rfl (Nat.le_of_ble_eq_true rfl) dX12_numberRead_28 ⟨Nat.zero_le _, Nat.zero_le _⟩ (fun r92 σ91 τ91 H locs h91 hP hS => ?_)
            obtain ⟨⟨rfl, rfl⟩, h91⟩ := h91
            rcases h91 with h93 | h94
            · obtain ⟨q96, k95⟩ := h93
              have q97 : r92 = (σ 63 x79.toNatClampNeg) := q96.trans (by rw [(show σ80 55 19 = x79 from m83), jnp 63 eσ80 (by decide)])
              have q97e : (σ80 63 (σ80 55 19).toNatClampNeg).toInt = (σ 63 x79.toNatClampNeg).toInt := by rw [← q96, ← q97]
              have q97 := q97.symm
              subst q97
              refine lv_bipush (v := 48) hx hb dX12_numberRead_31 (by decide) ?_
              refine lv_icmp_lt (tgt := 73) hx hb dX12_numberRead_33 (by decide) (fun c98 => ?_) (fun c98 => ?_)
              · have kc98 := jlt c98 rfl jz_48
                refine lv_aload_n hx hb dX12_numberRead_73 rfl (lv_at hl 2 rfl) ?_
                refine va_get (D := D) hx hb hts inlX12 hown hK hP 55 (jc_55 cI cL ad σ80 τ) rfl 21 (by decide) (hts _ kw_15_13) (fun _ h9 => h9) rfl dX12_numberRead_74 ?_
                refine jtopr m81 ?_
                refine lv_if_ge (tgt := 113) hx hb dX12_numberRead_77 (by decide) (fun c => absurd (jle c jz_0 rfl) (by omega)) (fun c99 => ?_)
                have kc99 := jnle c99 jz_0 rfl
                refine lv_aload_n hx hb dX12_numberRead_80 rfl (lv_at hl 2 rfl) ?_
                refine va_get (D := D) hx hb hts inlX12 hown hK hP 55 (jc_55 cI cL ad σ80 τ) rfl 19 (by decide) (hts _ kw_15_11) (fun _ h9 => h9) rfl dX12_numberRead_81 ?_
                refine jtopr m83 ?_
                refine lv_iload hx hb dX12_numberRead_84 (lv_at hl 1 rfl) ?_
                refine lv_icmp_le (tgt := 113) hx hb dX12_numberRead_86 (by decide) (fun c => absurd (jle c tx79 rfl) (by omega)) (fun c100 => ?_)
                have kc100 := jnle c100 tx79 rfl
                refine lv_iload hx hb dX12_numberRead_89 (lv_at hl 0 rfl) ?_
                refine lv_i2l (v := x78.toInt64) hx hb dX12_numberRead_91 rfl ?_
                refine lv_iload_n hx hb dX12_numberRead_92 rfl (lv_at hl 4 rfl) ?_
                refine lv_i2l (v := 0) hx hb dX12_numberRead_93 (by decide) ?_
                refine lv_iload_n hx hb dX12_numberRead_94 rfl (lv_at hl 5 rfl) ?_
                refine lv_i2l (v := 999) hx hb dX12_numberRead_95 (by decide) ?_
                refine jcallS (As := [.long x78.toInt64, .long 0, .long 999]) (rest := []) ⟨hx, hb, hml, hown, hts⟩ hK hP hA hS hZ (c_X12_within l D cI cL ad zz hJ σ80 τ x78.toInt64 ((σ 63 (σ 55 19).toNatClampNeg).toInt - 48) (jtoL tx78) 0 (0) jzl_0 999 (999) jzl_999) cw_RX12_136 ⟨Nat.le_of_ble_eq_true rfl, Nat.le_of_ble_eq_true rfl⟩ rfl rfl rfl hl.1 rfl (Nat.le_of_ble_eq_true rfl) dX12_numberRead_96 ⟨Nat.zero_le _, Nat.zero_le _⟩ (fun r102 σ101 τ101 H locs h101 hP hS => ?_)
                obtain ⟨⟨rfl, rfl⟩, h101⟩ := h101
                rcases h101 with h103 | h104
                · obtain ⟨q106, k105⟩ := h103
                  have q106 := q106.symm
                  subst q106
                  refine lv_if_ne (tgt := 113) hx hb dX12_numberRead_99 (by decide) (fun _ => ?_) (fun c => absurd c (by decide))
                  refine lv_aload_n hx hb dX12_numberRead_113 rfl (lv_at hl 2 rfl) ?_
                  refine va_get (D := D) hx hb hts inlX12 hown hK hP 55 (jc_55 cI cL ad σ80 τ) rfl 19 (by decide) (hts _ kw_15_11) (fun _ h9 => h9) rfl dX12_numberRead_114 ?_
                  refine jtopr m83 ?_
                  refine lv_iload hx hb dX12_numberRead_117 (lv_at hl 1 rfl) ?_
                  refine lv_icmp_ne (tgt := 129) hx hb dX12_numberRead_119 (by decide) (fun c107 => ?_) (fun c => absurd (jeq c tx79 rfl) (by omega))
                  have kc107 := jne c107 tx79 rfl
                  refine lv_iload hx hb dX12_numberRead_129 (lv_at hl 0 rfl) ?_
                  exact hret x78 σ80 τ _ _ _ _ rfl ⟨rfl, (fun i hi => (jnp i eσ80 (imp_165 i hi))), (fun i hi => (jkp i eσ80 (imp_220 i hi))), I90, ⟨trivial, (by have h9 := tx78; omega), ⟨1, x78.toInt, (by have i0 := jix (f := σ 63) (show (σ 55 19).toInt = (σ 55 19).toInt by omega); have p1 := tx79; have i1 := jix (f := σ 63) (show x79.toInt = (σ 55 19).toInt + 1 by omega); unfold jNb jDg; omega), (by have h9 := tx78; omega)⟩⟩⟩ hP hS dX12_numberRead_131
                · obtain ⟨q109, k108⟩ := h104
                  exact absurd (by omega : False) id
              · have kc98 := jnlt c98 rfl jz_48
                refine lv_aload_n hx hb dX12_numberRead_36 rfl (lv_at hl 2 rfl) ?_
                refine jcallV (As := []) (rest := []) ⟨hx, hb, hml, hown, hts⟩ hK hP hA hS hZ (c_X12_byteAt_t l D cI cL ad zz hJ σ80 τ I90 (by omega)) cw_RX12_189 (jc_55 cI cL ad σ80 τ) rfl ⟨Nat.le_of_ble_eq_true rfl, Nat.le_of_ble_eq_true rfl⟩ rfl rfl rfl hl.1 rfl (Nat.le_of_ble_eq_true rfl) dX12_numberRead_37 ⟨Nat.zero_le _, Nat.zero_le _⟩ (fun r111 σ110 τ110 H locs h110 hP hS => ?_)
                obtain ⟨⟨rfl, rfl⟩, h110⟩ := h110
                rcases h110 with h112 | h113
                · obtain ⟨q115, k114⟩ := h112
                  have q116 : r111 = (σ 63 x79.toNatClampNeg) := q115.trans (by rw [(show σ80 55 19 = x79 from m83), jnp 63 eσ80 (by decide)])
                  have q116e : (σ80 63 (σ80 55 19).toNatClampNeg).toInt = (σ 63 x79.toNatClampNeg).toInt := by rw [← q115, ← q116]
                  have q116 := q116.symm
                  subst q116
                  refine lv_bipush (v := 57) hx hb dX12_numberRead_40 (by decide) ?_
                  refine lv_icmp_gt (tgt := 73) hx hb dX12_numberRead_42 (by decide) (fun c117 => ?_) (fun c117 => ?_)
                  · have kc117 := jlt c117 jz_57 rfl
                    refine lv_aload_n hx hb dX12_numberRead_73 rfl (lv_at hl 2 rfl) ?_
                    refine va_get (D := D) hx hb hts inlX12 hown hK hP 55 (jc_55 cI cL ad σ80 τ) rfl 21 (by decide) (hts _ kw_15_13) (fun _ h9 => h9) rfl dX12_numberRead_74 ?_
                    refine jtopr m81 ?_
                    refine lv_if_ge (tgt := 113) hx hb dX12_numberRead_77 (by decide) (fun c => absurd (jle c jz_0 rfl) (by omega)) (fun c118 => ?_)
                    have kc118 := jnle c118 jz_0 rfl
                    refine lv_aload_n hx hb dX12_numberRead_80 rfl (lv_at hl 2 rfl) ?_
                    refine va_get (D := D) hx hb hts inlX12 hown hK hP 55 (jc_55 cI cL ad σ80 τ) rfl 19 (by decide) (hts _ kw_15_11) (fun _ h9 => h9) rfl dX12_numberRead_81 ?_
                    refine jtopr m83 ?_
                    refine lv_iload hx hb dX12_numberRead_84 (lv_at hl 1 rfl) ?_
                    refine lv_icmp_le (tgt := 113) hx hb dX12_numberRead_86 (by decide) (fun c => absurd (jle c tx79 rfl) (by omega)) (fun c119 => ?_)
                    have kc119 := jnle c119 tx79 rfl
                    refine lv_iload hx hb dX12_numberRead_89 (lv_at hl 0 rfl) ?_
                    refine lv_i2l (v := x78.toInt64) hx hb dX12_numberRead_91 rfl ?_
                    refine lv_iload_n hx hb dX12_numberRead_92 rfl (lv_at hl 4 rfl) ?_
                    refine lv_i2l (v := 0) hx hb dX12_numberRead_93 (by decide) ?_
                    refine lv_iload_n hx hb dX12_numberRead_94 rfl (lv_at hl 5 rfl) ?_
                    refine lv_i2l (v := 999) hx hb dX12_numberRead_95 (by decide) ?_
                    refine jcallS (As := [.long x78.toInt64, .long 0, .long 999]) (rest := []) ⟨hx, hb, hml, hown, hts⟩ hK hP hA hS hZ (c_X12_within l D cI cL ad zz hJ σ80 τ x78.toInt64 ((σ 63 (σ 55 19).toNatClampNeg).toInt - 48) (jtoL tx78) 0 (0) jzl_0 999 (999) jzl_999) cw_RX12_136 ⟨Nat.le_of_ble_eq_true rfl, Nat.le_of_ble_eq_true rfl⟩ rfl rfl rfl hl.1 rfl (Nat.le_of_ble_eq_true rfl) dX12_numberRead_96 ⟨Nat.zero_le _, Nat.zero_le _⟩ (fun r121 σ120 τ120 H locs h120 hP hS => ?_)
                    obtain ⟨⟨rfl, rfl⟩, h120⟩ := h120
                    rcases h120 with h122 | h123
                    · obtain ⟨q125, k124⟩ := h122
                      have q125 := q125.symm
                      subst q125
                      refine lv_if_ne (tgt := 113) hx hb dX12_numberRead_99 (by decide) (fun _ => ?_) (fun c => absurd c (by decide))
                      refine lv_aload_n hx hb dX12_numberRead_113 rfl (lv_at hl 2 rfl) ?_
                      refine va_get (D := D) hx hb hts inlX12 hown hK hP 55 (jc_55 cI cL ad σ80 τ) rfl 19 (by decide) (hts _ kw_15_11) (fun _ h9 => h9) rfl dX12_numberRead_114 ?_
                      refine jtopr m83 ?_
                      refine lv_iload hx hb dX12_numberRead_117 (lv_at hl 1 rfl) ?_
                      refine lv_icmp_ne (tgt := 129) hx hb dX12_numberRead_119 (by decide) (fun c126 => ?_) (fun c => absurd (jeq c tx79 rfl) (by omega))
                      have kc126 := jne c126 tx79 rfl
                      refine lv_iload hx hb dX12_numberRead_129 (lv_at hl 0 rfl) ?_
                      exact hret x78 σ80 τ _ _ _ _ rfl ⟨rfl, (fun i hi => (jnp i eσ80 (imp_165 i hi))), (fun i hi => (jkp i eσ80 (imp_220 i hi))), I90, ⟨trivial, (by have h9 := tx78; omega), ⟨1, x78.toInt, (by have i0 := jix (f := σ 63) (show (σ 55 19).toInt = (σ 55 19).toInt by omega); have p1 := tx79; have i1 := jix (f := σ 63) (show x79.toInt = (σ 55 19).toInt + 1 by omega); unfold jNb jDg; omega), (by have h9 := tx78; omega)⟩⟩⟩ hP hS dX12_numberRead_131
                    · obtain ⟨q128, k127⟩ := h123
                      exact absurd (by omega : False) id
                  · have kc117 := jnlt c117 jz_57 rfl
                    refine lv_bipush (v := 10) hx hb dX12_numberRead_45 (by decide) ?_
                    refine lv_iload hx hb dX12_numberRead_47 (lv_at hl 0 rfl) ?_
                    refine lv_imul hx hb dX12_numberRead_49 ?_
                    refine lv_topi (fun x129 ex129 => ?_)
                    have tx129 : x129.toInt = 10 * (σ 63 (σ 55 19).toNatClampNeg).toInt - 480 := (jmul ex129 jz_10 tx78 (by omega) (by omega)).trans (by omega)
                    refine lv_aload_n hx hb dX12_numberRead_50 rfl (lv_at hl 2 rfl) ?_
                    refine jcallV (As := []) (rest := [.int x129]) ⟨hx, hb, hml, hown, hts⟩ hK hP hA hS hZ (c_X12_byteAt_t l D cI cL ad zz hJ σ80 τ I90 (by omega)) cw_RX12_189 (jc_55 cI cL ad σ80 τ) rfl ⟨Nat.le_of_ble_eq_true rfl, Nat.le_of_ble_eq_true rfl⟩ rfl rfl rfl hl.1 rfl (Nat.le_of_ble_eq_true rfl) dX12_numberRead_51 ⟨Nat.zero_le _, Nat.zero_le _⟩ (fun r131 σ130 τ130 H locs h130 hP hS => ?_)
                    obtain ⟨⟨rfl, rfl⟩, h130⟩ := h130
                    rcases h130 with h132 | h133
                    · obtain ⟨q135, k134⟩ := h132
                      have q136 : r131 = (σ 63 x79.toNatClampNeg) := q135.trans (by rw [(show σ80 55 19 = x79 from m83), jnp 63 eσ80 (by decide)])
                      have q136e : (σ80 63 (σ80 55 19).toNatClampNeg).toInt = (σ 63 x79.toNatClampNeg).toInt := by rw [← q135, ← q136]
                      have q136 := q136.symm
                      subst q136
                      have g137 := jrg (rfl : (σ 63 x79.toNatClampNeg).toInt = (σ 63 x79.toNatClampNeg).toInt)
                      refine lv_iadd hx hb dX12_numberRead_54 ?_
                      refine lv_topi (fun x138 ex138 => ?_)
                      have tx138 : x138.toInt = 10 * (σ 63 (σ 55 19).toNatClampNeg).toInt + (σ 63 x79.toNatClampNeg).toInt - 480 := (jadd ex138 tx129 rfl (by omega) (by omega)).trans (by omega)
                      refine lv_bipush (v := 48) hx hb dX12_numberRead_55 (by decide) ?_
                      refine lv_isub hx hb dX12_numberRead_57 ?_
                      refine lv_topi (fun x139 ex139 => ?_)
                      have tx139 : x139.toInt = 10 * (σ 63 (σ 55 19).toNatClampNeg).toInt + (σ 63 x79.toNatClampNeg).toInt - 528 := (jsub ex139 tx138 jz_48 (by omega) (by omega)).trans (by omega)
                      refine lv_istore (lv' := [(5, .int x139), (4, .int (σ 55 19)), (0, .ref (ad 55)), (1, .int 3), (2, .int 0), (3, .int 999)]) hx hb dX12_numberRead_58 hl (by decide) rfl (fun ls hl => ?_)
                      refine lv_aload_n hx hb dX12_numberRead_60 rfl (lv_at hl 2 rfl) ?_
                      refine lv_dup hx hb dX12_numberRead_61 rfl ?_
                      refine va_get (D := D) hx hb hts inlX12 hown hK hP 55 (jc_55 cI cL ad σ80 τ) rfl 19 (by decide) (hts _ kw_15_11) (fun _ h9 => h9) rfl dX12_numberRead_62 ?_
                      refine jtopr m83 ?_
                      refine lv_iconst (v := 1) hx hb dX12_numberRead_65 (by decide) ?_
                      refine lv_iadd hx hb dX12_numberRead_66 ?_
                      refine lv_topi (fun x140 ex140 => ?_)
                      have tx140 : x140.toInt = (σ 55 19).toInt + 2 := (jadd ex140 tx79 jz_1 (by omega) (by omega)).trans (by omega)
                      refine jput (ty := .int) hx hb hts inlX12 tyX12 tyX12_ok nmX12 hown hK hP hJ hA hS (jc_55 cI cL ad σ80 τ) rfl (k := 19) (by decide) (Nat.le_of_ble_eq_true rfl) (jp_55_19 cI cL ad σ80 τ x140) (hts _ kw_15_11) (fun _ h9 => h9) rfl (by decide +kernel) rfl rfl dX12_numberRead_67 (fun σ141 H locs eσ141 hP hS => ?_)
                      refine lv_goto (tgt := 9) hx hb dX12_numberRead_70 (by decide) ?_
                      refine lv_aload_n hx hb dX12_numberRead_9 rfl (lv_at hl 2 rfl) ?_
                      refine va_get (D := D) hx hb hts inlX12 hown hK hP 55 (jc_55 cI cL ad σ141 τ) rfl 21 (by decide) (hts _ kw_15_13) (fun _ h9 => h9) rfl dX12_numberRead_10 ?_
                      have m142 : σ141 55 21 = (σ 55 21) := ((jkp 21 eσ141 (by decide)).trans m81)
                      refine jtopr m142 ?_
                      refine lv_if_ge (tgt := 73) hx hb dX12_numberRead_13 (by decide) (fun c => absurd (jle c jz_0 rfl) (by omega)) (fun c143 => ?_)
                      have kc143 := jnle c143 jz_0 rfl
                      refine lv_aload_n hx hb dX12_numberRead_16 rfl (lv_at hl 2 rfl) ?_
                      refine va_get (D := D) hx hb hts inlX12 hown hK hP 55 (jc_55 cI cL ad σ141 τ) rfl 19 (by decide) (hts _ kw_15_11) (fun _ h9 => h9) rfl dX12_numberRead_17 ?_
                      have m144 : σ141 55 19 = x140 := (jsp eσ141)
                      refine jtopr m144 ?_
                      refine lv_iload hx hb dX12_numberRead_20 (lv_at hl 1 rfl) ?_
                      refine lv_iload_n hx hb dX12_numberRead_22 rfl (lv_at hl 3 rfl) ?_
                      refine lv_iadd hx hb dX12_numberRead_23 ?_
                      refine lv_topi (fun x145 ex145 => ?_)
                      have tx145 : x145.toInt = (σ 55 19).toInt + 3 := (jadd ex145 rfl jz_3 (by omega) (by omega)).trans (by omega)
                      refine lv_icmp_ge (tgt := 73) hx hb dX12_numberRead_24 (by decide) (fun c => absurd (jle c tx145 tx140) (by omega)) (fun c146 => ?_)
                      have kc146 := jnle c146 tx145 tx140
                      refine lv_aload_n hx hb dX12_numberRead_27 rfl (lv_at hl 2 rfl) ?_
                      have z147 : (σ141 55 18).toInt = (σ 55 18).toInt := (congrArg Int32.toInt (show σ141 55 18 = (σ 55 18) from ((jkp 18 eσ141 (by decide)).trans (jkp 18 eσ80 (by decide)))))
                      have z148 : (σ141 55 19).toInt = (σ 55 19).toInt + 2 := ((congrArg Int32.toInt (show σ141 55 19 = x140 from m144)).trans tx140)
                      have z149 : (σ141 55 20).toInt = (σ 55 20).toInt := (congrArg Int32.toInt (show σ141 55 20 = (σ 55 20) from ((jkp 20 eσ141 (by decide)).trans (jkp 20 eσ80 (by decide)))))
                      have z150 : (σ141 55 21).toInt = (σ 55 21).toInt := (congrArg Int32.toInt (show σ141 55 21 = (σ 55 21) from m142))
                      have I151 : jI121 σ141 := ⟨(by omega), (by omega), (by omega), (by omega), (by omega)⟩
                      refine jcallV (As := []) (rest := []) ⟨hx, hb, hml, hown, hts⟩ hK hP hA hS hZ (c_X12_byteAt_t l D cI cL ad zz hJ σ141 τ I151 (by omega)) cw_RX12_189 (jc_55 cI cL ad σ141 τ) rfl ⟨Nat.le_of_ble_eq_true rfl, Nat.le_of_ble_eq_true rfl⟩ rfl rfl rfl hl.1 rfl (Nat.le_of_ble_eq_true rfl) dX12_numberRead_28 ⟨Nat.zero_le _, Nat.zero_le _⟩ (fun r153 σ152 τ152 H locs h152 hP hS => ?_)
                      obtain ⟨⟨rfl, rfl⟩, h152⟩ := h152
                      rcases h152 with h154 | h155
                      · obtain ⟨q157, k156⟩ := h154
                        have q158 : r153 = (σ 63 x140.toNatClampNeg) := q157.trans (by rw [(show σ141 55 19 = x140 from m144), jnp 63 eσ141 (by decide), jnp 63 eσ80 (by decide)])
                        have q158e : (σ141 63 (σ141 55 19).toNatClampNeg).toInt = (σ 63 x140.toNatClampNeg).toInt := by rw [← q157, ← q158]
                        have q158 := q158.symm
                        subst q158
                        refine lv_bipush (v := 48) hx hb dX12_numberRead_31 (by decide) ?_
                        refine lv_icmp_lt (tgt := 73) hx hb dX12_numberRead_33 (by decide) (fun c159 => ?_) (fun c159 => ?_)
                        · have kc159 := jlt c159 rfl jz_48
                          refine lv_aload_n hx hb dX12_numberRead_73 rfl (lv_at hl 2 rfl) ?_
                          refine va_get (D := D) hx hb hts inlX12 hown hK hP 55 (jc_55 cI cL ad σ141 τ) rfl 21 (by decide) (hts _ kw_15_13) (fun _ h9 => h9) rfl dX12_numberRead_74 ?_
                          refine jtopr m142 ?_
                          refine lv_if_ge (tgt := 113) hx hb dX12_numberRead_77 (by decide) (fun c => absurd (jle c jz_0 rfl) (by omega)) (fun c160 => ?_)
                          have kc160 := jnle c160 jz_0 rfl
                          refine lv_aload_n hx hb dX12_numberRead_80 rfl (lv_at hl 2 rfl) ?_
                          refine va_get (D := D) hx hb hts inlX12 hown hK hP 55 (jc_55 cI cL ad σ141 τ) rfl 19 (by decide) (hts _ kw_15_11) (fun _ h9 => h9) rfl dX12_numberRead_81 ?_
                          refine jtopr m144 ?_
                          refine lv_iload hx hb dX12_numberRead_84 (lv_at hl 1 rfl) ?_
                          refine lv_icmp_le (tgt := 113) hx hb dX12_numberRead_86 (by decide) (fun c => absurd (jle c tx140 rfl) (by omega)) (fun c161 => ?_)
                          have kc161 := jnle c161 tx140 rfl
                          refine lv_iload hx hb dX12_numberRead_89 (lv_at hl 0 rfl) ?_
                          refine lv_i2l (v := x139.toInt64) hx hb dX12_numberRead_91 rfl ?_
                          refine lv_iload_n hx hb dX12_numberRead_92 rfl (lv_at hl 4 rfl) ?_
                          refine lv_i2l (v := 0) hx hb dX12_numberRead_93 (by decide) ?_
                          refine lv_iload_n hx hb dX12_numberRead_94 rfl (lv_at hl 5 rfl) ?_
                          refine lv_i2l (v := 999) hx hb dX12_numberRead_95 (by decide) ?_
                          refine jcallS (As := [.long x139.toInt64, .long 0, .long 999]) (rest := []) ⟨hx, hb, hml, hown, hts⟩ hK hP hA hS hZ (c_X12_within l D cI cL ad zz hJ σ141 τ x139.toInt64 (10 * (σ 63 (σ 55 19).toNatClampNeg).toInt + (σ 63 x79.toNatClampNeg).toInt - 528) (jtoL tx139) 0 (0) jzl_0 999 (999) jzl_999) cw_RX12_136 ⟨Nat.le_of_ble_eq_true rfl, Nat.le_of_ble_eq_true rfl⟩ rfl rfl rfl hl.1 rfl (Nat.le_of_ble_eq_true rfl) dX12_numberRead_96 ⟨Nat.zero_le _, Nat.zero_le _⟩ (fun r163 σ162 τ162 H locs h162 hP hS => ?_)
                          obtain ⟨⟨rfl, rfl⟩, h162⟩ := h162
                          rcases h162 with h164 | h165
                          · obtain ⟨q167, k166⟩ := h164
                            have q167 := q167.symm
                            subst q167
                            refine lv_if_ne (tgt := 113) hx hb dX12_numberRead_99 (by decide) (fun _ => ?_) (fun c => absurd c (by decide))
                            refine lv_aload_n hx hb dX12_numberRead_113 rfl (lv_at hl 2 rfl) ?_
                            refine va_get (D := D) hx hb hts inlX12 hown hK hP 55 (jc_55 cI cL ad σ141 τ) rfl 19 (by decide) (hts _ kw_15_11) (fun _ h9 => h9) rfl dX12_numberRead_114 ?_
                            refine jtopr m144 ?_
                            refine lv_iload hx hb dX12_numberRead_117 (lv_at hl 1 rfl) ?_
                            refine lv_icmp_ne (tgt := 129) hx hb dX12_numberRead_119 (by decide) (fun c168 => ?_) (fun c => absurd (jeq c tx140 rfl) (by omega))
                            have kc168 := jne c168 tx140 rfl
                            refine lv_iload hx hb dX12_numberRead_129 (lv_at hl 0 rfl) ?_
                            exact hret x139 σ141 τ _ _ _ _ rfl ⟨rfl, (fun i hi => ((jnp i eσ141 (imp_165 i hi)).trans (jnp i eσ80 (imp_165 i hi)))), (fun i hi => ((jkp i eσ141 (imp_220 i hi)).trans (jkp i eσ80 (imp_220 i hi)))), I151, ⟨trivial, (by have h9 := tx139; omega), ⟨2, x139.toInt, (by have i0 := jix (f := σ 63) (show (σ 55 19).toInt = (σ 55 19).toInt by omega); have p1 := tx140; have i1 := jix (f := σ 63) (show x140.toInt = (σ 55 19).toInt + 2 by omega); have p2 := tx79; have i2 := jix (f := σ 63) (show x79.toInt = (σ 55 19).toInt + 1 by omega); unfold jNb jDg; omega), (by have h9 := tx139; omega)⟩⟩⟩ hP hS dX12_numberRead_131
                          · obtain ⟨q170, k169⟩ := h165
                            exact absurd (by omega : False) id
                        · have kc159 := jnlt c159 rfl jz_48
                          refine lv_aload_n hx hb dX12_numberRead_36 rfl (lv_at hl 2 rfl) ?_
                          refine jcallV (As := []) (rest := []) ⟨hx, hb, hml, hown, hts⟩ hK hP hA hS hZ (c_X12_byteAt_t l D cI cL ad zz hJ σ141 τ I151 (by omega)) cw_RX12_189 (jc_55 cI cL ad σ141 τ) rfl ⟨Nat.le_of_ble_eq_true rfl, Nat.le_of_ble_eq_true rfl⟩ rfl rfl rfl hl.1 rfl (Nat.le_of_ble_eq_true rfl) dX12_numberRead_37 ⟨Nat.zero_le _, Nat.zero_le _⟩ (fun r172 σ171 τ171 H locs h171 hP hS => ?_)
                          obtain ⟨⟨rfl, rfl⟩, h171⟩ := h171
                          rcases h171 with h173 | h174
                          · obtain ⟨q176, k175⟩ := h173
                            have q177 : r172 = (σ 63 x140.toNatClampNeg) := q176.trans (by rw [(show σ141 55 19 = x140 from m144), jnp 63 eσ141 (by decide), jnp 63 eσ80 (by decide)])
                            have q177e : (σ141 63 (σ141 55 19).toNatClampNeg).toInt = (σ 63 x140.toNatClampNeg).toInt := by rw [← q176, ← q177]
                            have q177 := q177.symm
                            subst q177
                            refine lv_bipush (v := 57) hx hb dX12_numberRead_40 (by decide) ?_
                            refine lv_icmp_gt (tgt := 73) hx hb dX12_numberRead_42 (by decide) (fun c178 => ?_) (fun c178 => ?_)
                            · have kc178 := jlt c178 jz_57 rfl
                              refine lv_aload_n hx hb dX12_numberRead_73 rfl (lv_at hl 2 rfl) ?_
                              refine va_get (D := D) hx hb hts inlX12 hown hK hP 55 (jc_55 cI cL ad σ141 τ) rfl 21 (by decide) (hts _ kw_15_13) (fun _ h9 => h9) rfl dX12_numberRead_74 ?_
                              refine jtopr m142 ?_
                              refine lv_if_ge (tgt := 113) hx hb dX12_numberRead_77 (by decide) (fun c => absurd (jle c jz_0 rfl) (by omega)) (fun c179 => ?_)
                              have kc179 := jnle c179 jz_0 rfl
                              refine lv_aload_n hx hb dX12_numberRead_80 rfl (lv_at hl 2 rfl) ?_
                              refine va_get (D := D) hx hb hts inlX12 hown hK hP 55 (jc_55 cI cL ad σ141 τ) rfl 19 (by decide) (hts _ kw_15_11) (fun _ h9 => h9) rfl dX12_numberRead_81 ?_
                              refine jtopr m144 ?_
                              refine lv_iload hx hb dX12_numberRead_84 (lv_at hl 1 rfl) ?_
                              refine lv_icmp_le (tgt := 113) hx hb dX12_numberRead_86 (by decide) (fun c => absurd (jle c tx140 rfl) (by omega)) (fun c180 => ?_)
                              have kc180 := jnle c180 tx140 rfl
                              refine lv_iload hx hb dX12_numberRead_89 (lv_at hl 0 rfl) ?_
                              refine lv_i2l (v := x139.toInt64) hx hb dX12_numberRead_91 rfl ?_
                              refine lv_iload_n hx hb dX12_numberRead_92 rfl (lv_at hl 4 rfl) ?_
                              refine lv_i2l (v := 0) hx hb dX12_numberRead_93 (by decide) ?_
                              refine lv_iload_n hx hb dX12_numberRead_94 rfl (lv_at hl 5 rfl) ?_
                              refine lv_i2l (v := 999) hx hb dX12_numberRead_95 (by decide) ?_
                              refine jcallS (As := [.long x139.toInt64, .long 0, .long 999]) (rest := []) ⟨hx, hb, hml, hown, hts⟩ hK hP hA hS hZ (c_X12_within l D cI cL ad zz hJ σ141 τ x139.toInt64 (10 * (σ 63 (σ 55 19).toNatClampNeg).toInt + (σ 63 x79.toNatClampNeg).toInt - 528) (jtoL tx139) 0 (0) jzl_0 999 (999) jzl_999) cw_RX12_136 ⟨Nat.le_of_ble_eq_true rfl, Nat.le_of_ble_eq_true rfl⟩ rfl rfl rfl hl.1 rfl (Nat.le_of_ble_eq_true rfl) dX12_numberRead_96 ⟨Nat.zero_le _, Nat.zero_le _⟩ (fun r182 σ181 τ181 H locs h181 hP hS => ?_)
                              obtain ⟨⟨rfl, rfl⟩, h181⟩ := h181
                              rcases h181 with h183 | h184
                              · obtain ⟨q186, k185⟩ := h183
                                have q186 := q186.symm
                                subst q186
                                refine lv_if_ne (tgt := 113) hx hb dX12_numberRead_99 (by decide) (fun _ => ?_) (fun c => absurd c (by decide))
                                refine lv_aload_n hx hb dX12_numberRead_113 rfl (lv_at hl 2 rfl) ?_
                                refine va_get (D := D) hx hb hts inlX12 hown hK hP 55 (jc_55 cI cL ad σ141 τ) rfl 19 (by decide) (hts _ kw_15_11) (fun _ h9 => h9) rfl dX12_numberRead_114 ?_
                                refine jtopr m144 ?_
                                refine lv_iload hx hb dX12_numberRead_117 (lv_at hl 1 rfl) ?_
                                refine lv_icmp_ne (tgt := 129) hx hb dX12_numberRead_119 (by decide) (fun c187 => ?_) (fun c => absurd (jeq c tx140 rfl) (by omega))
                                have kc187 := jne c187 tx140 rfl
                                refine lv_iload hx hb dX12_numberRead_129 (lv_at hl 0 rfl) ?_
                                exact hret x139 σ141 τ _ _ _ _ rfl ⟨rfl, (fun i hi => ((jnp i eσ141 (imp_165 i hi)).trans (jnp i eσ80 (imp_165 i hi)))), (fun i hi => ((jkp i eσ141 (imp_220 i hi)).trans (jkp i eσ80 (imp_220 i hi)))), I151, ⟨trivial, (by have h9 := tx139; omega), ⟨2, x139.toInt, (by have i0 := jix (f := σ 63) (show (σ 55 19).toInt = (σ 55 19).toInt by omega); have p1 := tx140; have i1 := jix (f := σ 63) (show x140.toInt = (σ 55 19).toInt + 2 by omega); have p2 := tx79; have i2 := jix (f := σ 63) (show x79.toInt = (σ 55 19).toInt + 1 by omega); unfold jNb jDg; omega), (by have h9 := tx139; omega)⟩⟩⟩ hP hS dX12_numberRead_131
                              · obtain ⟨q189, k188⟩ := h184
                                exact absurd (by omega : False) id
                            · have kc178 := jnlt c178 jz_57 rfl
                              refine lv_bipush (v := 10) hx hb dX12_numberRead_45 (by decide) ?_
                              refine lv_iload hx hb dX12_numberRead_47 (lv_at hl 0 rfl) ?_
                              refine lv_imul hx hb dX12_numberRead_49 ?_
                              refine lv_topi (fun x190 ex190 => ?_)
                              have tx190 : x190.toInt = 100 * (σ 63 (σ 55 19).toNatClampNeg).toInt + 10 * (σ 63 x79.toNatClampNeg).toInt - 5280 := (jmul ex190 jz_10 tx139 (by omega) (by omega)).trans (by omega)
                              refine lv_aload_n hx hb dX12_numberRead_50 rfl (lv_at hl 2 rfl) ?_
                              refine jcallV (As := []) (rest := [.int x190]) ⟨hx, hb, hml, hown, hts⟩ hK hP hA hS hZ (c_X12_byteAt_t l D cI cL ad zz hJ σ141 τ I151 (by omega)) cw_RX12_189 (jc_55 cI cL ad σ141 τ) rfl ⟨Nat.le_of_ble_eq_true rfl, Nat.le_of_ble_eq_true rfl⟩ rfl rfl rfl hl.1 rfl (Nat.le_of_ble_eq_true rfl) dX12_numberRead_51 ⟨Nat.zero_le _, Nat.zero_le _⟩ (fun r192 σ191 τ191 H locs h191 hP hS => ?_)
                              obtain ⟨⟨rfl, rfl⟩, h191⟩ := h191
                              rcases h191 with h193 | h194
                              · obtain ⟨q196, k195⟩ := h193
                                have q197 : r192 = (σ 63 x140.toNatClampNeg) := q196.trans (by rw [(show σ141 55 19 = x140 from m144), jnp 63 eσ141 (by decide), jnp 63 eσ80 (by decide)])
                                have q197e : (σ141 63 (σ141 55 19).toNatClampNeg).toInt = (σ 63 x140.toNatClampNeg).toInt := by rw [← q196, ← q197]
                                have q197 := q197.symm
                                subst q197
                                have g198 := jrg (rfl : (σ 63 x140.toNatClampNeg).toInt = (σ 63 x140.toNatClampNeg).toInt)
                                refine lv_iadd hx hb dX12_numberRead_54 ?_
                                refine lv_topi (fun x199 ex199 => ?_)
                                have tx199 : x199.toInt = 100 * (σ 63 (σ 55 19).toNatClampNeg).toInt + 10 * (σ 63 x79.toNatClampNeg).toInt + (σ 63 x140.toNatClampNeg).toInt - 5280 := (jadd ex199 tx190 rfl (by omega) (by omega)).trans (by omega)
                                refine lv_bipush (v := 48) hx hb dX12_numberRead_55 (by decide) ?_
                                refine lv_isub hx hb dX12_numberRead_57 ?_
                                refine lv_topi (fun x200 ex200 => ?_)
                                have tx200 : x200.toInt = 100 * (σ 63 (σ 55 19).toNatClampNeg).toInt + 10 * (σ 63 x79.toNatClampNeg).toInt + (σ 63 x140.toNatClampNeg).toInt - 5328 := (jsub ex200 tx199 jz_48 (by omega) (by omega)).trans (by omega)
                                refine lv_istore (lv' := [(5, .int x200), (4, .int (σ 55 19)), (0, .ref (ad 55)), (1, .int 3), (2, .int 0), (3, .int 999)]) hx hb dX12_numberRead_58 hl (by decide) rfl (fun ls hl => ?_)
                                refine lv_aload_n hx hb dX12_numberRead_60 rfl (lv_at hl 2 rfl) ?_
                                refine lv_dup hx hb dX12_numberRead_61 rfl ?_
                                refine va_get (D := D) hx hb hts inlX12 hown hK hP 55 (jc_55 cI cL ad σ141 τ) rfl 19 (by decide) (hts _ kw_15_11) (fun _ h9 => h9) rfl dX12_numberRead_62 ?_
                                refine jtopr m144 ?_
                                refine lv_iconst (v := 1) hx hb dX12_numberRead_65 (by decide) ?_
                                refine lv_iadd hx hb dX12_numberRead_66 ?_
                                refine lv_topi (fun x201 ex201 => ?_)
                                have tx201 : x201.toInt = (σ 55 19).toInt + 3 := (jadd ex201 tx140 jz_1 (by omega) (by omega)).trans (by omega)
                                refine jput (ty := .int) hx hb hts inlX12 tyX12 tyX12_ok nmX12 hown hK hP hJ hA hS (jc_55 cI cL ad σ141 τ) rfl (k := 19) (by decide) (Nat.le_of_ble_eq_true rfl) (jp_55_19 cI cL ad σ141 τ x201) (hts _ kw_15_11) (fun _ h9 => h9) rfl (by decide +kernel) rfl rfl dX12_numberRead_67 (fun σ202 H locs eσ202 hP hS => ?_)
                                refine lv_goto (tgt := 9) hx hb dX12_numberRead_70 (by decide) ?_
                                refine lv_aload_n hx hb dX12_numberRead_9 rfl (lv_at hl 2 rfl) ?_
                                refine va_get (D := D) hx hb hts inlX12 hown hK hP 55 (jc_55 cI cL ad σ202 τ) rfl 21 (by decide) (hts _ kw_15_13) (fun _ h9 => h9) rfl dX12_numberRead_10 ?_
                                have m203 : σ202 55 21 = (σ 55 21) := ((jkp 21 eσ202 (by decide)).trans m142)
                                refine jtopr m203 ?_
                                refine lv_if_ge (tgt := 73) hx hb dX12_numberRead_13 (by decide) (fun c => absurd (jle c jz_0 rfl) (by omega)) (fun c204 => ?_)
                                have kc204 := jnle c204 jz_0 rfl
                                refine lv_aload_n hx hb dX12_numberRead_16 rfl (lv_at hl 2 rfl) ?_
                                refine va_get (D := D) hx hb hts inlX12 hown hK hP 55 (jc_55 cI cL ad σ202 τ) rfl 19 (by decide) (hts _ kw_15_11) (fun _ h9 => h9) rfl dX12_numberRead_17 ?_
                                have m205 : σ202 55 19 = x201 := (jsp eσ202)
                                refine jtopr m205 ?_
                                refine lv_iload hx hb dX12_numberRead_20 (lv_at hl 1 rfl) ?_
                                refine lv_iload_n hx hb dX12_numberRead_22 rfl (lv_at hl 3 rfl) ?_
                                refine lv_iadd hx hb dX12_numberRead_23 ?_
                                refine lv_topi (fun x206 ex206 => ?_)
                                have tx206 : x206.toInt = (σ 55 19).toInt + 3 := (jadd ex206 rfl jz_3 (by omega) (by omega)).trans (by omega)
                                refine lv_icmp_ge (tgt := 73) hx hb dX12_numberRead_24 (by decide) (fun c207 => ?_) (fun c => absurd (jnle c tx206 tx201) (by omega))
                                have kc207 := jle c207 tx206 tx201
                                refine lv_aload_n hx hb dX12_numberRead_73 rfl (lv_at hl 2 rfl) ?_
                                refine va_get (D := D) hx hb hts inlX12 hown hK hP 55 (jc_55 cI cL ad σ202 τ) rfl 21 (by decide) (hts _ kw_15_13) (fun _ h9 => h9) rfl dX12_numberRead_74 ?_
                                refine jtopr m203 ?_
                                refine lv_if_ge (tgt := 113) hx hb dX12_numberRead_77 (by decide) (fun c => absurd (jle c jz_0 rfl) (by omega)) (fun c208 => ?_)
                                have kc208 := jnle c208 jz_0 rfl
                                refine lv_aload_n hx hb dX12_numberRead_80 rfl (lv_at hl 2 rfl) ?_
                                refine va_get (D := D) hx hb hts inlX12 hown hK hP 55 (jc_55 cI cL ad σ202 τ) rfl 19 (by decide) (hts _ kw_15_11) (fun _ h9 => h9) rfl dX12_numberRead_81 ?_
                                refine jtopr m205 ?_
                                refine lv_iload hx hb dX12_numberRead_84 (lv_at hl 1 rfl) ?_
                                refine lv_icmp_le (tgt := 113) hx hb dX12_numberRead_86 (by decide) (fun c => absurd (jle c tx201 rfl) (by omega)) (fun c209 => ?_)
                                have kc209 := jnle c209 tx201 rfl
                                refine lv_iload hx hb dX12_numberRead_89 (lv_at hl 0 rfl) ?_
                                refine lv_i2l (v := x200.toInt64) hx hb dX12_numberRead_91 rfl ?_
                                refine lv_iload_n hx hb dX12_numberRead_92 rfl (lv_at hl 4 rfl) ?_
                                refine lv_i2l (v := 0) hx hb dX12_numberRead_93 (by decide) ?_
                                refine lv_iload_n hx hb dX12_numberRead_94 rfl (lv_at hl 5 rfl) ?_
                                refine lv_i2l (v := 999) hx hb dX12_numberRead_95 (by decide) ?_
                                refine jcallS (As := [.long x200.toInt64, .long 0, .long 999]) (rest := []) ⟨hx, hb, hml, hown, hts⟩ hK hP hA hS hZ (c_X12_within l D cI cL ad zz hJ σ202 τ x200.toInt64 (100 * (σ 63 (σ 55 19).toNatClampNeg).toInt + 10 * (σ 63 x79.toNatClampNeg).toInt + (σ 63 x140.toNatClampNeg).toInt - 5328) (jtoL tx200) 0 (0) jzl_0 999 (999) jzl_999) cw_RX12_136 ⟨Nat.le_of_ble_eq_true rfl, Nat.le_of_ble_eq_true rfl⟩ rfl rfl rfl hl.1 rfl (Nat.le_of_ble_eq_true rfl) dX12_numberRead_96 ⟨Nat.zero_le _, Nat.zero_le _⟩ (fun r211 σ210 τ210 H locs h210 hP hS => ?_)
                                obtain ⟨⟨rfl, rfl⟩, h210⟩ := h210
                                rcases h210 with h212 | h213
                                · obtain ⟨q215, k214⟩ := h212
                                  have q215 := q215.symm
                                  subst q215
                                  refine lv_if_ne (tgt := 113) hx hb dX12_numberRead_99 (by decide) (fun _ => ?_) (fun c => absurd c (by decide))
                                  refine lv_aload_n hx hb dX12_numberRead_113 rfl (lv_at hl 2 rfl) ?_
                                  refine va_get (D := D) hx hb hts inlX12 hown hK hP 55 (jc_55 cI cL ad σ202 τ) rfl 19 (by decide) (hts _ kw_15_11) (fun _ h9 => h9) rfl dX12_numberRead_114 ?_
                                  refine jtopr m205 ?_
                                  refine lv_iload hx hb dX12_numberRead_117 (lv_at hl 1 rfl) ?_
                                  refine lv_icmp_ne (tgt := 129) hx hb dX12_numberRead_119 (by decide) (fun c216 => ?_) (fun c => absurd (jeq c tx201 rfl) (by omega))
                                  have kc216 := jne c216 tx201 rfl
                                  refine lv_iload hx hb dX12_numberRead_129 (lv_at hl 0 rfl) ?_
                                  have z217 : (σ202 55 18).toInt = (σ 55 18).toInt := (congrArg Int32.toInt (show σ202 55 18 = (σ 55 18) from ((jkp 18 eσ202 (by decide)).trans ((jkp 18 eσ141 (by decide)).trans (jkp 18 eσ80 (by decide))))))
                                  have z218 : (σ202 55 19).toInt = (σ 55 19).toInt + 3 := ((congrArg Int32.toInt (show σ202 55 19 = x201 from m205)).trans tx201)
                                  have z219 : (σ202 55 20).toInt = (σ 55 20).toInt := (congrArg Int32.toInt (show σ202 55 20 = (σ 55 20) from ((jkp 20 eσ202 (by decide)).trans ((jkp 20 eσ141 (by decide)).trans (jkp 20 eσ80 (by decide))))))
                                  have z220 : (σ202 55 21).toInt = (σ 55 21).toInt := (congrArg Int32.toInt (show σ202 55 21 = (σ 55 21) from m203))
                                  have I221 : jI121 σ202 := ⟨(by omega), (by omega), (by omega), (by omega), (by omega)⟩
                                  exact hret x200 σ202 τ _ _ _ _ rfl ⟨rfl, (fun i hi => ((jnp i eσ202 (imp_165 i hi)).trans ((jnp i eσ141 (imp_165 i hi)).trans (jnp i eσ80 (imp_165 i hi))))), (fun i hi => ((jkp i eσ202 (imp_220 i hi)).trans ((jkp i eσ141 (imp_220 i hi)).trans (jkp i eσ80 (imp_220 i hi))))), I221, ⟨trivial, (by have h9 := tx200; omega), ⟨3, x200.toInt, (by have i0 := jix (f := σ 63) (show (σ 55 19).toInt = (σ 55 19).toInt by omega); have p1 := tx140; have i1 := jix (f := σ 63) (show x140.toInt = (σ 55 19).toInt + 2 by omega); have p2 := tx79; have i2 := jix (f := σ 63) (show x79.toInt = (σ 55 19).toInt + 1 by omega); unfold jNb jDg; omega), (by have h9 := tx200; omega)⟩⟩⟩ hP hS dX12_numberRead_131
                                · obtain ⟨q223, k222⟩ := h213
                                  exact absurd (by omega : False) id
                              · obtain ⟨q225, k224⟩ := h194
                                exact absurd (by omega : False) id
                          · obtain ⟨q227, k226⟩ := h174
                            exact absurd (by omega : False) id
                      · obtain ⟨q229, k228⟩ := h155
                        have q229 := q229.symm
                        subst q229
                        refine lv_bipush (v := 48) hx hb dX12_numberRead_31 (by decide) ?_
                        refine lv_icmp_lt (tgt := 73) hx hb dX12_numberRead_33 (by decide) (fun _ => ?_) (fun c => absurd (by decide) c)
                        refine lv_aload_n hx hb dX12_numberRead_73 rfl (lv_at hl 2 rfl) ?_
                        refine va_get (D := D) hx hb hts inlX12 hown hK hP 55 (jc_55 cI cL ad σ141 τ) rfl 21 (by decide) (hts _ kw_15_13) (fun _ h9 => h9) rfl dX12_numberRead_74 ?_
                        refine jtopr m142 ?_
                        refine lv_if_ge (tgt := 113) hx hb dX12_numberRead_77 (by decide) (fun c => absurd (jle c jz_0 rfl) (by omega)) (fun c230 => ?_)
                        have kc230 := jnle c230 jz_0 rfl
                        refine lv_aload_n hx hb dX12_numberRead_80 rfl (lv_at hl 2 rfl) ?_
                        refine va_get (D := D) hx hb hts inlX12 hown hK hP 55 (jc_55 cI cL ad σ141 τ) rfl 19 (by decide) (hts _ kw_15_11) (fun _ h9 => h9) rfl dX12_numberRead_81 ?_
                        refine jtopr m144 ?_
                        refine lv_iload hx hb dX12_numberRead_84 (lv_at hl 1 rfl) ?_
                        refine lv_icmp_le (tgt := 113) hx hb dX12_numberRead_86 (by decide) (fun c => absurd (jle c tx140 rfl) (by omega)) (fun c231 => ?_)
                        have kc231 := jnle c231 tx140 rfl
                        refine lv_iload hx hb dX12_numberRead_89 (lv_at hl 0 rfl) ?_
                        refine lv_i2l (v := x139.toInt64) hx hb dX12_numberRead_91 rfl ?_
                        refine lv_iload_n hx hb dX12_numberRead_92 rfl (lv_at hl 4 rfl) ?_
                        refine lv_i2l (v := 0) hx hb dX12_numberRead_93 (by decide) ?_
                        refine lv_iload_n hx hb dX12_numberRead_94 rfl (lv_at hl 5 rfl) ?_
                        refine lv_i2l (v := 999) hx hb dX12_numberRead_95 (by decide) ?_
                        refine jcallS (As := [.long x139.toInt64, .long 0, .long 999]) (rest := []) ⟨hx, hb, hml, hown, hts⟩ hK hP hA hS hZ (c_X12_within l D cI cL ad zz hJ σ141 τ x139.toInt64 (10 * (σ 63 (σ 55 19).toNatClampNeg).toInt + (σ 63 x79.toNatClampNeg).toInt - 528) (jtoL tx139) 0 (0) jzl_0 999 (999) jzl_999) cw_RX12_136 ⟨Nat.le_of_ble_eq_true rfl, Nat.le_of_ble_eq_true rfl⟩ rfl rfl rfl hl.1 rfl (Nat.le_of_ble_eq_true rfl) dX12_numberRead_96 ⟨Nat.zero_le _, Nat.zero_le _⟩ (fun r233 σ232 τ232 H locs h232 hP hS => ?_)
                        obtain ⟨⟨rfl, rfl⟩, h232⟩ := h232
                        rcases h232 with h234 | h235
                        · obtain ⟨q237, k236⟩ := h234
                          have q237 := q237.symm
                          subst q237
                          refine lv_if_ne (tgt := 113) hx hb dX12_numberRead_99 (by decide) (fun _ => ?_) (fun c => absurd c (by decide))
                          refine lv_aload_n hx hb dX12_numberRead_113 rfl (lv_at hl 2 rfl) ?_
                          refine va_get (D := D) hx hb hts inlX12 hown hK hP 55 (jc_55 cI cL ad σ141 τ) rfl 19 (by decide) (hts _ kw_15_11) (fun _ h9 => h9) rfl dX12_numberRead_114 ?_
                          refine jtopr m144 ?_
                          refine lv_iload hx hb dX12_numberRead_117 (lv_at hl 1 rfl) ?_
                          refine lv_icmp_ne (tgt := 129) hx hb dX12_numberRead_119 (by decide) (fun c238 => ?_) (fun c => absurd (jeq c tx140 rfl) (by omega))
                          have kc238 := jne c238 tx140 rfl
                          refine lv_iload hx hb dX12_numberRead_129 (lv_at hl 0 rfl) ?_
                          exact hret x139 σ141 τ _ _ _ _ rfl ⟨rfl, (fun i hi => ((jnp i eσ141 (imp_165 i hi)).trans (jnp i eσ80 (imp_165 i hi)))), (fun i hi => ((jkp i eσ141 (imp_220 i hi)).trans (jkp i eσ80 (imp_220 i hi)))), I151, ⟨trivial, (by have h9 := tx139; omega), ⟨2, x139.toInt, (by have i0 := jix (f := σ 63) (show (σ 55 19).toInt = (σ 55 19).toInt by omega); have p1 := tx79; have i1 := jix (f := σ 63) (show x79.toInt = (σ 55 19).toInt + 1 by omega); unfold jNb jDg; omega), (by have h9 := tx139; omega)⟩⟩⟩ hP hS dX12_numberRead_131
                        · obtain ⟨q240, k239⟩ := h235
                          exact absurd (by omega : False) id
                    · obtain ⟨q242, k241⟩ := h133
                      exact absurd (by omega : False) id
                · obtain ⟨q244, k243⟩ := h113
                  exact absurd (by omega : False) id
            · obtain ⟨q246, k245⟩ := h94
              have q246 := q246.symm
              subst q246
              refine lv_bipush (v := 48) hx hb dX12_numberRead_31 (by decide) ?_
              refine lv_icmp_lt (tgt := 73) hx hb dX12_numberRead_33 (by decide) (fun _ => ?_) (fun c => absurd (by decide) c)
              refine lv_aload_n hx hb dX12_numberRead_73 rfl (lv_at hl 2 rfl) ?_
              refine va_get (D := D) hx hb hts inlX12 hown hK hP 55 (jc_55 cI cL ad σ80 τ) rfl 21 (by decide) (hts _ kw_15_13) (fun _ h9 => h9) rfl dX12_numberRead_74 ?_
              refine jtopr m81 ?_
              refine lv_if_ge (tgt := 113) hx hb dX12_numberRead_77 (by decide) (fun c => absurd (jle c jz_0 rfl) (by omega)) (fun c247 => ?_)
              have kc247 := jnle c247 jz_0 rfl
              refine lv_aload_n hx hb dX12_numberRead_80 rfl (lv_at hl 2 rfl) ?_
              refine va_get (D := D) hx hb hts inlX12 hown hK hP 55 (jc_55 cI cL ad σ80 τ) rfl 19 (by decide) (hts _ kw_15_11) (fun _ h9 => h9) rfl dX12_numberRead_81 ?_
              refine jtopr m83 ?_
              refine lv_iload hx hb dX12_numberRead_84 (lv_at hl 1 rfl) ?_
              refine lv_icmp_le (tgt := 113) hx hb dX12_numberRead_86 (by decide) (fun c => absurd (jle c tx79 rfl) (by omega)) (fun c248 => ?_)
              have kc248 := jnle c248 tx79 rfl
              refine lv_iload hx hb dX12_numberRead_89 (lv_at hl 0 rfl) ?_
              refine lv_i2l (v := x78.toInt64) hx hb dX12_numberRead_91 rfl ?_
              refine lv_iload_n hx hb dX12_numberRead_92 rfl (lv_at hl 4 rfl) ?_
              refine lv_i2l (v := 0) hx hb dX12_numberRead_93 (by decide) ?_
              refine lv_iload_n hx hb dX12_numberRead_94 rfl (lv_at hl 5 rfl) ?_
              refine lv_i2l (v := 999) hx hb dX12_numberRead_95 (by decide) ?_
              refine jcallS (As := [.long x78.toInt64, .long 0, .long 999]) (rest := []) ⟨hx, hb, hml, hown, hts⟩ hK hP hA hS hZ (c_X12_within l D cI cL ad zz hJ σ80 τ x78.toInt64 ((σ 63 (σ 55 19).toNatClampNeg).toInt - 48) (jtoL tx78) 0 (0) jzl_0 999 (999) jzl_999) cw_RX12_136 ⟨Nat.le_of_ble_eq_true rfl, Nat.le_of_ble_eq_true rfl⟩ rfl rfl rfl hl.1 rfl (Nat.le_of_ble_eq_true rfl) dX12_numberRead_96 ⟨Nat.zero_le _, Nat.zero_le _⟩ (fun r250 σ249 τ249 H locs h249 hP hS => ?_)
              obtain ⟨⟨rfl, rfl⟩, h249⟩ := h249
              rcases h249 with h251 | h252
              · obtain ⟨q254, k253⟩ := h251
                have q254 := q254.symm
                subst q254
                refine lv_if_ne (tgt := 113) hx hb dX12_numberRead_99 (by decide) (fun _ => ?_) (fun c => absurd c (by decide))
                refine lv_aload_n hx hb dX12_numberRead_113 rfl (lv_at hl 2 rfl) ?_
                refine va_get (D := D) hx hb hts inlX12 hown hK hP 55 (jc_55 cI cL ad σ80 τ) rfl 19 (by decide) (hts _ kw_15_11) (fun _ h9 => h9) rfl dX12_numberRead_114 ?_
                refine jtopr m83 ?_
                refine lv_iload hx hb dX12_numberRead_117 (lv_at hl 1 rfl) ?_
                refine lv_icmp_ne (tgt := 129) hx hb dX12_numberRead_119 (by decide) (fun c255 => ?_) (fun c => absurd (jeq c tx79 rfl) (by omega))
                have kc255 := jne c255 tx79 rfl
                refine lv_iload hx hb dX12_numberRead_129 (lv_at hl 0 rfl) ?_
                exact hret x78 σ80 τ _ _ _ _ rfl ⟨rfl, (fun i hi => (jnp i eσ80 (imp_165 i hi))), (fun i hi => (jkp i eσ80 (imp_220 i hi))), I90, ⟨trivial, (by have h9 := tx78; omega), ⟨1, x78.toInt, (by have i0 := jix (f := σ 63) (show (σ 55 19).toInt = (σ 55 19).toInt by omega); unfold jNb jDg; omega), (by have h9 := tx78; omega)⟩⟩⟩ hP hS dX12_numberRead_131
              · obtain ⟨q257, k256⟩ := h252
                exact absurd (by omega : False) id
          · obtain ⟨q259, k258⟩ := h73
            exact absurd (by omega : False) id
      · obtain ⟨q261, k260⟩ := h43
        exact absurd (by omega : False) id
  · obtain ⟨q263, k262⟩ := h13
    have q263 := q263.symm
    subst q263
    refine lv_bipush (v := 48) hx hb dX12_numberRead_31 (by decide) ?_
    refine lv_icmp_lt (tgt := 73) hx hb dX12_numberRead_33 (by decide) (fun _ => ?_) (fun c => absurd (by decide) c)
    refine lv_aload_n hx hb dX12_numberRead_73 rfl (lv_at hl 2 rfl) ?_
    refine va_get (D := D) hx hb hts inlX12 hown hK hP 55 (jc_55 cI cL ad σ τ) rfl 21 (by decide) (hts _ kw_15_13) (fun _ h9 => h9) rfl dX12_numberRead_74 ?_
    refine lv_if_ge (tgt := 113) hx hb dX12_numberRead_77 (by decide) (fun c => absurd (jle c jz_0 rfl) (by omega)) (fun c264 => ?_)
    have kc264 := jnle c264 jz_0 rfl
    refine lv_aload_n hx hb dX12_numberRead_80 rfl (lv_at hl 2 rfl) ?_
    refine va_get (D := D) hx hb hts inlX12 hown hK hP 55 (jc_55 cI cL ad σ τ) rfl 19 (by decide) (hts _ kw_15_11) (fun _ h9 => h9) rfl dX12_numberRead_81 ?_
    refine lv_iload hx hb dX12_numberRead_84 (lv_at hl 1 rfl) ?_
    refine lv_icmp_le (tgt := 113) hx hb dX12_numberRead_86 (by decide) (fun c265 => ?_) (fun c => absurd (jnle c rfl rfl) (by omega))
    have kc265 := jle c265 rfl rfl
    refine lv_aload_n hx hb dX12_numberRead_113 rfl (lv_at hl 2 rfl) ?_
    refine va_get (D := D) hx hb hts inlX12 hown hK hP 55 (jc_55 cI cL ad σ τ) rfl 19 (by decide) (hts _ kw_15_11) (fun _ h9 => h9) rfl dX12_numberRead_114 ?_
    refine lv_iload hx hb dX12_numberRead_117 (lv_at hl 1 rfl) ?_
    refine lv_icmp_ne (tgt := 129) hx hb dX12_numberRead_119 (by decide) (fun c => absurd (jne c rfl rfl) (by omega)) (fun c266 => ?_)
    have kc266 := jeq c266 rfl rfl
    refine lv_aload_n hx hb dX12_numberRead_122 rfl (lv_at hl 2 rfl) ?_
    refine jcallV (As := []) (rest := []) ⟨hx, hb, hml, hown, hts⟩ hK hP hA hS hZ (c_X12_wrong l D cI cL ad zz hJ σ τ hI121) cw_RX12_214 (jc_55 cI cL ad σ τ) rfl ⟨Nat.le_of_ble_eq_true rfl, Nat.le_of_ble_eq_true rfl⟩ rfl rfl rfl hl.1 rfl (Nat.le_of_ble_eq_true rfl) dX12_numberRead_123 ⟨Nat.zero_le _, Nat.zero_le _⟩ (fun r268 σ267 τ267 H locs h267 hP hS => ?_)
    obtain ⟨rfl, f269, f270, I271, h267⟩ := h267
    obtain ⟨i273, i274, i275, i276, i277⟩ : ((-1) ≤ (σ267 55 18).toInt ∧ (σ267 55 18).toInt ≤ 80) ∧ (0 ≤ (σ267 55 19).toInt) ∧ ((σ267 55 19).toInt ≤ (σ267 55 20).toInt) ∧ ((σ267 55 20).toInt ≤ 80) ∧ ((-1) ≤ (σ267 55 21).toInt) := id I271
    have z278 : (σ267 55 18).toInt = (σ 55 18).toInt := (congrArg Int32.toInt (show σ267 55 18 = (σ 55 18) from (f270 18 (by decide))))
    have z279 : (σ267 55 19).toInt = (σ 55 19).toInt := (congrArg Int32.toInt (show σ267 55 19 = (σ 55 19) from (f270 19 (by decide))))
    have z280 : (σ267 55 20).toInt = (σ 55 20).toInt := (congrArg Int32.toInt (show σ267 55 20 = (σ 55 20) from (f270 20 (by decide))))
    obtain ⟨k281, k282, h267⟩ := h267
    have h283 := h267
    obtain ⟨q285, k284⟩ := h283
    have q285 := q285.symm
    subst q285
    refine lv_goto (tgt := 131) hx hb dX12_numberRead_126 (by decide) ?_
    exact hret 0 σ267 τ _ _ _ _ rfl ⟨rfl, (fun i hi => (f269 i hi)), (fun i hi => (f270 i (imp_219 i hi))), I271, ⟨trivial, (by have h9 := jz_0; omega), ⟨0, 0, (by unfold jNb jDg; omega), (by have h9 := jz_0; omega)⟩⟩⟩ hP hS dX12_numberRead_131
set_option maxHeartbeats 4000000 in
set_option maxRecDepth 100000 in
theorem c_X12_order (l : Launch) (D : va_G) (cI cL : ClassId) (ad zz : Nat → Nat) (hJ : jD ad) (σ : Nat → Nat → Int32) (τ : Nat → Nat → Int64) (hI104 : jI104 σ) (hI105 : jI105 σ) (hI107 : jI107 σ) (hs_jBook : jBook σ) : jM l yX12_order cX12_order 5 (some .int) ({ frames := 2, cells := 0, slots := 0, locals := 50 }) D cI cL ad zz [.ref (ad 55)] σ τ (fun r σ' τ' => τ = τ' ∧ (∀ i : Nat, (i < 55 ∨ 55 < i) ∧ (i < 62 ∨ 62 < i) ∧ (i < 67 ∨ 67 < i) → σ' i = σ i) ∧ (∀ k : Nat, (k < 10 ∨ 10 < k) ∧ (k < 12 ∨ 12 < k) ∧ (k < 13 ∨ 13 < k) ∧ (k < 15 ∨ 15 < k) ∧ (k < 18 ∨ 18 < k) ∧ (k < 19 ∨ 19 < k) ∧ (k < 20 ∨ 20 < k) ∧ (k < 21 ∨ 21 < k) ∧ (k < 47 ∨ 47 < k) → σ' 55 k = σ 55 k) ∧ (jI104 σ') ∧ (jI105 σ') ∧ (jI107 σ') ∧ (jBook σ') ∧ (jOrA (σ 63) (σ' 62) (σ 62) (σ 55 15).toInt (r.toInt) ((σ' 55 10).toInt) ((σ' 55 12).toInt) ((σ' 55 13).toInt) ((σ 55 10).toInt) ((σ 55 12).toInt) ((σ 55 13).toInt)) ∧ ((σ' 55 15).toInt = 0) ∧ True) := by
  refine jM.of hJ (by decide +kernel) (nt := .int) rfl (Nat.le_of_ble_eq_true rfl) ?_
  intro p e s m args below meth c Q ls hC hret hl hP
  obtain ⟨hx, hb, hr, hml, hown, hts, hK, -, hlocks, hZ⟩ := hC
  have hown : s.vm.findClass RX12 = some m.cls := hown
  have hS : va_S (jA ad) s.heap s.heap [] := va_S.rf
  have hA : ∀ q, jA ad q → jA ad q := fun _ h => h
  have hl : lv_has ls 5 [(0, .ref (ad 55))] := hl
  obtain ⟨i1, i2, i3, w4, w5⟩ : (1 ≤ (σ 55 10).toInt ∧ (σ 55 10).toInt ≤ 8) ∧ (1 ≤ (σ 55 12).toInt ∧ (σ 55 12).toInt ≤ 12) ∧ (0 ≤ (σ 55 13).toInt ∧ (σ 55 13).toInt ≤ 999) ∧ (∀ k : Nat, k < 8 → 0 ≤ (σ 62 k).toInt ∧ (σ 62 k).toInt ≤ 3) ∧ (∀ k : Nat, k < 8 → 0 ≤ (σ 67 k).toInt ∧ (σ 67 k).toInt ≤ 3) := id hI104
  obtain ⟨i6, w7⟩ : (0 ≤ (σ 55 15).toInt ∧ (σ 55 15).toInt ≤ 80) ∧ (∀ k : Nat, k < 2 → (-1) ≤ (σ 65 k).toInt ∧ (σ 65 k).toInt ≤ 80) := id hI105
  obtain ⟨i8, i9, w10⟩ : (0 ≤ (σ 55 47).toInt ∧ (σ 55 47).toInt ≤ 12) ∧ ((σ 55 47).toInt ≤ (σ 55 12).toInt) ∧ (∀ k : Nat, k < 12 → 0 ≤ (σ 80 k).toInt ∧ (σ 80 k).toInt ≤ 3) := id hI107
  refine lv_aload_n hx hb dX12_order_0 rfl (lv_at hl 0 rfl) ?_
  refine lv_iconst (v := (-1)) hx hb dX12_order_1 (by decide) ?_
  refine jput (ty := .int) hx hb hts inlX12 tyX12 tyX12_ok nmX12 hown hK hP hJ hA hS (jc_55 cI cL ad σ τ) rfl (k := 18) (by decide) (Nat.le_of_ble_eq_true rfl) (jp_55_18 cI cL ad σ τ (-1)) (hts _ kw_15_10) (fun _ h9 => h9) rfl (by decide +kernel) rfl rfl dX12_order_2 (fun σ11 H locs eσ11 hP hS => ?_)
  refine lv_aload_n hx hb dX12_order_5 rfl (lv_at hl 0 rfl) ?_
  refine lv_iconst (v := 0) hx hb dX12_order_6 (by decide) ?_
  refine jput (ty := .int) hx hb hts inlX12 tyX12 tyX12_ok nmX12 hown hK hP hJ hA hS (jc_55 cI cL ad σ11 τ) rfl (k := 19) (by decide) (Nat.le_of_ble_eq_true rfl) (jp_55_19 cI cL ad σ11 τ 0) (hts _ kw_15_11) (fun _ h9 => h9) rfl (by decide +kernel) rfl rfl dX12_order_7 (fun σ12 H locs eσ12 hP hS => ?_)
  refine lv_aload_n hx hb dX12_order_10 rfl (lv_at hl 0 rfl) ?_
  refine lv_aload_n hx hb dX12_order_11 rfl (lv_at hl 0 rfl) ?_
  refine va_get (D := D) hx hb hts inlX12 hown hK hP 55 (jc_55 cI cL ad σ12 τ) rfl 15 (by decide) (hts _ kw_13_6) (fun _ h9 => h9) rfl dX12_order_12 ?_
  have m13 : σ12 55 15 = (σ 55 15) := ((jkp 15 eσ12 (by decide)).trans (jkp 15 eσ11 (by decide)))
  refine jtopr m13 ?_
  refine jput (ty := .int) hx hb hts inlX12 tyX12 tyX12_ok nmX12 hown hK hP hJ hA hS (jc_55 cI cL ad σ12 τ) rfl (k := 20) (by decide) (Nat.le_of_ble_eq_true rfl) (jp_55_20 cI cL ad σ12 τ (σ 55 15)) (hts _ kw_15_12) (fun _ h9 => h9) rfl (by decide +kernel) rfl rfl dX12_order_15 (fun σ14 H locs eσ14 hP hS => ?_)
  refine lv_aload_n hx hb dX12_order_18 rfl (lv_at hl 0 rfl) ?_
  refine lv_iconst (v := (-1)) hx hb dX12_order_19 (by decide) ?_
  refine jput (ty := .int) hx hb hts inlX12 tyX12 tyX12_ok nmX12 hown hK hP hJ hA hS (jc_55 cI cL ad σ14 τ) rfl (k := 21) (by decide) (Nat.le_of_ble_eq_true rfl) (jp_55_21 cI cL ad σ14 τ (-1)) (hts _ kw_15_13) (fun _ h9 => h9) rfl (by decide +kernel) rfl rfl dX12_order_20 (fun σ15 H locs eσ15 hP hS => ?_)
  have I20 : jI104 σ15 := jI104_fr ((jkp 10 eσ15 (by decide)).trans ((jkp 10 eσ14 (by decide)).trans ((jkp 10 eσ12 (by decide)).trans (jkp 10 eσ11 (by decide))))) ((jkp 12 eσ15 (by decide)).trans ((jkp 12 eσ14 (by decide)).trans ((jkp 12 eσ12 (by decide)).trans (jkp 12 eσ11 (by decide))))) ((jkp 13 eσ15 (by decide)).trans ((jkp 13 eσ14 (by decide)).trans ((jkp 13 eσ12 (by decide)).trans (jkp 13 eσ11 (by decide))))) ((jnp 62 eσ15 (by decide)).trans ((jnp 62 eσ14 (by decide)).trans ((jnp 62 eσ12 (by decide)).trans (jnp 62 eσ11 (by decide))))) ((jnp 67 eσ15 (by decide)).trans ((jnp 67 eσ14 (by decide)).trans ((jnp 67 eσ12 (by decide)).trans (jnp 67 eσ11 (by decide))))) hI104
  have z21 : (σ15 55 18).toInt = (-1) := ((congrArg Int32.toInt (show σ15 55 18 = (-1) from ((jkp 18 eσ15 (by decide)).trans ((jkp 18 eσ14 (by decide)).trans ((jkp 18 eσ12 (by decide)).trans (jsp eσ11)))))).trans jz_m1)
  have z22 : (σ15 55 19).toInt = 0 := ((congrArg Int32.toInt (show σ15 55 19 = 0 from ((jkp 19 eσ15 (by decide)).trans ((jkp 19 eσ14 (by decide)).trans (jsp eσ12))))).trans jz_0)
  have z23 : (σ15 55 20).toInt = (σ 55 15).toInt := (congrArg Int32.toInt (show σ15 55 20 = (σ 55 15) from ((jkp 20 eσ15 (by decide)).trans (jsp eσ14))))
  have z24 : (σ15 55 21).toInt = (-1) := ((congrArg Int32.toInt (show σ15 55 21 = (-1) from (jsp eσ15))).trans jz_m1)
  have lp16 : ∀ (x18 : Int32) (σ19 : Nat → Nat → Int32) (H : Heap) (locs : List Loc) (ls : Array Slot), 0 ≤ x18.toInt → x18.toInt ≤ 8 → (-1) ≤ (σ19 55 18).toInt ∧ (σ19 55 18).toInt ≤ 80 → 0 ≤ (σ19 55 19).toInt → (σ19 55 19).toInt ≤ (σ19 55 20).toInt → (σ19 55 20).toInt ≤ 80 → (-1) ≤ (σ19 55 21).toInt → (σ19 55 18).toInt = (-1) → (σ19 55 19).toInt = x18.toInt → (σ19 55 21).toInt = (-1) → (∀ i : Nat, (i < 55 ∨ 55 < i) ∧ (i < 67 ∨ 67 < i) → σ19 i = σ15 i) → (∀ k : Nat, (k < 19 ∨ 19 < k) → σ19 55 k = σ15 55 k) → jI104 σ19 → (jMm (σ 63) (σ 55 15).toInt (x18.toInt) ∧ jDv (σ 63) (σ19 67) (x18.toInt)) → jH D cI cL ad σ19 τ H → va_S (jA ad) s.heap H locs → lv_has ls 5 [(0, .ref (ad 55)), (1, .int x18)] → W p l e ({ frames := 2, cells := 0, slots := 0, locals := 50 }) s m args below meth c H locs 0 0 Q (F0 m 78 ls []) := by
    intro x18 σ19 H locs ls h26 h27 h28 h29 h30 h31 h32 h33 h34 h35 f36 f37 p38 q39 hP hS hl
    obtain ⟨i40, i41, i42, w43, w44⟩ : (1 ≤ (σ19 55 10).toInt ∧ (σ19 55 10).toInt ≤ 8) ∧ (1 ≤ (σ19 55 12).toInt ∧ (σ19 55 12).toInt ≤ 12) ∧ (0 ≤ (σ19 55 13).toInt ∧ (σ19 55 13).toInt ≤ 999) ∧ (∀ k : Nat, k < 8 → 0 ≤ (σ19 62 k).toInt ∧ (σ19 62 k).toInt ≤ 3) ∧ (∀ k : Nat, k < 8 → 0 ≤ (σ19 67 k).toInt ∧ (σ19 67 k).toInt ≤ 3) := id p38
    have z45 : (σ19 55 10).toInt = (σ 55 10).toInt := (congrArg Int32.toInt (show σ19 55 10 = (σ 55 10) from ((f37 10 (by decide)).trans ((jkp 10 eσ15 (by decide)).trans ((jkp 10 eσ14 (by decide)).trans ((jkp 10 eσ12 (by decide)).trans (jkp 10 eσ11 (by decide))))))))
    have z46 : (σ19 55 12).toInt = (σ 55 12).toInt := (congrArg Int32.toInt (show σ19 55 12 = (σ 55 12) from ((f37 12 (by decide)).trans ((jkp 12 eσ15 (by decide)).trans ((jkp 12 eσ14 (by decide)).trans ((jkp 12 eσ12 (by decide)).trans (jkp 12 eσ11 (by decide))))))))
    have z47 : (σ19 55 13).toInt = (σ 55 13).toInt := (congrArg Int32.toInt (show σ19 55 13 = (σ 55 13) from ((f37 13 (by decide)).trans ((jkp 13 eσ15 (by decide)).trans ((jkp 13 eσ14 (by decide)).trans ((jkp 13 eσ12 (by decide)).trans (jkp 13 eσ11 (by decide))))))))
    have z48 : (σ19 55 18).toInt = (-1) := ((congrArg Int32.toInt (show σ19 55 18 = (-1) from ((f37 18 (by decide)).trans ((jkp 18 eσ15 (by decide)).trans ((jkp 18 eσ14 (by decide)).trans ((jkp 18 eσ12 (by decide)).trans (jsp eσ11))))))).trans jz_m1)
    have z49 : (σ19 55 20).toInt = (σ 55 15).toInt := (congrArg Int32.toInt (show σ19 55 20 = (σ 55 15) from ((f37 20 (by decide)).trans ((jkp 20 eσ15 (by decide)).trans (jsp eσ14)))))
    have z50 : (σ19 55 21).toInt = (-1) := ((congrArg Int32.toInt (show σ19 55 21 = (-1) from ((f37 21 (by decide)).trans (jsp eσ15)))).trans jz_m1)
    have lp51 : ∀  (σ53 : Nat → Nat → Int32) (H : Heap) (locs : List Loc) (ls : Array Slot), (-1) ≤ (σ53 55 18).toInt ∧ (σ53 55 18).toInt ≤ 80 → 0 ≤ (σ53 55 19).toInt → (σ53 55 19).toInt ≤ (σ53 55 20).toInt → (σ53 55 20).toInt ≤ 80 → (-1) ≤ (σ53 55 21).toInt → (σ53 55 18).toInt = (-1) → (σ53 55 19).toInt = x18.toInt → (((σ53 55 21).toInt = (-1) ∧ 1 ≤ x18.toInt) ∨ ((σ53 55 21).toInt = 0 ∧ x18.toInt = 0)) → (∀ i : Nat, (i < 55 ∨ 55 < i) → σ53 i = σ19 i) → (∀ k : Nat, (k < 21 ∨ 21 < k) → σ53 55 k = σ19 55 k) → jH D cI cL ad σ53 τ H → va_S (jA ad) s.heap H locs → lv_has ls 5 [(0, .ref (ad 55)), (1, .int x18)] → W p l e ({ frames := 2, cells := 0, slots := 0, locals := 50 }) s m args below meth c H locs 0 0 Q (F0 m 87 ls []) := by
      intro  σ53 H locs ls h55 h56 h57 h58 h59 h60 h61 h62 f63 f64 hP hS hl
      have z65 : (σ53 55 18).toInt = (-1) := ((congrArg Int32.toInt (show σ53 55 18 = (-1) from ((f64 18 (by decide)).trans ((f37 18 (by decide)).trans ((jkp 18 eσ15 (by decide)).trans ((jkp 18 eσ14 (by decide)).trans ((jkp 18 eσ12 (by decide)).trans (jsp eσ11)))))))).trans jz_m1)
      have z66 : (σ53 55 19).toInt = (σ19 55 19).toInt := (congrArg Int32.toInt (show σ53 55 19 = (σ19 55 19) from (f64 19 (by decide))))
      have z67 : (σ53 55 20).toInt = (σ 55 15).toInt := (congrArg Int32.toInt (show σ53 55 20 = (σ 55 15) from ((f64 20 (by decide)).trans ((f37 20 (by decide)).trans ((jkp 20 eσ15 (by decide)).trans (jsp eσ14))))))
      have lp68 : ∀ (x70 : Int32) (σ71 : Nat → Nat → Int32) (H : Heap) (locs : List Loc) (ls : Array Slot), (-1) ≤ (σ71 55 18).toInt ∧ (σ71 55 18).toInt ≤ 80 → 0 ≤ (σ71 55 19).toInt → (σ71 55 19).toInt ≤ (σ71 55 20).toInt → (σ71 55 20).toInt ≤ 80 → (-1) ≤ (σ71 55 21).toInt → (σ71 55 18).toInt = (-1) → (((σ71 55 21).toInt = (-1) ∧ 1 ≤ x18.toInt ∧ 1 ≤ x70.toInt ∧ x70.toInt ≤ 12) ∨ (0 ≤ (σ71 55 21).toInt ∧ (σ71 55 21).toInt ≤ 80)) → (∀ i : Nat, (i < 55 ∨ 55 < i) → σ71 i = σ53 i) → (∀ k : Nat, (k < 19 ∨ 19 < k) ∧ (k < 21 ∨ 21 < k) → σ71 55 k = σ53 55 k) → (jTm (σ 63) (σ 55 15).toInt (x18.toInt) ((σ71 55 19).toInt) (x70.toInt) ((σ71 55 21).toInt) ∧ ((σ71 55 21).toInt = -1 → 0 ≤ (σ71 55 19).toInt)) → jH D cI cL ad σ71 τ H → va_S (jA ad) s.heap H locs → lv_has ls 5 [(0, .ref (ad 55)), (1, .int x18), (2, .int x70)] → W p l e ({ frames := 2, cells := 0, slots := 0, locals := 50 }) s m args below meth c H locs 0 0 Q (F0 m 110 ls []) := by
        intro x70 σ71 H locs ls h73 h74 h75 h76 h77 h78 h79 f80 f81 q82 hP hS hl
        have gx70 := jrg (rfl : x70.toInt = x70.toInt)
        have z83 : (σ71 55 18).toInt = (-1) := ((congrArg Int32.toInt (show σ71 55 18 = (-1) from ((f81 18 (by decide)).trans ((f64 18 (by decide)).trans ((f37 18 (by decide)).trans ((jkp 18 eσ15 (by decide)).trans ((jkp 18 eσ14 (by decide)).trans ((jkp 18 eσ12 (by decide)).trans (jsp eσ11))))))))).trans jz_m1)
        have z84 : (σ71 55 20).toInt = (σ 55 15).toInt := (congrArg Int32.toInt (show σ71 55 20 = (σ 55 15) from ((f81 20 (by decide)).trans ((f64 20 (by decide)).trans ((f37 20 (by decide)).trans ((jkp 20 eσ15 (by decide)).trans (jsp eσ14)))))))
        have lp85 : ∀ (x87 : Int32) (σ88 : Nat → Nat → Int32) (H : Heap) (locs : List Loc) (ls : Array Slot), (-1) ≤ (σ88 55 18).toInt ∧ (σ88 55 18).toInt ≤ 80 → 0 ≤ (σ88 55 19).toInt → (σ88 55 19).toInt ≤ (σ88 55 20).toInt → (σ88 55 20).toInt ≤ 80 → (-1) ≤ (σ88 55 21).toInt → (σ88 55 18).toInt = (-1) → (((σ88 55 21).toInt = (-1) ∧ 1 ≤ x18.toInt ∧ 1 ≤ x70.toInt ∧ x70.toInt ≤ 12 ∧ 0 ≤ x87.toInt ∧ x87.toInt ≤ 999) ∨ (0 ≤ (σ88 55 21).toInt ∧ (σ88 55 21).toInt ≤ 80)) → (∀ i : Nat, (i < 55 ∨ 55 < i) → σ88 i = σ71 i) → (∀ k : Nat, (k < 19 ∨ 19 < k) ∧ (k < 21 ∨ 21 < k) → σ88 55 k = σ71 55 k) → (∃ p x1 : Int, (jTm (σ 63) (σ 55 15).toInt (x18.toInt) p (x70.toInt) x1 ∧ (x1 = -1 → 0 ≤ p)) ∧ jRm (σ 63) (σ 55 15).toInt p (x87.toInt) x1 ((σ88 55 19).toInt) ((σ88 55 21).toInt)) → jH D cI cL ad σ88 τ H → va_S (jA ad) s.heap H locs → lv_has ls 5 [(0, .ref (ad 55)), (1, .int x18), (2, .int x70), (3, .int x87)] → W p l e ({ frames := 2, cells := 0, slots := 0, locals := 50 }) s m args below meth c H locs 0 0 Q (F0 m 133 ls []) := by
          intro x87 σ88 H locs ls h90 h91 h92 h93 h94 h95 h96 f97 f98 q99 hP hS hl
          have gx87 := jrg (rfl : x87.toInt = x87.toInt)
          have z100 : (σ88 55 18).toInt = (-1) := ((congrArg Int32.toInt (show σ88 55 18 = (-1) from ((f98 18 (by decide)).trans ((f81 18 (by decide)).trans ((f64 18 (by decide)).trans ((f37 18 (by decide)).trans ((jkp 18 eσ15 (by decide)).trans ((jkp 18 eσ14 (by decide)).trans ((jkp 18 eσ12 (by decide)).trans (jsp eσ11)))))))))).trans jz_m1)
          have z101 : (σ88 55 20).toInt = (σ 55 15).toInt := (congrArg Int32.toInt (show σ88 55 20 = (σ 55 15) from ((f98 20 (by decide)).trans ((f81 20 (by decide)).trans ((f64 20 (by decide)).trans ((f37 20 (by decide)).trans ((jkp 20 eσ15 (by decide)).trans (jsp eσ14))))))))
          obtain ⟨p102, y103, t104, r105⟩ := q99
          have lp106 : ∀  (σ108 : Nat → Nat → Int32) (H : Heap) (locs : List Loc) (ls : Array Slot), (-1) ≤ (σ108 55 18).toInt ∧ (σ108 55 18).toInt ≤ 80 → 0 ≤ (σ108 55 19).toInt → (σ108 55 19).toInt ≤ (σ108 55 20).toInt → (σ108 55 20).toInt ≤ 80 → (-1) ≤ (σ108 55 21).toInt → (σ108 55 18).toInt = (-1) → (((σ108 55 21).toInt = (-1) ∧ 1 ≤ x18.toInt ∧ 1 ≤ x70.toInt ∧ x70.toInt ≤ 12 ∧ 0 ≤ x87.toInt ∧ x87.toInt ≤ 999) ∨ (0 ≤ (σ108 55 21).toInt ∧ (σ108 55 21).toInt ≤ 80)) → (∀ i : Nat, (i < 55 ∨ 55 < i) → σ108 i = σ88 i) → (∀ k : Nat, (k < 21 ∨ 21 < k) → σ108 55 k = σ88 55 k) → (∃ p x1 p2 x2 : Int, (jTm (σ 63) (σ 55 15).toInt (x18.toInt) p (x70.toInt) x1 ∧ (x1 = -1 → 0 ≤ p)) ∧ jRm (σ 63) (σ 55 15).toInt p (x87.toInt) x1 p2 x2 ∧ ((0 ≤ x2 ∧ (σ108 55 21).toInt = x2) ∨ (x2 = -1 ∧ p2 < (σ 55 15).toInt ∧ (σ108 55 21).toInt = p2 ∧ 0 ≤ p2) ∨ (x2 = -1 ∧ (σ 55 15).toInt ≤ p2 ∧ (σ108 55 21).toInt = -1))) → jH D cI cL ad σ108 τ H → va_S (jA ad) s.heap H locs → lv_has ls 5 [(0, .ref (ad 55)), (1, .int x18), (2, .int x70), (3, .int x87)] → W p l e ({ frames := 2, cells := 0, slots := 0, locals := 50 }) s m args below meth c H locs 0 0 Q (F0 m 157 ls []) := by
            intro  σ108 H locs ls h110 h111 h112 h113 h114 h115 h116 f117 f118 q119 hP hS hl
            have z120 : (σ108 55 18).toInt = (-1) := ((congrArg Int32.toInt (show σ108 55 18 = (-1) from ((f118 18 (by decide)).trans ((f98 18 (by decide)).trans ((f81 18 (by decide)).trans ((f64 18 (by decide)).trans ((f37 18 (by decide)).trans ((jkp 18 eσ15 (by decide)).trans ((jkp 18 eσ14 (by decide)).trans ((jkp 18 eσ12 (by decide)).trans (jsp eσ11))))))))))).trans jz_m1)
            have z121 : (σ108 55 19).toInt = (σ88 55 19).toInt := (congrArg Int32.toInt (show σ108 55 19 = (σ88 55 19) from (f118 19 (by decide))))
            have z122 : (σ108 55 20).toInt = (σ 55 15).toInt := (congrArg Int32.toInt (show σ108 55 20 = (σ 55 15) from ((f118 20 (by decide)).trans ((f98 20 (by decide)).trans ((f81 20 (by decide)).trans ((f64 20 (by decide)).trans ((f37 20 (by decide)).trans ((jkp 20 eσ15 (by decide)).trans (jsp eσ14)))))))))
            obtain ⟨p123, y124, p125, y126, t127, r128, d129⟩ := q119
            refine lv_aload_n hx hb dX12_order_157 rfl (lv_at hl 0 rfl) ?_
            refine lv_iconst (v := 0) hx hb dX12_order_158 (by decide) ?_
            refine jput (ty := .int) hx hb hts inlX12 tyX12 tyX12_ok nmX12 hown hK hP hJ hA hS (jc_55 cI cL ad σ108 τ) rfl (k := 15) (by decide) (Nat.le_of_ble_eq_true rfl) (jp_55_15 cI cL ad σ108 τ 0) (hts _ kw_13_6) (fun _ h9 => h9) rfl (by decide +kernel) rfl rfl dX12_order_159 (fun σ130 H locs eσ130 hP hS => ?_)
            refine lv_aload_n hx hb dX12_order_162 rfl (lv_at hl 0 rfl) ?_
            refine va_get (D := D) hx hb hts inlX12 hown hK hP 55 (jc_55 cI cL ad σ130 τ) rfl 21 (by decide) (hts _ kw_15_13) (fun _ h9 => h9) rfl dX12_order_163 ?_
            have m131 : σ130 55 21 = (σ108 55 21) := (jkp 21 eσ130 (by decide))
            refine jtopr m131 ?_
            refine lv_if_lt (tgt := 177) hx hb dX12_order_166 (by decide) (fun c132 => ?_) (fun c132 => ?_)
            · have kc132 := jlt c132 rfl jz_0
              refine lv_aload_n hx hb dX12_order_177 rfl (lv_at hl 0 rfl) ?_
              refine lv_iload_n hx hb dX12_order_178 rfl (lv_at hl 1 rfl) ?_
              refine jput (ty := .int) hx hb hts inlX12 tyX12 tyX12_ok nmX12 hown hK hP hJ hA hS (jc_55 cI cL ad σ130 τ) rfl (k := 10) (by decide) (Nat.le_of_ble_eq_true rfl) (jp_55_10 cI cL ad σ130 τ x18) (hts _ kw_8_15) (fun _ h9 => h9) rfl (by decide +kernel) rfl rfl dX12_order_179 (fun σ133 H locs eσ133 hP hS => ?_)
              refine lv_aload_n hx hb dX12_order_182 rfl (lv_at hl 0 rfl) ?_
              refine lv_iload_n hx hb dX12_order_183 rfl (lv_at hl 2 rfl) ?_
              refine jput (ty := .int) hx hb hts inlX12 tyX12 tyX12_ok nmX12 hown hK hP hJ hA hS (jc_55 cI cL ad σ133 τ) rfl (k := 12) (by decide) (Nat.le_of_ble_eq_true rfl) (jp_55_12 cI cL ad σ133 τ x70) (hts _ kw_8_16) (fun _ h9 => h9) rfl (by decide +kernel) rfl rfl dX12_order_184 (fun σ134 H locs eσ134 hP hS => ?_)
              refine lv_aload_n hx hb dX12_order_187 rfl (lv_at hl 0 rfl) ?_
              refine lv_iload_n hx hb dX12_order_188 rfl (lv_at hl 3 rfl) ?_
              refine jput (ty := .int) hx hb hts inlX12 tyX12 tyX12_ok nmX12 hown hK hP hJ hA hS (jc_55 cI cL ad σ134 τ) rfl (k := 13) (by decide) (Nat.le_of_ble_eq_true rfl) (jp_55_13 cI cL ad σ134 τ x87) (hts _ kw_15_14) (fun _ h9 => h9) rfl (by decide +kernel) rfl rfl dX12_order_189 (fun σ135 H locs eσ135 hP hS => ?_)
              refine lv_iconst (v := 0) hx hb dX12_order_192 (by decide) ?_
              refine lv_istore (lv' := [(4, .int 0), (0, .ref (ad 55)), (1, .int x18), (2, .int x70), (3, .int x87)]) hx hb dX12_order_193 hl (by decide) rfl (fun ls hl => ?_)
              have z140 : (σ135 55 10).toInt = x18.toInt := (congrArg Int32.toInt (show σ135 55 10 = x18 from ((jkp 10 eσ135 (by decide)).trans ((jkp 10 eσ134 (by decide)).trans (jsp eσ133)))))
              have z141 : (σ135 55 12).toInt = x70.toInt := (congrArg Int32.toInt (show σ135 55 12 = x70 from ((jkp 12 eσ135 (by decide)).trans (jsp eσ134))))
              have z142 : (σ135 55 13).toInt = x87.toInt := (congrArg Int32.toInt (show σ135 55 13 = x87 from (jsp eσ135)))
              have w143 : ∀ k : Nat, k < 8 → 0 ≤ (σ135 62 k).toInt ∧ (σ135 62 k).toInt ≤ 3 := (jrr_fr (jnp 62 eσ135 (by decide)) (jrr_fr (jnp 62 eσ134 (by decide)) (jrr_fr (jnp 62 eσ133 (by decide)) (jrr_fr (jnp 62 eσ130 (by decide)) (jrr_fr (f117 62 (by decide)) (jrr_fr (f97 62 (by decide)) (jrr_fr (f80 62 (by decide)) (jrr_fr (f63 62 (by decide)) w43))))))))
              have w144 : ∀ k : Nat, k < 8 → 0 ≤ (σ135 67 k).toInt ∧ (σ135 67 k).toInt ≤ 3 := (jrr_fr (jnp 67 eσ135 (by decide)) (jrr_fr (jnp 67 eσ134 (by decide)) (jrr_fr (jnp 67 eσ133 (by decide)) (jrr_fr (jnp 67 eσ130 (by decide)) (jrr_fr (f117 67 (by decide)) (jrr_fr (f97 67 (by decide)) (jrr_fr (f80 67 (by decide)) (jrr_fr (f63 67 (by decide)) w44))))))))
              have I145 : jI104 σ135 := ⟨(by omega), (by omega), (by omega), w143, w144⟩
              have lp136 : ∀ (n137 : Nat) (x138 : Int32) (σ139 : Nat → Nat → Int32) (H : Heap) (locs : List Loc) (ls : Array Slot), (x18.toInt - x138.toInt : Int) < n137 → 0 ≤ x138.toInt → x138.toInt ≤ 8 → x138.toInt ≤ x18.toInt → (∀ i : Nat, (i < 62 ∨ 62 < i) → σ139 i = σ135 i) → jI104 σ139 → (jSo (σ139 62) (σ135 67) (x138.toInt)) → jH D cI cL ad σ139 τ H → va_S (jA ad) s.heap H locs → lv_has ls 5 [(4, .int x138), (0, .ref (ad 55)), (1, .int x18), (2, .int x70), (3, .int x87)] → W p l e ({ frames := 2, cells := 0, slots := 0, locals := 50 }) s m args below meth c H locs 0 0 Q (F0 m 195 ls []) := by
                intro n137
                induction n137 with
                | zero => intro x138 σ139 H locs ls h147 h148 h149 h150; exact absurd h147 (by omega)
                | succ n137 ihlp136 =>
                  intro x138 σ139 H locs ls h147 h148 h149 h150 f151 p152 q153 hP hS hl
                  obtain ⟨i154, i155, i156, w157, w158⟩ : (1 ≤ (σ139 55 10).toInt ∧ (σ139 55 10).toInt ≤ 8) ∧ (1 ≤ (σ139 55 12).toInt ∧ (σ139 55 12).toInt ≤ 12) ∧ (0 ≤ (σ139 55 13).toInt ∧ (σ139 55 13).toInt ≤ 999) ∧ (∀ k : Nat, k < 8 → 0 ≤ (σ139 62 k).toInt ∧ (σ139 62 k).toInt ≤ 3) ∧ (∀ k : Nat, k < 8 → 0 ≤ (σ139 67 k).toInt ∧ (σ139 67 k).toInt ≤ 3) := id p152
                  have z159 : (σ139 55 10).toInt = x18.toInt := (congrArg Int32.toInt (show σ139 55 10 = x18 from ((congrFun (f151 55 (by decide)) 10).trans ((jkp 10 eσ135 (by decide)).trans ((jkp 10 eσ134 (by decide)).trans (jsp eσ133))))))
                  have z160 : (σ139 55 12).toInt = x70.toInt := (congrArg Int32.toInt (show σ139 55 12 = x70 from ((congrFun (f151 55 (by decide)) 12).trans ((jkp 12 eσ135 (by decide)).trans (jsp eσ134)))))
                  have z161 : (σ139 55 13).toInt = x87.toInt := (congrArg Int32.toInt (show σ139 55 13 = x87 from ((congrFun (f151 55 (by decide)) 13).trans (jsp eσ135))))
                  refine lv_iload hx hb dX12_order_195 (lv_at hl 0 rfl) ?_
                  refine lv_iload_n hx hb dX12_order_197 rfl (lv_at hl 2 rfl) ?_
                  refine lv_icmp_ge (tgt := 221) hx hb dX12_order_198 (by decide) (fun c162 => ?_) (fun c162 => ?_)
                  · have kc162 := jle c162 rfl rfl
                    refine lv_aload_n hx hb dX12_order_221 rfl (lv_at hl 1 rfl) ?_
                    refine lv_iconst (v := 0) hx hb dX12_order_222 (by decide) ?_
                    refine jput (ty := .int) hx hb hts inlX12 tyX12 tyX12_ok nmX12 hown hK hP hJ hA hS (jc_55 cI cL ad σ139 τ) rfl (k := 47) (by decide) (Nat.le_of_ble_eq_true rfl) (jp_55_47 cI cL ad σ139 τ 0) (hts _ kw_15_15) (fun _ h9 => h9) rfl (by decide +kernel) rfl rfl dX12_order_223 (fun σ163 H locs eσ163 hP hS => ?_)
                    refine lv_aload_n hx hb dX12_order_226 rfl (lv_at hl 1 rfl) ?_
                    refine va_get (D := D) hx hb hts inlX12 hown hK hP 55 (jc_55 cI cL ad σ163 τ) rfl 10 (by decide) (hts _ kw_8_15) (fun _ h9 => h9) rfl dX12_order_227 ?_
                    have m164 : σ163 55 10 = x18 := ((jkp 10 eσ163 (by decide)).trans ((congrFun (f151 55 (by decide)) 10).trans ((jkp 10 eσ135 (by decide)).trans ((jkp 10 eσ134 (by decide)).trans (jsp eσ133)))))
                    refine jtopr m164 ?_
                    have z165 : (σ163 55 47).toInt = 0 := ((congrArg Int32.toInt (show σ163 55 47 = 0 from (jsp eσ163))).trans jz_0)
                    have p166 : jBook σ163 := jBook.nil (by omega)
                    have I167 : jI104 σ163 := jI104_fr (jkp 10 eσ163 (by decide)) (jkp 12 eσ163 (by decide)) (jkp 13 eσ163 (by decide)) (jnp 62 eσ163 (by decide)) (jnp 67 eσ163 (by decide)) p152
                    have z168 : (σ163 55 15).toInt = 0 := ((congrArg Int32.toInt (show σ163 55 15 = 0 from ((jkp 15 eσ163 (by decide)).trans ((congrFun (f151 55 (by decide)) 15).trans ((jkp 15 eσ135 (by decide)).trans ((jkp 15 eσ134 (by decide)).trans ((jkp 15 eσ133 (by decide)).trans (jsp eσ130)))))))).trans jz_0)
                    have w169 : ∀ k : Nat, k < 2 → (-1) ≤ (σ163 65 k).toInt ∧ (σ163 65 k).toInt ≤ 80 := (jrr_fr (jnp 65 eσ163 (by decide)) (jrr_fr (f151 65 (by decide)) (jrr_fr (jnp 65 eσ135 (by decide)) (jrr_fr (jnp 65 eσ134 (by decide)) (jrr_fr (jnp 65 eσ133 (by decide)) (jrr_fr (jnp 65 eσ130 (by decide)) (jrr_fr (f117 65 (by decide)) (jrr_fr (f97 65 (by decide)) (jrr_fr (f80 65 (by decide)) (jrr_fr (f63 65 (by decide)) (jrr_fr (f36 65 (by decide)) (jrr_fr (jnp 65 eσ15 (by decide)) (jrr_fr (jnp 65 eσ14 (by decide)) (jrr_fr (jnp 65 eσ12 (by decide)) (jrr_fr (jnp 65 eσ11 (by decide)) w7)))))))))))))))
                    have I170 : jI105 σ163 := ⟨(by omega), w169⟩
                    have z171 : (σ163 55 12).toInt = x70.toInt := (congrArg Int32.toInt (show σ163 55 12 = x70 from ((jkp 12 eσ163 (by decide)).trans ((congrFun (f151 55 (by decide)) 12).trans ((jkp 12 eσ135 (by decide)).trans (jsp eσ134))))))
                    have w172 : ∀ k : Nat, k < 12 → 0 ≤ (σ163 80 k).toInt ∧ (σ163 80 k).toInt ≤ 3 := (jrr_fr (jnp 80 eσ163 (by decide)) (jrr_fr (f151 80 (by decide)) (jrr_fr (jnp 80 eσ135 (by decide)) (jrr_fr (jnp 80 eσ134 (by decide)) (jrr_fr (jnp 80 eσ133 (by decide)) (jrr_fr (jnp 80 eσ130 (by decide)) (jrr_fr (f117 80 (by decide)) (jrr_fr (f97 80 (by decide)) (jrr_fr (f80 80 (by decide)) (jrr_fr (f63 80 (by decide)) (jrr_fr (f36 80 (by decide)) (jrr_fr (jnp 80 eσ15 (by decide)) (jrr_fr (jnp 80 eσ14 (by decide)) (jrr_fr (jnp 80 eσ12 (by decide)) (jrr_fr (jnp 80 eσ11 (by decide)) w10)))))))))))))))
                    have I173 : jI107 σ163 := ⟨(by omega), (by omega), w172⟩
                    have z174 : (σ163 55 10).toInt = x18.toInt := (congrArg Int32.toInt (show σ163 55 10 = x18 from m164))
                    have z175 : (σ163 55 13).toInt = x87.toInt := (congrArg Int32.toInt (show σ163 55 13 = x87 from ((jkp 13 eσ163 (by decide)).trans ((congrFun (f151 55 (by decide)) 13).trans (jsp eσ135)))))
                    have z176 : (σ163 55 19).toInt = (σ88 55 19).toInt := (congrArg Int32.toInt (show σ163 55 19 = (σ88 55 19) from ((jkp 19 eσ163 (by decide)).trans ((congrFun (f151 55 (by decide)) 19).trans ((jkp 19 eσ135 (by decide)).trans ((jkp 19 eσ134 (by decide)).trans ((jkp 19 eσ133 (by decide)).trans ((jkp 19 eσ130 (by decide)).trans (f118 19 (by decide))))))))))
                    have z177 : (σ163 55 21).toInt = (σ108 55 21).toInt := (congrArg Int32.toInt (show σ163 55 21 = (σ108 55 21) from ((jkp 21 eσ163 (by decide)).trans ((congrFun (f151 55 (by decide)) 21).trans ((jkp 21 eσ135 (by decide)).trans ((jkp 21 eσ134 (by decide)).trans ((jkp 21 eσ133 (by decide)).trans m131)))))))
                    exact hret x18 σ163 τ _ _ _ _ rfl ⟨rfl, (fun i hi => ((jnp i eσ163 (imp_221 i hi)).trans ((f151 i (imp_222 i hi)).trans ((jnp i eσ135 (imp_221 i hi)).trans ((jnp i eσ134 (imp_221 i hi)).trans ((jnp i eσ133 (imp_221 i hi)).trans ((jnp i eσ130 (imp_221 i hi)).trans ((f117 i (imp_223 i hi)).trans ((f97 i (imp_223 i hi)).trans ((f80 i (imp_223 i hi)).trans ((f63 i (imp_223 i hi)).trans ((f36 i (imp_224 i hi)).trans ((jnp i eσ15 (imp_221 i hi)).trans ((jnp i eσ14 (imp_221 i hi)).trans ((jnp i eσ12 (imp_221 i hi)).trans (jnp i eσ11 (imp_221 i hi))))))))))))))))), (fun i hi => ((jkp i eσ163 (imp_225 i hi)).trans ((congrFun (f151 55 (by decide)) i).trans ((jkp i eσ135 (imp_226 i hi)).trans ((jkp i eσ134 (imp_227 i hi)).trans ((jkp i eσ133 (imp_228 i hi)).trans ((jkp i eσ130 (imp_229 i hi)).trans ((f118 i (imp_230 i hi)).trans ((f98 i (imp_231 i hi)).trans ((f81 i (imp_231 i hi)).trans ((f64 i (imp_230 i hi)).trans ((f37 i (imp_232 i hi)).trans ((jkp i eσ15 (imp_233 i hi)).trans ((jkp i eσ14 (imp_234 i hi)).trans ((jkp i eσ12 (imp_235 i hi)).trans (jkp i eσ11 (imp_236 i hi))))))))))))))))), I167, I170, I173, p166, ⟨x18.toInt, x70.toInt, x87.toInt, (σ108 55 21).toInt, ⟨q39.1, p123, y124, p125, y126, t127.1, t127.2, r128, d129⟩, Or.inr ⟨by omega, (by omega), by omega, by omega, by omega, (by rw [eσ163, jup_n (by decide)]; exact jDv.so (g := σ135 67) (by rw [show σ135 67 = σ19 67 from ((jnp 67 eσ135 (by decide)).trans ((jnp 67 eσ134 (by decide)).trans ((jnp 67 eσ133 (by decide)).trans ((jnp 67 eσ130 (by decide)).trans ((f117 67 (by decide)).trans ((f97 67 (by decide)).trans ((f80 67 (by decide)).trans (f63 67 (by decide)))))))))]; exact q39.2) (by rw [show x18.toInt = x138.toInt by omega]; exact q153))⟩⟩, (by omega), trivial⟩ hP hS dX12_order_230
                  · have kc162 := jnle c162 rfl rfl
                    refine lv_aload_n hx hb dX12_order_201 rfl (lv_at hl 1 rfl) ?_
                    refine va_get (D := D) hx hb hts inlX12 hown hK hP 55 (jc_55 cI cL ad σ139 τ) rfl 11 (by decide) (hts _ kw_7_8) (fun _ h9 => h9) rfl dX12_order_202 ?_
                    refine lv_iload hx hb dX12_order_205 (lv_at hl 0 rfl) ?_
                    refine lv_aload_n hx hb dX12_order_207 rfl (lv_at hl 1 rfl) ?_
                    refine va_get (D := D) hx hb hts inlX12 hown hK hP 55 (jc_55 cI cL ad σ139 τ) rfl 24 (by decide) (hts _ kw_7_13) (fun _ h9 => h9) rfl dX12_order_208 ?_
                    refine lv_iload hx hb dX12_order_211 (lv_at hl 0 rfl) ?_
                    refine jald hx hb hK hP (jc_67 cI cL ad σ139 τ) (jin rfl (by omega) (by omega)) dX12_order_213 ?_
                    have g178 := w158 _ (jnat (x := x138) rfl (n := 8) (by omega) (by decide))
                    refine jtopr (y := (σ19 67 x138.toNatClampNeg)) (by rw [f151 67 (by decide), jnp 67 eσ135 (by decide), jnp 67 eσ134 (by decide), jnp 67 eσ133 (by decide), jnp 67 eσ130 (by decide), f117 67 (by decide), f97 67 (by decide), f80 67 (by decide), f63 67 (by decide)]) ?_
                    rw [f151 67 (by decide), jnp 67 eσ135 (by decide), jnp 67 eσ134 (by decide), jnp 67 eσ133 (by decide), jnp 67 eσ130 (by decide), f117 67 (by decide), f97 67 (by decide), f80 67 (by decide), f63 67 (by decide)] at g178
                    refine jast hx hb hK hP hJ hA hS (jc_62 cI cL ad σ139 τ) (ja_62 cI cL ad σ139 τ _ _) (jin rfl (by omega) (by omega)) dX12_order_214 (fun σ179 H locs eσ179 hP hS => ?_)
                    obtain ⟨x180, ex180⟩ : ∃ y : Int32, y = x138 + 1 := ⟨_, rfl⟩
                    have tx180 : x180.toInt = x138.toInt + 1 := (jadd ex180 rfl jz_1 (by omega) (by omega)).trans (by omega)
                    refine lv_iinc (v := x180) (lv' := [(4, .int x180), (0, .ref (ad 55)), (1, .int x18), (2, .int x70), (3, .int x87)]) hx hb dX12_order_215 hl (k := 0) rfl (by rw [ex180]; rfl) (by decide) rfl (fun ls hl => ?_)
                    refine lv_goto (tgt := 195) hx hb dX12_order_218 (by decide) ?_
                    have z181 : (σ179 55 10).toInt = x18.toInt := (congrArg Int32.toInt (show σ179 55 10 = x18 from ((congrFun (jnp 55 eσ179 (by decide)) 10).trans ((congrFun (f151 55 (by decide)) 10).trans ((jkp 10 eσ135 (by decide)).trans ((jkp 10 eσ134 (by decide)).trans (jsp eσ133)))))))
                    have z182 : (σ179 55 12).toInt = x70.toInt := (congrArg Int32.toInt (show σ179 55 12 = x70 from ((congrFun (jnp 55 eσ179 (by decide)) 12).trans ((congrFun (f151 55 (by decide)) 12).trans ((jkp 12 eσ135 (by decide)).trans (jsp eσ134))))))
                    have z183 : (σ179 55 13).toInt = x87.toInt := (congrArg Int32.toInt (show σ179 55 13 = x87 from ((congrFun (jnp 55 eσ179 (by decide)) 13).trans ((congrFun (f151 55 (by decide)) 13).trans (jsp eσ135)))))
                    have w184 : ∀ k : Nat, k < 8 → 0 ≤ (σ179 62 k).toInt ∧ (σ179 62 k).toInt ≤ 3 := (by rw [eσ179]; exact jrr_up w157 (by omega) (by omega))
                    have w185 : ∀ k : Nat, k < 8 → 0 ≤ (σ179 67 k).toInt ∧ (σ179 67 k).toInt ≤ 3 := (jrr_fr (jnp 67 eσ179 (by decide)) w158)
                    have I186 : jI104 σ179 := ⟨(by omega), (by omega), (by omega), w184, w185⟩
                    exact ihlp136 x180 σ179 _ _ ls (by have h90 := tx180; omega) (by have h90 := tx180; omega) (by have h90 := tx180; omega) (by have h90 := tx180; omega) (fun i hi => ((jnp i eσ179 (imp_237 i hi)).trans (f151 i hi)))   I186 (jSo.step q153 (by omega) (by rw [eσ179, jup_row, jnc (rfl : x138.toInt = x138.toInt)]) (by omega) (by rw [show σ135 67 = σ19 67 from ((jnp 67 eσ135 (by decide)).trans ((jnp 67 eσ134 (by decide)).trans ((jnp 67 eσ133 (by decide)).trans ((jnp 67 eσ130 (by decide)).trans ((f117 67 (by decide)).trans ((f97 67 (by decide)).trans ((f80 67 (by decide)).trans (f63 67 (by decide)))))))))]; (try rw [jnc (show x138.toInt = x138.toInt by omega)]); try rfl) (by have h9 := tx180; omega)) hP hS (lv_sub hl [0, 1, 2, 3, 4] rfl)
              exact lp136 1000000 0 σ135 _ _ ls (by have h90 := jz_0; omega) (by have h90 := jz_0; omega) (by have h90 := jz_0; omega) (by have h90 := jz_0; omega) (fun _ _ => rfl)  I145 (jSo.first (by have h9 := jz_0; omega)) hP hS hl
            · have kc132 := jnlt c132 rfl jz_0
              refine lv_bipush (v := (-100)) hx hb dX12_order_169 (by decide) ?_
              refine lv_aload_n hx hb dX12_order_171 rfl (lv_at hl 0 rfl) ?_
              refine va_get (D := D) hx hb hts inlX12 hown hK hP 55 (jc_55 cI cL ad σ130 τ) rfl 21 (by decide) (hts _ kw_15_13) (fun _ h9 => h9) rfl dX12_order_172 ?_
              refine jtopr m131 ?_
              have g187 := jrg (rfl : (σ108 55 21).toInt = (σ108 55 21).toInt)
              refine lv_isub hx hb dX12_order_175 ?_
              refine lv_topi (fun x188 ex188 => ?_)
              have tx188 : x188.toInt = -(σ108 55 21).toInt - 100 := (jsub ex188 jz_m100 rfl (by omega) (by omega)).trans (by omega)
              have I189 : jI104 σ130 := jI104_fr ((jkp 10 eσ130 (by decide)).trans ((f118 10 (by decide)).trans ((f98 10 (by decide)).trans ((f81 10 (by decide)).trans (f64 10 (by decide)))))) ((jkp 12 eσ130 (by decide)).trans ((f118 12 (by decide)).trans ((f98 12 (by decide)).trans ((f81 12 (by decide)).trans (f64 12 (by decide)))))) ((jkp 13 eσ130 (by decide)).trans ((f118 13 (by decide)).trans ((f98 13 (by decide)).trans ((f81 13 (by decide)).trans (f64 13 (by decide)))))) ((jnp 62 eσ130 (by decide)).trans ((f117 62 (by decide)).trans ((f97 62 (by decide)).trans ((f80 62 (by decide)).trans (f63 62 (by decide)))))) ((jnp 67 eσ130 (by decide)).trans ((f117 67 (by decide)).trans ((f97 67 (by decide)).trans ((f80 67 (by decide)).trans (f63 67 (by decide)))))) p38
              have z190 : (σ130 55 15).toInt = 0 := ((congrArg Int32.toInt (show σ130 55 15 = 0 from (jsp eσ130))).trans jz_0)
              have w191 : ∀ k : Nat, k < 2 → (-1) ≤ (σ130 65 k).toInt ∧ (σ130 65 k).toInt ≤ 80 := (jrr_fr (jnp 65 eσ130 (by decide)) (jrr_fr (f117 65 (by decide)) (jrr_fr (f97 65 (by decide)) (jrr_fr (f80 65 (by decide)) (jrr_fr (f63 65 (by decide)) (jrr_fr (f36 65 (by decide)) (jrr_fr (jnp 65 eσ15 (by decide)) (jrr_fr (jnp 65 eσ14 (by decide)) (jrr_fr (jnp 65 eσ12 (by decide)) (jrr_fr (jnp 65 eσ11 (by decide)) w7))))))))))
              have I192 : jI105 σ130 := ⟨(by omega), w191⟩
              have I193 : jI107 σ130 := jI107_fr ((jkp 12 eσ130 (by decide)).trans ((f118 12 (by decide)).trans ((f98 12 (by decide)).trans ((f81 12 (by decide)).trans ((f64 12 (by decide)).trans ((f37 12 (by decide)).trans ((jkp 12 eσ15 (by decide)).trans ((jkp 12 eσ14 (by decide)).trans ((jkp 12 eσ12 (by decide)).trans (jkp 12 eσ11 (by decide))))))))))) ((jkp 47 eσ130 (by decide)).trans ((f118 47 (by decide)).trans ((f98 47 (by decide)).trans ((f81 47 (by decide)).trans ((f64 47 (by decide)).trans ((f37 47 (by decide)).trans ((jkp 47 eσ15 (by decide)).trans ((jkp 47 eσ14 (by decide)).trans ((jkp 47 eσ12 (by decide)).trans (jkp 47 eσ11 (by decide))))))))))) ((jnp 80 eσ130 (by decide)).trans ((f117 80 (by decide)).trans ((f97 80 (by decide)).trans ((f80 80 (by decide)).trans ((f63 80 (by decide)).trans ((f36 80 (by decide)).trans ((jnp 80 eσ15 (by decide)).trans ((jnp 80 eσ14 (by decide)).trans ((jnp 80 eσ12 (by decide)).trans (jnp 80 eσ11 (by decide))))))))))) hI107
              have p194 : jBook σ130 := jBook.fr ((jkp 47 eσ130 (by decide)).trans ((f118 47 (by decide)).trans ((f98 47 (by decide)).trans ((f81 47 (by decide)).trans ((f64 47 (by decide)).trans ((f37 47 (by decide)).trans ((jkp 47 eσ15 (by decide)).trans ((jkp 47 eσ14 (by decide)).trans ((jkp 47 eσ12 (by decide)).trans (jkp 47 eσ11 (by decide))))))))))) ((jkp 10 eσ130 (by decide)).trans ((f118 10 (by decide)).trans ((f98 10 (by decide)).trans ((f81 10 (by decide)).trans ((f64 10 (by decide)).trans ((f37 10 (by decide)).trans ((jkp 10 eσ15 (by decide)).trans ((jkp 10 eσ14 (by decide)).trans ((jkp 10 eσ12 (by decide)).trans (jkp 10 eσ11 (by decide))))))))))) ((jnp 81 eσ130 (by decide)).trans ((f117 81 (by decide)).trans ((f97 81 (by decide)).trans ((f80 81 (by decide)).trans ((f63 81 (by decide)).trans ((f36 81 (by decide)).trans ((jnp 81 eσ15 (by decide)).trans ((jnp 81 eσ14 (by decide)).trans ((jnp 81 eσ12 (by decide)).trans (jnp 81 eσ11 (by decide))))))))))) hs_jBook
              have z195 : (σ130 55 10).toInt = (σ 55 10).toInt := (congrArg Int32.toInt (show σ130 55 10 = (σ 55 10) from ((jkp 10 eσ130 (by decide)).trans ((f118 10 (by decide)).trans ((f98 10 (by decide)).trans ((f81 10 (by decide)).trans ((f64 10 (by decide)).trans ((f37 10 (by decide)).trans ((jkp 10 eσ15 (by decide)).trans ((jkp 10 eσ14 (by decide)).trans ((jkp 10 eσ12 (by decide)).trans (jkp 10 eσ11 (by decide)))))))))))))
              have z196 : (σ130 55 12).toInt = (σ 55 12).toInt := (congrArg Int32.toInt (show σ130 55 12 = (σ 55 12) from ((jkp 12 eσ130 (by decide)).trans ((f118 12 (by decide)).trans ((f98 12 (by decide)).trans ((f81 12 (by decide)).trans ((f64 12 (by decide)).trans ((f37 12 (by decide)).trans ((jkp 12 eσ15 (by decide)).trans ((jkp 12 eσ14 (by decide)).trans ((jkp 12 eσ12 (by decide)).trans (jkp 12 eσ11 (by decide)))))))))))))
              have z197 : (σ130 55 13).toInt = (σ 55 13).toInt := (congrArg Int32.toInt (show σ130 55 13 = (σ 55 13) from ((jkp 13 eσ130 (by decide)).trans ((f118 13 (by decide)).trans ((f98 13 (by decide)).trans ((f81 13 (by decide)).trans ((f64 13 (by decide)).trans ((f37 13 (by decide)).trans ((jkp 13 eσ15 (by decide)).trans ((jkp 13 eσ14 (by decide)).trans ((jkp 13 eσ12 (by decide)).trans (jkp 13 eσ11 (by decide)))))))))))))
              have z198 : (σ130 55 19).toInt = (σ88 55 19).toInt := (congrArg Int32.toInt (show σ130 55 19 = (σ88 55 19) from ((jkp 19 eσ130 (by decide)).trans (f118 19 (by decide)))))
              have z199 : (σ130 55 21).toInt = (σ108 55 21).toInt := (congrArg Int32.toInt (show σ130 55 21 = (σ108 55 21) from m131))
              exact hret x188 σ130 τ _ _ _ _ rfl ⟨rfl, (fun i hi => ((jnp i eσ130 (imp_221 i hi)).trans ((f117 i (imp_223 i hi)).trans ((f97 i (imp_223 i hi)).trans ((f80 i (imp_223 i hi)).trans ((f63 i (imp_223 i hi)).trans ((f36 i (imp_224 i hi)).trans ((jnp i eσ15 (imp_221 i hi)).trans ((jnp i eσ14 (imp_221 i hi)).trans ((jnp i eσ12 (imp_221 i hi)).trans (jnp i eσ11 (imp_221 i hi)))))))))))), (fun i hi => ((jkp i eσ130 (imp_229 i hi)).trans ((f118 i (imp_230 i hi)).trans ((f98 i (imp_231 i hi)).trans ((f81 i (imp_231 i hi)).trans ((f64 i (imp_230 i hi)).trans ((f37 i (imp_232 i hi)).trans ((jkp i eσ15 (imp_233 i hi)).trans ((jkp i eσ14 (imp_234 i hi)).trans ((jkp i eσ12 (imp_235 i hi)).trans (jkp i eσ11 (imp_236 i hi)))))))))))), I189, I192, I193, p194, ⟨x18.toInt, x70.toInt, x87.toInt, (σ108 55 21).toInt, ⟨q39.1, p123, y124, p125, y126, t127.1, t127.2, r128, d129⟩, Or.inl ⟨by omega, (by have h9 := tx188; omega), by omega, by omega, by omega, ((jnp 62 eσ130 (by decide)).trans ((f117 62 (by decide)).trans ((f97 62 (by decide)).trans ((f80 62 (by decide)).trans ((f63 62 (by decide)).trans ((f36 62 (by decide)).trans ((jnp 62 eσ15 (by decide)).trans ((jnp 62 eσ14 (by decide)).trans ((jnp 62 eσ12 (by decide)).trans (jnp 62 eσ11 (by decide)))))))))))⟩⟩, (by omega), trivial⟩ hP hS dX12_order_176
          refine lv_aload_n hx hb dX12_order_133 rfl (lv_at hl 0 rfl) ?_
          refine va_get (D := D) hx hb hts inlX12 hown hK hP 55 (jc_55 cI cL ad σ88 τ) rfl 21 (by decide) (hts _ kw_15_13) (fun _ h9 => h9) rfl dX12_order_134 ?_
          refine lv_if_ge (tgt := 157) hx hb dX12_order_137 (by decide) (fun c200 => ?_) (fun c200 => ?_)
          · have kc200 := jle c200 jz_0 rfl
            exact lp106  σ88 _ _ ls (by omega) (by omega) (by omega) (by omega) (by omega) (by omega) (by omega) (fun i hi => rfl) (fun i hi => rfl)  ⟨p102, y103, (σ88 55 19).toInt, (σ88 55 21).toInt, t104, r105, (by omega)⟩ hP hS (lv_sub hl [0, 1, 2, 3] rfl)
          · have kc200 := jnle c200 jz_0 rfl
            refine lv_aload_n hx hb dX12_order_140 rfl (lv_at hl 0 rfl) ?_
            refine va_get (D := D) hx hb hts inlX12 hown hK hP 55 (jc_55 cI cL ad σ88 τ) rfl 19 (by decide) (hts _ kw_15_11) (fun _ h9 => h9) rfl dX12_order_141 ?_
            refine lv_aload_n hx hb dX12_order_144 rfl (lv_at hl 0 rfl) ?_
            refine va_get (D := D) hx hb hts inlX12 hown hK hP 55 (jc_55 cI cL ad σ88 τ) rfl 20 (by decide) (hts _ kw_15_12) (fun _ h9 => h9) rfl dX12_order_145 ?_
            have m201 : σ88 55 20 = (σ 55 15) := ((f98 20 (by decide)).trans ((f81 20 (by decide)).trans ((f64 20 (by decide)).trans ((f37 20 (by decide)).trans ((jkp 20 eσ15 (by decide)).trans (jsp eσ14))))))
            refine jtopr m201 ?_
            refine lv_icmp_ge (tgt := 157) hx hb dX12_order_148 (by decide) (fun c202 => ?_) (fun c202 => ?_)
            · have kc202 := jle c202 rfl rfl
              exact lp106  σ88 _ _ ls (by omega) (by omega) (by omega) (by omega) (by omega) (by omega) (by omega) (fun i hi => rfl) (fun i hi => rfl)  ⟨p102, y103, (σ88 55 19).toInt, (σ88 55 21).toInt, t104, r105, (by omega)⟩ hP hS (lv_sub hl [0, 1, 2, 3] rfl)
            · have kc202 := jnle c202 rfl rfl
              refine lv_aload_n hx hb dX12_order_151 rfl (lv_at hl 0 rfl) ?_
              have I203 : jI121 σ88 := ⟨(by omega), (by omega), (by omega), (by omega), (by omega)⟩
              refine jcallV (As := []) (rest := []) ⟨hx, hb, hml, hown, hts⟩ hK hP hA hS hZ (c_X12_wrong l D cI cL ad zz hJ σ88 τ I203) cw_RX12_214 (jc_55 cI cL ad σ88 τ) rfl ⟨Nat.le_of_ble_eq_true rfl, Nat.le_of_ble_eq_true rfl⟩ rfl rfl rfl hl.1 rfl (Nat.le_of_ble_eq_true rfl) dX12_order_152 ⟨Nat.zero_le _, Nat.zero_le _⟩ (fun r205 σ204 τ204 H locs h204 hP hS => ?_)
              obtain ⟨rfl, f206, f207, I208, h204⟩ := h204
              obtain ⟨i210, i211, i212, i213, i214⟩ : ((-1) ≤ (σ204 55 18).toInt ∧ (σ204 55 18).toInt ≤ 80) ∧ (0 ≤ (σ204 55 19).toInt) ∧ ((σ204 55 19).toInt ≤ (σ204 55 20).toInt) ∧ ((σ204 55 20).toInt ≤ 80) ∧ ((-1) ≤ (σ204 55 21).toInt) := id I208
              have z215 : (σ204 55 18).toInt = (-1) := ((congrArg Int32.toInt (show σ204 55 18 = (-1) from ((f207 18 (by decide)).trans ((f98 18 (by decide)).trans ((f81 18 (by decide)).trans ((f64 18 (by decide)).trans ((f37 18 (by decide)).trans ((jkp 18 eσ15 (by decide)).trans ((jkp 18 eσ14 (by decide)).trans ((jkp 18 eσ12 (by decide)).trans (jsp eσ11))))))))))).trans jz_m1)
              have z216 : (σ204 55 19).toInt = (σ88 55 19).toInt := (congrArg Int32.toInt (show σ204 55 19 = (σ88 55 19) from (f207 19 (by decide))))
              have z217 : (σ204 55 20).toInt = (σ 55 15).toInt := (congrArg Int32.toInt (show σ204 55 20 = (σ 55 15) from ((f207 20 (by decide)).trans m201)))
              obtain ⟨k218, k219, h204⟩ := h204
              have h220 := h204
              obtain ⟨q222, k221⟩ := h220
              have q222 := q222.symm
              subst q222
              refine lv_istore (lv' := [(4, .int 0), (0, .ref (ad 55)), (1, .int x18), (2, .int x70), (3, .int x87)]) hx hb dX12_order_155 hl (by decide) rfl (fun ls hl => ?_)
              exact lp106  σ204 _ _ ls (by omega) (by omega) (by omega) (by omega) (by omega) (by omega) (by omega) (fun i hi => (f206 i hi)) (fun i hi => (f207 i hi))  ⟨p102, y103, (σ88 55 19).toInt, (σ88 55 21).toInt, t104, r105, (by omega)⟩ hP hS (lv_sub hl [1, 2, 3, 4] rfl)
        refine lv_aload_n hx hb dX12_order_110 rfl (lv_at hl 0 rfl) ?_
        refine lv_bipush (v := 114) hx hb dX12_order_111 (by decide) ?_
        have I223 : jI121 σ71 := ⟨(by omega), (by omega), (by omega), (by omega), (by omega)⟩
        refine jcallV (As := [.int 114]) (rest := []) ⟨hx, hb, hml, hown, hts⟩ hK hP hA hS hZ (c_X12_takes_t l D cI cL ad zz hJ σ71 τ 114 (114) jz_114 I223 (by omega) (by omega)) cw_RX12_196 (jc_55 cI cL ad σ71 τ) rfl ⟨Nat.le_of_ble_eq_true rfl, Nat.le_of_ble_eq_true rfl⟩ rfl rfl rfl hl.1 rfl (Nat.le_of_ble_eq_true rfl) dX12_order_113 ⟨Nat.zero_le _, Nat.zero_le _⟩ (fun r225 σ224 τ224 H locs h224 hP hS => ?_)
        obtain ⟨rfl, f226, f227, I228, h224⟩ := h224
        obtain ⟨i230, i231, i232, i233, i234⟩ : ((-1) ≤ (σ224 55 18).toInt ∧ (σ224 55 18).toInt ≤ 80) ∧ (0 ≤ (σ224 55 19).toInt) ∧ ((σ224 55 19).toInt ≤ (σ224 55 20).toInt) ∧ ((σ224 55 20).toInt ≤ 80) ∧ ((-1) ≤ (σ224 55 21).toInt) := id I228
        have z235 : (σ224 55 18).toInt = (-1) := ((congrArg Int32.toInt (show σ224 55 18 = (-1) from ((f227 18 (by decide)).trans ((f81 18 (by decide)).trans ((f64 18 (by decide)).trans ((f37 18 (by decide)).trans ((jkp 18 eσ15 (by decide)).trans ((jkp 18 eσ14 (by decide)).trans ((jkp 18 eσ12 (by decide)).trans (jsp eσ11)))))))))).trans jz_m1)
        have z236 : (σ224 55 20).toInt = (σ 55 15).toInt := (congrArg Int32.toInt (show σ224 55 20 = (σ 55 15) from ((f227 20 (by decide)).trans ((f81 20 (by decide)).trans ((f64 20 (by decide)).trans ((f37 20 (by decide)).trans ((jkp 20 eσ15 (by decide)).trans (jsp eσ14))))))))
        have z237 : (σ224 55 21).toInt = (σ71 55 21).toInt := (congrArg Int32.toInt (show σ224 55 21 = (σ71 55 21) from (f227 21 (by decide))))
        rcases h224 with h238 | h239
        · obtain ⟨q243, k240, k241, k242⟩ := h238
          have q243 := q243.symm
          subst q243
          rw [show (σ71 55 20).toInt = (σ 55 15).toInt from by omega, show σ71 63 = σ 63 from by rw [f80 63 (by decide), f63 63 (by decide), f36 63 (by decide), jnp 63 eσ15 (by decide), jnp 63 eσ14 (by decide), jnp 63 eσ12 (by decide), jnp 63 eσ11 (by decide)]] at k242
          refine lv_if_eq (tgt := 131) hx hb dX12_order_116 (by decide) (fun c => absurd c (by decide)) (fun _ => ?_)
          refine lv_aload_n hx hb dX12_order_119 rfl (lv_at hl 0 rfl) ?_
          refine lv_iconst (v := 3) hx hb dX12_order_120 (by decide) ?_
          refine lv_iconst (v := 0) hx hb dX12_order_121 (by decide) ?_
          refine lv_sipush (v := 999) hx hb dX12_order_122 (by decide) ?_
          refine jcallV (As := [.int 3, .int 0, .int 999]) (rest := []) ⟨hx, hb, hml, hown, hts⟩ hK hP hA hS hZ (c_X12_numberRead_3 l D cI cL ad zz hJ σ224 τ I228 (by omega) (by omega)) cw_RX12_227 (jc_55 cI cL ad σ224 τ) rfl ⟨Nat.le_of_ble_eq_true rfl, Nat.le_of_ble_eq_true rfl⟩ rfl rfl rfl hl.1 rfl (Nat.le_of_ble_eq_true rfl) dX12_order_125 ⟨Nat.zero_le _, Nat.zero_le _⟩ (fun r245 σ244 τ244 H locs h244 hP hS => ?_)
          obtain ⟨rfl, f246, f247, I248, h244⟩ := h244
          obtain ⟨i250, i251, i252, i253, i254⟩ : ((-1) ≤ (σ244 55 18).toInt ∧ (σ244 55 18).toInt ≤ 80) ∧ (0 ≤ (σ244 55 19).toInt) ∧ ((σ244 55 19).toInt ≤ (σ244 55 20).toInt) ∧ ((σ244 55 20).toInt ≤ 80) ∧ ((-1) ≤ (σ244 55 21).toInt) := id I248
          have z255 : (σ244 55 18).toInt = (-1) := ((congrArg Int32.toInt (show σ244 55 18 = (-1) from ((f247 18 (by decide)).trans ((f227 18 (by decide)).trans ((f81 18 (by decide)).trans ((f64 18 (by decide)).trans ((f37 18 (by decide)).trans ((jkp 18 eσ15 (by decide)).trans ((jkp 18 eσ14 (by decide)).trans ((jkp 18 eσ12 (by decide)).trans (jsp eσ11))))))))))).trans jz_m1)
          have z256 : (σ244 55 20).toInt = (σ 55 15).toInt := (congrArg Int32.toInt (show σ244 55 20 = (σ 55 15) from ((f247 20 (by decide)).trans ((f227 20 (by decide)).trans ((f81 20 (by decide)).trans ((f64 20 (by decide)).trans ((f37 20 (by decide)).trans ((jkp 20 eσ15 (by decide)).trans (jsp eσ14)))))))))
          have h257 := h244
          obtain ⟨q260, k258, k259⟩ := h257
          obtain ⟨q261, v262, n263, k264⟩ := k259
          rw [show (σ224 55 19).toInt = (σ71 55 19).toInt + 1 from by omega, show (σ224 55 20).toInt = (σ 55 15).toInt from by omega, show σ224 63 = σ 63 from by rw [f226 63 (by decide), f80 63 (by decide), f63 63 (by decide), f36 63 (by decide), jnp 63 eσ15 (by decide), jnp 63 eσ14 (by decide), jnp 63 eσ12 (by decide), jnp 63 eσ11 (by decide)]] at n263
          refine lv_goto (tgt := 132) hx hb dX12_order_128 (by decide) ?_
          refine lv_istore_n (lv' := [(3, .int r245), (0, .ref (ad 55)), (1, .int x18), (2, .int x70)]) hx hb dX12_order_132 rfl hl (by decide) rfl (fun ls hl => ?_)
          have g266 := n263
          unfold jNb jDg at g266
          exact lp85 r245 σ244 _ _ ls (by omega) (by omega) (by omega) (by omega) (by omega) (by omega) (by omega) (fun i hi => ((f246 i hi).trans (f226 i hi))) (fun i hi => ((f247 i hi).trans (f227 i (imp_238 i hi))))  ⟨(σ71 55 19).toInt, (σ71 55 21).toInt, q82, Or.inr (Or.inr ⟨by omega, k242, q261, v262, n263, (by omega)⟩)⟩ hP hS (lv_sub hl [1, 2, 3, 0] rfl)
        · obtain ⟨q269, k267, k268⟩ := h239
          have q269 := q269.symm
          subst q269
          rw [show (σ71 55 20).toInt = (σ 55 15).toInt from by omega, show σ71 63 = σ 63 from by rw [f80 63 (by decide), f63 63 (by decide), f36 63 (by decide), jnp 63 eσ15 (by decide), jnp 63 eσ14 (by decide), jnp 63 eσ12 (by decide), jnp 63 eσ11 (by decide)]] at k268
          refine lv_if_eq (tgt := 131) hx hb dX12_order_116 (by decide) (fun _ => ?_) (fun c => absurd (by decide) c)
          refine lv_iconst (v := 0) hx hb dX12_order_131 (by decide) ?_
          refine lv_istore_n (lv' := [(3, .int 0), (0, .ref (ad 55)), (1, .int x18), (2, .int x70)]) hx hb dX12_order_132 rfl hl (by decide) rfl (fun ls hl => ?_)
          have d270 : (σ71 55 21).toInt = -1 ∨ 0 ≤ (σ71 55 21).toInt := by omega
          exact lp85 0 σ224 _ _ ls (by have h90 := jz_0; omega) (by have h90 := jz_0; omega) (by have h90 := jz_0; omega) (by have h90 := jz_0; omega) (by have h90 := jz_0; omega) (by have h90 := jz_0; omega) (by have h90 := jz_0; omega) (fun i hi => (f226 i hi)) (fun i hi => (f227 i (imp_238 i hi)))  ⟨(σ71 55 19).toInt, (σ71 55 21).toInt, q82, (Or.elim d270 (fun d => Or.inr (Or.inl ⟨d, k268 (by omega), (by have h9 := jz_0; omega), by omega, by omega⟩)) (fun d => Or.inl ⟨d, by omega⟩))⟩ hP hS (lv_sub hl [1, 2, 3, 0] rfl)
      refine lv_aload_n hx hb dX12_order_87 rfl (lv_at hl 0 rfl) ?_
      refine lv_bipush (v := 58) hx hb dX12_order_88 (by decide) ?_
      have I271 : jI121 σ53 := ⟨(by omega), (by omega), (by omega), (by omega), (by omega)⟩
      refine jcallV (As := [.int 58]) (rest := []) ⟨hx, hb, hml, hown, hts⟩ hK hP hA hS hZ (c_X12_takes_t l D cI cL ad zz hJ σ53 τ 58 (58) jz_58 I271 (by omega) (by omega)) cw_RX12_196 (jc_55 cI cL ad σ53 τ) rfl ⟨Nat.le_of_ble_eq_true rfl, Nat.le_of_ble_eq_true rfl⟩ rfl rfl rfl hl.1 rfl (Nat.le_of_ble_eq_true rfl) dX12_order_90 ⟨Nat.zero_le _, Nat.zero_le _⟩ (fun r273 σ272 τ272 H locs h272 hP hS => ?_)
      obtain ⟨rfl, f274, f275, I276, h272⟩ := h272
      obtain ⟨i278, i279, i280, i281, i282⟩ : ((-1) ≤ (σ272 55 18).toInt ∧ (σ272 55 18).toInt ≤ 80) ∧ (0 ≤ (σ272 55 19).toInt) ∧ ((σ272 55 19).toInt ≤ (σ272 55 20).toInt) ∧ ((σ272 55 20).toInt ≤ 80) ∧ ((-1) ≤ (σ272 55 21).toInt) := id I276
      have z283 : (σ272 55 18).toInt = (-1) := ((congrArg Int32.toInt (show σ272 55 18 = (-1) from ((f275 18 (by decide)).trans ((f64 18 (by decide)).trans ((f37 18 (by decide)).trans ((jkp 18 eσ15 (by decide)).trans ((jkp 18 eσ14 (by decide)).trans ((jkp 18 eσ12 (by decide)).trans (jsp eσ11))))))))).trans jz_m1)
      have z284 : (σ272 55 20).toInt = (σ 55 15).toInt := (congrArg Int32.toInt (show σ272 55 20 = (σ 55 15) from ((f275 20 (by decide)).trans ((f64 20 (by decide)).trans ((f37 20 (by decide)).trans ((jkp 20 eσ15 (by decide)).trans (jsp eσ14)))))))
      have z285 : (σ272 55 21).toInt = (σ53 55 21).toInt := (congrArg Int32.toInt (show σ272 55 21 = (σ53 55 21) from (f275 21 (by decide))))
      rcases h272 with h286 | h287
      · obtain ⟨q291, k288, k289, k290⟩ := h286
        have q291 := q291.symm
        subst q291
        rw [show (σ53 55 19).toInt = x18.toInt from by omega, show (σ53 55 20).toInt = (σ 55 15).toInt from by omega, show σ53 63 = σ 63 from by rw [f63 63 (by decide), f36 63 (by decide), jnp 63 eσ15 (by decide), jnp 63 eσ14 (by decide), jnp 63 eσ12 (by decide), jnp 63 eσ11 (by decide)]] at k290
        refine lv_if_eq (tgt := 107) hx hb dX12_order_93 (by decide) (fun c => absurd c (by decide)) (fun _ => ?_)
        refine lv_aload_n hx hb dX12_order_96 rfl (lv_at hl 0 rfl) ?_
        refine lv_iconst (v := 2) hx hb dX12_order_97 (by decide) ?_
        refine lv_iconst (v := 1) hx hb dX12_order_98 (by decide) ?_
        refine lv_bipush (v := 12) hx hb dX12_order_99 (by decide) ?_
        refine jcallV (As := [.int 2, .int 1, .int 12]) (rest := []) ⟨hx, hb, hml, hown, hts⟩ hK hP hA hS hZ (c_X12_numberRead_2 l D cI cL ad zz hJ σ272 τ I276 (by omega) (by omega)) cw_RX12_227 (jc_55 cI cL ad σ272 τ) rfl ⟨Nat.le_of_ble_eq_true rfl, Nat.le_of_ble_eq_true rfl⟩ rfl rfl rfl hl.1 rfl (Nat.le_of_ble_eq_true rfl) dX12_order_101 ⟨Nat.zero_le _, Nat.zero_le _⟩ (fun r293 σ292 τ292 H locs h292 hP hS => ?_)
        obtain ⟨rfl, f294, f295, I296, h292⟩ := h292
        obtain ⟨i298, i299, i300, i301, i302⟩ : ((-1) ≤ (σ292 55 18).toInt ∧ (σ292 55 18).toInt ≤ 80) ∧ (0 ≤ (σ292 55 19).toInt) ∧ ((σ292 55 19).toInt ≤ (σ292 55 20).toInt) ∧ ((σ292 55 20).toInt ≤ 80) ∧ ((-1) ≤ (σ292 55 21).toInt) := id I296
        have z303 : (σ292 55 18).toInt = (-1) := ((congrArg Int32.toInt (show σ292 55 18 = (-1) from ((f295 18 (by decide)).trans ((f275 18 (by decide)).trans ((f64 18 (by decide)).trans ((f37 18 (by decide)).trans ((jkp 18 eσ15 (by decide)).trans ((jkp 18 eσ14 (by decide)).trans ((jkp 18 eσ12 (by decide)).trans (jsp eσ11)))))))))).trans jz_m1)
        have z304 : (σ292 55 20).toInt = (σ 55 15).toInt := (congrArg Int32.toInt (show σ292 55 20 = (σ 55 15) from ((f295 20 (by decide)).trans ((f275 20 (by decide)).trans ((f64 20 (by decide)).trans ((f37 20 (by decide)).trans ((jkp 20 eσ15 (by decide)).trans (jsp eσ14))))))))
        have h305 := h292
        obtain ⟨q308, k306, k307⟩ := h305
        obtain ⟨q309, v310, n311, k312⟩ := k307
        rw [show (σ272 55 19).toInt = x18.toInt + 1 from by omega, show (σ272 55 20).toInt = (σ 55 15).toInt from by omega, show σ272 63 = σ 63 from by rw [f274 63 (by decide), f63 63 (by decide), f36 63 (by decide), jnp 63 eσ15 (by decide), jnp 63 eσ14 (by decide), jnp 63 eσ12 (by decide), jnp 63 eσ11 (by decide)]] at n311
        refine lv_goto (tgt := 109) hx hb dX12_order_104 (by decide) ?_
        refine lv_istore_n (lv' := [(2, .int r293), (0, .ref (ad 55)), (1, .int x18)]) hx hb dX12_order_109 rfl hl (by decide) rfl (fun ls hl => ?_)
        exact lp68 r293 σ292 _ _ ls (by omega) (by omega) (by omega) (by omega) (by omega) (by omega) (by omega) (fun i hi => ((f294 i hi).trans (f274 i hi))) (fun i hi => ((f295 i hi).trans (f275 i (imp_238 i hi))))  ⟨Or.inr (Or.inr ⟨by omega, k290, q309, v310, n311, (by omega)⟩), (fun _ => by omega)⟩ hP hS (lv_sub hl [1, 2, 0] rfl)
      · obtain ⟨q316, k314, k315⟩ := h287
        have q316 := q316.symm
        subst q316
        rw [show (σ53 55 19).toInt = x18.toInt from by omega, show (σ53 55 20).toInt = (σ 55 15).toInt from by omega, show σ53 63 = σ 63 from by rw [f63 63 (by decide), f36 63 (by decide), jnp 63 eσ15 (by decide), jnp 63 eσ14 (by decide), jnp 63 eσ12 (by decide), jnp 63 eσ11 (by decide)]] at k315
        refine lv_if_eq (tgt := 107) hx hb dX12_order_93 (by decide) (fun _ => ?_) (fun c => absurd (by decide) c)
        refine lv_bipush (v := 8) hx hb dX12_order_107 (by decide) ?_
        refine lv_istore_n (lv' := [(2, .int 8), (0, .ref (ad 55)), (1, .int x18)]) hx hb dX12_order_109 rfl hl (by decide) rfl (fun ls hl => ?_)
        have d317 : (σ272 55 21).toInt = -1 ∨ 0 ≤ (σ272 55 21).toInt := by omega
        exact lp68 8 σ272 _ _ ls (by have h90 := jz_8; omega) (by have h90 := jz_8; omega) (by have h90 := jz_8; omega) (by have h90 := jz_8; omega) (by have h90 := jz_8; omega) (by have h90 := jz_8; omega) (by have h90 := jz_8; omega) (fun i hi => (f274 i hi)) (fun i hi => (f275 i (imp_238 i hi)))  ⟨Or.elim d317 (fun d => Or.inr (Or.inl ⟨by omega, k315 (by omega), by omega, (by have h9 := jz_8; omega), by omega⟩)) (fun d => Or.inl ⟨by omega, by omega⟩), (fun _ => by omega)⟩ hP hS (lv_sub hl [1, 2, 0] rfl)
    refine lv_iload_n hx hb dX12_order_78 rfl (lv_at hl 1 rfl) ?_
    refine lv_if_ne (tgt := 87) hx hb dX12_order_79 (by decide) (fun c318 => ?_) (fun c318 => ?_)
    · have kc318 := jne c318 rfl jz_0
      exact lp51  σ19 _ _ ls (by omega) (by omega) (by omega) (by omega) (by omega) (by omega) (by omega) (by omega) (fun i hi => rfl) (fun i hi => rfl)   hP hS (lv_sub hl [0, 1] rfl)
    · have kc318 := jeq c318 rfl jz_0
      refine lv_aload_n hx hb dX12_order_82 rfl (lv_at hl 0 rfl) ?_
      have I319 : jI121 σ19 := ⟨(by omega), (by omega), (by omega), (by omega), (by omega)⟩
      refine jcallV (As := []) (rest := []) ⟨hx, hb, hml, hown, hts⟩ hK hP hA hS hZ (c_X12_wrong l D cI cL ad zz hJ σ19 τ I319) cw_RX12_214 (jc_55 cI cL ad σ19 τ) rfl ⟨Nat.le_of_ble_eq_true rfl, Nat.le_of_ble_eq_true rfl⟩ rfl rfl rfl hl.1 rfl (Nat.le_of_ble_eq_true rfl) dX12_order_83 ⟨Nat.zero_le _, Nat.zero_le _⟩ (fun r321 σ320 τ320 H locs h320 hP hS => ?_)
      obtain ⟨rfl, f322, f323, I324, h320⟩ := h320
      obtain ⟨i326, i327, i328, i329, i330⟩ : ((-1) ≤ (σ320 55 18).toInt ∧ (σ320 55 18).toInt ≤ 80) ∧ (0 ≤ (σ320 55 19).toInt) ∧ ((σ320 55 19).toInt ≤ (σ320 55 20).toInt) ∧ ((σ320 55 20).toInt ≤ 80) ∧ ((-1) ≤ (σ320 55 21).toInt) := id I324
      have z331 : (σ320 55 18).toInt = (-1) := ((congrArg Int32.toInt (show σ320 55 18 = (-1) from ((f323 18 (by decide)).trans ((f37 18 (by decide)).trans ((jkp 18 eσ15 (by decide)).trans ((jkp 18 eσ14 (by decide)).trans ((jkp 18 eσ12 (by decide)).trans (jsp eσ11)))))))).trans jz_m1)
      have z332 : (σ320 55 19).toInt = (σ19 55 19).toInt := (congrArg Int32.toInt (show σ320 55 19 = (σ19 55 19) from (f323 19 (by decide))))
      have z333 : (σ320 55 20).toInt = (σ 55 15).toInt := (congrArg Int32.toInt (show σ320 55 20 = (σ 55 15) from ((f323 20 (by decide)).trans ((f37 20 (by decide)).trans ((jkp 20 eσ15 (by decide)).trans (jsp eσ14))))))
      obtain ⟨k334, k335, h320⟩ := h320
      have h336 := h320
      obtain ⟨q338, k337⟩ := h336
      have q338 := q338.symm
      subst q338
      refine lv_istore_n (lv' := [(2, .int 0), (0, .ref (ad 55)), (1, .int x18)]) hx hb dX12_order_86 rfl hl (by decide) rfl (fun ls hl => ?_)
      exact lp51  σ320 _ _ ls (by omega) (by omega) (by omega) (by omega) (by omega) (by omega) (by omega) (by omega) (fun i hi => (f322 i hi)) (fun i hi => (f323 i hi))   hP hS (lv_sub hl [1, 2] rfl)
  refine lv_iconst (v := 0) hx hb dX12_order_23 (by decide) ?_
  refine lv_istore_n (lv' := [(1, .int 0), (0, .ref (ad 55))]) hx hb dX12_order_24 rfl hl (by decide) rfl (fun ls hl => ?_)
  have lp339 : ∀ (n340 : Nat) (x341 : Int32) (σ342 : Nat → Nat → Int32) (H : Heap) (locs : List Loc) (ls : Array Slot), (-x341.toInt + 8 : Int) < n340 → 0 ≤ x341.toInt → x341.toInt ≤ 8 → (-1) ≤ (σ342 55 18).toInt ∧ (σ342 55 18).toInt ≤ 80 → 0 ≤ (σ342 55 19).toInt → (σ342 55 19).toInt ≤ (σ342 55 20).toInt → (σ342 55 20).toInt ≤ 80 → (-1) ≤ (σ342 55 21).toInt → (σ342 55 18).toInt = (-1) → (σ342 55 19).toInt = x341.toInt → (σ342 55 21).toInt = (-1) → (∀ i : Nat, (i < 55 ∨ 55 < i) ∧ (i < 67 ∨ 67 < i) → σ342 i = σ15 i) → (∀ k : Nat, (k < 19 ∨ 19 < k) → σ342 55 k = σ15 55 k) → jI104 σ342 → (jDs (σ 63) (σ 55 15).toInt (x341.toInt) ∧ jDv (σ 63) (σ342 67) (x341.toInt)) → jH D cI cL ad σ342 τ H → va_S (jA ad) s.heap H locs → lv_has ls 5 [(1, .int x341), (0, .ref (ad 55))] → W p l e ({ frames := 2, cells := 0, slots := 0, locals := 50 }) s m args below meth c H locs 0 0 Q (F0 m 25 ls []) := by
    intro n340
    induction n340 with
    | zero => intro x341 σ342 H locs ls h344 h345 h346 h347 h348 h349 h350 h351 h352 h353 h354; exact absurd h344 (by omega)
    | succ n340 ihlp339 =>
      intro x341 σ342 H locs ls h344 h345 h346 h347 h348 h349 h350 h351 h352 h353 h354 f355 f356 p357 q358 hP hS hl
      obtain ⟨i359, i360, i361, w362, w363⟩ : (1 ≤ (σ342 55 10).toInt ∧ (σ342 55 10).toInt ≤ 8) ∧ (1 ≤ (σ342 55 12).toInt ∧ (σ342 55 12).toInt ≤ 12) ∧ (0 ≤ (σ342 55 13).toInt ∧ (σ342 55 13).toInt ≤ 999) ∧ (∀ k : Nat, k < 8 → 0 ≤ (σ342 62 k).toInt ∧ (σ342 62 k).toInt ≤ 3) ∧ (∀ k : Nat, k < 8 → 0 ≤ (σ342 67 k).toInt ∧ (σ342 67 k).toInt ≤ 3) := id p357
      have z364 : (σ342 55 10).toInt = (σ 55 10).toInt := (congrArg Int32.toInt (show σ342 55 10 = (σ 55 10) from ((f356 10 (by decide)).trans ((jkp 10 eσ15 (by decide)).trans ((jkp 10 eσ14 (by decide)).trans ((jkp 10 eσ12 (by decide)).trans (jkp 10 eσ11 (by decide))))))))
      have z365 : (σ342 55 12).toInt = (σ 55 12).toInt := (congrArg Int32.toInt (show σ342 55 12 = (σ 55 12) from ((f356 12 (by decide)).trans ((jkp 12 eσ15 (by decide)).trans ((jkp 12 eσ14 (by decide)).trans ((jkp 12 eσ12 (by decide)).trans (jkp 12 eσ11 (by decide))))))))
      have z366 : (σ342 55 13).toInt = (σ 55 13).toInt := (congrArg Int32.toInt (show σ342 55 13 = (σ 55 13) from ((f356 13 (by decide)).trans ((jkp 13 eσ15 (by decide)).trans ((jkp 13 eσ14 (by decide)).trans ((jkp 13 eσ12 (by decide)).trans (jkp 13 eσ11 (by decide))))))))
      have z367 : (σ342 55 18).toInt = (-1) := ((congrArg Int32.toInt (show σ342 55 18 = (-1) from ((f356 18 (by decide)).trans ((jkp 18 eσ15 (by decide)).trans ((jkp 18 eσ14 (by decide)).trans ((jkp 18 eσ12 (by decide)).trans (jsp eσ11))))))).trans jz_m1)
      have z368 : (σ342 55 20).toInt = (σ 55 15).toInt := (congrArg Int32.toInt (show σ342 55 20 = (σ 55 15) from ((f356 20 (by decide)).trans ((jkp 20 eσ15 (by decide)).trans (jsp eσ14)))))
      have z369 : (σ342 55 21).toInt = (-1) := ((congrArg Int32.toInt (show σ342 55 21 = (-1) from ((f356 21 (by decide)).trans (jsp eσ15)))).trans jz_m1)
      refine lv_iload_n hx hb dX12_order_25 rfl (lv_at hl 0 rfl) ?_
      refine lv_bipush (v := 8) hx hb dX12_order_26 (by decide) ?_
      refine lv_icmp_ge (tgt := 78) hx hb dX12_order_28 (by decide) (fun c370 => ?_) (fun c370 => ?_)
      · have kc370 := jle c370 jz_8 rfl
        exact lp16 x341 σ342 _ _ ls (by omega) (by omega) (by omega) (by omega) (by omega) (by omega) (by omega) (by omega) (by omega) (by omega) (fun i hi => (f355 i hi)) (fun i hi => (f356 i hi))  p357 ⟨⟨⟨by omega, by omega⟩, q358.1, (by omega)⟩, q358.2⟩ hP hS (lv_sub hl [1, 0] rfl)
      · have kc370 := jnle c370 jz_8 rfl
        refine lv_aload_n hx hb dX12_order_31 rfl (lv_at hl 1 rfl) ?_
        have I371 : jI121 σ342 := ⟨(by omega), (by omega), (by omega), (by omega), (by omega)⟩
        refine jcallV (As := []) (rest := []) ⟨hx, hb, hml, hown, hts⟩ hK hP hA hS hZ (c_X12_byteAt_t l D cI cL ad zz hJ σ342 τ I371 (by omega)) cw_RX12_189 (jc_55 cI cL ad σ342 τ) rfl ⟨Nat.le_of_ble_eq_true rfl, Nat.le_of_ble_eq_true rfl⟩ rfl rfl rfl hl.1 rfl (Nat.le_of_ble_eq_true rfl) dX12_order_32 ⟨Nat.zero_le _, Nat.zero_le _⟩ (fun r373 σ372 τ372 H locs h372 hP hS => ?_)
        obtain ⟨⟨rfl, rfl⟩, h372⟩ := h372
        rcases h372 with h374 | h375
        · obtain ⟨q377, k376⟩ := h374
          have q378 : r373 = (σ 63 (σ342 55 19).toNatClampNeg) := q377.trans (by rw [f355 63 (by decide), jnp 63 eσ15 (by decide), jnp 63 eσ14 (by decide), jnp 63 eσ12 (by decide), jnp 63 eσ11 (by decide)])
          have q378e : (σ342 63 (σ342 55 19).toNatClampNeg).toInt = (σ 63 (σ342 55 19).toNatClampNeg).toInt := by rw [← q377, ← q378]
          have q378 := q378.symm
          subst q378
          refine lv_bipush (v := 48) hx hb dX12_order_35 (by decide) ?_
          refine lv_icmp_lt (tgt := 78) hx hb dX12_order_37 (by decide) (fun c379 => ?_) (fun c379 => ?_)
          · have kc379 := jlt c379 rfl jz_48
            exact lp16 x341 σ342 _ _ ls (by omega) (by omega) (by omega) (by omega) (by omega) (by omega) (by omega) (by omega) (by omega) (by omega) (fun i hi => (f355 i hi)) (fun i hi => (f356 i hi))  p357 ⟨⟨⟨by omega, by omega⟩, q358.1, (by have i0 := jix (f := σ 63) (show (σ342 55 19).toInt = x341.toInt by omega); omega)⟩, q358.2⟩ hP hS (lv_sub hl [1, 0] rfl)
          · have kc379 := jnlt c379 rfl jz_48
            refine lv_aload_n hx hb dX12_order_40 rfl (lv_at hl 1 rfl) ?_
            refine jcallV (As := []) (rest := []) ⟨hx, hb, hml, hown, hts⟩ hK hP hA hS hZ (c_X12_byteAt_t l D cI cL ad zz hJ σ342 τ I371 (by omega)) cw_RX12_189 (jc_55 cI cL ad σ342 τ) rfl ⟨Nat.le_of_ble_eq_true rfl, Nat.le_of_ble_eq_true rfl⟩ rfl rfl rfl hl.1 rfl (Nat.le_of_ble_eq_true rfl) dX12_order_41 ⟨Nat.zero_le _, Nat.zero_le _⟩ (fun r381 σ380 τ380 H locs h380 hP hS => ?_)
            obtain ⟨⟨rfl, rfl⟩, h380⟩ := h380
            rcases h380 with h382 | h383
            · obtain ⟨q385, k384⟩ := h382
              have q386 : r381 = (σ 63 (σ342 55 19).toNatClampNeg) := q385.trans (by rw [f355 63 (by decide), jnp 63 eσ15 (by decide), jnp 63 eσ14 (by decide), jnp 63 eσ12 (by decide), jnp 63 eσ11 (by decide)])
              have q386e : (σ342 63 (σ342 55 19).toNatClampNeg).toInt = (σ 63 (σ342 55 19).toNatClampNeg).toInt := by rw [← q385, ← q386]
              have q386 := q386.symm
              subst q386
              refine lv_bipush (v := 51) hx hb dX12_order_44 (by decide) ?_
              refine lv_icmp_gt (tgt := 78) hx hb dX12_order_46 (by decide) (fun c387 => ?_) (fun c387 => ?_)
              · have kc387 := jlt c387 jz_51 rfl
                exact lp16 x341 σ342 _ _ ls (by omega) (by omega) (by omega) (by omega) (by omega) (by omega) (by omega) (by omega) (by omega) (by omega) (fun i hi => (f355 i hi)) (fun i hi => (f356 i hi))  p357 ⟨⟨⟨by omega, by omega⟩, q358.1, (by have i0 := jix (f := σ 63) (show (σ342 55 19).toInt = x341.toInt by omega); omega)⟩, q358.2⟩ hP hS (lv_sub hl [1, 0] rfl)
              · have kc387 := jnlt c387 jz_51 rfl
                refine lv_aload_n hx hb dX12_order_49 rfl (lv_at hl 1 rfl) ?_
                refine va_get (D := D) hx hb hts inlX12 hown hK hP 55 (jc_55 cI cL ad σ342 τ) rfl 24 (by decide) (hts _ kw_7_13) (fun _ h9 => h9) rfl dX12_order_50 ?_
                refine lv_iload_n hx hb dX12_order_53 rfl (lv_at hl 0 rfl) ?_
                refine lv_aload_n hx hb dX12_order_54 rfl (lv_at hl 1 rfl) ?_
                refine jcallV (As := []) (rest := [.int x341, .ref (ad 67)]) ⟨hx, hb, hml, hown, hts⟩ hK hP hA hS hZ (c_X12_byteAt_t l D cI cL ad zz hJ σ342 τ I371 (by omega)) cw_RX12_189 (jc_55 cI cL ad σ342 τ) rfl ⟨Nat.le_of_ble_eq_true rfl, Nat.le_of_ble_eq_true rfl⟩ rfl rfl rfl hl.1 rfl (Nat.le_of_ble_eq_true rfl) dX12_order_55 ⟨Nat.zero_le _, Nat.zero_le _⟩ (fun r389 σ388 τ388 H locs h388 hP hS => ?_)
                obtain ⟨⟨rfl, rfl⟩, h388⟩ := h388
                rcases h388 with h390 | h391
                · obtain ⟨q393, k392⟩ := h390
                  have q394 : r389 = (σ 63 (σ342 55 19).toNatClampNeg) := q393.trans (by rw [f355 63 (by decide), jnp 63 eσ15 (by decide), jnp 63 eσ14 (by decide), jnp 63 eσ12 (by decide), jnp 63 eσ11 (by decide)])
                  have q394e : (σ342 63 (σ342 55 19).toNatClampNeg).toInt = (σ 63 (σ342 55 19).toNatClampNeg).toInt := by rw [← q393, ← q394]
                  have q394 := q394.symm
                  subst q394
                  refine lv_bipush (v := 48) hx hb dX12_order_58 (by decide) ?_
                  have g395 := jrg (rfl : (σ 63 (σ342 55 19).toNatClampNeg).toInt = (σ 63 (σ342 55 19).toNatClampNeg).toInt)
                  refine lv_isub hx hb dX12_order_60 ?_
                  refine lv_topi (fun x396 ex396 => ?_)
                  have tx396 : x396.toInt = (σ 63 (σ342 55 19).toNatClampNeg).toInt - 48 := (jsub ex396 rfl jz_48 (by omega) (by omega)).trans (by omega)
                  refine jast hx hb hK hP hJ hA hS (jc_67 cI cL ad σ342 τ) (ja_67 cI cL ad σ342 τ _ _) (jin rfl (by omega) (by omega)) dX12_order_61 (fun σ397 H locs eσ397 hP hS => ?_)
                  refine lv_aload_n hx hb dX12_order_62 rfl (lv_at hl 1 rfl) ?_
                  refine lv_dup hx hb dX12_order_63 rfl ?_
                  refine va_get (D := D) hx hb hts inlX12 hown hK hP 55 (jc_55 cI cL ad σ397 τ) rfl 19 (by decide) (hts _ kw_15_11) (fun _ h9 => h9) rfl dX12_order_64 ?_
                  have m398 : σ397 55 19 = (σ342 55 19) := (congrFun (jnp 55 eσ397 (by decide)) 19)
                  refine jtopr m398 ?_
                  refine lv_iconst (v := 1) hx hb dX12_order_67 (by decide) ?_
                  have g399 := jrg (rfl : (σ342 55 19).toInt = (σ342 55 19).toInt)
                  refine lv_iadd hx hb dX12_order_68 ?_
                  refine lv_topi (fun x400 ex400 => ?_)
                  have tx400 : x400.toInt = (σ342 55 19).toInt + 1 := (jadd ex400 rfl jz_1 (by omega) (by omega)).trans (by omega)
                  refine jput (ty := .int) hx hb hts inlX12 tyX12 tyX12_ok nmX12 hown hK hP hJ hA hS (jc_55 cI cL ad σ397 τ) rfl (k := 19) (by decide) (Nat.le_of_ble_eq_true rfl) (jp_55_19 cI cL ad σ397 τ x400) (hts _ kw_15_11) (fun _ h9 => h9) rfl (by decide +kernel) rfl rfl dX12_order_69 (fun σ401 H locs eσ401 hP hS => ?_)
                  obtain ⟨x402, ex402⟩ : ∃ y : Int32, y = x341 + 1 := ⟨_, rfl⟩
                  have tx402 : x402.toInt = x341.toInt + 1 := (jadd ex402 rfl jz_1 (by omega) (by omega)).trans (by omega)
                  refine lv_iinc (v := x402) (lv' := [(1, .int x402), (0, .ref (ad 55))]) hx hb dX12_order_72 hl (k := 0) rfl (by rw [ex402]; rfl) (by decide) rfl (fun ls hl => ?_)
                  refine lv_goto (tgt := 25) hx hb dX12_order_75 (by decide) ?_
                  have z403 : (σ401 55 18).toInt = (-1) := ((congrArg Int32.toInt (show σ401 55 18 = (-1) from ((jkp 18 eσ401 (by decide)).trans ((congrFun (jnp 55 eσ397 (by decide)) 18).trans ((f356 18 (by decide)).trans ((jkp 18 eσ15 (by decide)).trans ((jkp 18 eσ14 (by decide)).trans ((jkp 18 eσ12 (by decide)).trans (jsp eσ11))))))))).trans jz_m1)
                  have z404 : (σ401 55 19).toInt = (σ342 55 19).toInt + 1 := ((congrArg Int32.toInt (show σ401 55 19 = x400 from (jsp eσ401))).trans tx400)
                  have z405 : (σ401 55 20).toInt = (σ 55 15).toInt := (congrArg Int32.toInt (show σ401 55 20 = (σ 55 15) from ((jkp 20 eσ401 (by decide)).trans ((congrFun (jnp 55 eσ397 (by decide)) 20).trans ((f356 20 (by decide)).trans ((jkp 20 eσ15 (by decide)).trans (jsp eσ14)))))))
                  have z406 : (σ401 55 21).toInt = (-1) := ((congrArg Int32.toInt (show σ401 55 21 = (-1) from ((jkp 21 eσ401 (by decide)).trans ((congrFun (jnp 55 eσ397 (by decide)) 21).trans ((f356 21 (by decide)).trans (jsp eσ15)))))).trans jz_m1)
                  have z407 : (σ401 55 10).toInt = (σ 55 10).toInt := (congrArg Int32.toInt (show σ401 55 10 = (σ 55 10) from ((jkp 10 eσ401 (by decide)).trans ((congrFun (jnp 55 eσ397 (by decide)) 10).trans ((f356 10 (by decide)).trans ((jkp 10 eσ15 (by decide)).trans ((jkp 10 eσ14 (by decide)).trans ((jkp 10 eσ12 (by decide)).trans (jkp 10 eσ11 (by decide))))))))))
                  have z408 : (σ401 55 12).toInt = (σ 55 12).toInt := (congrArg Int32.toInt (show σ401 55 12 = (σ 55 12) from ((jkp 12 eσ401 (by decide)).trans ((congrFun (jnp 55 eσ397 (by decide)) 12).trans ((f356 12 (by decide)).trans ((jkp 12 eσ15 (by decide)).trans ((jkp 12 eσ14 (by decide)).trans ((jkp 12 eσ12 (by decide)).trans (jkp 12 eσ11 (by decide))))))))))
                  have z409 : (σ401 55 13).toInt = (σ 55 13).toInt := (congrArg Int32.toInt (show σ401 55 13 = (σ 55 13) from ((jkp 13 eσ401 (by decide)).trans ((congrFun (jnp 55 eσ397 (by decide)) 13).trans ((f356 13 (by decide)).trans ((jkp 13 eσ15 (by decide)).trans ((jkp 13 eσ14 (by decide)).trans ((jkp 13 eσ12 (by decide)).trans (jkp 13 eσ11 (by decide))))))))))
                  have w410 : ∀ k : Nat, k < 8 → 0 ≤ (σ401 62 k).toInt ∧ (σ401 62 k).toInt ≤ 3 := (jrr_fr (jnp 62 eσ401 (by decide)) (jrr_fr (jnp 62 eσ397 (by decide)) w362))
                  have w411 : ∀ k : Nat, k < 8 → 0 ≤ (σ401 67 k).toInt ∧ (σ401 67 k).toInt ≤ 3 := (jrr_fr (jnp 67 eσ401 (by decide)) (by rw [eσ397]; exact jrr_up w363 (by have h9 := tx396; omega) (by have h9 := tx396; omega)))
                  have I412 : jI104 σ401 := ⟨(by omega), (by omega), (by omega), w410, w411⟩
                  exact ihlp339 x402 σ401 _ _ ls (by have h90 := tx402; omega) (by have h90 := tx402; omega) (by have h90 := tx402; omega) (by have h90 := tx402; omega) (by have h90 := tx402; omega) (by have h90 := tx402; omega) (by have h90 := tx402; omega) (by have h90 := tx402; omega) (by have h90 := tx402; omega) (by have h90 := tx402; omega) (by have h90 := tx402; omega) (fun i hi => ((jnp i eσ401 (imp_239 i hi)).trans ((jnp i eσ397 (imp_240 i hi)).trans (f355 i hi)))) (fun i hi => ((jkp i eσ401 (imp_169 i hi)).trans ((congrFun (jnp 55 eσ397 (by decide)) i).trans (f356 i hi))))  I412 ⟨jDs.step q358.1 (by omega) (by have i0 := jix (f := σ 63) (show (σ342 55 19).toInt = x341.toInt by omega); exact ⟨by omega, by omega, by omega⟩) (by have h9 := tx402; omega), jDv.step q358.2 (by omega) (by rw [eσ401, jup_n (by decide), eσ397, jup_row, jnc (rfl : x341.toInt = x341.toInt)]) (by omega) (by have i0 := jix (f := σ 63) (show (σ342 55 19).toInt = x341.toInt by omega); have h9 := tx396; omega) (by have h9 := tx402; omega)⟩ hP hS (lv_sub hl [0, 1] rfl)
                · obtain ⟨q414, k413⟩ := h391
                  exact absurd (by omega : False) id
            · obtain ⟨q416, k415⟩ := h383
              exact absurd (by omega : False) id
        · obtain ⟨q418, k417⟩ := h375
          have q418 := q418.symm
          subst q418
          refine lv_bipush (v := 48) hx hb dX12_order_35 (by decide) ?_
          refine lv_icmp_lt (tgt := 78) hx hb dX12_order_37 (by decide) (fun _ => ?_) (fun c => absurd (by decide) c)
          exact lp16 x341 σ342 _ _ ls (by omega) (by omega) (by omega) (by omega) (by omega) (by omega) (by omega) (by omega) (by omega) (by omega) (fun i hi => (f355 i hi)) (fun i hi => (f356 i hi))  p357 ⟨⟨⟨by omega, by omega⟩, q358.1, (by omega)⟩, q358.2⟩ hP hS (lv_sub hl [1, 0] rfl)
  exact lp339 1000000 0 σ15 _ _ ls (by have h90 := jz_0; omega) (by have h90 := jz_0; omega) (by have h90 := jz_0; omega) (by have h90 := jz_0; omega) (by have h90 := jz_0; omega) (by have h90 := jz_0; omega) (by have h90 := jz_0; omega) (by have h90 := jz_0; omega) (by have h90 := jz_0; omega) (by have h90 := jz_0; omega) (by have h90 := jz_0; omega) (fun _ _ => rfl) (fun _ _ => rfl)  I20 ⟨jDs.first (by have h9 := jz_0; omega), jDv.first (by have h9 := jz_0; omega)⟩ hP hS hl
set_option maxHeartbeats 4000000 in
set_option maxRecDepth 100000 in
theorem c_X12_of (l : Launch) (D : va_G) (cI cL : ClassId) (ad zz : Nat → Nat) (hJ : jD ad) (σ : Nat → Nat → Int32) (τ : Nat → Nat → Int64) (a1 : Int32) (A1 : Int) (t1 : a1.toInt = A1) (hI104 : jI104 σ) (hI107 : jI107 σ) : jM l yX12_of cX12_of 2 (some .int) ({ frames := 1, cells := 0, slots := 0, locals := 25 }) D cI cL ad zz [.ref (ad 55), .int a1] σ τ (fun r σ' τ' => (σ = σ' ∧ τ = τ') ∧ ((True ∧ (A1 = 0) ∧ (r.toInt = (σ 55 10).toInt)) ∨ (True ∧ (A1 = 1) ∧ (r.toInt = (σ 55 12).toInt)) ∨ (True ∧ (A1 = 2) ∧ (r.toInt = (σ 55 13).toInt)) ∨ (True ∧ (10 ≤ A1) ∧ (A1 < (σ 55 10).toInt + 10) ∧ (r = σ 62 ((A1) - 10).toNat)) ∨ (r = (-1) ∧ ((A1 < 0) ∨ (2 < A1 ∧ A1 < 10) ∨ (10 ≤ A1 ∧ (σ 55 10).toInt + 10 ≤ A1))))) := by
  refine jM.of hJ (by decide +kernel) (nt := .int) rfl (Nat.le_of_ble_eq_true rfl) ?_
  intro p e s m args below meth c Q ls hC hret hl hP
  obtain ⟨hx, hb, hr, hml, hown, hts, hK, -, hlocks, hZ⟩ := hC
  have hown : s.vm.findClass RX12 = some m.cls := hown
  have hS : va_S (jA ad) s.heap s.heap [] := va_S.rf
  have hA : ∀ q, jA ad q → jA ad q := fun _ h => h
  have hl : lv_has ls 2 [(0, .ref (ad 55)), (1, .int a1)] := hl
  have g1 := jrg t1
  obtain ⟨i1, i2, i3, w4, w5⟩ : (1 ≤ (σ 55 10).toInt ∧ (σ 55 10).toInt ≤ 8) ∧ (1 ≤ (σ 55 12).toInt ∧ (σ 55 12).toInt ≤ 12) ∧ (0 ≤ (σ 55 13).toInt ∧ (σ 55 13).toInt ≤ 999) ∧ (∀ k : Nat, k < 8 → 0 ≤ (σ 62 k).toInt ∧ (σ 62 k).toInt ≤ 3) ∧ (∀ k : Nat, k < 8 → 0 ≤ (σ 67 k).toInt ∧ (σ 67 k).toInt ≤ 3) := id hI104
  obtain ⟨i6, i7, w8⟩ : (0 ≤ (σ 55 47).toInt ∧ (σ 55 47).toInt ≤ 12) ∧ ((σ 55 47).toInt ≤ (σ 55 12).toInt) ∧ (∀ k : Nat, k < 12 → 0 ≤ (σ 80 k).toInt ∧ (σ 80 k).toInt ≤ 3) := id hI107
  refine lv_iload_n hx hb dX12_of_0 rfl (lv_at hl 1 rfl) ?_
  refine lv_bipush (v := 10) hx hb dX12_of_1 (by decide) ?_
  refine lv_isub hx hb dX12_of_3 ?_
  refine lv_topi (fun x9 ex9 => ?_)
  have gx9 := jrg (rfl : x9.toInt = x9.toInt)
  have g10 := jsubw ex9 t1 jz_10
  refine lv_i2l (v := x9.toInt64) hx hb dX12_of_4 rfl ?_
  refine lv_lconst (v := 0) hx hb dX12_of_5 (by decide) ?_
  refine lv_aload_n hx hb dX12_of_6 rfl (lv_at hl 0 rfl) ?_
  refine va_get (D := D) hx hb hts inlX12 hown hK hP 55 (jc_55 cI cL ad σ τ) rfl 10 (by decide) (hts _ kw_8_15) (fun _ h9 => h9) rfl dX12_of_7 ?_
  refine lv_iconst (v := 1) hx hb dX12_of_10 (by decide) ?_
  have g11 := jrg (rfl : (σ 55 10).toInt = (σ 55 10).toInt)
  refine lv_isub hx hb dX12_of_11 ?_
  refine lv_topi (fun x12 ex12 => ?_)
  have tx12 : x12.toInt = (σ 55 10).toInt - 1 := (jsub ex12 rfl jz_1 (by omega) (by omega)).trans (by omega)
  refine lv_i2l (v := x12.toInt64) hx hb dX12_of_12 rfl ?_
  refine jcallS (As := [.long x9.toInt64, .long 0, .long x12.toInt64]) (rest := []) ⟨hx, hb, hml, hown, hts⟩ hK hP hA hS hZ (c_X12_within l D cI cL ad zz hJ σ τ x9.toInt64 (x9.toInt) (jtoL rfl) 0 (0) jzl_0 x12.toInt64 ((σ 55 10).toInt - 1) (jtoL tx12)) cw_RX12_136 ⟨Nat.le_of_ble_eq_true rfl, Nat.le_of_ble_eq_true rfl⟩ rfl rfl rfl hl.1 rfl (Nat.le_of_ble_eq_true rfl) dX12_of_13 ⟨Nat.zero_le _, Nat.zero_le _⟩ (fun r14 σ13 τ13 H locs h13 hP hS => ?_)
  obtain ⟨⟨rfl, rfl⟩, h13⟩ := h13
  rcases h13 with h15 | h16
  · obtain ⟨q18, k17⟩ := h15
    have q18 := q18.symm
    subst q18
    refine lv_if_eq (tgt := 29) hx hb dX12_of_16 (by decide) (fun c => absurd c (by decide)) (fun _ => ?_)
    refine lv_aload_n hx hb dX12_of_19 rfl (lv_at hl 0 rfl) ?_
    refine va_get (D := D) hx hb hts inlX12 hown hK hP 55 (jc_55 cI cL ad σ τ) rfl 11 (by decide) (hts _ kw_7_8) (fun _ h9 => h9) rfl dX12_of_20 ?_
    refine lv_iload_n hx hb dX12_of_23 rfl (lv_at hl 1 rfl) ?_
    refine lv_bipush (v := 10) hx hb dX12_of_24 (by decide) ?_
    refine lv_isub hx hb dX12_of_26 ?_
    refine lv_topi (fun x19 ex19 => ?_)
    have tx19 : x19.toInt = A1 - 10 := (jsub ex19 t1 jz_10 (by omega) (by omega)).trans (by omega)
    refine jald hx hb hK hP (jc_62 cI cL ad σ τ) (jin tx19 (by omega) (by omega)) dX12_of_27 ?_
    have g20 := w4 _ (jnat (x := x19) tx19 (n := 8) (by omega) (by decide))
    refine jtopr (y := (σ 62 x19.toNatClampNeg)) rfl ?_
    exact hret (σ 62 x19.toNatClampNeg) σ τ _ _ _ _ rfl ⟨⟨rfl, rfl⟩, Or.inr (Or.inr (Or.inr (Or.inl ⟨trivial, (by omega), (by omega), (by rw [jnc (show x19.toInt = A1 - 10 by omega)])⟩)))⟩ hP hS dX12_of_28
  · obtain ⟨q22, k21⟩ := h16
    have q22 := q22.symm
    subst q22
    refine lv_if_eq (tgt := 29) hx hb dX12_of_16 (by decide) (fun _ => ?_) (fun c => absurd (by decide) c)
    refine lv_iload_n hx hb dX12_of_29 rfl (lv_at hl 1 rfl) ?_
    by_cases c23 : a1 = 0
    · have kc23 := jeq c23 t1 jz_0
      refine jtopr c23 ?_
      refine lv_tableIn (off := 26) (tgt := 56) hx hb dX12_of_30 (by decide) (by decide) (by decide) (by decide) ?_
      refine lv_aload_n hx hb dX12_of_56 rfl (lv_at hl 0 rfl) ?_
      refine va_get (D := D) hx hb hts inlX12 hown hK hP 55 (jc_55 cI cL ad σ τ) rfl 10 (by decide) (hts _ kw_8_15) (fun _ h9 => h9) rfl dX12_of_57 ?_
      exact hret (σ 55 10) σ τ _ _ _ _ rfl ⟨⟨rfl, rfl⟩, Or.inl ⟨trivial, (by omega), (by omega)⟩⟩ hP hS dX12_of_60
    have kc23 := jne c23 t1 jz_0
    by_cases c24 : a1 = 1
    · have kc24 := jeq c24 t1 jz_1
      refine jtopr c24 ?_
      refine lv_tableIn (off := 31) (tgt := 61) hx hb dX12_of_30 (by decide) (by decide) (by decide) (by decide) ?_
      refine lv_aload_n hx hb dX12_of_61 rfl (lv_at hl 0 rfl) ?_
      refine va_get (D := D) hx hb hts inlX12 hown hK hP 55 (jc_55 cI cL ad σ τ) rfl 12 (by decide) (hts _ kw_8_16) (fun _ h9 => h9) rfl dX12_of_62 ?_
      exact hret (σ 55 12) σ τ _ _ _ _ rfl ⟨⟨rfl, rfl⟩, Or.inr (Or.inl ⟨trivial, (by omega), (by omega)⟩)⟩ hP hS dX12_of_65
    have kc24 := jne c24 t1 jz_1
    by_cases c25 : a1 = 2
    · have kc25 := jeq c25 t1 jz_2
      refine jtopr c25 ?_
      refine lv_tableIn (off := 36) (tgt := 66) hx hb dX12_of_30 (by decide) (by decide) (by decide) (by decide) ?_
      refine lv_aload_n hx hb dX12_of_66 rfl (lv_at hl 0 rfl) ?_
      refine va_get (D := D) hx hb hts inlX12 hown hK hP 55 (jc_55 cI cL ad σ τ) rfl 13 (by decide) (hts _ kw_15_14) (fun _ h9 => h9) rfl dX12_of_67 ?_
      exact hret (σ 55 13) σ τ _ _ _ _ rfl ⟨⟨rfl, rfl⟩, Or.inr (Or.inr (Or.inl ⟨trivial, (by omega), (by omega)⟩))⟩ hP hS dX12_of_70
    have kc25 := jne c25 t1 jz_2
    refine lv_tableOut (tgt := 71) hx hb dX12_of_30 (by rw [t1]; omega) (by decide) ?_
    refine lv_iconst (v := (-1)) hx hb dX12_of_71 (by decide) ?_
    exact hret (-1) σ τ _ _ _ _ rfl ⟨⟨rfl, rfl⟩, Or.inr (Or.inr (Or.inr (Or.inr (⟨rfl, (by have h9 := jz_m1; omega)⟩))))⟩ hP hS dX12_of_72
set_option maxHeartbeats 4000000 in
set_option maxRecDepth 100000 in
theorem c_X12_over (l : Launch) (D : va_G) (cI cL : ClassId) (ad zz : Nat → Nat) (hJ : jD ad) (σ : Nat → Nat → Int32) (τ : Nat → Nat → Int64) (a1 : Int32) (A1 : Int) (t1 : a1.toInt = A1) (a2 : Int32) (A2 : Int) (t2 : a2.toInt = A2) (a3 : Int32) (A3 : Int) (t3 : a3.toInt = A3) (hI101 : jI101 σ) (hI102 : jI102 σ) (hI103 : jI103 σ) (hI104 : jI104 σ) (hI105 : jI105 σ) (hI119 : jI119 σ) : jM l yX12_over cX12_over 6 (some .int) ({ frames := 67, cells := 0, slots := 0, locals := 2858 }) D cI cL ad zz [.ref (ad 55), .int a1, .int a2, .int a3] σ τ (fun r σ' τ' => τ = τ' ∧ (∀ i : Nat, (i < 55 ∨ 55 < i) ∧ (i < 66 ∨ 66 < i) ∧ (i < 68 ∨ 69 < i) → σ' i = σ i) ∧ (∀ k : Nat, (k < 18 ∨ 18 < k) ∧ (k < 19 ∨ 19 < k) ∧ (k < 20 ∨ 20 < k) ∧ (k < 21 ∨ 21 < k) ∧ (k < 22 ∨ 22 < k) ∧ (k < 25 ∨ 25 < k) ∧ (k < 26 ∨ 26 < k) ∧ (k < 27 ∨ 27 < k) → σ' 55 k = σ 55 k) ∧ (jI119 σ') ∧ True) := by
  refine jM.of hJ (by decide +kernel) (nt := .int) rfl (Nat.le_of_ble_eq_true rfl) ?_
  intro p e s m args below meth c Q ls hC hret hl hP
  obtain ⟨hx, hb, hr, hml, hown, hts, hK, -, hlocks, hZ⟩ := hC
  have hown : s.vm.findClass RX12 = some m.cls := hown
  have hS : va_S (jA ad) s.heap s.heap [] := va_S.rf
  have hA : ∀ q, jA ad q → jA ad q := fun _ h => h
  have hl : lv_has ls 6 [(0, .ref (ad 55)), (1, .int a1), (2, .int a2), (3, .int a3)] := hl
  have g1 := jrg t1
  have g2 := jrg t2
  have g3 := jrg t3
  obtain ⟨i1, w2, w3⟩ : (0 ≤ (σ 55 6).toInt ∧ (σ 55 6).toInt ≤ 4) ∧ (∀ k : Nat, k < 4 → 0 ≤ (σ 60 k).toInt ∧ (σ 60 k).toInt ≤ 50) ∧ (∀ k : Nat, k < 4 → 0 ≤ (σ 61 k).toInt ∧ (σ 61 k).toInt ≤ 20) := id hI102
  have w4 : ∀ k : Nat, k < 4 → 0 ≤ (σ 68 k).toInt ∧ (σ 68 k).toInt ≤ 3 := hI119
  refine lv_iload_n hx hb dX12_over_0 rfl (lv_at hl 1 rfl) ?_
  refine lv_if_lt (tgt := 70) hx hb dX12_over_1 (by decide) (fun c5 => ?_) (fun c5 => ?_)
  · have kc5 := jlt c5 t1 jz_0
    refine lv_iconst (v := 0) hx hb dX12_over_70 (by decide) ?_
    refine lv_istore (lv' := [(4, .int 0), (0, .ref (ad 55)), (1, .int a1), (2, .int a2), (3, .int a3)]) hx hb dX12_over_71 hl (by decide) rfl (fun ls hl => ?_)
    refine lv_iload hx hb dX12_over_73 (lv_at hl 0 rfl) ?_
    refine lv_if_ne (tgt := 80) hx hb dX12_over_75 (by decide) (fun c => absurd (by decide) c) (fun _ => ?_)
    refine lv_iconst (v := (-1)) hx hb dX12_over_78 (by decide) ?_
    exact hret (-1) σ τ _ _ _ _ rfl ⟨rfl, (fun _ _ => rfl), (fun _ _ => rfl), hI119, trivial⟩ hP hS dX12_over_79
  · have kc5 := jnlt c5 t1 jz_0
    refine lv_aload_n hx hb dX12_over_4 rfl (lv_at hl 0 rfl) ?_
    refine lv_iload_n hx hb dX12_over_5 rfl (lv_at hl 1 rfl) ?_
    refine lv_bipush (v := 100) hx hb dX12_over_6 (by decide) ?_
    refine lv_idiv hx hb dX12_over_8 (by decide) ?_
    refine lv_topi (fun x6 ex6 => ?_)
    have tx6 : x6.toInt = (A1 / 100) := jdiv ex6 t1 jz_100 (by omega) (by omega)
    refine jcallV (As := [.int x6]) (rest := []) ⟨hx, hb, hml, hown, hts⟩ hK hP hA hS hZ (c_X12_isBowler l D cI cL ad zz hJ σ τ x6 ((A1 / 100)) tx6 hI102) cw_RX12_146 (jc_55 cI cL ad σ τ) rfl ⟨Nat.le_of_ble_eq_true rfl, Nat.le_of_ble_eq_true rfl⟩ rfl rfl rfl hl.1 rfl (Nat.le_of_ble_eq_true rfl) dX12_over_9 ⟨Nat.zero_le _, Nat.zero_le _⟩ (fun r8 σ7 τ7 H locs h7 hP hS => ?_)
    obtain ⟨⟨rfl, rfl⟩, h7⟩ := h7
    rcases h7 with h9 | h10
    · obtain ⟨q12, k11⟩ := h9
      have q12 := q12.symm
      subst q12
      refine lv_if_eq (tgt := 70) hx hb dX12_over_12 (by decide) (fun c => absurd c (by decide)) (fun _ => ?_)
      refine lv_iload_n hx hb dX12_over_15 rfl (lv_at hl 1 rfl) ?_
      refine lv_bipush (v := 10) hx hb dX12_over_16 (by decide) ?_
      refine lv_idiv hx hb dX12_over_18 (by decide) ?_
      refine lv_topi (fun x13 ex13 => ?_)
      have tx13 : x13.toInt = (A1 / 10) := jdiv ex13 t1 jz_10 (by omega) (by omega)
      refine lv_bipush (v := 10) hx hb dX12_over_19 (by decide) ?_
      refine lv_irem hx hb dX12_over_21 (by decide) ?_
      refine lv_topi (fun x14 ex14 => ?_)
      have tx14 : x14.toInt = (((A1 / 10)) % 10) := jrem ex14 tx13 jz_10 (by omega)
      refine lv_iconst (v := 4) hx hb dX12_over_22 (by decide) ?_
      refine lv_icmp_ge (tgt := 70) hx hb dX12_over_23 (by decide) (fun c15 => ?_) (fun c15 => ?_)
      · have kc15 := jle c15 jz_4 tx14
        refine lv_iconst (v := 0) hx hb dX12_over_70 (by decide) ?_
        refine lv_istore (lv' := [(4, .int 0), (0, .ref (ad 55)), (1, .int a1), (2, .int a2), (3, .int a3)]) hx hb dX12_over_71 hl (by decide) rfl (fun ls hl => ?_)
        refine lv_iload hx hb dX12_over_73 (lv_at hl 0 rfl) ?_
        refine lv_if_ne (tgt := 80) hx hb dX12_over_75 (by decide) (fun c => absurd (by decide) c) (fun _ => ?_)
        refine lv_iconst (v := (-1)) hx hb dX12_over_78 (by decide) ?_
        exact hret (-1) σ τ _ _ _ _ rfl ⟨rfl, (fun _ _ => rfl), (fun _ _ => rfl), hI119, trivial⟩ hP hS dX12_over_79
      · have kc15 := jnle c15 jz_4 tx14
        refine lv_iload_n hx hb dX12_over_26 rfl (lv_at hl 1 rfl) ?_
        refine lv_bipush (v := 10) hx hb dX12_over_27 (by decide) ?_
        refine lv_irem hx hb dX12_over_29 (by decide) ?_
        refine lv_topi (fun x16 ex16 => ?_)
        have tx16 : x16.toInt = (A1 % 10) := jrem ex16 t1 jz_10 (by omega)
        refine lv_iconst (v := 3) hx hb dX12_over_30 (by decide) ?_
        refine lv_icmp_gt (tgt := 70) hx hb dX12_over_31 (by decide) (fun c17 => ?_) (fun c17 => ?_)
        · have kc17 := jlt c17 jz_3 tx16
          refine lv_iconst (v := 0) hx hb dX12_over_70 (by decide) ?_
          refine lv_istore (lv' := [(4, .int 0), (0, .ref (ad 55)), (1, .int a1), (2, .int a2), (3, .int a3)]) hx hb dX12_over_71 hl (by decide) rfl (fun ls hl => ?_)
          refine lv_iload hx hb dX12_over_73 (lv_at hl 0 rfl) ?_
          refine lv_if_ne (tgt := 80) hx hb dX12_over_75 (by decide) (fun c => absurd (by decide) c) (fun _ => ?_)
          refine lv_iconst (v := (-1)) hx hb dX12_over_78 (by decide) ?_
          exact hret (-1) σ τ _ _ _ _ rfl ⟨rfl, (fun _ _ => rfl), (fun _ _ => rfl), hI119, trivial⟩ hP hS dX12_over_79
        · have kc17 := jnlt c17 jz_3 tx16
          refine lv_iload_n hx hb dX12_over_34 rfl (lv_at hl 2 rfl) ?_
          refine lv_if_lt (tgt := 70) hx hb dX12_over_35 (by decide) (fun c18 => ?_) (fun c18 => ?_)
          · have kc18 := jlt c18 t2 jz_0
            refine lv_iconst (v := 0) hx hb dX12_over_70 (by decide) ?_
            refine lv_istore (lv' := [(4, .int 0), (0, .ref (ad 55)), (1, .int a1), (2, .int a2), (3, .int a3)]) hx hb dX12_over_71 hl (by decide) rfl (fun ls hl => ?_)
            refine lv_iload hx hb dX12_over_73 (lv_at hl 0 rfl) ?_
            refine lv_if_ne (tgt := 80) hx hb dX12_over_75 (by decide) (fun c => absurd (by decide) c) (fun _ => ?_)
            refine lv_iconst (v := (-1)) hx hb dX12_over_78 (by decide) ?_
            exact hret (-1) σ τ _ _ _ _ rfl ⟨rfl, (fun _ _ => rfl), (fun _ _ => rfl), hI119, trivial⟩ hP hS dX12_over_79
          · have kc18 := jnlt c18 t2 jz_0
            refine lv_iload_n hx hb dX12_over_38 rfl (lv_at hl 2 rfl) ?_
            refine lv_bipush (v := 10) hx hb dX12_over_39 (by decide) ?_
            refine lv_idiv hx hb dX12_over_41 (by decide) ?_
            refine lv_topi (fun x19 ex19 => ?_)
            have tx19 : x19.toInt = (A2 / 10) := jdiv ex19 t2 jz_10 (by omega) (by omega)
            refine lv_bipush (v := 12) hx hb dX12_over_42 (by decide) ?_
            refine lv_icmp_gt (tgt := 70) hx hb dX12_over_44 (by decide) (fun c20 => ?_) (fun c20 => ?_)
            · have kc20 := jlt c20 jz_12 tx19
              refine lv_iconst (v := 0) hx hb dX12_over_70 (by decide) ?_
              refine lv_istore (lv' := [(4, .int 0), (0, .ref (ad 55)), (1, .int a1), (2, .int a2), (3, .int a3)]) hx hb dX12_over_71 hl (by decide) rfl (fun ls hl => ?_)
              refine lv_iload hx hb dX12_over_73 (lv_at hl 0 rfl) ?_
              refine lv_if_ne (tgt := 80) hx hb dX12_over_75 (by decide) (fun c => absurd (by decide) c) (fun _ => ?_)
              refine lv_iconst (v := (-1)) hx hb dX12_over_78 (by decide) ?_
              exact hret (-1) σ τ _ _ _ _ rfl ⟨rfl, (fun _ _ => rfl), (fun _ _ => rfl), hI119, trivial⟩ hP hS dX12_over_79
            · have kc20 := jnlt c20 jz_12 tx19
              refine lv_iload_n hx hb dX12_over_47 rfl (lv_at hl 2 rfl) ?_
              refine lv_bipush (v := 10) hx hb dX12_over_48 (by decide) ?_
              refine lv_irem hx hb dX12_over_50 (by decide) ?_
              refine lv_topi (fun x21 ex21 => ?_)
              have tx21 : x21.toInt = (A2 % 10) := jrem ex21 t2 jz_10 (by omega)
              refine lv_bipush (v := 8) hx hb dX12_over_51 (by decide) ?_
              refine lv_icmp_gt (tgt := 70) hx hb dX12_over_53 (by decide) (fun c22 => ?_) (fun c22 => ?_)
              · have kc22 := jlt c22 jz_8 tx21
                refine lv_iconst (v := 0) hx hb dX12_over_70 (by decide) ?_
                refine lv_istore (lv' := [(4, .int 0), (0, .ref (ad 55)), (1, .int a1), (2, .int a2), (3, .int a3)]) hx hb dX12_over_71 hl (by decide) rfl (fun ls hl => ?_)
                refine lv_iload hx hb dX12_over_73 (lv_at hl 0 rfl) ?_
                refine lv_if_ne (tgt := 80) hx hb dX12_over_75 (by decide) (fun c => absurd (by decide) c) (fun _ => ?_)
                refine lv_iconst (v := (-1)) hx hb dX12_over_78 (by decide) ?_
                exact hret (-1) σ τ _ _ _ _ rfl ⟨rfl, (fun _ _ => rfl), (fun _ _ => rfl), hI119, trivial⟩ hP hS dX12_over_79
              · have kc22 := jnlt c22 jz_8 tx21
                refine lv_iload_n hx hb dX12_over_56 rfl (lv_at hl 3 rfl) ?_
                refine lv_i2l (v := a3.toInt64) hx hb dX12_over_57 rfl ?_
                refine lv_lconst (v := 0) hx hb dX12_over_58 (by decide) ?_
                refine lv_lconst (v := 1) hx hb dX12_over_59 (by decide) ?_
                refine jcallS (As := [.long a3.toInt64, .long 0, .long 1]) (rest := []) ⟨hx, hb, hml, hown, hts⟩ hK hP hA hS hZ (c_X12_within l D cI cL ad zz hJ σ τ a3.toInt64 (A3) (jtoL t3) 0 (0) jzl_0 1 (1) jzl_1) cw_RX12_136 ⟨Nat.le_of_ble_eq_true rfl, Nat.le_of_ble_eq_true rfl⟩ rfl rfl rfl hl.1 rfl (Nat.le_of_ble_eq_true rfl) dX12_over_60 ⟨Nat.zero_le _, Nat.zero_le _⟩ (fun r24 σ23 τ23 H locs h23 hP hS => ?_)
                obtain ⟨⟨rfl, rfl⟩, h23⟩ := h23
                rcases h23 with h25 | h26
                · obtain ⟨q28, k27⟩ := h25
                  have q28 := q28.symm
                  subst q28
                  refine lv_if_eq (tgt := 70) hx hb dX12_over_63 (by decide) (fun c => absurd c (by decide)) (fun _ => ?_)
                  refine lv_iconst (v := 1) hx hb dX12_over_66 (by decide) ?_
                  refine lv_goto (tgt := 71) hx hb dX12_over_67 (by decide) ?_
                  refine lv_istore (lv' := [(4, .int 1), (0, .ref (ad 55)), (1, .int a1), (2, .int a2), (3, .int a3)]) hx hb dX12_over_71 hl (by decide) rfl (fun ls hl => ?_)
                  refine lv_iload hx hb dX12_over_73 (lv_at hl 0 rfl) ?_
                  refine lv_if_ne (tgt := 80) hx hb dX12_over_75 (by decide) (fun _ => ?_) (fun c => absurd c (by decide))
                  refine lv_aload_n hx hb dX12_over_80 rfl (lv_at hl 1 rfl) ?_
                  refine jcallVv (As := []) (rest := []) ⟨hx, hb, hml, hown, hts⟩ hK hP hA hS hZ (c_X12_begin l D cI cL ad zz hJ σ τ hI104 w4) cw_RX12_256 (jc_55 cI cL ad σ τ) rfl ⟨Nat.le_of_ble_eq_true rfl, Nat.le_of_ble_eq_true rfl⟩ rfl rfl rfl hl.1 rfl (Nat.le_of_ble_eq_true rfl) dX12_over_81 ⟨Nat.zero_le _, Nat.zero_le _⟩ (fun σ29 τ29 H locs h29 hP hS => ?_)
                  obtain ⟨rfl, f31, f32, I33, h29⟩ := h29
                  obtain ⟨i35, i36, i37, i38, i39, w40⟩ : (0 ≤ (σ29 55 25).toInt) ∧ ((σ29 55 25).toInt ≤ (σ29 55 10).toInt) ∧ (0 ≤ (σ29 55 26).toInt) ∧ ((σ29 55 26).toInt ≤ (σ29 55 12).toInt) ∧ ((-1) ≤ (σ29 55 27).toInt ∧ (σ29 55 27).toInt ≤ 3) ∧ (∀ k : Nat, k < 4 → 0 ≤ (σ29 68 k).toInt ∧ (σ29 68 k).toInt ≤ 3) := id I33
                  have z41 : (σ29 55 10).toInt = (σ 55 10).toInt := (congrArg Int32.toInt (show σ29 55 10 = (σ 55 10) from (f32 10 (by decide))))
                  have z42 : (σ29 55 12).toInt = (σ 55 12).toInt := (congrArg Int32.toInt (show σ29 55 12 = (σ 55 12) from (f32 12 (by decide))))
                  obtain ⟨k43, k44, k45, h29⟩ := h29
                  refine lv_iload_n hx hb dX12_over_84 rfl (lv_at hl 2 rfl) ?_
                  refine lv_bipush (v := 100) hx hb dX12_over_85 (by decide) ?_
                  refine lv_idiv hx hb dX12_over_87 (by decide) ?_
                  refine lv_topi (fun x46 ex46 => ?_)
                  have tx46 : x46.toInt = (A1 / 100) := jdiv ex46 t1 jz_100 (by omega) (by omega)
                  refine lv_istore (lv' := [(5, .int x46), (4, .int 1), (0, .ref (ad 55)), (1, .int a1), (2, .int a2), (3, .int a3)]) hx hb dX12_over_88 hl (by decide) rfl (fun ls hl => ?_)
                  refine lv_aload_n hx hb dX12_over_90 rfl (lv_at hl 2 rfl) ?_
                  refine va_get (D := D) hx hb hts inlX12 hown hK hP 55 (jc_55 cI cL ad σ29 τ) rfl 28 (by decide) (hts _ kw_7_14) (fun _ h9 => h9) rfl dX12_over_91 ?_
                  refine lv_iload hx hb dX12_over_94 (lv_at hl 0 rfl) ?_
                  refine lv_iload_n hx hb dX12_over_96 rfl (lv_at hl 3 rfl) ?_
                  refine lv_bipush (v := 10) hx hb dX12_over_97 (by decide) ?_
                  refine lv_irem hx hb dX12_over_99 (by decide) ?_
                  refine lv_topi (fun x47 ex47 => ?_)
                  have tx47 : x47.toInt = (A1 % 10) := jrem ex47 t1 jz_10 (by omega)
                  refine jast hx hb hK hP hJ hA hS (jc_68 cI cL ad σ29 τ) (ja_68 cI cL ad σ29 τ _ _) (jin tx46 (by omega) (by omega)) dX12_over_100 (fun σ48 H locs eσ48 hP hS => ?_)
                  refine lv_aload_n hx hb dX12_over_101 rfl (lv_at hl 2 rfl) ?_
                  refine lv_iload_n hx hb dX12_over_102 rfl (lv_at hl 4 rfl) ?_
                  refine lv_bipush (v := 10) hx hb dX12_over_103 (by decide) ?_
                  refine lv_idiv hx hb dX12_over_105 (by decide) ?_
                  refine lv_topi (fun x49 ex49 => ?_)
                  have tx49 : x49.toInt = (A2 / 10) := jdiv ex49 t2 jz_10 (by omega) (by omega)
                  refine jput (ty := .int) hx hb hts inlX12 tyX12 tyX12_ok nmX12 hown hK hP hJ hA hS (jc_55 cI cL ad σ48 τ) rfl (k := 26) (by decide) (Nat.le_of_ble_eq_true rfl) (jp_55_26 cI cL ad σ48 τ x49) (hts _ kw_23_5) (fun _ h9 => h9) rfl (by decide +kernel) rfl rfl dX12_over_106 (fun σ50 H locs eσ50 hP hS => ?_)
                  refine lv_aload_n hx hb dX12_over_109 rfl (lv_at hl 2 rfl) ?_
                  refine lv_iload_n hx hb dX12_over_110 rfl (lv_at hl 4 rfl) ?_
                  refine lv_bipush (v := 10) hx hb dX12_over_111 (by decide) ?_
                  refine lv_irem hx hb dX12_over_113 (by decide) ?_
                  refine lv_topi (fun x51 ex51 => ?_)
                  have tx51 : x51.toInt = (A2 % 10) := jrem ex51 t2 jz_10 (by omega)
                  refine jput (ty := .int) hx hb hts inlX12 tyX12 tyX12_ok nmX12 hown hK hP hJ hA hS (jc_55 cI cL ad σ50 τ) rfl (k := 25) (by decide) (Nat.le_of_ble_eq_true rfl) (jp_55_25 cI cL ad σ50 τ x51) (hts _ kw_23_6) (fun _ h9 => h9) rfl (by decide +kernel) rfl rfl dX12_over_114 (fun σ52 H locs eσ52 hP hS => ?_)
                  refine lv_iload_n hx hb dX12_over_117 rfl (lv_at hl 5 rfl) ?_
                  refine lv_if_ne (tgt := 137) hx hb dX12_over_118 (by decide) (fun c53 => ?_) (fun c53 => ?_)
                  · have kc53 := jne c53 t3 jz_0
                    refine lv_aload_n hx hb dX12_over_137 rfl (lv_at hl 2 rfl) ?_
                    refine lv_iload hx hb dX12_over_138 (lv_at hl 0 rfl) ?_
                    refine lv_iload_n hx hb dX12_over_140 rfl (lv_at hl 3 rfl) ?_
                    refine lv_bipush (v := 10) hx hb dX12_over_141 (by decide) ?_
                    refine lv_idiv hx hb dX12_over_143 (by decide) ?_
                    refine lv_topi (fun x54 ex54 => ?_)
                    have tx54 : x54.toInt = (A1 / 10) := jdiv ex54 t1 jz_10 (by omega) (by omega)
                    refine lv_bipush (v := 10) hx hb dX12_over_144 (by decide) ?_
                    refine lv_irem hx hb dX12_over_146 (by decide) ?_
                    refine lv_topi (fun x55 ex55 => ?_)
                    have tx55 : x55.toInt = (((A1 / 10)) % 10) := jrem ex55 tx54 jz_10 (by omega)
                    have I56 : jI101 σ52 := jI101_fr ((jkp 4 eσ52 (by decide)).trans ((jkp 4 eσ50 (by decide)).trans ((congrFun (jnp 55 eσ48 (by decide)) 4).trans (f32 4 (by decide))))) ((jkp 5 eσ52 (by decide)).trans ((jkp 5 eσ50 (by decide)).trans ((congrFun (jnp 55 eσ48 (by decide)) 5).trans (f32 5 (by decide))))) ((jnp 56 eσ52 (by decide)).trans ((jnp 56 eσ50 (by decide)).trans ((jnp 56 eσ48 (by decide)).trans (f31 56 (by decide))))) ((jnp 57 eσ52 (by decide)).trans ((jnp 57 eσ50 (by decide)).trans ((jnp 57 eσ48 (by decide)).trans (f31 57 (by decide))))) ((jnp 58 eσ52 (by decide)).trans ((jnp 58 eσ50 (by decide)).trans ((jnp 58 eσ48 (by decide)).trans (f31 58 (by decide))))) ((jnp 59 eσ52 (by decide)).trans ((jnp 59 eσ50 (by decide)).trans ((jnp 59 eσ48 (by decide)).trans (f31 59 (by decide))))) hI101
                    have I57 : jI102 σ52 := jI102_fr ((jkp 6 eσ52 (by decide)).trans ((jkp 6 eσ50 (by decide)).trans ((congrFun (jnp 55 eσ48 (by decide)) 6).trans (f32 6 (by decide))))) ((jnp 60 eσ52 (by decide)).trans ((jnp 60 eσ50 (by decide)).trans ((jnp 60 eσ48 (by decide)).trans (f31 60 (by decide))))) ((jnp 61 eσ52 (by decide)).trans ((jnp 61 eσ50 (by decide)).trans ((jnp 61 eσ48 (by decide)).trans (f31 61 (by decide))))) hI102
                    have I58 : jI103 σ52 := jI103_fr ((jkp 9 eσ52 (by decide)).trans ((jkp 9 eσ50 (by decide)).trans ((congrFun (jnp 55 eσ48 (by decide)) 9).trans (f32 9 (by decide))))) hI103
                    have w59 : ∀ k : Nat, k < 4 → 0 ≤ (σ52 68 k).toInt ∧ (σ52 68 k).toInt ≤ 3 := (jrr_fr (jnp 68 eσ52 (by decide)) (jrr_fr (jnp 68 eσ50 (by decide)) (by rw [eσ48]; exact jrr_up w40 (by have h9 := tx47; omega) (by have h9 := tx47; omega))))
                    refine jcallV (As := [.int x46, .int x55]) (rest := []) ⟨hx, hb, hml, hown, hts⟩ hK hP hA hS hZ (c_X12_runsBy l D cI cL ad zz hJ σ52 τ x46 ((A1 / 100)) tx46 x55 ((((A1 / 10)) % 10)) tx55 I56 I57 I58 w59 (by omega) (by omega)) cw_RX12_262 (jc_55 cI cL ad σ52 τ) rfl ⟨Nat.le_of_ble_eq_true rfl, Nat.le_of_ble_eq_true rfl⟩ rfl rfl rfl hl.1 rfl (Nat.le_of_ble_eq_true rfl) dX12_over_147 ⟨Nat.zero_le _, Nat.zero_le _⟩ (fun r61 σ60 τ60 H locs h60 hP hS => ?_)
                    obtain ⟨⟨rfl, rfl⟩, h60⟩ := h60
                    have h62 := h60
                    obtain ⟨q64, k63⟩ := h62
                    have I65 : jI119 σ52 := w59
                    exact hret r61 σ52 τ _ _ _ _ rfl ⟨rfl, (fun i hi => ((jnp i eσ52 (imp_241 i hi)).trans ((jnp i eσ50 (imp_241 i hi)).trans ((jnp i eσ48 (imp_242 i hi)).trans (f31 i (imp_243 i hi)))))), (fun i hi => ((jkp i eσ52 (imp_244 i hi)).trans ((jkp i eσ50 (imp_245 i hi)).trans ((congrFun (jnp 55 eσ48 (by decide)) i).trans (f32 i (imp_246 i hi)))))), I65, trivial⟩ hP hS dX12_over_150
                  · have kc53 := jeq c53 t3 jz_0
                    refine lv_aload_n hx hb dX12_over_121 rfl (lv_at hl 2 rfl) ?_
                    refine lv_iload hx hb dX12_over_122 (lv_at hl 0 rfl) ?_
                    refine lv_iload_n hx hb dX12_over_124 rfl (lv_at hl 3 rfl) ?_
                    refine lv_bipush (v := 10) hx hb dX12_over_125 (by decide) ?_
                    refine lv_idiv hx hb dX12_over_127 (by decide) ?_
                    refine lv_topi (fun x66 ex66 => ?_)
                    have tx66 : x66.toInt = (A1 / 10) := jdiv ex66 t1 jz_10 (by omega) (by omega)
                    refine lv_bipush (v := 10) hx hb dX12_over_128 (by decide) ?_
                    refine lv_irem hx hb dX12_over_130 (by decide) ?_
                    refine lv_topi (fun x67 ex67 => ?_)
                    have tx67 : x67.toInt = (((A1 / 10)) % 10) := jrem ex67 tx66 jz_10 (by omega)
                    have I68 : jI101 σ52 := jI101_fr ((jkp 4 eσ52 (by decide)).trans ((jkp 4 eσ50 (by decide)).trans ((congrFun (jnp 55 eσ48 (by decide)) 4).trans (f32 4 (by decide))))) ((jkp 5 eσ52 (by decide)).trans ((jkp 5 eσ50 (by decide)).trans ((congrFun (jnp 55 eσ48 (by decide)) 5).trans (f32 5 (by decide))))) ((jnp 56 eσ52 (by decide)).trans ((jnp 56 eσ50 (by decide)).trans ((jnp 56 eσ48 (by decide)).trans (f31 56 (by decide))))) ((jnp 57 eσ52 (by decide)).trans ((jnp 57 eσ50 (by decide)).trans ((jnp 57 eσ48 (by decide)).trans (f31 57 (by decide))))) ((jnp 58 eσ52 (by decide)).trans ((jnp 58 eσ50 (by decide)).trans ((jnp 58 eσ48 (by decide)).trans (f31 58 (by decide))))) ((jnp 59 eσ52 (by decide)).trans ((jnp 59 eσ50 (by decide)).trans ((jnp 59 eσ48 (by decide)).trans (f31 59 (by decide))))) hI101
                    have I69 : jI102 σ52 := jI102_fr ((jkp 6 eσ52 (by decide)).trans ((jkp 6 eσ50 (by decide)).trans ((congrFun (jnp 55 eσ48 (by decide)) 6).trans (f32 6 (by decide))))) ((jnp 60 eσ52 (by decide)).trans ((jnp 60 eσ50 (by decide)).trans ((jnp 60 eσ48 (by decide)).trans (f31 60 (by decide))))) ((jnp 61 eσ52 (by decide)).trans ((jnp 61 eσ50 (by decide)).trans ((jnp 61 eσ48 (by decide)).trans (f31 61 (by decide))))) hI102
                    have I70 : jI103 σ52 := jI103_fr ((jkp 9 eσ52 (by decide)).trans ((jkp 9 eσ50 (by decide)).trans ((congrFun (jnp 55 eσ48 (by decide)) 9).trans (f32 9 (by decide))))) hI103
                    have I71 : jI105 σ52 := jI105_fr ((jkp 15 eσ52 (by decide)).trans ((jkp 15 eσ50 (by decide)).trans ((congrFun (jnp 55 eσ48 (by decide)) 15).trans (f32 15 (by decide))))) ((jnp 65 eσ52 (by decide)).trans ((jnp 65 eσ50 (by decide)).trans ((jnp 65 eσ48 (by decide)).trans (f31 65 (by decide))))) hI105
                    have w72 : ∀ k : Nat, k < 4 → 0 ≤ (σ52 68 k).toInt ∧ (σ52 68 k).toInt ≤ 3 := (jrr_fr (jnp 68 eσ52 (by decide)) (jrr_fr (jnp 68 eσ50 (by decide)) (by rw [eσ48]; exact jrr_up w40 (by have h9 := tx47; omega) (by have h9 := tx47; omega))))
                    refine jcallV (As := [.int x46, .int x67]) (rest := []) ⟨hx, hb, hml, hown, hts⟩ hK hP hA hS hZ (c_X12_outBy l D cI cL ad zz hJ σ52 τ x46 ((A1 / 100)) tx46 x67 ((((A1 / 10)) % 10)) tx67 I68 I69 I70 I71 w72 (by omega) (by omega)) cw_RX12_259 (jc_55 cI cL ad σ52 τ) rfl ⟨Nat.le_of_ble_eq_true rfl, Nat.le_of_ble_eq_true rfl⟩ rfl rfl rfl hl.1 rfl (Nat.le_of_ble_eq_true rfl) dX12_over_131 ⟨Nat.zero_le _, Nat.zero_le _⟩ (fun r74 σ73 τ73 H locs h73 hP hS => ?_)
                    obtain ⟨rfl, f75, f76, h73⟩ := h73
                    have h78 := h73
                    obtain ⟨q80, k79⟩ := h78
                    refine lv_goto (tgt := 150) hx hb dX12_over_134 (by decide) ?_
                    have w81 : ∀ k : Nat, k < 4 → 0 ≤ (σ73 68 k).toInt ∧ (σ73 68 k).toInt ≤ 3 := (jrr_fr (f75 68 (by decide)) w72)
                    have I82 : jI119 σ73 := w81
                    exact hret r74 σ73 τ _ _ _ _ rfl ⟨rfl, (fun i hi => ((f75 i (imp_247 i hi)).trans ((jnp i eσ52 (imp_241 i hi)).trans ((jnp i eσ50 (imp_241 i hi)).trans ((jnp i eσ48 (imp_242 i hi)).trans (f31 i (imp_243 i hi))))))), (fun i hi => ((f76 i (imp_248 i hi)).trans ((jkp i eσ52 (imp_244 i hi)).trans ((jkp i eσ50 (imp_245 i hi)).trans ((congrFun (jnp 55 eσ48 (by decide)) i).trans (f32 i (imp_246 i hi))))))), I82, trivial⟩ hP hS dX12_over_150
                · obtain ⟨q84, k83⟩ := h26
                  have q84 := q84.symm
                  subst q84
                  refine lv_if_eq (tgt := 70) hx hb dX12_over_63 (by decide) (fun _ => ?_) (fun c => absurd (by decide) c)
                  refine lv_iconst (v := 0) hx hb dX12_over_70 (by decide) ?_
                  refine lv_istore (lv' := [(4, .int 0), (0, .ref (ad 55)), (1, .int a1), (2, .int a2), (3, .int a3)]) hx hb dX12_over_71 hl (by decide) rfl (fun ls hl => ?_)
                  refine lv_iload hx hb dX12_over_73 (lv_at hl 0 rfl) ?_
                  refine lv_if_ne (tgt := 80) hx hb dX12_over_75 (by decide) (fun c => absurd (by decide) c) (fun _ => ?_)
                  refine lv_iconst (v := (-1)) hx hb dX12_over_78 (by decide) ?_
                  exact hret (-1) σ τ _ _ _ _ rfl ⟨rfl, (fun _ _ => rfl), (fun _ _ => rfl), hI119, trivial⟩ hP hS dX12_over_79
    · obtain ⟨q86, k85⟩ := h10
      have q86 := q86.symm
      subst q86
      refine lv_if_eq (tgt := 70) hx hb dX12_over_12 (by decide) (fun _ => ?_) (fun c => absurd (by decide) c)
      refine lv_iconst (v := 0) hx hb dX12_over_70 (by decide) ?_
      refine lv_istore (lv' := [(4, .int 0), (0, .ref (ad 55)), (1, .int a1), (2, .int a2), (3, .int a3)]) hx hb dX12_over_71 hl (by decide) rfl (fun ls hl => ?_)
      refine lv_iload hx hb dX12_over_73 (lv_at hl 0 rfl) ?_
      refine lv_if_ne (tgt := 80) hx hb dX12_over_75 (by decide) (fun c => absurd (by decide) c) (fun _ => ?_)
      refine lv_iconst (v := (-1)) hx hb dX12_over_78 (by decide) ?_
      exact hret (-1) σ τ _ _ _ _ rfl ⟨rfl, (fun _ _ => rfl), (fun _ _ => rfl), hI119, trivial⟩ hP hS dX12_over_79
set_option maxHeartbeats 4000000 in
set_option maxRecDepth 100000 in
theorem c_X12_rule (l : Launch) (D : va_G) (cI cL : ClassId) (ad zz : Nat → Nat) (hJ : jD ad) (σ : Nat → Nat → Int32) (τ : Nat → Nat → Int64) (a1 : Int32) (A1 : Int) (t1 : a1.toInt = A1) (a2 : Int32) (A2 : Int) (t2 : a2.toInt = A2) (a3 : Int32) (A3 : Int) (t3 : a3.toInt = A3) (hI106 : jI106 σ) : jM l yX12_rule cX12_rule 7 (some .int) ({ frames := 1, cells := 0, slots := 0, locals := 25 }) D cI cL ad zz [.ref (ad 55), .int a1, .int a2, .int a3] σ τ (fun r σ' τ' => τ = τ' ∧ (∀ i : Nat, (i < 55 ∨ 55 < i) ∧ (i < 70 ∨ 73 < i) → σ' i = σ i) ∧ (∀ k : Nat, (k < 32 ∨ 32 < k) → σ' 55 k = σ 55 k) ∧ (jI106 σ') ∧ ((r = (-1) ∧ ((σ' 55 32).toInt = (σ 55 32).toInt) ∧ (¬ (0 ≤ A1 ∧ A1 ≤ 6 ∧ jRow (A2) ∧ 0 ≤ A3 ∧ A3 ≤ 12)) ∧ (σ' 70 = σ 70)) ∨ (r = (-3) ∧ ((σ 55 32).toInt = 20) ∧ ((σ' 55 32).toInt = 20) ∧ ((0 ≤ A1 ∧ A1 ≤ 6 ∧ jRow (A2) ∧ 0 ≤ A3 ∧ A3 ≤ 12)) ∧ (σ' 70 = σ 70)) ∨ (True ∧ ((σ 55 32).toInt < 20) ∧ (r.toInt = (σ 55 32).toInt) ∧ ((σ' 55 32).toInt = (σ 55 32).toInt + 1) ∧ ((0 ≤ A1 ∧ A1 ≤ 6 ∧ jRow (A2) ∧ 0 ≤ A3 ∧ A3 ≤ 12)) ∧ (σ' 70 = jupd (σ 70) ((σ 55 32).toInt).toNat a1)))) := by
  refine jM.of hJ (by decide +kernel) (nt := .int) rfl (Nat.le_of_ble_eq_true rfl) ?_
  intro p e s m args below meth c Q ls hC hret hl hP
  obtain ⟨hx, hb, hr, hml, hown, hts, hK, -, hlocks, hZ⟩ := hC
  have hown : s.vm.findClass RX12 = some m.cls := hown
  have hS : va_S (jA ad) s.heap s.heap [] := va_S.rf
  have hA : ∀ q, jA ad q → jA ad q := fun _ h => h
  have hl : lv_has ls 7 [(0, .ref (ad 55)), (1, .int a1), (2, .int a2), (3, .int a3)] := hl
  have g1 := jrg t1
  have g2 := jrg t2
  have g3 := jrg t3
  obtain ⟨i1, w2, w3, w4⟩ : (0 ≤ (σ 55 32).toInt ∧ (σ 55 32).toInt ≤ 20) ∧ (∀ k : Nat, k < 20 → 0 ≤ (σ 70 k).toInt ∧ (σ 70 k).toInt ≤ 6) ∧ (∀ k : Nat, k < 20 → 0 ≤ (σ 71 k).toInt ∧ (σ 71 k).toInt ≤ 8) ∧ (∀ k : Nat, k < 160 → 0 ≤ (σ 72 k).toInt ∧ (σ 72 k).toInt ≤ 3) := id hI106
  refine lv_iload_n hx hb dX12_rule_0 rfl (lv_at hl 1 rfl) ?_
  refine lv_i2l (v := a1.toInt64) hx hb dX12_rule_1 rfl ?_
  refine lv_lconst (v := 0) hx hb dX12_rule_2 (by decide) ?_
  refine lv_ldc2 (v := 6) hx hb hown (hts _ kw_24_22) dX12_rule_3 ?_
  refine jcallS (As := [.long a1.toInt64, .long 0, .long 6]) (rest := []) ⟨hx, hb, hml, hown, hts⟩ hK hP hA hS hZ (c_X12_within l D cI cL ad zz hJ σ τ a1.toInt64 (A1) (jtoL t1) 0 (0) jzl_0 6 (6) jzl_6) cw_RX12_136 ⟨Nat.le_of_ble_eq_true rfl, Nat.le_of_ble_eq_true rfl⟩ rfl rfl rfl hl.1 rfl (Nat.le_of_ble_eq_true rfl) dX12_rule_6 ⟨Nat.zero_le _, Nat.zero_le _⟩ (fun r6 σ5 τ5 H locs h5 hP hS => ?_)
  obtain ⟨⟨rfl, rfl⟩, h5⟩ := h5
  rcases h5 with h7 | h8
  · obtain ⟨q10, k9⟩ := h7
    have q10 := q10.symm
    subst q10
    refine lv_if_eq (tgt := 36) hx hb dX12_rule_9 (by decide) (fun c => absurd c (by decide)) (fun _ => ?_)
    refine lv_iload_n hx hb dX12_rule_12 rfl (lv_at hl 2 rfl) ?_
    refine lv_i2l (v := a2.toInt64) hx hb dX12_rule_13 rfl ?_
    refine lv_lconst (v := 0) hx hb dX12_rule_14 (by decide) ?_
    refine lv_ldc2 (v := 44444444) hx hb hown (hts _ kw_24_23) dX12_rule_15 ?_
    refine jcallS (As := [.long a2.toInt64, .long 0, .long 44444444]) (rest := []) ⟨hx, hb, hml, hown, hts⟩ hK hP hA hS hZ (c_X12_within l D cI cL ad zz hJ σ τ a2.toInt64 (A2) (jtoL t2) 0 (0) jzl_0 44444444 (44444444) jzl_44444444) cw_RX12_136 ⟨Nat.le_of_ble_eq_true rfl, Nat.le_of_ble_eq_true rfl⟩ rfl rfl rfl hl.1 rfl (Nat.le_of_ble_eq_true rfl) dX12_rule_18 ⟨Nat.zero_le _, Nat.zero_le _⟩ (fun r12 σ11 τ11 H locs h11 hP hS => ?_)
    obtain ⟨⟨rfl, rfl⟩, h11⟩ := h11
    rcases h11 with h13 | h14
    · obtain ⟨q16, k15⟩ := h13
      have q16 := q16.symm
      subst q16
      refine lv_if_eq (tgt := 36) hx hb dX12_rule_21 (by decide) (fun c => absurd c (by decide)) (fun _ => ?_)
      refine lv_iload_n hx hb dX12_rule_24 rfl (lv_at hl 3 rfl) ?_
      refine lv_i2l (v := a3.toInt64) hx hb dX12_rule_25 rfl ?_
      refine lv_lconst (v := 0) hx hb dX12_rule_26 (by decide) ?_
      refine lv_ldc2 (v := 12) hx hb hown (hts _ kw_25_0) dX12_rule_27 ?_
      refine jcallS (As := [.long a3.toInt64, .long 0, .long 12]) (rest := []) ⟨hx, hb, hml, hown, hts⟩ hK hP hA hS hZ (c_X12_within l D cI cL ad zz hJ σ τ a3.toInt64 (A3) (jtoL t3) 0 (0) jzl_0 12 (12) jzl_12) cw_RX12_136 ⟨Nat.le_of_ble_eq_true rfl, Nat.le_of_ble_eq_true rfl⟩ rfl rfl rfl hl.1 rfl (Nat.le_of_ble_eq_true rfl) dX12_rule_30 ⟨Nat.zero_le _, Nat.zero_le _⟩ (fun r18 σ17 τ17 H locs h17 hP hS => ?_)
      obtain ⟨⟨rfl, rfl⟩, h17⟩ := h17
      rcases h17 with h19 | h20
      · obtain ⟨q22, k21⟩ := h19
        have q22 := q22.symm
        subst q22
        refine lv_if_ne (tgt := 38) hx hb dX12_rule_33 (by decide) (fun _ => ?_) (fun c => absurd c (by decide))
        have lp23 : ∀ (x25 : Int32) (H : Heap) (locs : List Loc) (ls : Array Slot), 0 ≤ x25.toInt → x25.toInt ≤ 8 → (jRow (A2) ∧ jDn (x25.toInt).toNat (A2)) → jH D cI cL ad σ τ H → va_S (jA ad) s.heap H locs → lv_has ls 7 [(0, .ref (ad 55)), (1, .int a1), (2, .int a2), (3, .int a3), (4, .int x25)] → W p l e ({ frames := 1, cells := 0, slots := 0, locals := 25 }) s m args below meth c H locs 0 0 Q (F0 m 80 ls []) := by
          intro x25 H locs ls h27 h28 q30 hP hS hl
          refine lv_aload_n hx hb dX12_rule_80 rfl (lv_at hl 0 rfl) ?_
          refine va_get (D := D) hx hb hts inlX12 hown hK hP 55 (jc_55 cI cL ad σ τ) rfl 32 (by decide) (hts _ kw_25_1) (fun _ h9 => h9) rfl dX12_rule_81 ?_
          refine lv_bipush (v := 20) hx hb dX12_rule_84 (by decide) ?_
          refine lv_icmp_ne (tgt := 92) hx hb dX12_rule_86 (by decide) (fun c31 => ?_) (fun c31 => ?_)
          · have kc31 := jne c31 rfl jz_20
            refine lv_iload_n hx hb dX12_rule_92 rfl (lv_at hl 2 rfl) ?_
            refine lv_istore (lv' := [(5, .int a2), (0, .ref (ad 55)), (1, .int a1), (2, .int a2), (3, .int a3), (4, .int x25)]) hx hb dX12_rule_93 hl (by decide) rfl (fun ls hl => ?_)
            refine lv_iload hx hb dX12_rule_95 (lv_at hl 5 rfl) ?_
            refine lv_iconst (v := 1) hx hb dX12_rule_97 (by decide) ?_
            have g32 := jrg (rfl : x25.toInt = x25.toInt)
            refine lv_isub hx hb dX12_rule_98 ?_
            refine lv_topi (fun x33 ex33 => ?_)
            have tx33 : x33.toInt = x25.toInt - 1 := (jsub ex33 rfl jz_1 (by omega) (by omega)).trans (by omega)
            refine lv_istore (lv' := [(6, .int x33), (5, .int a2), (0, .ref (ad 55)), (1, .int a1), (2, .int a2), (3, .int a3), (4, .int x25)]) hx hb dX12_rule_99 hl (by decide) rfl (fun ls hl => ?_)
            have lp34 : ∀ (n35 : Nat) (x36 : Int32) (x37 : Int32) (σ38 : Nat → Nat → Int32) (H : Heap) (locs : List Loc) (ls : Array Slot), (x37.toInt + 1 : Int) < n35 → 0 ≤ x36.toInt → x36.toInt ≤ 44444444 → (-1) ≤ x37.toInt → x37.toInt ≤ 7 → (∀ i : Nat, (i < 72 ∨ 72 < i) → σ38 i = σ i) → jI106 σ38 → (jDn (x37.toInt + 1).toNat (x36.toInt)) → jH D cI cL ad σ38 τ H → va_S (jA ad) s.heap H locs → lv_has ls 7 [(6, .int x37), (5, .int x36), (0, .ref (ad 55)), (1, .int a1), (2, .int a2), (3, .int a3), (4, .int x25)] → W p l e ({ frames := 1, cells := 0, slots := 0, locals := 25 }) s m args below meth c H locs 0 0 Q (F0 m 101 ls []) := by
              intro n35
              induction n35 with
              | zero => intro x36 x37 σ38 H locs ls h40 h41 h42 h43 h44; exact absurd h40 (by omega)
              | succ n35 ihlp34 =>
                intro x36 x37 σ38 H locs ls h40 h41 h42 h43 h44 f45 p46 q47 hP hS hl
                obtain ⟨i48, w49, w50, w51⟩ : (0 ≤ (σ38 55 32).toInt ∧ (σ38 55 32).toInt ≤ 20) ∧ (∀ k : Nat, k < 20 → 0 ≤ (σ38 70 k).toInt ∧ (σ38 70 k).toInt ≤ 6) ∧ (∀ k : Nat, k < 20 → 0 ≤ (σ38 71 k).toInt ∧ (σ38 71 k).toInt ≤ 8) ∧ (∀ k : Nat, k < 160 → 0 ≤ (σ38 72 k).toInt ∧ (σ38 72 k).toInt ≤ 3) := id p46
                have z52 : (σ38 55 32).toInt = (σ 55 32).toInt := (congrArg Int32.toInt (show σ38 55 32 = (σ 55 32) from (congrFun (f45 55 (by decide)) 32)))
                refine lv_iload hx hb dX12_rule_101 (lv_at hl 0 rfl) ?_
                refine lv_if_lt (tgt := 141) hx hb dX12_rule_103 (by decide) (fun c53 => ?_) (fun c53 => ?_)
                · have kc53 := jlt c53 rfl jz_0
                  refine lv_aload_n hx hb dX12_rule_141 rfl (lv_at hl 2 rfl) ?_
                  refine va_get (D := D) hx hb hts inlX12 hown hK hP 55 (jc_55 cI cL ad σ38 τ) rfl 33 (by decide) (hts _ kw_7_18) (fun _ h9 => h9) rfl dX12_rule_142 ?_
                  refine lv_aload_n hx hb dX12_rule_145 rfl (lv_at hl 2 rfl) ?_
                  refine va_get (D := D) hx hb hts inlX12 hown hK hP 55 (jc_55 cI cL ad σ38 τ) rfl 32 (by decide) (hts _ kw_25_1) (fun _ h9 => h9) rfl dX12_rule_146 ?_
                  have m54 : σ38 55 32 = (σ 55 32) := (congrFun (f45 55 (by decide)) 32)
                  refine jtopr m54 ?_
                  refine lv_iload_n hx hb dX12_rule_149 rfl (lv_at hl 3 rfl) ?_
                  refine jast hx hb hK hP hJ hA hS (jc_70 cI cL ad σ38 τ) (ja_70 cI cL ad σ38 τ _ _) (jin rfl (by omega) (by omega)) dX12_rule_150 (fun σ55 H locs eσ55 hP hS => ?_)
                  refine lv_aload_n hx hb dX12_rule_151 rfl (lv_at hl 2 rfl) ?_
                  refine va_get (D := D) hx hb hts inlX12 hown hK hP 55 (jc_55 cI cL ad σ55 τ) rfl 34 (by decide) (hts _ kw_7_19) (fun _ h9 => h9) rfl dX12_rule_152 ?_
                  refine lv_aload_n hx hb dX12_rule_155 rfl (lv_at hl 2 rfl) ?_
                  refine va_get (D := D) hx hb hts inlX12 hown hK hP 55 (jc_55 cI cL ad σ55 τ) rfl 32 (by decide) (hts _ kw_25_1) (fun _ h9 => h9) rfl dX12_rule_156 ?_
                  have m56 : σ55 55 32 = (σ 55 32) := ((congrFun (jnp 55 eσ55 (by decide)) 32).trans m54)
                  refine jtopr m56 ?_
                  refine lv_iload hx hb dX12_rule_159 (lv_at hl 6 rfl) ?_
                  refine jast hx hb hK hP hJ hA hS (jc_71 cI cL ad σ55 τ) (ja_71 cI cL ad σ55 τ _ _) (jin rfl (by omega) (by omega)) dX12_rule_161 (fun σ57 H locs eσ57 hP hS => ?_)
                  refine lv_aload_n hx hb dX12_rule_162 rfl (lv_at hl 2 rfl) ?_
                  refine va_get (D := D) hx hb hts inlX12 hown hK hP 55 (jc_55 cI cL ad σ57 τ) rfl 36 (by decide) (hts _ kw_7_21) (fun _ h9 => h9) rfl dX12_rule_163 ?_
                  refine lv_aload_n hx hb dX12_rule_166 rfl (lv_at hl 2 rfl) ?_
                  refine va_get (D := D) hx hb hts inlX12 hown hK hP 55 (jc_55 cI cL ad σ57 τ) rfl 32 (by decide) (hts _ kw_25_1) (fun _ h9 => h9) rfl dX12_rule_167 ?_
                  have m58 : σ57 55 32 = (σ 55 32) := ((congrFun (jnp 55 eσ57 (by decide)) 32).trans m56)
                  refine jtopr m58 ?_
                  refine lv_iload_n hx hb dX12_rule_170 rfl (lv_at hl 5 rfl) ?_
                  refine jast hx hb hK hP hJ hA hS (jc_73 cI cL ad σ57 τ) (ja_73 cI cL ad σ57 τ _ _) (jin rfl (by omega) (by omega)) dX12_rule_171 (fun σ59 H locs eσ59 hP hS => ?_)
                  refine lv_aload_n hx hb dX12_rule_172 rfl (lv_at hl 2 rfl) ?_
                  refine lv_dup hx hb dX12_rule_173 rfl ?_
                  refine va_get (D := D) hx hb hts inlX12 hown hK hP 55 (jc_55 cI cL ad σ59 τ) rfl 32 (by decide) (hts _ kw_25_1) (fun _ h9 => h9) rfl dX12_rule_174 ?_
                  have m60 : σ59 55 32 = (σ 55 32) := ((congrFun (jnp 55 eσ59 (by decide)) 32).trans m58)
                  refine jtopr m60 ?_
                  refine lv_iconst (v := 1) hx hb dX12_rule_177 (by decide) ?_
                  have g61 := jrg (rfl : (σ 55 32).toInt = (σ 55 32).toInt)
                  refine lv_iadd hx hb dX12_rule_178 ?_
                  refine lv_topi (fun x62 ex62 => ?_)
                  have tx62 : x62.toInt = (σ 55 32).toInt + 1 := (jadd ex62 rfl jz_1 (by omega) (by omega)).trans (by omega)
                  refine jput (ty := .int) hx hb hts inlX12 tyX12 tyX12_ok nmX12 hown hK hP hJ hA hS (jc_55 cI cL ad σ59 τ) rfl (k := 32) (by decide) (Nat.le_of_ble_eq_true rfl) (jp_55_32 cI cL ad σ59 τ x62) (hts _ kw_25_1) (fun _ h9 => h9) rfl (by decide +kernel) rfl rfl dX12_rule_179 (fun σ63 H locs eσ63 hP hS => ?_)
                  refine lv_aload_n hx hb dX12_rule_182 rfl (lv_at hl 2 rfl) ?_
                  refine va_get (D := D) hx hb hts inlX12 hown hK hP 55 (jc_55 cI cL ad σ63 τ) rfl 32 (by decide) (hts _ kw_25_1) (fun _ h9 => h9) rfl dX12_rule_183 ?_
                  have m64 : σ63 55 32 = x62 := (jsp eσ63)
                  refine jtopr m64 ?_
                  refine lv_iconst (v := 1) hx hb dX12_rule_186 (by decide) ?_
                  refine lv_isub hx hb dX12_rule_187 ?_
                  refine lv_topi (fun x65 ex65 => ?_)
                  have tx65 : x65.toInt = (σ 55 32).toInt := (jsub ex65 tx62 jz_1 (by omega) (by omega)).trans (by omega)
                  have z66 : (σ63 55 32).toInt = (σ 55 32).toInt + 1 := ((congrArg Int32.toInt (show σ63 55 32 = x62 from m64)).trans tx62)
                  have w67 : ∀ k : Nat, k < 20 → 0 ≤ (σ63 70 k).toInt ∧ (σ63 70 k).toInt ≤ 6 := (jrr_fr (jnp 70 eσ63 (by decide)) (jrr_fr (jnp 70 eσ59 (by decide)) (jrr_fr (jnp 70 eσ57 (by decide)) (by rw [eσ55]; exact jrr_up w49 (by have h9 := t1; omega) (by have h9 := t1; omega)))))
                  have w68 : ∀ k : Nat, k < 20 → 0 ≤ (σ63 71 k).toInt ∧ (σ63 71 k).toInt ≤ 8 := (jrr_fr (jnp 71 eσ63 (by decide)) (jrr_fr (jnp 71 eσ59 (by decide)) (by rw [eσ57]; exact jrr_up (jrr_fr (jnp 71 eσ55 (by decide)) w50) (by omega) (by omega))))
                  have w69 : ∀ k : Nat, k < 160 → 0 ≤ (σ63 72 k).toInt ∧ (σ63 72 k).toInt ≤ 3 := (jrr_fr (jnp 72 eσ63 (by decide)) (jrr_fr (jnp 72 eσ59 (by decide)) (jrr_fr (jnp 72 eσ57 (by decide)) (jrr_fr (jnp 72 eσ55 (by decide)) w51))))
                  have I70 : jI106 σ63 := ⟨(by omega), w67, w68, w69⟩
                  exact hret x65 σ63 τ _ _ _ _ rfl ⟨rfl, (fun i hi => ((jnp i eσ63 (imp_249 i hi)).trans ((jnp i eσ59 (imp_250 i hi)).trans ((jnp i eσ57 (imp_251 i hi)).trans ((jnp i eσ55 (imp_252 i hi)).trans (f45 i (imp_253 i hi))))))), (fun i hi => ((jkp i eσ63 (imp_254 i hi)).trans ((congrFun (jnp 55 eσ59 (by decide)) i).trans ((congrFun (jnp 55 eσ57 (by decide)) i).trans ((congrFun (jnp 55 eσ55 (by decide)) i).trans (congrFun (f45 55 (by decide)) i)))))), I70, Or.inr (Or.inr (⟨trivial, (by have h9 := tx65; omega), (by have h9 := tx65; omega), (by have h9 := tx65; omega), ⟨by omega, by omega, q30.1, by omega, by omega⟩, (by rw [eσ63, jup_n (by decide), eσ59, jup_n (by decide), eσ57, jup_n (by decide), eσ55, jup_row, f45 70 (by decide), jnc (show (σ 55 32).toInt = (σ 55 32).toInt by omega)])⟩))⟩ hP hS dX12_rule_188
                · have kc53 := jnlt c53 rfl jz_0
                  have g71 := jDn_step (by omega) q47
                  have k72 := g71.1
                  have k73 := g71.2.1
                  refine lv_aload_n hx hb dX12_rule_106 rfl (lv_at hl 2 rfl) ?_
                  refine va_get (D := D) hx hb hts inlX12 hown hK hP 55 (jc_55 cI cL ad σ38 τ) rfl 35 (by decide) (hts _ kw_7_20) (fun _ h9 => h9) rfl dX12_rule_107 ?_
                  refine lv_bipush (v := 8) hx hb dX12_rule_110 (by decide) ?_
                  refine lv_aload_n hx hb dX12_rule_112 rfl (lv_at hl 2 rfl) ?_
                  refine va_get (D := D) hx hb hts inlX12 hown hK hP 55 (jc_55 cI cL ad σ38 τ) rfl 32 (by decide) (hts _ kw_25_1) (fun _ h9 => h9) rfl dX12_rule_113 ?_
                  have m74 : σ38 55 32 = (σ 55 32) := (congrFun (f45 55 (by decide)) 32)
                  refine jtopr m74 ?_
                  have g75 := jrg (rfl : (σ 55 32).toInt = (σ 55 32).toInt)
                  refine lv_imul hx hb dX12_rule_116 ?_
                  refine lv_topi (fun x76 ex76 => ?_)
                  have tx76 : x76.toInt = 8 * (σ 55 32).toInt := (jmul ex76 jz_8 rfl (by omega) (by omega)).trans (by omega)
                  refine lv_iload hx hb dX12_rule_117 (lv_at hl 0 rfl) ?_
                  have g77 := jrg (rfl : x37.toInt = x37.toInt)
                  refine lv_iadd hx hb dX12_rule_119 ?_
                  refine lv_topi (fun x78 ex78 => ?_)
                  have tx78 : x78.toInt = 8 * (σ 55 32).toInt + x37.toInt := (jadd ex78 tx76 rfl (by omega) (by omega)).trans (by omega)
                  refine lv_iload hx hb dX12_rule_120 (lv_at hl 1 rfl) ?_
                  refine lv_bipush (v := 10) hx hb dX12_rule_122 (by decide) ?_
                  refine lv_irem hx hb dX12_rule_124 (by decide) ?_
                  refine lv_topi (fun x79 ex79 => ?_)
                  have tx79 : x79.toInt = (x36.toInt % 10) := jrem ex79 rfl jz_10 (by omega)
                  refine lv_iconst (v := 1) hx hb dX12_rule_125 (by decide) ?_
                  refine lv_isub hx hb dX12_rule_126 ?_
                  refine lv_topi (fun x80 ex80 => ?_)
                  have tx80 : x80.toInt = (x36.toInt % 10) - 1 := (jsub ex80 tx79 jz_1 (by omega) (by omega)).trans (by omega)
                  refine jast hx hb hK hP hJ hA hS (jc_72 cI cL ad σ38 τ) (ja_72 cI cL ad σ38 τ _ _) (jin tx78 (by omega) (by omega)) dX12_rule_127 (fun σ81 H locs eσ81 hP hS => ?_)
                  refine lv_iload hx hb dX12_rule_128 (lv_at hl 1 rfl) ?_
                  refine lv_bipush (v := 10) hx hb dX12_rule_130 (by decide) ?_
                  refine lv_idiv hx hb dX12_rule_132 (by decide) ?_
                  refine lv_topi (fun x82 ex82 => ?_)
                  have tx82 : x82.toInt = (x36.toInt / 10) := jdiv ex82 rfl jz_10 (by omega) (by omega)
                  refine lv_istore (lv' := [(5, .int x82), (6, .int x37), (0, .ref (ad 55)), (1, .int a1), (2, .int a2), (3, .int a3), (4, .int x25)]) hx hb dX12_rule_133 hl (by decide) rfl (fun ls hl => ?_)
                  obtain ⟨x83, ex83⟩ : ∃ y : Int32, y = x37 + (-1) := ⟨_, rfl⟩
                  have tx83 : x83.toInt = x37.toInt - 1 := (jadd ex83 rfl jz_m1 (by omega) (by omega)).trans (by omega)
                  refine lv_iinc (v := x83) (lv' := [(6, .int x83), (5, .int x82), (0, .ref (ad 55)), (1, .int a1), (2, .int a2), (3, .int a3), (4, .int x25)]) hx hb dX12_rule_135 hl (k := 1) rfl (by rw [ex83]; rfl) (by decide) rfl (fun ls hl => ?_)
                  refine lv_goto (tgt := 101) hx hb dX12_rule_138 (by decide) ?_
                  have z84 : (σ81 55 32).toInt = (σ 55 32).toInt := (congrArg Int32.toInt (show σ81 55 32 = (σ 55 32) from ((congrFun (jnp 55 eσ81 (by decide)) 32).trans m74)))
                  have w85 : ∀ k : Nat, k < 20 → 0 ≤ (σ81 70 k).toInt ∧ (σ81 70 k).toInt ≤ 6 := (jrr_fr (jnp 70 eσ81 (by decide)) w49)
                  have w86 : ∀ k : Nat, k < 20 → 0 ≤ (σ81 71 k).toInt ∧ (σ81 71 k).toInt ≤ 8 := (jrr_fr (jnp 71 eσ81 (by decide)) w50)
                  have w87 : ∀ k : Nat, k < 160 → 0 ≤ (σ81 72 k).toInt ∧ (σ81 72 k).toInt ≤ 3 := (by rw [eσ81]; exact jrr_up w51 (by have h9 := tx80; omega) (by have h9 := tx80; omega))
                  have I88 : jI106 σ81 := ⟨(by omega), w85, w86, w87⟩
                  exact ihlp34 x82 x83 σ81 _ _ ls (by have h90 := tx82; have h91 := tx83; omega) (by have h90 := tx82; have h91 := tx83; omega) (by have h90 := tx82; have h91 := tx83; omega) (by have h90 := tx82; have h91 := tx83; omega) (by have h90 := tx82; have h91 := tx83; omega) (fun i hi => ((jnp i eσ81 (imp_255 i hi)).trans (f45 i hi)))   I88 (jDn_eq2 g71.2.2 (by have h90 := tx82; have h91 := tx83; omega) (by have h90 := tx82; have h91 := tx83; omega)) hP hS (lv_sub hl [0, 1, 2, 3, 4, 5, 6] rfl)
            exact lp34 1000000 a2 x33 σ _ _ ls (by have h90 := t2; have h91 := tx33; omega) (by have h90 := t2; have h91 := tx33; omega) (by have h90 := t2; have h91 := tx33; omega) (by have h90 := t2; have h91 := tx33; omega) (by have h90 := t2; have h91 := tx33; omega) (fun _ _ => rfl)  hI106 (jDn_eq2 q30.2 (by have h90 := t2; have h91 := tx33; omega) (by have h90 := t2; have h91 := tx33; omega)) hP hS hl
          · have kc31 := jeq c31 rfl jz_20
            refine lv_bipush (v := (-3)) hx hb dX12_rule_89 (by decide) ?_
            exact hret (-3) σ τ _ _ _ _ rfl ⟨rfl, (fun _ _ => rfl), (fun _ _ => rfl), hI106, Or.inr (Or.inl ⟨rfl, (by have h9 := jz_m3; omega), (by have h9 := jz_m3; omega), ⟨by omega, by omega, q30.1, by omega, by omega⟩, rfl⟩)⟩ hP hS dX12_rule_91
        refine lv_iconst (v := 0) hx hb dX12_rule_38 (by decide) ?_
        refine lv_istore (lv' := [(4, .int 0), (0, .ref (ad 55)), (1, .int a1), (2, .int a2), (3, .int a3)]) hx hb dX12_rule_39 hl (by decide) rfl (fun ls hl => ?_)
        refine lv_iload_n hx hb dX12_rule_41 rfl (lv_at hl 3 rfl) ?_
        refine lv_istore (lv' := [(5, .int a2), (4, .int 0), (0, .ref (ad 55)), (1, .int a1), (2, .int a2), (3, .int a3)]) hx hb dX12_rule_42 hl (by decide) rfl (fun ls hl => ?_)
        refine lv_iload hx hb dX12_rule_44 (lv_at hl 0 rfl) ?_
        refine lv_if_le (tgt := 80) hx hb dX12_rule_46 (by decide) (fun c89 => ?_) (fun c89 => ?_)
        · have kc89 := jle c89 t2 jz_0
          exact lp23 0 _ _ ls (by have h90 := jz_0; omega) (by have h90 := jz_0; omega)   ⟨(by unfold jRow; simp only [jDig, and_true]; omega), (show jDn 0 (A2) from by simp only [jDn]; omega)⟩ hP hS (lv_sub hl [2, 3, 4, 5, 1] rfl)
        · have kc89 := jnle c89 t2 jz_0
          refine lv_iload hx hb dX12_rule_49 (lv_at hl 0 rfl) ?_
          refine lv_bipush (v := 10) hx hb dX12_rule_51 (by decide) ?_
          refine lv_irem hx hb dX12_rule_53 (by decide) ?_
          refine lv_topi (fun x90 ex90 => ?_)
          have tx90 : x90.toInt = (A2 % 10) := jrem ex90 t2 jz_10 (by omega)
          refine lv_i2l (v := x90.toInt64) hx hb dX12_rule_54 rfl ?_
          refine lv_lconst (v := 1) hx hb dX12_rule_55 (by decide) ?_
          refine lv_ldc2 (v := 4) hx hb hown (hts _ kw_13_5) dX12_rule_56 ?_
          refine jcallS (As := [.long x90.toInt64, .long 1, .long 4]) (rest := []) ⟨hx, hb, hml, hown, hts⟩ hK hP hA hS hZ (c_X12_within l D cI cL ad zz hJ σ τ x90.toInt64 ((A2 % 10)) (jtoL tx90) 1 (1) jzl_1 4 (4) jzl_4) cw_RX12_136 ⟨Nat.le_of_ble_eq_true rfl, Nat.le_of_ble_eq_true rfl⟩ rfl rfl rfl hl.1 rfl (Nat.le_of_ble_eq_true rfl) dX12_rule_59 ⟨Nat.zero_le _, Nat.zero_le _⟩ (fun r92 σ91 τ91 H locs h91 hP hS => ?_)
          obtain ⟨⟨rfl, rfl⟩, h91⟩ := h91
          rcases h91 with h93 | h94
          · obtain ⟨q96, k95⟩ := h93
            have q96 := q96.symm
            subst q96
            refine lv_if_ne (tgt := 67) hx hb dX12_rule_62 (by decide) (fun _ => ?_) (fun c => absurd c (by decide))
            refine lv_iinc (v := 1) (lv' := [(4, .int 1), (5, .int a2), (0, .ref (ad 55)), (1, .int a1), (2, .int a2), (3, .int a3)]) hx hb dX12_rule_67 hl (k := 1) rfl (by decide) (by decide) rfl (fun ls hl => ?_)
            refine lv_iload hx hb dX12_rule_70 (lv_at hl 1 rfl) ?_
            refine lv_bipush (v := 10) hx hb dX12_rule_72 (by decide) ?_
            refine lv_idiv hx hb dX12_rule_74 (by decide) ?_
            refine lv_topi (fun x97 ex97 => ?_)
            have tx97 : x97.toInt = (A2 / 10) := jdiv ex97 t2 jz_10 (by omega) (by omega)
            refine lv_istore (lv' := [(5, .int x97), (4, .int 1), (0, .ref (ad 55)), (1, .int a1), (2, .int a2), (3, .int a3)]) hx hb dX12_rule_75 hl (by decide) rfl (fun ls hl => ?_)
            refine lv_goto (tgt := 44) hx hb dX12_rule_77 (by decide) ?_
            refine lv_iload hx hb dX12_rule_44 (lv_at hl 0 rfl) ?_
            refine lv_if_le (tgt := 80) hx hb dX12_rule_46 (by decide) (fun c98 => ?_) (fun c98 => ?_)
            · have kc98 := jle c98 tx97 jz_0
              exact lp23 1 _ _ ls (by have h90 := jz_1; omega) (by have h90 := jz_1; omega)   ⟨(by unfold jRow; simp only [jDig, and_true]; omega), (show jDn 1 (A2) from by simp only [jDn]; omega)⟩ hP hS (lv_sub hl [2, 3, 4, 5, 1] rfl)
            · have kc98 := jnle c98 tx97 jz_0
              refine lv_iload hx hb dX12_rule_49 (lv_at hl 0 rfl) ?_
              refine lv_bipush (v := 10) hx hb dX12_rule_51 (by decide) ?_
              refine lv_irem hx hb dX12_rule_53 (by decide) ?_
              refine lv_topi (fun x99 ex99 => ?_)
              have tx99 : x99.toInt = (((A2 / 10)) % 10) := jrem ex99 tx97 jz_10 (by omega)
              refine lv_i2l (v := x99.toInt64) hx hb dX12_rule_54 rfl ?_
              refine lv_lconst (v := 1) hx hb dX12_rule_55 (by decide) ?_
              refine lv_ldc2 (v := 4) hx hb hown (hts _ kw_13_5) dX12_rule_56 ?_
              refine jcallS (As := [.long x99.toInt64, .long 1, .long 4]) (rest := []) ⟨hx, hb, hml, hown, hts⟩ hK hP hA hS hZ (c_X12_within l D cI cL ad zz hJ σ τ x99.toInt64 ((((A2 / 10)) % 10)) (jtoL tx99) 1 (1) jzl_1 4 (4) jzl_4) cw_RX12_136 ⟨Nat.le_of_ble_eq_true rfl, Nat.le_of_ble_eq_true rfl⟩ rfl rfl rfl hl.1 rfl (Nat.le_of_ble_eq_true rfl) dX12_rule_59 ⟨Nat.zero_le _, Nat.zero_le _⟩ (fun r101 σ100 τ100 H locs h100 hP hS => ?_)
              obtain ⟨⟨rfl, rfl⟩, h100⟩ := h100
              rcases h100 with h102 | h103
              · obtain ⟨q105, k104⟩ := h102
                have q105 := q105.symm
                subst q105
                refine lv_if_ne (tgt := 67) hx hb dX12_rule_62 (by decide) (fun _ => ?_) (fun c => absurd c (by decide))
                refine lv_iinc (v := 2) (lv' := [(4, .int 2), (5, .int x97), (0, .ref (ad 55)), (1, .int a1), (2, .int a2), (3, .int a3)]) hx hb dX12_rule_67 hl (k := 1) rfl (by decide) (by decide) rfl (fun ls hl => ?_)
                refine lv_iload hx hb dX12_rule_70 (lv_at hl 1 rfl) ?_
                refine lv_bipush (v := 10) hx hb dX12_rule_72 (by decide) ?_
                refine lv_idiv hx hb dX12_rule_74 (by decide) ?_
                refine lv_topi (fun x106 ex106 => ?_)
                have tx106 : x106.toInt = (((A2 / 10)) / 10) := jdiv ex106 tx97 jz_10 (by omega) (by omega)
                refine lv_istore (lv' := [(5, .int x106), (4, .int 2), (0, .ref (ad 55)), (1, .int a1), (2, .int a2), (3, .int a3)]) hx hb dX12_rule_75 hl (by decide) rfl (fun ls hl => ?_)
                refine lv_goto (tgt := 44) hx hb dX12_rule_77 (by decide) ?_
                refine lv_iload hx hb dX12_rule_44 (lv_at hl 0 rfl) ?_
                refine lv_if_le (tgt := 80) hx hb dX12_rule_46 (by decide) (fun c107 => ?_) (fun c107 => ?_)
                · have kc107 := jle c107 tx106 jz_0
                  exact lp23 2 _ _ ls (by have h90 := jz_2; omega) (by have h90 := jz_2; omega)   ⟨(by unfold jRow; simp only [jDig, and_true]; omega), (show jDn 2 (A2) from by simp only [jDn]; omega)⟩ hP hS (lv_sub hl [2, 3, 4, 5, 1] rfl)
                · have kc107 := jnle c107 tx106 jz_0
                  refine lv_iload hx hb dX12_rule_49 (lv_at hl 0 rfl) ?_
                  refine lv_bipush (v := 10) hx hb dX12_rule_51 (by decide) ?_
                  refine lv_irem hx hb dX12_rule_53 (by decide) ?_
                  refine lv_topi (fun x108 ex108 => ?_)
                  have tx108 : x108.toInt = (((((A2 / 10)) / 10)) % 10) := jrem ex108 tx106 jz_10 (by omega)
                  refine lv_i2l (v := x108.toInt64) hx hb dX12_rule_54 rfl ?_
                  refine lv_lconst (v := 1) hx hb dX12_rule_55 (by decide) ?_
                  refine lv_ldc2 (v := 4) hx hb hown (hts _ kw_13_5) dX12_rule_56 ?_
                  refine jcallS (As := [.long x108.toInt64, .long 1, .long 4]) (rest := []) ⟨hx, hb, hml, hown, hts⟩ hK hP hA hS hZ (c_X12_within l D cI cL ad zz hJ σ τ x108.toInt64 ((((((A2 / 10)) / 10)) % 10)) (jtoL tx108) 1 (1) jzl_1 4 (4) jzl_4) cw_RX12_136 ⟨Nat.le_of_ble_eq_true rfl, Nat.le_of_ble_eq_true rfl⟩ rfl rfl rfl hl.1 rfl (Nat.le_of_ble_eq_true rfl) dX12_rule_59 ⟨Nat.zero_le _, Nat.zero_le _⟩ (fun r110 σ109 τ109 H locs h109 hP hS => ?_)
                  obtain ⟨⟨rfl, rfl⟩, h109⟩ := h109
                  rcases h109 with h111 | h112
                  · obtain ⟨q114, k113⟩ := h111
                    have q114 := q114.symm
                    subst q114
                    refine lv_if_ne (tgt := 67) hx hb dX12_rule_62 (by decide) (fun _ => ?_) (fun c => absurd c (by decide))
                    refine lv_iinc (v := 3) (lv' := [(4, .int 3), (5, .int x106), (0, .ref (ad 55)), (1, .int a1), (2, .int a2), (3, .int a3)]) hx hb dX12_rule_67 hl (k := 1) rfl (by decide) (by decide) rfl (fun ls hl => ?_)
                    refine lv_iload hx hb dX12_rule_70 (lv_at hl 1 rfl) ?_
                    refine lv_bipush (v := 10) hx hb dX12_rule_72 (by decide) ?_
                    refine lv_idiv hx hb dX12_rule_74 (by decide) ?_
                    refine lv_topi (fun x115 ex115 => ?_)
                    have tx115 : x115.toInt = (((((A2 / 10)) / 10)) / 10) := jdiv ex115 tx106 jz_10 (by omega) (by omega)
                    refine lv_istore (lv' := [(5, .int x115), (4, .int 3), (0, .ref (ad 55)), (1, .int a1), (2, .int a2), (3, .int a3)]) hx hb dX12_rule_75 hl (by decide) rfl (fun ls hl => ?_)
                    refine lv_goto (tgt := 44) hx hb dX12_rule_77 (by decide) ?_
                    refine lv_iload hx hb dX12_rule_44 (lv_at hl 0 rfl) ?_
                    refine lv_if_le (tgt := 80) hx hb dX12_rule_46 (by decide) (fun c116 => ?_) (fun c116 => ?_)
                    · have kc116 := jle c116 tx115 jz_0
                      exact lp23 3 _ _ ls (by have h90 := jz_3; omega) (by have h90 := jz_3; omega)   ⟨(by unfold jRow; simp only [jDig, and_true]; omega), (show jDn 3 (A2) from by simp only [jDn]; omega)⟩ hP hS (lv_sub hl [2, 3, 4, 5, 1] rfl)
                    · have kc116 := jnle c116 tx115 jz_0
                      refine lv_iload hx hb dX12_rule_49 (lv_at hl 0 rfl) ?_
                      refine lv_bipush (v := 10) hx hb dX12_rule_51 (by decide) ?_
                      refine lv_irem hx hb dX12_rule_53 (by decide) ?_
                      refine lv_topi (fun x117 ex117 => ?_)
                      have tx117 : x117.toInt = (((((((A2 / 10)) / 10)) / 10)) % 10) := jrem ex117 tx115 jz_10 (by omega)
                      refine lv_i2l (v := x117.toInt64) hx hb dX12_rule_54 rfl ?_
                      refine lv_lconst (v := 1) hx hb dX12_rule_55 (by decide) ?_
                      refine lv_ldc2 (v := 4) hx hb hown (hts _ kw_13_5) dX12_rule_56 ?_
                      refine jcallS (As := [.long x117.toInt64, .long 1, .long 4]) (rest := []) ⟨hx, hb, hml, hown, hts⟩ hK hP hA hS hZ (c_X12_within l D cI cL ad zz hJ σ τ x117.toInt64 ((((((((A2 / 10)) / 10)) / 10)) % 10)) (jtoL tx117) 1 (1) jzl_1 4 (4) jzl_4) cw_RX12_136 ⟨Nat.le_of_ble_eq_true rfl, Nat.le_of_ble_eq_true rfl⟩ rfl rfl rfl hl.1 rfl (Nat.le_of_ble_eq_true rfl) dX12_rule_59 ⟨Nat.zero_le _, Nat.zero_le _⟩ (fun r119 σ118 τ118 H locs h118 hP hS => ?_)
                      obtain ⟨⟨rfl, rfl⟩, h118⟩ := h118
                      rcases h118 with h120 | h121
                      · obtain ⟨q123, k122⟩ := h120
                        have q123 := q123.symm
                        subst q123
                        refine lv_if_ne (tgt := 67) hx hb dX12_rule_62 (by decide) (fun _ => ?_) (fun c => absurd c (by decide))
                        refine lv_iinc (v := 4) (lv' := [(4, .int 4), (5, .int x115), (0, .ref (ad 55)), (1, .int a1), (2, .int a2), (3, .int a3)]) hx hb dX12_rule_67 hl (k := 1) rfl (by decide) (by decide) rfl (fun ls hl => ?_)
                        refine lv_iload hx hb dX12_rule_70 (lv_at hl 1 rfl) ?_
                        refine lv_bipush (v := 10) hx hb dX12_rule_72 (by decide) ?_
                        refine lv_idiv hx hb dX12_rule_74 (by decide) ?_
                        refine lv_topi (fun x124 ex124 => ?_)
                        have tx124 : x124.toInt = (((((((A2 / 10)) / 10)) / 10)) / 10) := jdiv ex124 tx115 jz_10 (by omega) (by omega)
                        refine lv_istore (lv' := [(5, .int x124), (4, .int 4), (0, .ref (ad 55)), (1, .int a1), (2, .int a2), (3, .int a3)]) hx hb dX12_rule_75 hl (by decide) rfl (fun ls hl => ?_)
                        refine lv_goto (tgt := 44) hx hb dX12_rule_77 (by decide) ?_
                        refine lv_iload hx hb dX12_rule_44 (lv_at hl 0 rfl) ?_
                        refine lv_if_le (tgt := 80) hx hb dX12_rule_46 (by decide) (fun c125 => ?_) (fun c125 => ?_)
                        · have kc125 := jle c125 tx124 jz_0
                          exact lp23 4 _ _ ls (by have h90 := jz_4; omega) (by have h90 := jz_4; omega)   ⟨(by unfold jRow; simp only [jDig, and_true]; omega), (show jDn 4 (A2) from by simp only [jDn]; omega)⟩ hP hS (lv_sub hl [2, 3, 4, 5, 1] rfl)
                        · have kc125 := jnle c125 tx124 jz_0
                          refine lv_iload hx hb dX12_rule_49 (lv_at hl 0 rfl) ?_
                          refine lv_bipush (v := 10) hx hb dX12_rule_51 (by decide) ?_
                          refine lv_irem hx hb dX12_rule_53 (by decide) ?_
                          refine lv_topi (fun x126 ex126 => ?_)
                          have tx126 : x126.toInt = (((((((((A2 / 10)) / 10)) / 10)) / 10)) % 10) := jrem ex126 tx124 jz_10 (by omega)
                          refine lv_i2l (v := x126.toInt64) hx hb dX12_rule_54 rfl ?_
                          refine lv_lconst (v := 1) hx hb dX12_rule_55 (by decide) ?_
                          refine lv_ldc2 (v := 4) hx hb hown (hts _ kw_13_5) dX12_rule_56 ?_
                          refine jcallS (As := [.long x126.toInt64, .long 1, .long 4]) (rest := []) ⟨hx, hb, hml, hown, hts⟩ hK hP hA hS hZ (c_X12_within l D cI cL ad zz hJ σ τ x126.toInt64 ((((((((((A2 / 10)) / 10)) / 10)) / 10)) % 10)) (jtoL tx126) 1 (1) jzl_1 4 (4) jzl_4) cw_RX12_136 ⟨Nat.le_of_ble_eq_true rfl, Nat.le_of_ble_eq_true rfl⟩ rfl rfl rfl hl.1 rfl (Nat.le_of_ble_eq_true rfl) dX12_rule_59 ⟨Nat.zero_le _, Nat.zero_le _⟩ (fun r128 σ127 τ127 H locs h127 hP hS => ?_)
                          obtain ⟨⟨rfl, rfl⟩, h127⟩ := h127
                          rcases h127 with h129 | h130
                          · obtain ⟨q132, k131⟩ := h129
                            have q132 := q132.symm
                            subst q132
                            refine lv_if_ne (tgt := 67) hx hb dX12_rule_62 (by decide) (fun _ => ?_) (fun c => absurd c (by decide))
                            refine lv_iinc (v := 5) (lv' := [(4, .int 5), (5, .int x124), (0, .ref (ad 55)), (1, .int a1), (2, .int a2), (3, .int a3)]) hx hb dX12_rule_67 hl (k := 1) rfl (by decide) (by decide) rfl (fun ls hl => ?_)
                            refine lv_iload hx hb dX12_rule_70 (lv_at hl 1 rfl) ?_
                            refine lv_bipush (v := 10) hx hb dX12_rule_72 (by decide) ?_
                            refine lv_idiv hx hb dX12_rule_74 (by decide) ?_
                            refine lv_topi (fun x133 ex133 => ?_)
                            have tx133 : x133.toInt = (((((((((A2 / 10)) / 10)) / 10)) / 10)) / 10) := jdiv ex133 tx124 jz_10 (by omega) (by omega)
                            refine lv_istore (lv' := [(5, .int x133), (4, .int 5), (0, .ref (ad 55)), (1, .int a1), (2, .int a2), (3, .int a3)]) hx hb dX12_rule_75 hl (by decide) rfl (fun ls hl => ?_)
                            refine lv_goto (tgt := 44) hx hb dX12_rule_77 (by decide) ?_
                            refine lv_iload hx hb dX12_rule_44 (lv_at hl 0 rfl) ?_
                            refine lv_if_le (tgt := 80) hx hb dX12_rule_46 (by decide) (fun c134 => ?_) (fun c134 => ?_)
                            · have kc134 := jle c134 tx133 jz_0
                              exact lp23 5 _ _ ls (by have h90 := jz_5; omega) (by have h90 := jz_5; omega)   ⟨(by unfold jRow; simp only [jDig, and_true]; omega), (show jDn 5 (A2) from by simp only [jDn]; omega)⟩ hP hS (lv_sub hl [2, 3, 4, 5, 1] rfl)
                            · have kc134 := jnle c134 tx133 jz_0
                              refine lv_iload hx hb dX12_rule_49 (lv_at hl 0 rfl) ?_
                              refine lv_bipush (v := 10) hx hb dX12_rule_51 (by decide) ?_
                              refine lv_irem hx hb dX12_rule_53 (by decide) ?_
                              refine lv_topi (fun x135 ex135 => ?_)
                              have tx135 : x135.toInt = (((((((((((A2 / 10)) / 10)) / 10)) / 10)) / 10)) % 10) := jrem ex135 tx133 jz_10 (by omega)
                              refine lv_i2l (v := x135.toInt64) hx hb dX12_rule_54 rfl ?_
                              refine lv_lconst (v := 1) hx hb dX12_rule_55 (by decide) ?_
                              refine lv_ldc2 (v := 4) hx hb hown (hts _ kw_13_5) dX12_rule_56 ?_
                              refine jcallS (As := [.long x135.toInt64, .long 1, .long 4]) (rest := []) ⟨hx, hb, hml, hown, hts⟩ hK hP hA hS hZ (c_X12_within l D cI cL ad zz hJ σ τ x135.toInt64 ((((((((((((A2 / 10)) / 10)) / 10)) / 10)) / 10)) % 10)) (jtoL tx135) 1 (1) jzl_1 4 (4) jzl_4) cw_RX12_136 ⟨Nat.le_of_ble_eq_true rfl, Nat.le_of_ble_eq_true rfl⟩ rfl rfl rfl hl.1 rfl (Nat.le_of_ble_eq_true rfl) dX12_rule_59 ⟨Nat.zero_le _, Nat.zero_le _⟩ (fun r137 σ136 τ136 H locs h136 hP hS => ?_)
                              obtain ⟨⟨rfl, rfl⟩, h136⟩ := h136
                              rcases h136 with h138 | h139
                              · obtain ⟨q141, k140⟩ := h138
                                have q141 := q141.symm
                                subst q141
                                refine lv_if_ne (tgt := 67) hx hb dX12_rule_62 (by decide) (fun _ => ?_) (fun c => absurd c (by decide))
                                refine lv_iinc (v := 6) (lv' := [(4, .int 6), (5, .int x133), (0, .ref (ad 55)), (1, .int a1), (2, .int a2), (3, .int a3)]) hx hb dX12_rule_67 hl (k := 1) rfl (by decide) (by decide) rfl (fun ls hl => ?_)
                                refine lv_iload hx hb dX12_rule_70 (lv_at hl 1 rfl) ?_
                                refine lv_bipush (v := 10) hx hb dX12_rule_72 (by decide) ?_
                                refine lv_idiv hx hb dX12_rule_74 (by decide) ?_
                                refine lv_topi (fun x142 ex142 => ?_)
                                have tx142 : x142.toInt = (((((((((((A2 / 10)) / 10)) / 10)) / 10)) / 10)) / 10) := jdiv ex142 tx133 jz_10 (by omega) (by omega)
                                refine lv_istore (lv' := [(5, .int x142), (4, .int 6), (0, .ref (ad 55)), (1, .int a1), (2, .int a2), (3, .int a3)]) hx hb dX12_rule_75 hl (by decide) rfl (fun ls hl => ?_)
                                refine lv_goto (tgt := 44) hx hb dX12_rule_77 (by decide) ?_
                                refine lv_iload hx hb dX12_rule_44 (lv_at hl 0 rfl) ?_
                                refine lv_if_le (tgt := 80) hx hb dX12_rule_46 (by decide) (fun c143 => ?_) (fun c143 => ?_)
                                · have kc143 := jle c143 tx142 jz_0
                                  exact lp23 6 _ _ ls (by have h90 := jz_6; omega) (by have h90 := jz_6; omega)   ⟨(by unfold jRow; simp only [jDig, and_true]; omega), (show jDn 6 (A2) from by simp only [jDn]; omega)⟩ hP hS (lv_sub hl [2, 3, 4, 5, 1] rfl)
                                · have kc143 := jnle c143 tx142 jz_0
                                  refine lv_iload hx hb dX12_rule_49 (lv_at hl 0 rfl) ?_
                                  refine lv_bipush (v := 10) hx hb dX12_rule_51 (by decide) ?_
                                  refine lv_irem hx hb dX12_rule_53 (by decide) ?_
                                  refine lv_topi (fun x144 ex144 => ?_)
                                  have tx144 : x144.toInt = (((((((((((((A2 / 10)) / 10)) / 10)) / 10)) / 10)) / 10)) % 10) := jrem ex144 tx142 jz_10 (by omega)
                                  refine lv_i2l (v := x144.toInt64) hx hb dX12_rule_54 rfl ?_
                                  refine lv_lconst (v := 1) hx hb dX12_rule_55 (by decide) ?_
                                  refine lv_ldc2 (v := 4) hx hb hown (hts _ kw_13_5) dX12_rule_56 ?_
                                  refine jcallS (As := [.long x144.toInt64, .long 1, .long 4]) (rest := []) ⟨hx, hb, hml, hown, hts⟩ hK hP hA hS hZ (c_X12_within l D cI cL ad zz hJ σ τ x144.toInt64 ((((((((((((((A2 / 10)) / 10)) / 10)) / 10)) / 10)) / 10)) % 10)) (jtoL tx144) 1 (1) jzl_1 4 (4) jzl_4) cw_RX12_136 ⟨Nat.le_of_ble_eq_true rfl, Nat.le_of_ble_eq_true rfl⟩ rfl rfl rfl hl.1 rfl (Nat.le_of_ble_eq_true rfl) dX12_rule_59 ⟨Nat.zero_le _, Nat.zero_le _⟩ (fun r146 σ145 τ145 H locs h145 hP hS => ?_)
                                  obtain ⟨⟨rfl, rfl⟩, h145⟩ := h145
                                  rcases h145 with h147 | h148
                                  · obtain ⟨q150, k149⟩ := h147
                                    have q150 := q150.symm
                                    subst q150
                                    refine lv_if_ne (tgt := 67) hx hb dX12_rule_62 (by decide) (fun _ => ?_) (fun c => absurd c (by decide))
                                    refine lv_iinc (v := 7) (lv' := [(4, .int 7), (5, .int x142), (0, .ref (ad 55)), (1, .int a1), (2, .int a2), (3, .int a3)]) hx hb dX12_rule_67 hl (k := 1) rfl (by decide) (by decide) rfl (fun ls hl => ?_)
                                    refine lv_iload hx hb dX12_rule_70 (lv_at hl 1 rfl) ?_
                                    refine lv_bipush (v := 10) hx hb dX12_rule_72 (by decide) ?_
                                    refine lv_idiv hx hb dX12_rule_74 (by decide) ?_
                                    refine lv_topi (fun x151 ex151 => ?_)
                                    have tx151 : x151.toInt = (((((((((((((A2 / 10)) / 10)) / 10)) / 10)) / 10)) / 10)) / 10) := jdiv ex151 tx142 jz_10 (by omega) (by omega)
                                    refine lv_istore (lv' := [(5, .int x151), (4, .int 7), (0, .ref (ad 55)), (1, .int a1), (2, .int a2), (3, .int a3)]) hx hb dX12_rule_75 hl (by decide) rfl (fun ls hl => ?_)
                                    refine lv_goto (tgt := 44) hx hb dX12_rule_77 (by decide) ?_
                                    refine lv_iload hx hb dX12_rule_44 (lv_at hl 0 rfl) ?_
                                    refine lv_if_le (tgt := 80) hx hb dX12_rule_46 (by decide) (fun c152 => ?_) (fun c152 => ?_)
                                    · have kc152 := jle c152 tx151 jz_0
                                      exact lp23 7 _ _ ls (by have h90 := jz_7; omega) (by have h90 := jz_7; omega)   ⟨(by unfold jRow; simp only [jDig, and_true]; omega), (show jDn 7 (A2) from by simp only [jDn]; omega)⟩ hP hS (lv_sub hl [2, 3, 4, 5, 1] rfl)
                                    · have kc152 := jnle c152 tx151 jz_0
                                      refine lv_iload hx hb dX12_rule_49 (lv_at hl 0 rfl) ?_
                                      refine lv_bipush (v := 10) hx hb dX12_rule_51 (by decide) ?_
                                      refine lv_irem hx hb dX12_rule_53 (by decide) ?_
                                      refine lv_topi (fun x153 ex153 => ?_)
                                      have tx153 : x153.toInt = (((((((((((((((A2 / 10)) / 10)) / 10)) / 10)) / 10)) / 10)) / 10)) % 10) := jrem ex153 tx151 jz_10 (by omega)
                                      refine lv_i2l (v := x153.toInt64) hx hb dX12_rule_54 rfl ?_
                                      refine lv_lconst (v := 1) hx hb dX12_rule_55 (by decide) ?_
                                      refine lv_ldc2 (v := 4) hx hb hown (hts _ kw_13_5) dX12_rule_56 ?_
                                      refine jcallS (As := [.long x153.toInt64, .long 1, .long 4]) (rest := []) ⟨hx, hb, hml, hown, hts⟩ hK hP hA hS hZ (c_X12_within l D cI cL ad zz hJ σ τ x153.toInt64 ((((((((((((((((A2 / 10)) / 10)) / 10)) / 10)) / 10)) / 10)) / 10)) % 10)) (jtoL tx153) 1 (1) jzl_1 4 (4) jzl_4) cw_RX12_136 ⟨Nat.le_of_ble_eq_true rfl, Nat.le_of_ble_eq_true rfl⟩ rfl rfl rfl hl.1 rfl (Nat.le_of_ble_eq_true rfl) dX12_rule_59 ⟨Nat.zero_le _, Nat.zero_le _⟩ (fun r155 σ154 τ154 H locs h154 hP hS => ?_)
                                      obtain ⟨⟨rfl, rfl⟩, h154⟩ := h154
                                      rcases h154 with h156 | h157
                                      · obtain ⟨q159, k158⟩ := h156
                                        have q159 := q159.symm
                                        subst q159
                                        refine lv_if_ne (tgt := 67) hx hb dX12_rule_62 (by decide) (fun _ => ?_) (fun c => absurd c (by decide))
                                        refine lv_iinc (v := 8) (lv' := [(4, .int 8), (5, .int x151), (0, .ref (ad 55)), (1, .int a1), (2, .int a2), (3, .int a3)]) hx hb dX12_rule_67 hl (k := 1) rfl (by decide) (by decide) rfl (fun ls hl => ?_)
                                        refine lv_iload hx hb dX12_rule_70 (lv_at hl 1 rfl) ?_
                                        refine lv_bipush (v := 10) hx hb dX12_rule_72 (by decide) ?_
                                        refine lv_idiv hx hb dX12_rule_74 (by decide) ?_
                                        refine lv_topi (fun x160 ex160 => ?_)
                                        have tx160 : x160.toInt = (((((((((((((((A2 / 10)) / 10)) / 10)) / 10)) / 10)) / 10)) / 10)) / 10) := jdiv ex160 tx151 jz_10 (by omega) (by omega)
                                        refine lv_istore (lv' := [(5, .int x160), (4, .int 8), (0, .ref (ad 55)), (1, .int a1), (2, .int a2), (3, .int a3)]) hx hb dX12_rule_75 hl (by decide) rfl (fun ls hl => ?_)
                                        refine lv_goto (tgt := 44) hx hb dX12_rule_77 (by decide) ?_
                                        refine lv_iload hx hb dX12_rule_44 (lv_at hl 0 rfl) ?_
                                        refine lv_if_le (tgt := 80) hx hb dX12_rule_46 (by decide) (fun c161 => ?_) (fun c => absurd (jnle c tx160 jz_0) (by omega))
                                        have kc161 := jle c161 tx160 jz_0
                                        exact lp23 8 _ _ ls (by have h90 := jz_8; omega) (by have h90 := jz_8; omega)   ⟨(by unfold jRow; simp only [jDig, and_true]; omega), (show jDn 8 (A2) from by simp only [jDn]; omega)⟩ hP hS (lv_sub hl [2, 3, 4, 5, 1] rfl)
                                      · obtain ⟨q163, k162⟩ := h157
                                        exact absurd (by omega : False) id
                                  · obtain ⟨q165, k164⟩ := h148
                                    have q165 := q165.symm
                                    subst q165
                                    refine lv_if_ne (tgt := 67) hx hb dX12_rule_62 (by decide) (fun c => absurd (by decide) c) (fun _ => ?_)
                                    refine lv_iconst (v := (-1)) hx hb dX12_rule_65 (by decide) ?_
                                    exact hret (-1) σ τ _ _ _ _ rfl ⟨rfl, (fun _ _ => rfl), (fun _ _ => rfl), hI106, Or.inl ⟨rfl, (by have h9 := jz_m1; omega), (fun h => by unfold jRow at h; simp only [jDig, and_true] at h; omega), rfl⟩⟩ hP hS dX12_rule_66
                              · obtain ⟨q167, k166⟩ := h139
                                have q167 := q167.symm
                                subst q167
                                refine lv_if_ne (tgt := 67) hx hb dX12_rule_62 (by decide) (fun c => absurd (by decide) c) (fun _ => ?_)
                                refine lv_iconst (v := (-1)) hx hb dX12_rule_65 (by decide) ?_
                                exact hret (-1) σ τ _ _ _ _ rfl ⟨rfl, (fun _ _ => rfl), (fun _ _ => rfl), hI106, Or.inl ⟨rfl, (by have h9 := jz_m1; omega), (fun h => by unfold jRow at h; simp only [jDig, and_true] at h; omega), rfl⟩⟩ hP hS dX12_rule_66
                          · obtain ⟨q169, k168⟩ := h130
                            have q169 := q169.symm
                            subst q169
                            refine lv_if_ne (tgt := 67) hx hb dX12_rule_62 (by decide) (fun c => absurd (by decide) c) (fun _ => ?_)
                            refine lv_iconst (v := (-1)) hx hb dX12_rule_65 (by decide) ?_
                            exact hret (-1) σ τ _ _ _ _ rfl ⟨rfl, (fun _ _ => rfl), (fun _ _ => rfl), hI106, Or.inl ⟨rfl, (by have h9 := jz_m1; omega), (fun h => by unfold jRow at h; simp only [jDig, and_true] at h; omega), rfl⟩⟩ hP hS dX12_rule_66
                      · obtain ⟨q171, k170⟩ := h121
                        have q171 := q171.symm
                        subst q171
                        refine lv_if_ne (tgt := 67) hx hb dX12_rule_62 (by decide) (fun c => absurd (by decide) c) (fun _ => ?_)
                        refine lv_iconst (v := (-1)) hx hb dX12_rule_65 (by decide) ?_
                        exact hret (-1) σ τ _ _ _ _ rfl ⟨rfl, (fun _ _ => rfl), (fun _ _ => rfl), hI106, Or.inl ⟨rfl, (by have h9 := jz_m1; omega), (fun h => by unfold jRow at h; simp only [jDig, and_true] at h; omega), rfl⟩⟩ hP hS dX12_rule_66
                  · obtain ⟨q173, k172⟩ := h112
                    have q173 := q173.symm
                    subst q173
                    refine lv_if_ne (tgt := 67) hx hb dX12_rule_62 (by decide) (fun c => absurd (by decide) c) (fun _ => ?_)
                    refine lv_iconst (v := (-1)) hx hb dX12_rule_65 (by decide) ?_
                    exact hret (-1) σ τ _ _ _ _ rfl ⟨rfl, (fun _ _ => rfl), (fun _ _ => rfl), hI106, Or.inl ⟨rfl, (by have h9 := jz_m1; omega), (fun h => by unfold jRow at h; simp only [jDig, and_true] at h; omega), rfl⟩⟩ hP hS dX12_rule_66
              · obtain ⟨q175, k174⟩ := h103
                have q175 := q175.symm
                subst q175
                refine lv_if_ne (tgt := 67) hx hb dX12_rule_62 (by decide) (fun c => absurd (by decide) c) (fun _ => ?_)
                refine lv_iconst (v := (-1)) hx hb dX12_rule_65 (by decide) ?_
                exact hret (-1) σ τ _ _ _ _ rfl ⟨rfl, (fun _ _ => rfl), (fun _ _ => rfl), hI106, Or.inl ⟨rfl, (by have h9 := jz_m1; omega), (fun h => by unfold jRow at h; simp only [jDig, and_true] at h; omega), rfl⟩⟩ hP hS dX12_rule_66
          · obtain ⟨q177, k176⟩ := h94
            have q177 := q177.symm
            subst q177
            refine lv_if_ne (tgt := 67) hx hb dX12_rule_62 (by decide) (fun c => absurd (by decide) c) (fun _ => ?_)
            refine lv_iconst (v := (-1)) hx hb dX12_rule_65 (by decide) ?_
            exact hret (-1) σ τ _ _ _ _ rfl ⟨rfl, (fun _ _ => rfl), (fun _ _ => rfl), hI106, Or.inl ⟨rfl, (by have h9 := jz_m1; omega), (fun h => by unfold jRow at h; simp only [jDig, and_true] at h; omega), rfl⟩⟩ hP hS dX12_rule_66
      · obtain ⟨q179, k178⟩ := h20
        have q179 := q179.symm
        subst q179
        refine lv_if_ne (tgt := 38) hx hb dX12_rule_33 (by decide) (fun c => absurd (by decide) c) (fun _ => ?_)
        refine lv_iconst (v := (-1)) hx hb dX12_rule_36 (by decide) ?_
        exact hret (-1) σ τ _ _ _ _ rfl ⟨rfl, (fun _ _ => rfl), (fun _ _ => rfl), hI106, Or.inl ⟨rfl, (by have h9 := jz_m1; omega), (fun h => by unfold jRow at h; simp only [jDig, and_true] at h; omega), rfl⟩⟩ hP hS dX12_rule_37
    · obtain ⟨q181, k180⟩ := h14
      have q181 := q181.symm
      subst q181
      refine lv_if_eq (tgt := 36) hx hb dX12_rule_21 (by decide) (fun _ => ?_) (fun c => absurd (by decide) c)
      refine lv_iconst (v := (-1)) hx hb dX12_rule_36 (by decide) ?_
      exact hret (-1) σ τ _ _ _ _ rfl ⟨rfl, (fun _ _ => rfl), (fun _ _ => rfl), hI106, Or.inl ⟨rfl, (by have h9 := jz_m1; omega), (fun h => by unfold jRow at h; simp only [jDig, and_true] at h; omega), rfl⟩⟩ hP hS dX12_rule_37
  · obtain ⟨q183, k182⟩ := h8
    have q183 := q183.symm
    subst q183
    refine lv_if_eq (tgt := 36) hx hb dX12_rule_9 (by decide) (fun _ => ?_) (fun c => absurd (by decide) c)
    refine lv_iconst (v := (-1)) hx hb dX12_rule_36 (by decide) ?_
    exact hret (-1) σ τ _ _ _ _ rfl ⟨rfl, (fun _ _ => rfl), (fun _ _ => rfl), hI106, Or.inl ⟨rfl, (by have h9 := jz_m1; omega), (fun h => by unfold jRow at h; simp only [jDig, and_true] at h; omega), rfl⟩⟩ hP hS dX12_rule_37
set_option maxHeartbeats 4000000 in
set_option maxRecDepth 100000 in
theorem c_X12_puts (l : Launch) (D : va_G) (cI cL : ClassId) (ad zz : Nat → Nat) (hJ : jD ad) (σ : Nat → Nat → Int32) (τ : Nat → Nat → Int64) (a1 : Int32) (A1 : Int) (t1 : a1.toInt = A1) (hI101 : jI101 σ) (hI102 : jI102 σ) (hI103 : jI103 σ) (hI104 : jI104 σ) (hI105 : jI105 σ) (hI106 : jI106 σ) (hI107 : jI107 σ) (hI119 : jI119 σ) (hs_jKept : jKept σ) (hs_jBook : jBook σ) : jM l yX12_puts cX12_puts 2 (some .int) ({ frames := 104, cells := 0, slots := 0, locals := 5087 }) D cI cL ad zz [.ref (ad 55), .int a1] σ τ (fun r σ' τ' => τ = τ' ∧ (∀ i : Nat, (i < 55 ∨ 55 < i) ∧ (i < 66 ∨ 66 < i) ∧ (i < 68 ∨ 69 < i) ∧ (i < 74 ∨ 78 < i) → σ' i = σ i) ∧ (∀ k : Nat, (k < 18 ∨ 18 < k) ∧ (k < 19 ∨ 19 < k) ∧ (k < 20 ∨ 20 < k) ∧ (k < 21 ∨ 21 < k) ∧ (k < 22 ∨ 22 < k) ∧ (k < 25 ∨ 25 < k) ∧ (k < 26 ∨ 26 < k) ∧ (k < 27 ∨ 27 < k) ∧ (k < 37 ∨ 37 < k) ∧ (k < 42 ∨ 42 < k) → σ' 55 k = σ 55 k) ∧ (jI119 σ') ∧ (jKept σ') ∧ (jBook σ') ∧ True) := by
  refine jM.of hJ (by decide +kernel) (nt := .int) rfl (Nat.le_of_ble_eq_true rfl) ?_
  intro p e s m args below meth c Q ls hC hret hl hP
  obtain ⟨hx, hb, hr, hml, hown, hts, hK, -, hlocks, hZ⟩ := hC
  have hown : s.vm.findClass RX12 = some m.cls := hown
  have hS : va_S (jA ad) s.heap s.heap [] := va_S.rf
  have hA : ∀ q, jA ad q → jA ad q := fun _ h => h
  have hl : lv_has ls 2 [(0, .ref (ad 55)), (1, .int a1)] := hl
  have g1 := jrg t1
  obtain ⟨i1, w2, w3⟩ : (0 ≤ (σ 55 6).toInt ∧ (σ 55 6).toInt ≤ 4) ∧ (∀ k : Nat, k < 4 → 0 ≤ (σ 60 k).toInt ∧ (σ 60 k).toInt ≤ 50) ∧ (∀ k : Nat, k < 4 → 0 ≤ (σ 61 k).toInt ∧ (σ 61 k).toInt ≤ 20) := id hI102
  obtain ⟨i4, i5, i6, w7, w8⟩ : (1 ≤ (σ 55 10).toInt ∧ (σ 55 10).toInt ≤ 8) ∧ (1 ≤ (σ 55 12).toInt ∧ (σ 55 12).toInt ≤ 12) ∧ (0 ≤ (σ 55 13).toInt ∧ (σ 55 13).toInt ≤ 999) ∧ (∀ k : Nat, k < 8 → 0 ≤ (σ 62 k).toInt ∧ (σ 62 k).toInt ≤ 3) ∧ (∀ k : Nat, k < 8 → 0 ≤ (σ 67 k).toInt ∧ (σ 67 k).toInt ≤ 3) := id hI104
  obtain ⟨i9, w10, w11, w12⟩ : (0 ≤ (σ 55 32).toInt ∧ (σ 55 32).toInt ≤ 20) ∧ (∀ k : Nat, k < 20 → 0 ≤ (σ 70 k).toInt ∧ (σ 70 k).toInt ≤ 6) ∧ (∀ k : Nat, k < 20 → 0 ≤ (σ 71 k).toInt ∧ (σ 71 k).toInt ≤ 8) ∧ (∀ k : Nat, k < 160 → 0 ≤ (σ 72 k).toInt ∧ (σ 72 k).toInt ≤ 3) := id hI106
  obtain ⟨i13, i14, w15⟩ : (0 ≤ (σ 55 47).toInt ∧ (σ 55 47).toInt ≤ 12) ∧ ((σ 55 47).toInt ≤ (σ 55 12).toInt) ∧ (∀ k : Nat, k < 12 → 0 ≤ (σ 80 k).toInt ∧ (σ 80 k).toInt ≤ 3) := id hI107
  refine lv_aload_n hx hb dX12_puts_0 rfl (lv_at hl 0 rfl) ?_
  refine lv_iload_n hx hb dX12_puts_1 rfl (lv_at hl 1 rfl) ?_
  refine jcallV (As := [.int a1]) (rest := []) ⟨hx, hb, hml, hown, hts⟩ hK hP hA hS hZ (c_X12_isRule l D cI cL ad zz hJ σ τ a1 (A1) t1 hI106) cw_RX12_331 (jc_55 cI cL ad σ τ) rfl ⟨Nat.le_of_ble_eq_true rfl, Nat.le_of_ble_eq_true rfl⟩ rfl rfl rfl hl.1 rfl (Nat.le_of_ble_eq_true rfl) dX12_puts_2 ⟨Nat.zero_le _, Nat.zero_le _⟩ (fun r17 σ16 τ16 H locs h16 hP hS => ?_)
  obtain ⟨⟨rfl, rfl⟩, h16⟩ := h16
  rcases h16 with h18 | h19
  · obtain ⟨q21, k20⟩ := h18
    have q21 := q21.symm
    subst q21
    refine lv_if_ne (tgt := 10) hx hb dX12_puts_5 (by decide) (fun _ => ?_) (fun c => absurd c (by decide))
    refine lv_aload_n hx hb dX12_puts_10 rfl (lv_at hl 0 rfl) ?_
    refine lv_aload_n hx hb dX12_puts_11 rfl (lv_at hl 0 rfl) ?_
    refine va_get (D := D) hx hb hts inlX12 hown hK hP 55 (jc_55 cI cL ad σ τ) rfl 47 (by decide) (hts _ kw_15_15) (fun _ h9 => h9) rfl dX12_puts_12 ?_
    have w22 : ∀ k : Nat, k < 4 → 0 ≤ (σ 68 k).toInt ∧ (σ 68 k).toInt ≤ 3 := hI119
    refine jcallVv (As := [.int (σ 55 47)]) (rest := []) ⟨hx, hb, hml, hown, hts⟩ hK hP hA hS hZ (c_X12_goThroughBook l D cI cL ad zz hJ σ τ (σ 55 47) ((σ 55 47).toInt) rfl hI102 hI104 hI107 w22 hs_jBook (by omega) (by omega)) cw_RX12_334 (jc_55 cI cL ad σ τ) rfl ⟨Nat.le_of_ble_eq_true rfl, Nat.le_of_ble_eq_true rfl⟩ rfl rfl rfl hl.1 rfl (Nat.le_of_ble_eq_true rfl) dX12_puts_15 ⟨Nat.zero_le _, Nat.zero_le _⟩ (fun σ23 τ23 H locs h23 hP hS => ?_)
    obtain ⟨rfl, f25, f26, I27, p28, h23⟩ := h23
    obtain ⟨i30, i31, i32, i33, i34, w35⟩ : (0 ≤ (σ23 55 25).toInt) ∧ ((σ23 55 25).toInt ≤ (σ23 55 10).toInt) ∧ (0 ≤ (σ23 55 26).toInt) ∧ ((σ23 55 26).toInt ≤ (σ23 55 12).toInt) ∧ ((-1) ≤ (σ23 55 27).toInt ∧ (σ23 55 27).toInt ≤ 3) ∧ (∀ k : Nat, k < 4 → 0 ≤ (σ23 68 k).toInt ∧ (σ23 68 k).toInt ≤ 3) := id I27
    have z36 : (σ23 55 10).toInt = (σ 55 10).toInt := (congrArg Int32.toInt (show σ23 55 10 = (σ 55 10) from (f26 10 (by decide))))
    have z37 : (σ23 55 12).toInt = (σ 55 12).toInt := (congrArg Int32.toInt (show σ23 55 12 = (σ 55 12) from (f26 12 (by decide))))
    obtain ⟨k38, k39, k40, h23⟩ := h23
    refine lv_aload_n hx hb dX12_puts_18 rfl (lv_at hl 0 rfl) ?_
    refine va_get (D := D) hx hb hts inlX12 hown hK hP 55 (jc_55 cI cL ad σ23 τ) rfl 33 (by decide) (hts _ kw_7_18) (fun _ h9 => h9) rfl dX12_puts_19 ?_
    refine lv_iload_n hx hb dX12_puts_22 rfl (lv_at hl 1 rfl) ?_
    refine jald hx hb hK hP (jc_70 cI cL ad σ23 τ) (jin t1 (by omega) (by omega)) dX12_puts_23 ?_
    have w41 : ∀ k : Nat, k < 20 → 0 ≤ (σ23 70 k).toInt ∧ (σ23 70 k).toInt ≤ 6 := (jrr_fr (f25 70 (by decide)) w10)
    have g42 := w41 _ (jnat (x := a1) t1 (n := 20) (by omega) (by decide))
    refine jtopr (y := (σ 70 a1.toNatClampNeg)) (by rw [f25 70 (by decide)]) ?_
    rw [f25 70 (by decide)] at g42
    refine lv_iconst (v := 2) hx hb dX12_puts_24 (by decide) ?_
    refine lv_icmp_ne (tgt := 38) hx hb dX12_puts_25 (by decide) (fun c43 => ?_) (fun c43 => ?_)
    · have kc43 := jne c43 rfl jz_2
      refine lv_aload_n hx hb dX12_puts_38 rfl (lv_at hl 0 rfl) ?_
      have I44 : jI102 σ23 := jI102_fr (f26 6 (by decide)) (f25 60 (by decide)) (f25 61 (by decide)) hI102
      have I45 : jI104 σ23 := jI104_fr (f26 10 (by decide)) (f26 12 (by decide)) (f26 13 (by decide)) (f25 62 (by decide)) (f25 67 (by decide)) hI104
      refine jcallV (As := []) (rest := []) ⟨hx, hb, hml, hown, hts⟩ hK hP hA hS hZ (c_X12_isEnded l D cI cL ad zz hJ σ23 τ I44 I45 I27) cw_RX12_307 (jc_55 cI cL ad σ23 τ) rfl ⟨Nat.le_of_ble_eq_true rfl, Nat.le_of_ble_eq_true rfl⟩ rfl rfl rfl hl.1 rfl (Nat.le_of_ble_eq_true rfl) dX12_puts_39 ⟨Nat.zero_le _, Nat.zero_le _⟩ (fun r47 σ46 τ46 H locs h46 hP hS => ?_)
      obtain ⟨⟨rfl, rfl⟩, h46⟩ := h46
      rcases h46 with h48 | h49
      · obtain ⟨q51, k50⟩ := h48
        have q51 := q51.symm
        subst q51
        refine lv_if_eq (tgt := 48) hx hb dX12_puts_42 (by decide) (fun c => absurd c (by decide)) (fun _ => ?_)
        refine lv_bipush (v := (-2)) hx hb dX12_puts_45 (by decide) ?_
        have I52 : jI119 σ23 := w35
        have p53 : jKept σ23 := jKept.fr (f25 75 (by decide)) (f25 76 (by decide)) (f25 77 (by decide)) hs_jKept
        exact hret (-2) σ23 τ _ _ _ _ rfl ⟨rfl, (fun i hi => (f25 i (imp_256 i hi))), (fun i hi => (f26 i (imp_257 i hi))), I52, p53, p28, trivial⟩ hP hS dX12_puts_47
      · obtain ⟨q57, k54, k55, k56⟩ := h49
        have q57 := q57.symm
        subst q57
        obtain ⟨B58, k59, k60, w61⟩ := k56
        have z62 : (σ23 55 6).toInt = (σ 55 6).toInt := (congrArg Int32.toInt (show σ23 55 6 = (σ 55 6) from (f26 6 (by decide))))
        refine lv_if_eq (tgt := 48) hx hb dX12_puts_42 (by decide) (fun _ => ?_) (fun c => absurd (by decide) c)
        refine lv_aload_n hx hb dX12_puts_48 rfl (lv_at hl 0 rfl) ?_
        refine jcallVv (As := []) (rest := []) ⟨hx, hb, hml, hown, hts⟩ hK hP hA hS hZ (c_X12_forgets l D cI cL ad zz hJ σ23 τ) cw_RX12_341 (jc_55 cI cL ad σ23 τ) rfl ⟨Nat.le_of_ble_eq_true rfl, Nat.le_of_ble_eq_true rfl⟩ rfl rfl rfl hl.1 rfl (Nat.le_of_ble_eq_true rfl) dX12_puts_49 ⟨Nat.zero_le _, Nat.zero_le _⟩ (fun σ63 τ63 H locs h63 hP hS => ?_)
        obtain ⟨rfl, f65, f66, h63⟩ := h63
        refine lv_aload_n hx hb dX12_puts_52 rfl (lv_at hl 0 rfl) ?_
        refine lv_iload_n hx hb dX12_puts_53 rfl (lv_at hl 1 rfl) ?_
        have p68 : jmb σ63 B58 = 1 := (jmb_fr (f66 27 (by decide)) (f66 30 (by decide)) (f66 31 (by decide)) (f65 56 (by decide)) (f65 69 (by decide)) B58).trans w61
        have I69 : jI101 σ63 := jI101_fr ((f66 4 (by decide)).trans (f26 4 (by decide))) ((f66 5 (by decide)).trans (f26 5 (by decide))) ((f65 56 (by decide)).trans (f25 56 (by decide))) ((f65 57 (by decide)).trans (f25 57 (by decide))) ((f65 58 (by decide)).trans (f25 58 (by decide))) ((f65 59 (by decide)).trans (f25 59 (by decide))) hI101
        have I70 : jI102 σ63 := jI102_fr (f66 6 (by decide)) (f65 60 (by decide)) (f65 61 (by decide)) I44
        have I71 : jI103 σ63 := jI103_fr ((f66 9 (by decide)).trans (f26 9 (by decide))) hI103
        have I72 : jI104 σ63 := jI104_fr (f66 10 (by decide)) (f66 12 (by decide)) (f66 13 (by decide)) (f65 62 (by decide)) (f65 67 (by decide)) I45
        have I73 : jI105 σ63 := jI105_fr ((f66 15 (by decide)).trans (f26 15 (by decide))) ((f65 65 (by decide)).trans (f25 65 (by decide))) hI105
        have I74 : jI106 σ63 := jI106_fr ((f66 32 (by decide)).trans (f26 32 (by decide))) ((f65 70 (by decide)).trans (f25 70 (by decide))) ((f65 71 (by decide)).trans (f25 71 (by decide))) ((f65 72 (by decide)).trans (f25 72 (by decide))) hI106
        have I75 : jI120 σ63 := jI120_fr (f66 10 (by decide)) (f66 12 (by decide)) (f66 25 (by decide)) (f66 26 (by decide)) (f66 27 (by decide)) (f65 68 (by decide)) I27
        have p76 : jKept σ63 := jKept.fr ((f65 75 (by decide)).trans (f25 75 (by decide))) ((f65 76 (by decide)).trans (f25 76 (by decide))) ((f65 77 (by decide)).trans (f25 77 (by decide))) hs_jKept
        have z77 : (σ63 70 a1.toNatClampNeg).toInt = (σ 70 a1.toNatClampNeg).toInt := by rw [f65 70 (by decide), f25 70 (by decide)]
        have z78 : (σ63 55 6).toInt = (σ 55 6).toInt := (congrArg Int32.toInt (show σ63 55 6 = (σ 55 6) from ((f66 6 (by decide)).trans (f26 6 (by decide)))))
        have z79 : (σ63 55 25).toInt = (σ23 55 25).toInt := (congrArg Int32.toInt (show σ63 55 25 = (σ23 55 25) from (f66 25 (by decide))))
        have z80 : (σ63 55 10).toInt = (σ 55 10).toInt := (congrArg Int32.toInt (show σ63 55 10 = (σ 55 10) from ((f66 10 (by decide)).trans (f26 10 (by decide)))))
        have z81 : (σ63 55 26).toInt = (σ23 55 26).toInt := (congrArg Int32.toInt (show σ63 55 26 = (σ23 55 26) from (f66 26 (by decide))))
        have z82 : (σ63 55 12).toInt = (σ 55 12).toInt := (congrArg Int32.toInt (show σ63 55 12 = (σ 55 12) from ((f66 12 (by decide)).trans (f26 12 (by decide)))))
        refine jcallV (As := [.int a1]) (rest := []) ⟨hx, hb, hml, hown, hts⟩ hK hP hA hS hZ (c_X12_putsOn l D cI cL ad zz hJ σ63 τ B58 p68 a1 (A1) t1 I69 I70 I71 I72 I73 I74 I75 p76 (by omega) (by omega) (by omega) (by omega) (by omega)) cw_RX12_321 (jc_55 cI cL ad σ63 τ) rfl ⟨Nat.le_of_ble_eq_true rfl, Nat.le_of_ble_eq_true rfl⟩ rfl rfl rfl hl.1 rfl (Nat.le_of_ble_eq_true rfl) dX12_puts_54 ⟨Nat.zero_le _, Nat.zero_le _⟩ (fun r84 σ83 τ83 H locs h83 hP hS => ?_)
        obtain ⟨rfl, f85, f86, p87, h83⟩ := h83
        have h89 := h83
        obtain ⟨q91, k90⟩ := h89
        have w92 : ∀ k : Nat, k < 4 → 0 ≤ (σ83 68 k).toInt ∧ (σ83 68 k).toInt ≤ 3 := (jrr_fr (f85 68 (by decide)) (jrr_fr (f65 68 (by decide)) w35))
        have I93 : jI119 σ83 := w92
        have p94 : jBook σ83 := jBook.fr ((f86 47 (by decide)).trans (f66 47 (by decide))) ((f86 10 (by decide)).trans (f66 10 (by decide))) ((f85 81 (by decide)).trans (f65 81 (by decide))) p28
        exact hret r84 σ83 τ _ _ _ _ rfl ⟨rfl, (fun i hi => ((f85 i (imp_258 i hi)).trans ((f65 i (imp_259 i hi)).trans (f25 i (imp_256 i hi))))), (fun i hi => ((f86 i (imp_260 i hi)).trans ((f66 i (imp_261 i hi)).trans (f26 i (imp_257 i hi))))), I93, p87, p94, trivial⟩ hP hS dX12_puts_57
    · have kc43 := jeq c43 rfl jz_2
      refine lv_aload_n hx hb dX12_puts_28 rfl (lv_at hl 0 rfl) ?_
      have I95 : jI104 σ23 := jI104_fr (f26 10 (by decide)) (f26 12 (by decide)) (f26 13 (by decide)) (f25 62 (by decide)) (f25 67 (by decide)) hI104
      refine jcallV (As := []) (rest := []) ⟨hx, hb, hml, hown, hts⟩ hK hP hA hS hZ (c_X12_isBig l D cI cL ad zz hJ σ23 τ I95 (by omega)) cw_RX12_338 (jc_55 cI cL ad σ23 τ) rfl ⟨Nat.le_of_ble_eq_true rfl, Nat.le_of_ble_eq_true rfl⟩ rfl rfl rfl hl.1 rfl (Nat.le_of_ble_eq_true rfl) dX12_puts_29 ⟨Nat.zero_le _, Nat.zero_le _⟩ (fun r97 σ96 τ96 H locs h96 hP hS => ?_)
      obtain ⟨⟨rfl, rfl⟩, h96⟩ := h96
      rcases h96 with h98 | h99
      · obtain ⟨q101, k100⟩ := h98
        have q101 := q101.symm
        subst q101
        refine lv_if_eq (tgt := 38) hx hb dX12_puts_32 (by decide) (fun c => absurd c (by decide)) (fun _ => ?_)
        refine lv_bipush (v := (-4)) hx hb dX12_puts_35 (by decide) ?_
        have I102 : jI119 σ23 := w35
        have p103 : jKept σ23 := jKept.fr (f25 75 (by decide)) (f25 76 (by decide)) (f25 77 (by decide)) hs_jKept
        exact hret (-4) σ23 τ _ _ _ _ rfl ⟨rfl, (fun i hi => (f25 i (imp_256 i hi))), (fun i hi => (f26 i (imp_257 i hi))), I102, p103, p28, trivial⟩ hP hS dX12_puts_37
      · obtain ⟨q105, k104⟩ := h99
        have q105 := q105.symm
        subst q105
        refine lv_if_eq (tgt := 38) hx hb dX12_puts_32 (by decide) (fun _ => ?_) (fun c => absurd (by decide) c)
        refine lv_aload_n hx hb dX12_puts_38 rfl (lv_at hl 0 rfl) ?_
        have I106 : jI102 σ23 := jI102_fr (f26 6 (by decide)) (f25 60 (by decide)) (f25 61 (by decide)) hI102
        refine jcallV (As := []) (rest := []) ⟨hx, hb, hml, hown, hts⟩ hK hP hA hS hZ (c_X12_isEnded l D cI cL ad zz hJ σ23 τ I106 I95 I27) cw_RX12_307 (jc_55 cI cL ad σ23 τ) rfl ⟨Nat.le_of_ble_eq_true rfl, Nat.le_of_ble_eq_true rfl⟩ rfl rfl rfl hl.1 rfl (Nat.le_of_ble_eq_true rfl) dX12_puts_39 ⟨Nat.zero_le _, Nat.zero_le _⟩ (fun r108 σ107 τ107 H locs h107 hP hS => ?_)
        obtain ⟨⟨rfl, rfl⟩, h107⟩ := h107
        rcases h107 with h109 | h110
        · obtain ⟨q112, k111⟩ := h109
          have q112 := q112.symm
          subst q112
          refine lv_if_eq (tgt := 48) hx hb dX12_puts_42 (by decide) (fun c => absurd c (by decide)) (fun _ => ?_)
          refine lv_bipush (v := (-2)) hx hb dX12_puts_45 (by decide) ?_
          have I113 : jI119 σ23 := w35
          have p114 : jKept σ23 := jKept.fr (f25 75 (by decide)) (f25 76 (by decide)) (f25 77 (by decide)) hs_jKept
          exact hret (-2) σ23 τ _ _ _ _ rfl ⟨rfl, (fun i hi => (f25 i (imp_256 i hi))), (fun i hi => (f26 i (imp_257 i hi))), I113, p114, p28, trivial⟩ hP hS dX12_puts_47
        · obtain ⟨q118, k115, k116, k117⟩ := h110
          have q118 := q118.symm
          subst q118
          obtain ⟨B119, k120, k121, w122⟩ := k117
          have z123 : (σ23 55 6).toInt = (σ 55 6).toInt := (congrArg Int32.toInt (show σ23 55 6 = (σ 55 6) from (f26 6 (by decide))))
          refine lv_if_eq (tgt := 48) hx hb dX12_puts_42 (by decide) (fun _ => ?_) (fun c => absurd (by decide) c)
          refine lv_aload_n hx hb dX12_puts_48 rfl (lv_at hl 0 rfl) ?_
          refine jcallVv (As := []) (rest := []) ⟨hx, hb, hml, hown, hts⟩ hK hP hA hS hZ (c_X12_forgets l D cI cL ad zz hJ σ23 τ) cw_RX12_341 (jc_55 cI cL ad σ23 τ) rfl ⟨Nat.le_of_ble_eq_true rfl, Nat.le_of_ble_eq_true rfl⟩ rfl rfl rfl hl.1 rfl (Nat.le_of_ble_eq_true rfl) dX12_puts_49 ⟨Nat.zero_le _, Nat.zero_le _⟩ (fun σ124 τ124 H locs h124 hP hS => ?_)
          obtain ⟨rfl, f126, f127, h124⟩ := h124
          refine lv_aload_n hx hb dX12_puts_52 rfl (lv_at hl 0 rfl) ?_
          refine lv_iload_n hx hb dX12_puts_53 rfl (lv_at hl 1 rfl) ?_
          have p129 : jmb σ124 B119 = 1 := (jmb_fr (f127 27 (by decide)) (f127 30 (by decide)) (f127 31 (by decide)) (f126 56 (by decide)) (f126 69 (by decide)) B119).trans w122
          have I130 : jI101 σ124 := jI101_fr ((f127 4 (by decide)).trans (f26 4 (by decide))) ((f127 5 (by decide)).trans (f26 5 (by decide))) ((f126 56 (by decide)).trans (f25 56 (by decide))) ((f126 57 (by decide)).trans (f25 57 (by decide))) ((f126 58 (by decide)).trans (f25 58 (by decide))) ((f126 59 (by decide)).trans (f25 59 (by decide))) hI101
          have I131 : jI102 σ124 := jI102_fr (f127 6 (by decide)) (f126 60 (by decide)) (f126 61 (by decide)) I106
          have I132 : jI103 σ124 := jI103_fr ((f127 9 (by decide)).trans (f26 9 (by decide))) hI103
          have I133 : jI104 σ124 := jI104_fr (f127 10 (by decide)) (f127 12 (by decide)) (f127 13 (by decide)) (f126 62 (by decide)) (f126 67 (by decide)) I95
          have I134 : jI105 σ124 := jI105_fr ((f127 15 (by decide)).trans (f26 15 (by decide))) ((f126 65 (by decide)).trans (f25 65 (by decide))) hI105
          have I135 : jI106 σ124 := jI106_fr ((f127 32 (by decide)).trans (f26 32 (by decide))) ((f126 70 (by decide)).trans (f25 70 (by decide))) ((f126 71 (by decide)).trans (f25 71 (by decide))) ((f126 72 (by decide)).trans (f25 72 (by decide))) hI106
          have I136 : jI120 σ124 := jI120_fr (f127 10 (by decide)) (f127 12 (by decide)) (f127 25 (by decide)) (f127 26 (by decide)) (f127 27 (by decide)) (f126 68 (by decide)) I27
          have p137 : jKept σ124 := jKept.fr ((f126 75 (by decide)).trans (f25 75 (by decide))) ((f126 76 (by decide)).trans (f25 76 (by decide))) ((f126 77 (by decide)).trans (f25 77 (by decide))) hs_jKept
          have z138 : (σ124 70 a1.toNatClampNeg).toInt = (σ 70 a1.toNatClampNeg).toInt := by rw [f126 70 (by decide), f25 70 (by decide)]
          have z139 : (σ124 55 6).toInt = (σ 55 6).toInt := (congrArg Int32.toInt (show σ124 55 6 = (σ 55 6) from ((f127 6 (by decide)).trans (f26 6 (by decide)))))
          have z140 : (σ124 55 25).toInt = (σ23 55 25).toInt := (congrArg Int32.toInt (show σ124 55 25 = (σ23 55 25) from (f127 25 (by decide))))
          have z141 : (σ124 55 10).toInt = (σ 55 10).toInt := (congrArg Int32.toInt (show σ124 55 10 = (σ 55 10) from ((f127 10 (by decide)).trans (f26 10 (by decide)))))
          have z142 : (σ124 55 26).toInt = (σ23 55 26).toInt := (congrArg Int32.toInt (show σ124 55 26 = (σ23 55 26) from (f127 26 (by decide))))
          have z143 : (σ124 55 12).toInt = (σ 55 12).toInt := (congrArg Int32.toInt (show σ124 55 12 = (σ 55 12) from ((f127 12 (by decide)).trans (f26 12 (by decide)))))
          refine jcallV (As := [.int a1]) (rest := []) ⟨hx, hb, hml, hown, hts⟩ hK hP hA hS hZ (c_X12_putsOn l D cI cL ad zz hJ σ124 τ B119 p129 a1 (A1) t1 I130 I131 I132 I133 I134 I135 I136 p137 (by omega) (by omega) (by omega) (by omega) (by omega)) cw_RX12_321 (jc_55 cI cL ad σ124 τ) rfl ⟨Nat.le_of_ble_eq_true rfl, Nat.le_of_ble_eq_true rfl⟩ rfl rfl rfl hl.1 rfl (Nat.le_of_ble_eq_true rfl) dX12_puts_54 ⟨Nat.zero_le _, Nat.zero_le _⟩ (fun r145 σ144 τ144 H locs h144 hP hS => ?_)
          obtain ⟨rfl, f146, f147, p148, h144⟩ := h144
          have h150 := h144
          obtain ⟨q152, k151⟩ := h150
          have w153 : ∀ k : Nat, k < 4 → 0 ≤ (σ144 68 k).toInt ∧ (σ144 68 k).toInt ≤ 3 := (jrr_fr (f146 68 (by decide)) (jrr_fr (f126 68 (by decide)) w35))
          have I154 : jI119 σ144 := w153
          have p155 : jBook σ144 := jBook.fr ((f147 47 (by decide)).trans (f127 47 (by decide))) ((f147 10 (by decide)).trans (f127 10 (by decide))) ((f146 81 (by decide)).trans (f126 81 (by decide))) p28
          exact hret r145 σ144 τ _ _ _ _ rfl ⟨rfl, (fun i hi => ((f146 i (imp_258 i hi)).trans ((f126 i (imp_259 i hi)).trans (f25 i (imp_256 i hi))))), (fun i hi => ((f147 i (imp_260 i hi)).trans ((f127 i (imp_261 i hi)).trans (f26 i (imp_257 i hi))))), I154, p148, p155, trivial⟩ hP hS dX12_puts_57
  · obtain ⟨q157, k156⟩ := h19
    have q157 := q157.symm
    subst q157
    refine lv_if_ne (tgt := 10) hx hb dX12_puts_5 (by decide) (fun c => absurd (by decide) c) (fun _ => ?_)
    refine lv_iconst (v := (-1)) hx hb dX12_puts_8 (by decide) ?_
    exact hret (-1) σ τ _ _ _ _ rfl ⟨rfl, (fun _ _ => rfl), (fun _ _ => rfl), hI119, hs_jKept, hs_jBook, trivial⟩ hP hS dX12_puts_9
set_option maxHeartbeats 4000000 in
set_option maxRecDepth 100000 in
theorem c_X12_mean (l : Launch) (D : va_G) (cI cL : ClassId) (ad zz : Nat → Nat) (hJ : jD ad) (σ : Nat → Nat → Int32) (τ : Nat → Nat → Int64) (a1 : Int32) (A1 : Int) (t1 : a1.toInt = A1) (hI101 : jI101 σ) (hI102 : jI102 σ) (hI103 : jI103 σ) (hI104 : jI104 σ) (hI105 : jI105 σ) (hI106 : jI106 σ) (hI119 : jI119 σ) (hs_jKept : jKept σ) : jM l yX12_mean cX12_mean 2 (some .int) ({ frames := 139, cells := 0, slots := 0, locals := 7209 }) D cI cL ad zz [.ref (ad 55), .int a1] σ τ (fun r σ' τ' => τ = τ' ∧ (∀ i : Nat, (i < 55 ∨ 55 < i) ∧ (i < 66 ∨ 66 < i) ∧ (i < 68 ∨ 69 < i) ∧ (i < 74 ∨ 78 < i) → σ' i = σ i) ∧ (∀ k : Nat, (k < 18 ∨ 18 < k) ∧ (k < 19 ∨ 19 < k) ∧ (k < 20 ∨ 20 < k) ∧ (k < 21 ∨ 21 < k) ∧ (k < 22 ∨ 22 < k) ∧ (k < 25 ∨ 25 < k) ∧ (k < 26 ∨ 26 < k) ∧ (k < 27 ∨ 27 < k) ∧ (k < 37 ∨ 37 < k) ∧ (k < 42 ∨ 42 < k) → σ' 55 k = σ 55 k) ∧ (jI119 σ') ∧ (jKept σ') ∧ True) := by
  refine jM.of hJ (by decide +kernel) (nt := .int) rfl (Nat.le_of_ble_eq_true rfl) ?_
  intro p e s m args below meth c Q ls hC hret hl hP
  obtain ⟨hx, hb, hr, hml, hown, hts, hK, -, hlocks, hZ⟩ := hC
  have hown : s.vm.findClass RX12 = some m.cls := hown
  have hS : va_S (jA ad) s.heap s.heap [] := va_S.rf
  have hA : ∀ q, jA ad q → jA ad q := fun _ h => h
  have hl : lv_has ls 2 [(0, .ref (ad 55)), (1, .int a1)] := hl
  have g1 := jrg t1
  obtain ⟨i1, i2, i3, w4, w5⟩ : (1 ≤ (σ 55 10).toInt ∧ (σ 55 10).toInt ≤ 8) ∧ (1 ≤ (σ 55 12).toInt ∧ (σ 55 12).toInt ≤ 12) ∧ (0 ≤ (σ 55 13).toInt ∧ (σ 55 13).toInt ≤ 999) ∧ (∀ k : Nat, k < 8 → 0 ≤ (σ 62 k).toInt ∧ (σ 62 k).toInt ≤ 3) ∧ (∀ k : Nat, k < 8 → 0 ≤ (σ 67 k).toInt ∧ (σ 67 k).toInt ≤ 3) := id hI104
  obtain ⟨i6, w7, w8, w9⟩ : (0 ≤ (σ 55 32).toInt ∧ (σ 55 32).toInt ≤ 20) ∧ (∀ k : Nat, k < 20 → 0 ≤ (σ 70 k).toInt ∧ (σ 70 k).toInt ≤ 6) ∧ (∀ k : Nat, k < 20 → 0 ≤ (σ 71 k).toInt ∧ (σ 71 k).toInt ≤ 8) ∧ (∀ k : Nat, k < 160 → 0 ≤ (σ 72 k).toInt ∧ (σ 72 k).toInt ≤ 3) := id hI106
  refine lv_aload_n hx hb dX12_mean_0 rfl (lv_at hl 0 rfl) ?_
  refine lv_iload_n hx hb dX12_mean_1 rfl (lv_at hl 1 rfl) ?_
  refine jcallV (As := [.int a1]) (rest := []) ⟨hx, hb, hml, hown, hts⟩ hK hP hA hS hZ (c_X12_isRule l D cI cL ad zz hJ σ τ a1 (A1) t1 hI106) cw_RX12_331 (jc_55 cI cL ad σ τ) rfl ⟨Nat.le_of_ble_eq_true rfl, Nat.le_of_ble_eq_true rfl⟩ rfl rfl rfl hl.1 rfl (Nat.le_of_ble_eq_true rfl) dX12_mean_2 ⟨Nat.zero_le _, Nat.zero_le _⟩ (fun r11 σ10 τ10 H locs h10 hP hS => ?_)
  obtain ⟨⟨rfl, rfl⟩, h10⟩ := h10
  rcases h10 with h12 | h13
  · obtain ⟨q15, k14⟩ := h12
    have q15 := q15.symm
    subst q15
    refine lv_if_ne (tgt := 10) hx hb dX12_mean_5 (by decide) (fun _ => ?_) (fun c => absurd c (by decide))
    refine lv_aload_n hx hb dX12_mean_10 rfl (lv_at hl 0 rfl) ?_
    refine va_get (D := D) hx hb hts inlX12 hown hK hP 55 (jc_55 cI cL ad σ τ) rfl 12 (by decide) (hts _ kw_8_16) (fun _ h9 => h9) rfl dX12_mean_11 ?_
    refine lv_bipush (v := 8) hx hb dX12_mean_14 (by decide) ?_
    refine lv_icmp_le (tgt := 22) hx hb dX12_mean_16 (by decide) (fun c16 => ?_) (fun c16 => ?_)
    · have kc16 := jle c16 rfl jz_8
      refine lv_aload_n hx hb dX12_mean_22 rfl (lv_at hl 0 rfl) ?_
      have w17 : ∀ k : Nat, k < 4 → 0 ≤ (σ 68 k).toInt ∧ (σ 68 k).toInt ≤ 3 := hI119
      refine jcallVv (As := []) (rest := []) ⟨hx, hb, hml, hown, hts⟩ hK hP hA hS hZ (c_X12_begin l D cI cL ad zz hJ σ τ hI104 w17) cw_RX12_256 (jc_55 cI cL ad σ τ) rfl ⟨Nat.le_of_ble_eq_true rfl, Nat.le_of_ble_eq_true rfl⟩ rfl rfl rfl hl.1 rfl (Nat.le_of_ble_eq_true rfl) dX12_mean_23 ⟨Nat.zero_le _, Nat.zero_le _⟩ (fun σ18 τ18 H locs h18 hP hS => ?_)
      obtain ⟨rfl, f20, f21, I22, h18⟩ := h18
      obtain ⟨i24, i25, i26, i27, i28, w29⟩ : (0 ≤ (σ18 55 25).toInt) ∧ ((σ18 55 25).toInt ≤ (σ18 55 10).toInt) ∧ (0 ≤ (σ18 55 26).toInt) ∧ ((σ18 55 26).toInt ≤ (σ18 55 12).toInt) ∧ ((-1) ≤ (σ18 55 27).toInt ∧ (σ18 55 27).toInt ≤ 3) ∧ (∀ k : Nat, k < 4 → 0 ≤ (σ18 68 k).toInt ∧ (σ18 68 k).toInt ≤ 3) := id I22
      have z30 : (σ18 55 10).toInt = (σ 55 10).toInt := (congrArg Int32.toInt (show σ18 55 10 = (σ 55 10) from (f21 10 (by decide))))
      have z31 : (σ18 55 12).toInt = (σ 55 12).toInt := (congrArg Int32.toInt (show σ18 55 12 = (σ 55 12) from (f21 12 (by decide))))
      obtain ⟨k32, k33, k34, h18⟩ := h18
      refine lv_aload_n hx hb dX12_mean_26 rfl (lv_at hl 0 rfl) ?_
      refine jcallVv (As := []) (rest := []) ⟨hx, hb, hml, hown, hts⟩ hK hP hA hS hZ (c_X12_forgets l D cI cL ad zz hJ σ18 τ) cw_RX12_341 (jc_55 cI cL ad σ18 τ) rfl ⟨Nat.le_of_ble_eq_true rfl, Nat.le_of_ble_eq_true rfl⟩ rfl rfl rfl hl.1 rfl (Nat.le_of_ble_eq_true rfl) dX12_mean_27 ⟨Nat.zero_le _, Nat.zero_le _⟩ (fun σ35 τ35 H locs h35 hP hS => ?_)
      obtain ⟨rfl, f37, f38, h35⟩ := h35
      refine lv_aload_n hx hb dX12_mean_30 rfl (lv_at hl 0 rfl) ?_
      refine lv_iload_n hx hb dX12_mean_31 rfl (lv_at hl 1 rfl) ?_
      have I40 : jI101 σ35 := jI101_fr ((f38 4 (by decide)).trans (f21 4 (by decide))) ((f38 5 (by decide)).trans (f21 5 (by decide))) ((f37 56 (by decide)).trans (f20 56 (by decide))) ((f37 57 (by decide)).trans (f20 57 (by decide))) ((f37 58 (by decide)).trans (f20 58 (by decide))) ((f37 59 (by decide)).trans (f20 59 (by decide))) hI101
      have I41 : jI102 σ35 := jI102_fr ((f38 6 (by decide)).trans (f21 6 (by decide))) ((f37 60 (by decide)).trans (f20 60 (by decide))) ((f37 61 (by decide)).trans (f20 61 (by decide))) hI102
      have I42 : jI103 σ35 := jI103_fr ((f38 9 (by decide)).trans (f21 9 (by decide))) hI103
      have I43 : jI104 σ35 := jI104_fr ((f38 10 (by decide)).trans (f21 10 (by decide))) ((f38 12 (by decide)).trans (f21 12 (by decide))) ((f38 13 (by decide)).trans (f21 13 (by decide))) ((f37 62 (by decide)).trans (f20 62 (by decide))) ((f37 67 (by decide)).trans (f20 67 (by decide))) hI104
      have I44 : jI105 σ35 := jI105_fr ((f38 15 (by decide)).trans (f21 15 (by decide))) ((f37 65 (by decide)).trans (f20 65 (by decide))) hI105
      have I45 : jI106 σ35 := jI106_fr ((f38 32 (by decide)).trans (f21 32 (by decide))) ((f37 70 (by decide)).trans (f20 70 (by decide))) ((f37 71 (by decide)).trans (f20 71 (by decide))) ((f37 72 (by decide)).trans (f20 72 (by decide))) hI106
      have I46 : jI120 σ35 := jI120_fr (f38 10 (by decide)) (f38 12 (by decide)) (f38 25 (by decide)) (f38 26 (by decide)) (f38 27 (by decide)) (f37 68 (by decide)) I22
      have p47 : jKept σ35 := jKept.fr ((f37 75 (by decide)).trans (f20 75 (by decide))) ((f37 76 (by decide)).trans (f20 76 (by decide))) ((f37 77 (by decide)).trans (f20 77 (by decide))) hs_jKept
      have z48 : (σ35 55 12).toInt = (σ 55 12).toInt := (congrArg Int32.toInt (show σ35 55 12 = (σ 55 12) from ((f38 12 (by decide)).trans (f21 12 (by decide)))))
      have z49 : (σ35 55 26).toInt = (σ18 55 26).toInt := (congrArg Int32.toInt (show σ35 55 26 = (σ18 55 26) from (f38 26 (by decide))))
      refine jcallV (As := [.int a1]) (rest := []) ⟨hx, hb, hml, hown, hts⟩ hK hP hA hS hZ ((c_X12_means l D cI cL ad zz hJ 8) σ35 τ a1 (A1) t1 I40 I41 I42 I43 I44 I45 I46 p47 (by omega) (by omega) (by omega)) cw_RX12_324 (jc_55 cI cL ad σ35 τ) rfl ⟨Nat.le_of_ble_eq_true rfl, Nat.le_of_ble_eq_true rfl⟩ rfl rfl rfl hl.1 rfl (Nat.le_of_ble_eq_true rfl) dX12_mean_32 ⟨Nat.zero_le _, Nat.zero_le _⟩ (fun r51 σ50 τ50 H locs h50 hP hS => ?_)
      obtain ⟨rfl, f52, f53, p54, h50⟩ := h50
      have w56 : ∀ k : Nat, k < 4 → 0 ≤ (σ50 68 k).toInt ∧ (σ50 68 k).toInt ≤ 3 := (jrr_fr (f52 68 (by decide)) (jrr_fr (f37 68 (by decide)) w29))
      have I57 : jI119 σ50 := w56
      exact hret r51 σ50 τ _ _ _ _ rfl ⟨rfl, (fun i hi => ((f52 i (imp_258 i hi)).trans ((f37 i (imp_259 i hi)).trans (f20 i (imp_256 i hi))))), (fun i hi => ((f53 i (imp_260 i hi)).trans ((f38 i (imp_261 i hi)).trans (f21 i (imp_257 i hi))))), I57, p54, trivial⟩ hP hS dX12_mean_35
    · have kc16 := jnle c16 rfl jz_8
      refine lv_bipush (v := (-4)) hx hb dX12_mean_19 (by decide) ?_
      exact hret (-4) σ τ _ _ _ _ rfl ⟨rfl, (fun _ _ => rfl), (fun _ _ => rfl), hI119, hs_jKept, trivial⟩ hP hS dX12_mean_21
  · obtain ⟨q59, k58⟩ := h13
    have q59 := q59.symm
    subst q59
    refine lv_if_ne (tgt := 10) hx hb dX12_mean_5 (by decide) (fun c => absurd (by decide) c) (fun _ => ?_)
    refine lv_iconst (v := (-1)) hx hb dX12_mean_8 (by decide) ?_
    exact hret (-1) σ τ _ _ _ _ rfl ⟨rfl, (fun _ _ => rfl), (fun _ _ => rfl), hI119, hs_jKept, trivial⟩ hP hS dX12_mean_9
set_option maxHeartbeats 4000000 in
set_option maxRecDepth 100000 in
theorem c_X12_likely (l : Launch) (D : va_G) (cI cL : ClassId) (ad zz : Nat → Nat) (hJ : jD ad) (σ : Nat → Nat → Int32) (τ : Nat → Nat → Int64) (a1 : Int32) (A1 : Int) (t1 : a1.toInt = A1) (a2 : Int32) (A2 : Int) (t2 : a2.toInt = A2) (hI101 : jI101 σ) (hI102 : jI102 σ) (hI103 : jI103 σ) (hI104 : jI104 σ) (hI105 : jI105 σ) (hI106 : jI106 σ) (hI119 : jI119 σ) (hs_jKept : jKept σ) : jM l yX12_likely cX12_likely 3 (some .int) ({ frames := 139, cells := 0, slots := 0, locals := 7210 }) D cI cL ad zz [.ref (ad 55), .int a1, .int a2] σ τ (fun r σ' τ' => τ = τ' ∧ (∀ i : Nat, (i < 55 ∨ 55 < i) ∧ (i < 66 ∨ 66 < i) ∧ (i < 68 ∨ 69 < i) ∧ (i < 74 ∨ 78 < i) → σ' i = σ i) ∧ (∀ k : Nat, (k < 18 ∨ 18 < k) ∧ (k < 19 ∨ 19 < k) ∧ (k < 20 ∨ 20 < k) ∧ (k < 21 ∨ 21 < k) ∧ (k < 22 ∨ 22 < k) ∧ (k < 25 ∨ 25 < k) ∧ (k < 26 ∨ 26 < k) ∧ (k < 27 ∨ 27 < k) ∧ (k < 37 ∨ 37 < k) ∧ (k < 42 ∨ 42 < k) → σ' 55 k = σ 55 k) ∧ (jI119 σ') ∧ (jKept σ') ∧ True) := by
  refine jM.of hJ (by decide +kernel) (nt := .int) rfl (Nat.le_of_ble_eq_true rfl) ?_
  intro p e s m args below meth c Q ls hC hret hl hP
  obtain ⟨hx, hb, hr, hml, hown, hts, hK, -, hlocks, hZ⟩ := hC
  have hown : s.vm.findClass RX12 = some m.cls := hown
  have hS : va_S (jA ad) s.heap s.heap [] := va_S.rf
  have hA : ∀ q, jA ad q → jA ad q := fun _ h => h
  have hl : lv_has ls 3 [(0, .ref (ad 55)), (1, .int a1), (2, .int a2)] := hl
  have g1 := jrg t1
  have g2 := jrg t2
  obtain ⟨i1, i2, i3, w4, w5⟩ : (1 ≤ (σ 55 10).toInt ∧ (σ 55 10).toInt ≤ 8) ∧ (1 ≤ (σ 55 12).toInt ∧ (σ 55 12).toInt ≤ 12) ∧ (0 ≤ (σ 55 13).toInt ∧ (σ 55 13).toInt ≤ 999) ∧ (∀ k : Nat, k < 8 → 0 ≤ (σ 62 k).toInt ∧ (σ 62 k).toInt ≤ 3) ∧ (∀ k : Nat, k < 8 → 0 ≤ (σ 67 k).toInt ∧ (σ 67 k).toInt ≤ 3) := id hI104
  obtain ⟨i6, w7, w8, w9⟩ : (0 ≤ (σ 55 32).toInt ∧ (σ 55 32).toInt ≤ 20) ∧ (∀ k : Nat, k < 20 → 0 ≤ (σ 70 k).toInt ∧ (σ 70 k).toInt ≤ 6) ∧ (∀ k : Nat, k < 20 → 0 ≤ (σ 71 k).toInt ∧ (σ 71 k).toInt ≤ 8) ∧ (∀ k : Nat, k < 160 → 0 ≤ (σ 72 k).toInt ∧ (σ 72 k).toInt ≤ 3) := id hI106
  refine lv_aload_n hx hb dX12_likely_0 rfl (lv_at hl 0 rfl) ?_
  refine lv_iload_n hx hb dX12_likely_1 rfl (lv_at hl 1 rfl) ?_
  refine jcallV (As := [.int a1]) (rest := []) ⟨hx, hb, hml, hown, hts⟩ hK hP hA hS hZ (c_X12_isRule l D cI cL ad zz hJ σ τ a1 (A1) t1 hI106) cw_RX12_331 (jc_55 cI cL ad σ τ) rfl ⟨Nat.le_of_ble_eq_true rfl, Nat.le_of_ble_eq_true rfl⟩ rfl rfl rfl hl.1 rfl (Nat.le_of_ble_eq_true rfl) dX12_likely_2 ⟨Nat.zero_le _, Nat.zero_le _⟩ (fun r11 σ10 τ10 H locs h10 hP hS => ?_)
  obtain ⟨⟨rfl, rfl⟩, h10⟩ := h10
  rcases h10 with h12 | h13
  · obtain ⟨q15, k14⟩ := h12
    have q15 := q15.symm
    subst q15
    refine lv_if_eq (tgt := 20) hx hb dX12_likely_5 (by decide) (fun c => absurd c (by decide)) (fun _ => ?_)
    refine lv_iload_n hx hb dX12_likely_8 rfl (lv_at hl 2 rfl) ?_
    refine lv_i2l (v := a2.toInt64) hx hb dX12_likely_9 rfl ?_
    refine lv_lconst (v := 0) hx hb dX12_likely_10 (by decide) ?_
    refine lv_ldc2 (v := 999) hx hb hown (hts _ kw_37_8) dX12_likely_11 ?_
    refine jcallS (As := [.long a2.toInt64, .long 0, .long 999]) (rest := []) ⟨hx, hb, hml, hown, hts⟩ hK hP hA hS hZ (c_X12_within l D cI cL ad zz hJ σ τ a2.toInt64 (A2) (jtoL t2) 0 (0) jzl_0 999 (999) jzl_999) cw_RX12_136 ⟨Nat.le_of_ble_eq_true rfl, Nat.le_of_ble_eq_true rfl⟩ rfl rfl rfl hl.1 rfl (Nat.le_of_ble_eq_true rfl) dX12_likely_14 ⟨Nat.zero_le _, Nat.zero_le _⟩ (fun r17 σ16 τ16 H locs h16 hP hS => ?_)
    obtain ⟨⟨rfl, rfl⟩, h16⟩ := h16
    rcases h16 with h18 | h19
    · obtain ⟨q21, k20⟩ := h18
      have q21 := q21.symm
      subst q21
      refine lv_if_ne (tgt := 22) hx hb dX12_likely_17 (by decide) (fun _ => ?_) (fun c => absurd c (by decide))
      refine lv_aload_n hx hb dX12_likely_22 rfl (lv_at hl 0 rfl) ?_
      refine va_get (D := D) hx hb hts inlX12 hown hK hP 55 (jc_55 cI cL ad σ τ) rfl 12 (by decide) (hts _ kw_8_16) (fun _ h9 => h9) rfl dX12_likely_23 ?_
      refine lv_bipush (v := 8) hx hb dX12_likely_26 (by decide) ?_
      refine lv_icmp_le (tgt := 34) hx hb dX12_likely_28 (by decide) (fun c22 => ?_) (fun c22 => ?_)
      · have kc22 := jle c22 rfl jz_8
        refine lv_aload_n hx hb dX12_likely_34 rfl (lv_at hl 0 rfl) ?_
        have w23 : ∀ k : Nat, k < 4 → 0 ≤ (σ 68 k).toInt ∧ (σ 68 k).toInt ≤ 3 := hI119
        refine jcallVv (As := []) (rest := []) ⟨hx, hb, hml, hown, hts⟩ hK hP hA hS hZ (c_X12_begin l D cI cL ad zz hJ σ τ hI104 w23) cw_RX12_256 (jc_55 cI cL ad σ τ) rfl ⟨Nat.le_of_ble_eq_true rfl, Nat.le_of_ble_eq_true rfl⟩ rfl rfl rfl hl.1 rfl (Nat.le_of_ble_eq_true rfl) dX12_likely_35 ⟨Nat.zero_le _, Nat.zero_le _⟩ (fun σ24 τ24 H locs h24 hP hS => ?_)
        obtain ⟨rfl, f26, f27, I28, h24⟩ := h24
        obtain ⟨i30, i31, i32, i33, i34, w35⟩ : (0 ≤ (σ24 55 25).toInt) ∧ ((σ24 55 25).toInt ≤ (σ24 55 10).toInt) ∧ (0 ≤ (σ24 55 26).toInt) ∧ ((σ24 55 26).toInt ≤ (σ24 55 12).toInt) ∧ ((-1) ≤ (σ24 55 27).toInt ∧ (σ24 55 27).toInt ≤ 3) ∧ (∀ k : Nat, k < 4 → 0 ≤ (σ24 68 k).toInt ∧ (σ24 68 k).toInt ≤ 3) := id I28
        have z36 : (σ24 55 10).toInt = (σ 55 10).toInt := (congrArg Int32.toInt (show σ24 55 10 = (σ 55 10) from (f27 10 (by decide))))
        have z37 : (σ24 55 12).toInt = (σ 55 12).toInt := (congrArg Int32.toInt (show σ24 55 12 = (σ 55 12) from (f27 12 (by decide))))
        obtain ⟨k38, k39, k40, h24⟩ := h24
        refine lv_aload_n hx hb dX12_likely_38 rfl (lv_at hl 0 rfl) ?_
        refine jcallVv (As := []) (rest := []) ⟨hx, hb, hml, hown, hts⟩ hK hP hA hS hZ (c_X12_forgets l D cI cL ad zz hJ σ24 τ) cw_RX12_341 (jc_55 cI cL ad σ24 τ) rfl ⟨Nat.le_of_ble_eq_true rfl, Nat.le_of_ble_eq_true rfl⟩ rfl rfl rfl hl.1 rfl (Nat.le_of_ble_eq_true rfl) dX12_likely_39 ⟨Nat.zero_le _, Nat.zero_le _⟩ (fun σ41 τ41 H locs h41 hP hS => ?_)
        obtain ⟨rfl, f43, f44, h41⟩ := h41
        refine lv_aload_n hx hb dX12_likely_42 rfl (lv_at hl 0 rfl) ?_
        refine lv_iload_n hx hb dX12_likely_43 rfl (lv_at hl 1 rfl) ?_
        refine lv_iload_n hx hb dX12_likely_44 rfl (lv_at hl 2 rfl) ?_
        have I46 : jI101 σ41 := jI101_fr ((f44 4 (by decide)).trans (f27 4 (by decide))) ((f44 5 (by decide)).trans (f27 5 (by decide))) ((f43 56 (by decide)).trans (f26 56 (by decide))) ((f43 57 (by decide)).trans (f26 57 (by decide))) ((f43 58 (by decide)).trans (f26 58 (by decide))) ((f43 59 (by decide)).trans (f26 59 (by decide))) hI101
        have I47 : jI102 σ41 := jI102_fr ((f44 6 (by decide)).trans (f27 6 (by decide))) ((f43 60 (by decide)).trans (f26 60 (by decide))) ((f43 61 (by decide)).trans (f26 61 (by decide))) hI102
        have I48 : jI103 σ41 := jI103_fr ((f44 9 (by decide)).trans (f27 9 (by decide))) hI103
        have I49 : jI104 σ41 := jI104_fr ((f44 10 (by decide)).trans (f27 10 (by decide))) ((f44 12 (by decide)).trans (f27 12 (by decide))) ((f44 13 (by decide)).trans (f27 13 (by decide))) ((f43 62 (by decide)).trans (f26 62 (by decide))) ((f43 67 (by decide)).trans (f26 67 (by decide))) hI104
        have I50 : jI105 σ41 := jI105_fr ((f44 15 (by decide)).trans (f27 15 (by decide))) ((f43 65 (by decide)).trans (f26 65 (by decide))) hI105
        have I51 : jI106 σ41 := jI106_fr ((f44 32 (by decide)).trans (f27 32 (by decide))) ((f43 70 (by decide)).trans (f26 70 (by decide))) ((f43 71 (by decide)).trans (f26 71 (by decide))) ((f43 72 (by decide)).trans (f26 72 (by decide))) hI106
        have I52 : jI120 σ41 := jI120_fr (f44 10 (by decide)) (f44 12 (by decide)) (f44 25 (by decide)) (f44 26 (by decide)) (f44 27 (by decide)) (f43 68 (by decide)) I28
        have p53 : jKept σ41 := jKept.fr ((f43 75 (by decide)).trans (f26 75 (by decide))) ((f43 76 (by decide)).trans (f26 76 (by decide))) ((f43 77 (by decide)).trans (f26 77 (by decide))) hs_jKept
        have z54 : (σ41 55 12).toInt = (σ 55 12).toInt := (congrArg Int32.toInt (show σ41 55 12 = (σ 55 12) from ((f44 12 (by decide)).trans (f27 12 (by decide)))))
        have z55 : (σ41 55 26).toInt = (σ24 55 26).toInt := (congrArg Int32.toInt (show σ41 55 26 = (σ24 55 26) from (f44 26 (by decide))))
        refine jcallV (As := [.int a1, .int a2]) (rest := []) ⟨hx, hb, hml, hown, hts⟩ hK hP hA hS hZ ((c_X12_likelies l D cI cL ad zz hJ 8) σ41 τ a1 (A1) t1 a2 (A2) t2 I46 I47 I48 I49 I50 I51 I52 p53 (by omega) (by omega) (by omega)) cw_RX12_328 (jc_55 cI cL ad σ41 τ) rfl ⟨Nat.le_of_ble_eq_true rfl, Nat.le_of_ble_eq_true rfl⟩ rfl rfl rfl hl.1 rfl (Nat.le_of_ble_eq_true rfl) dX12_likely_45 ⟨Nat.zero_le _, Nat.zero_le _⟩ (fun r57 σ56 τ56 H locs h56 hP hS => ?_)
        obtain ⟨rfl, f58, f59, p60, h56⟩ := h56
        have w62 : ∀ k : Nat, k < 4 → 0 ≤ (σ56 68 k).toInt ∧ (σ56 68 k).toInt ≤ 3 := (jrr_fr (f58 68 (by decide)) (jrr_fr (f43 68 (by decide)) w35))
        have I63 : jI119 σ56 := w62
        exact hret r57 σ56 τ _ _ _ _ rfl ⟨rfl, (fun i hi => ((f58 i (imp_258 i hi)).trans ((f43 i (imp_259 i hi)).trans (f26 i (imp_256 i hi))))), (fun i hi => ((f59 i (imp_260 i hi)).trans ((f44 i (imp_261 i hi)).trans (f27 i (imp_257 i hi))))), I63, p60, trivial⟩ hP hS dX12_likely_48
      · have kc22 := jnle c22 rfl jz_8
        refine lv_bipush (v := (-4)) hx hb dX12_likely_31 (by decide) ?_
        exact hret (-4) σ τ _ _ _ _ rfl ⟨rfl, (fun _ _ => rfl), (fun _ _ => rfl), hI119, hs_jKept, trivial⟩ hP hS dX12_likely_33
    · obtain ⟨q65, k64⟩ := h19
      have q65 := q65.symm
      subst q65
      refine lv_if_ne (tgt := 22) hx hb dX12_likely_17 (by decide) (fun c => absurd (by decide) c) (fun _ => ?_)
      refine lv_iconst (v := (-1)) hx hb dX12_likely_20 (by decide) ?_
      exact hret (-1) σ τ _ _ _ _ rfl ⟨rfl, (fun _ _ => rfl), (fun _ _ => rfl), hI119, hs_jKept, trivial⟩ hP hS dX12_likely_21
  · obtain ⟨q67, k66⟩ := h13
    have q67 := q67.symm
    subst q67
    refine lv_if_eq (tgt := 20) hx hb dX12_likely_5 (by decide) (fun _ => ?_) (fun c => absurd (by decide) c)
    refine lv_iconst (v := (-1)) hx hb dX12_likely_20 (by decide) ?_
    exact hret (-1) σ τ _ _ _ _ rfl ⟨rfl, (fun _ _ => rfl), (fun _ _ => rfl), hI119, hs_jKept, trivial⟩ hP hS dX12_likely_21
set_option maxHeartbeats 4000000 in
set_option maxRecDepth 100000 in
theorem c_X12_best (l : Launch) (D : va_G) (cI cL : ClassId) (ad zz : Nat → Nat) (hJ : jD ad) (σ : Nat → Nat → Int32) (τ : Nat → Nat → Int64) (a1 : Int32) (A1 : Int) (t1 : a1.toInt = A1) (hI101 : jI101 σ) (hI102 : jI102 σ) (hI103 : jI103 σ) (hI104 : jI104 σ) (hI105 : jI105 σ) (hI106 : jI106 σ) (hI107 : jI107 σ) (hI119 : jI119 σ) (hs_jKept : jKept σ) (hs_jBook : jBook σ) : jM l yX12_best cX12_best 3 (some .int) ({ frames := 103, cells := 0, slots := 0, locals := 5061 }) D cI cL ad zz [.ref (ad 55), .int a1] σ τ (fun r σ' τ' => τ = τ' ∧ (∀ i : Nat, (i < 55 ∨ 55 < i) ∧ (i < 66 ∨ 66 < i) ∧ (i < 68 ∨ 69 < i) ∧ (i < 74 ∨ 78 < i) → σ' i = σ i) ∧ (∀ k : Nat, (k < 18 ∨ 18 < k) ∧ (k < 19 ∨ 19 < k) ∧ (k < 20 ∨ 20 < k) ∧ (k < 21 ∨ 21 < k) ∧ (k < 22 ∨ 22 < k) ∧ (k < 25 ∨ 25 < k) ∧ (k < 26 ∨ 26 < k) ∧ (k < 27 ∨ 27 < k) ∧ (k < 37 ∨ 37 < k) ∧ (k < 42 ∨ 42 < k) → σ' 55 k = σ 55 k) ∧ (jI119 σ') ∧ (jKept σ') ∧ (jBook σ') ∧ True) := by
  refine jM.of hJ (by decide +kernel) (nt := .int) rfl (Nat.le_of_ble_eq_true rfl) ?_
  intro p e s m args below meth c Q ls hC hret hl hP
  obtain ⟨hx, hb, hr, hml, hown, hts, hK, -, hlocks, hZ⟩ := hC
  have hown : s.vm.findClass RX12 = some m.cls := hown
  have hS : va_S (jA ad) s.heap s.heap [] := va_S.rf
  have hA : ∀ q, jA ad q → jA ad q := fun _ h => h
  have hl : lv_has ls 3 [(0, .ref (ad 55)), (1, .int a1)] := hl
  have g1 := jrg t1
  obtain ⟨i1, w2, w3⟩ : (0 ≤ (σ 55 6).toInt ∧ (σ 55 6).toInt ≤ 4) ∧ (∀ k : Nat, k < 4 → 0 ≤ (σ 60 k).toInt ∧ (σ 60 k).toInt ≤ 50) ∧ (∀ k : Nat, k < 4 → 0 ≤ (σ 61 k).toInt ∧ (σ 61 k).toInt ≤ 20) := id hI102
  obtain ⟨i4, i5, i6, w7, w8⟩ : (1 ≤ (σ 55 10).toInt ∧ (σ 55 10).toInt ≤ 8) ∧ (1 ≤ (σ 55 12).toInt ∧ (σ 55 12).toInt ≤ 12) ∧ (0 ≤ (σ 55 13).toInt ∧ (σ 55 13).toInt ≤ 999) ∧ (∀ k : Nat, k < 8 → 0 ≤ (σ 62 k).toInt ∧ (σ 62 k).toInt ≤ 3) ∧ (∀ k : Nat, k < 8 → 0 ≤ (σ 67 k).toInt ∧ (σ 67 k).toInt ≤ 3) := id hI104
  obtain ⟨i9, i10, w11⟩ : (0 ≤ (σ 55 47).toInt ∧ (σ 55 47).toInt ≤ 12) ∧ ((σ 55 47).toInt ≤ (σ 55 12).toInt) ∧ (∀ k : Nat, k < 12 → 0 ≤ (σ 80 k).toInt ∧ (σ 80 k).toInt ≤ 3) := id hI107
  refine lv_iload_n hx hb dX12_best_0 rfl (lv_at hl 1 rfl) ?_
  refine lv_i2l (v := a1.toInt64) hx hb dX12_best_1 rfl ?_
  refine lv_lconst (v := 0) hx hb dX12_best_2 (by decide) ?_
  refine lv_lconst (v := 1) hx hb dX12_best_3 (by decide) ?_
  refine jcallS (As := [.long a1.toInt64, .long 0, .long 1]) (rest := []) ⟨hx, hb, hml, hown, hts⟩ hK hP hA hS hZ (c_X12_within l D cI cL ad zz hJ σ τ a1.toInt64 (A1) (jtoL t1) 0 (0) jzl_0 1 (1) jzl_1) cw_RX12_136 ⟨Nat.le_of_ble_eq_true rfl, Nat.le_of_ble_eq_true rfl⟩ rfl rfl rfl hl.1 rfl (Nat.le_of_ble_eq_true rfl) dX12_best_4 ⟨Nat.zero_le _, Nat.zero_le _⟩ (fun r13 σ12 τ12 H locs h12 hP hS => ?_)
  obtain ⟨⟨rfl, rfl⟩, h12⟩ := h12
  rcases h12 with h14 | h15
  · obtain ⟨q17, k16⟩ := h14
    have q17 := q17.symm
    subst q17
    refine lv_if_ne (tgt := 12) hx hb dX12_best_7 (by decide) (fun _ => ?_) (fun c => absurd c (by decide))
    refine lv_aload_n hx hb dX12_best_12 rfl (lv_at hl 0 rfl) ?_
    refine lv_aload_n hx hb dX12_best_13 rfl (lv_at hl 0 rfl) ?_
    refine va_get (D := D) hx hb hts inlX12 hown hK hP 55 (jc_55 cI cL ad σ τ) rfl 47 (by decide) (hts _ kw_15_15) (fun _ h9 => h9) rfl dX12_best_14 ?_
    have w18 : ∀ k : Nat, k < 4 → 0 ≤ (σ 68 k).toInt ∧ (σ 68 k).toInt ≤ 3 := hI119
    refine jcallVv (As := [.int (σ 55 47)]) (rest := []) ⟨hx, hb, hml, hown, hts⟩ hK hP hA hS hZ (c_X12_goThroughBook l D cI cL ad zz hJ σ τ (σ 55 47) ((σ 55 47).toInt) rfl hI102 hI104 hI107 w18 hs_jBook (by omega) (by omega)) cw_RX12_334 (jc_55 cI cL ad σ τ) rfl ⟨Nat.le_of_ble_eq_true rfl, Nat.le_of_ble_eq_true rfl⟩ rfl rfl rfl hl.1 rfl (Nat.le_of_ble_eq_true rfl) dX12_best_17 ⟨Nat.zero_le _, Nat.zero_le _⟩ (fun σ19 τ19 H locs h19 hP hS => ?_)
    obtain ⟨rfl, f21, f22, I23, p24, h19⟩ := h19
    obtain ⟨i26, i27, i28, i29, i30, w31⟩ : (0 ≤ (σ19 55 25).toInt) ∧ ((σ19 55 25).toInt ≤ (σ19 55 10).toInt) ∧ (0 ≤ (σ19 55 26).toInt) ∧ ((σ19 55 26).toInt ≤ (σ19 55 12).toInt) ∧ ((-1) ≤ (σ19 55 27).toInt ∧ (σ19 55 27).toInt ≤ 3) ∧ (∀ k : Nat, k < 4 → 0 ≤ (σ19 68 k).toInt ∧ (σ19 68 k).toInt ≤ 3) := id I23
    have z32 : (σ19 55 10).toInt = (σ 55 10).toInt := (congrArg Int32.toInt (show σ19 55 10 = (σ 55 10) from (f22 10 (by decide))))
    have z33 : (σ19 55 12).toInt = (σ 55 12).toInt := (congrArg Int32.toInt (show σ19 55 12 = (σ 55 12) from (f22 12 (by decide))))
    obtain ⟨k34, k35, k36, h19⟩ := h19
    refine lv_aload_n hx hb dX12_best_20 rfl (lv_at hl 0 rfl) ?_
    have I37 : jI104 σ19 := jI104_fr (f22 10 (by decide)) (f22 12 (by decide)) (f22 13 (by decide)) (f21 62 (by decide)) (f21 67 (by decide)) hI104
    refine jcallV (As := []) (rest := []) ⟨hx, hb, hml, hown, hts⟩ hK hP hA hS hZ (c_X12_isBig l D cI cL ad zz hJ σ19 τ I37 (by omega)) cw_RX12_338 (jc_55 cI cL ad σ19 τ) rfl ⟨Nat.le_of_ble_eq_true rfl, Nat.le_of_ble_eq_true rfl⟩ rfl rfl rfl hl.1 rfl (Nat.le_of_ble_eq_true rfl) dX12_best_21 ⟨Nat.zero_le _, Nat.zero_le _⟩ (fun r39 σ38 τ38 H locs h38 hP hS => ?_)
    obtain ⟨⟨rfl, rfl⟩, h38⟩ := h38
    rcases h38 with h40 | h41
    · obtain ⟨q43, k42⟩ := h40
      have q43 := q43.symm
      subst q43
      refine lv_if_eq (tgt := 30) hx hb dX12_best_24 (by decide) (fun c => absurd c (by decide)) (fun _ => ?_)
      refine lv_bipush (v := (-4)) hx hb dX12_best_27 (by decide) ?_
      have I44 : jI119 σ19 := w31
      have p45 : jKept σ19 := jKept.fr (f21 75 (by decide)) (f21 76 (by decide)) (f21 77 (by decide)) hs_jKept
      exact hret (-4) σ19 τ _ _ _ _ rfl ⟨rfl, (fun i hi => (f21 i (imp_256 i hi))), (fun i hi => (f22 i (imp_257 i hi))), I44, p45, p24, trivial⟩ hP hS dX12_best_29
    · obtain ⟨q47, k46⟩ := h41
      have q47 := q47.symm
      subst q47
      refine lv_if_eq (tgt := 30) hx hb dX12_best_24 (by decide) (fun _ => ?_) (fun c => absurd (by decide) c)
      refine lv_aload_n hx hb dX12_best_30 rfl (lv_at hl 0 rfl) ?_
      refine jcallVv (As := []) (rest := []) ⟨hx, hb, hml, hown, hts⟩ hK hP hA hS hZ (c_X12_forgets l D cI cL ad zz hJ σ19 τ) cw_RX12_341 (jc_55 cI cL ad σ19 τ) rfl ⟨Nat.le_of_ble_eq_true rfl, Nat.le_of_ble_eq_true rfl⟩ rfl rfl rfl hl.1 rfl (Nat.le_of_ble_eq_true rfl) dX12_best_31 ⟨Nat.zero_le _, Nat.zero_le _⟩ (fun σ48 τ48 H locs h48 hP hS => ?_)
      obtain ⟨rfl, f50, f51, h48⟩ := h48
      refine lv_aload_n hx hb dX12_best_34 rfl (lv_at hl 0 rfl) ?_
      have I53 : jI101 σ48 := jI101_fr ((f51 4 (by decide)).trans (f22 4 (by decide))) ((f51 5 (by decide)).trans (f22 5 (by decide))) ((f50 56 (by decide)).trans (f21 56 (by decide))) ((f50 57 (by decide)).trans (f21 57 (by decide))) ((f50 58 (by decide)).trans (f21 58 (by decide))) ((f50 59 (by decide)).trans (f21 59 (by decide))) hI101
      have I54 : jI102 σ48 := jI102_fr ((f51 6 (by decide)).trans (f22 6 (by decide))) ((f50 60 (by decide)).trans (f21 60 (by decide))) ((f50 61 (by decide)).trans (f21 61 (by decide))) hI102
      have I55 : jI103 σ48 := jI103_fr ((f51 9 (by decide)).trans (f22 9 (by decide))) hI103
      have I56 : jI104 σ48 := jI104_fr (f51 10 (by decide)) (f51 12 (by decide)) (f51 13 (by decide)) (f50 62 (by decide)) (f50 67 (by decide)) I37
      have I57 : jI105 σ48 := jI105_fr ((f51 15 (by decide)).trans (f22 15 (by decide))) ((f50 65 (by decide)).trans (f21 65 (by decide))) hI105
      have I58 : jI106 σ48 := jI106_fr ((f51 32 (by decide)).trans (f22 32 (by decide))) ((f50 70 (by decide)).trans (f21 70 (by decide))) ((f50 71 (by decide)).trans (f21 71 (by decide))) ((f50 72 (by decide)).trans (f21 72 (by decide))) hI106
      have I59 : jI120 σ48 := jI120_fr (f51 10 (by decide)) (f51 12 (by decide)) (f51 25 (by decide)) (f51 26 (by decide)) (f51 27 (by decide)) (f50 68 (by decide)) I23
      have p60 : jKept σ48 := jKept.fr ((f50 75 (by decide)).trans (f21 75 (by decide))) ((f50 76 (by decide)).trans (f21 76 (by decide))) ((f50 77 (by decide)).trans (f21 77 (by decide))) hs_jKept
      have z61 : (σ48 55 12).toInt = (σ 55 12).toInt := (congrArg Int32.toInt (show σ48 55 12 = (σ 55 12) from ((f51 12 (by decide)).trans (f22 12 (by decide)))))
      have z62 : (σ48 55 26).toInt = (σ19 55 26).toInt := (congrArg Int32.toInt (show σ48 55 26 = (σ19 55 26) from (f51 26 (by decide))))
      refine jcallV (As := []) (rest := []) ⟨hx, hb, hml, hown, hts⟩ hK hP hA hS hZ ((c_X12_bests l D cI cL ad zz hJ 8).2.1 σ48 τ I53 I54 I55 I56 I57 I58 I59 p60 (by omega)) cw_RX12_280 (jc_55 cI cL ad σ48 τ) rfl ⟨Nat.le_of_ble_eq_true rfl, Nat.le_of_ble_eq_true rfl⟩ rfl rfl rfl hl.1 rfl (Nat.le_of_ble_eq_true rfl) dX12_best_35 ⟨Nat.zero_le _, Nat.zero_le _⟩ (fun r64 σ63 τ63 H locs h63 hP hS => ?_)
      obtain ⟨rfl, f65, f66, p67, h63⟩ := h63
      obtain ⟨k69, h63⟩ := h63
      have h70 := h63
      obtain ⟨q72, k71⟩ := h70
      refine lv_istore_n (lv' := [(2, .int r64), (0, .ref (ad 55)), (1, .int a1)]) hx hb dX12_best_38 rfl hl (by decide) rfl (fun ls hl => ?_)
      refine lv_iload_n hx hb dX12_best_39 rfl (lv_at hl 2 rfl) ?_
      refine lv_if_ne (tgt := 47) hx hb dX12_best_40 (by decide) (fun c73 => ?_) (fun c73 => ?_)
      · have kc73 := jne c73 t1 jz_0
        refine lv_aload_n hx hb dX12_best_47 rfl (lv_at hl 1 rfl) ?_
        refine va_get (D := D) hx hb hts inlX12 hown hK hP 55 (jc_55 cI cL ad σ63 τ) rfl 37 (by decide) (hts _ kw_33_15) (fun _ h9 => h9) rfl dX12_best_48 ?_
        have w74 : ∀ k : Nat, k < 4 → 0 ≤ (σ63 68 k).toInt ∧ (σ63 68 k).toInt ≤ 3 := (jrr_fr (f65 68 (by decide)) (jrr_fr (f50 68 (by decide)) w31))
        have I75 : jI119 σ63 := w74
        have p76 : jBook σ63 := jBook.fr ((f66 47 (by decide)).trans (f51 47 (by decide))) ((f66 10 (by decide)).trans (f51 10 (by decide))) ((f65 81 (by decide)).trans (f50 81 (by decide))) p24
        exact hret (σ63 55 37) σ63 τ _ _ _ _ rfl ⟨rfl, (fun i hi => ((f65 i (imp_258 i hi)).trans ((f50 i (imp_259 i hi)).trans (f21 i (imp_256 i hi))))), (fun i hi => ((f66 i (imp_260 i hi)).trans ((f51 i (imp_261 i hi)).trans (f22 i (imp_257 i hi))))), I75, p67, p76, trivial⟩ hP hS dX12_best_51
      · have kc73 := jeq c73 t1 jz_0
        refine lv_iload_n hx hb dX12_best_43 rfl (lv_at hl 0 rfl) ?_
        refine lv_goto (tgt := 51) hx hb dX12_best_44 (by decide) ?_
        have w77 : ∀ k : Nat, k < 4 → 0 ≤ (σ63 68 k).toInt ∧ (σ63 68 k).toInt ≤ 3 := (jrr_fr (f65 68 (by decide)) (jrr_fr (f50 68 (by decide)) w31))
        have I78 : jI119 σ63 := w77
        have p79 : jBook σ63 := jBook.fr ((f66 47 (by decide)).trans (f51 47 (by decide))) ((f66 10 (by decide)).trans (f51 10 (by decide))) ((f65 81 (by decide)).trans (f50 81 (by decide))) p24
        exact hret r64 σ63 τ _ _ _ _ rfl ⟨rfl, (fun i hi => ((f65 i (imp_258 i hi)).trans ((f50 i (imp_259 i hi)).trans (f21 i (imp_256 i hi))))), (fun i hi => ((f66 i (imp_260 i hi)).trans ((f51 i (imp_261 i hi)).trans (f22 i (imp_257 i hi))))), I78, p67, p79, trivial⟩ hP hS dX12_best_51
  · obtain ⟨q81, k80⟩ := h15
    have q81 := q81.symm
    subst q81
    refine lv_if_ne (tgt := 12) hx hb dX12_best_7 (by decide) (fun c => absurd (by decide) c) (fun _ => ?_)
    refine lv_iconst (v := (-1)) hx hb dX12_best_10 (by decide) ?_
    exact hret (-1) σ τ _ _ _ _ rfl ⟨rfl, (fun _ _ => rfl), (fun _ _ => rfl), hI119, hs_jKept, hs_jBook, trivial⟩ hP hS dX12_best_11
set_option maxHeartbeats 4000000 in
set_option maxRecDepth 100000 in
theorem c_X12_bestNow (l : Launch) (D : va_G) (cI cL : ClassId) (ad zz : Nat → Nat) (hJ : jD ad) (σ : Nat → Nat → Int32) (τ : Nat → Nat → Int64) (hI101 : jI101 σ) (hI102 : jI102 σ) (hI103 : jI103 σ) (hI104 : jI104 σ) (hI105 : jI105 σ) (hI106 : jI106 σ) (hI119 : jI119 σ) (hs_jKept : jKept σ) (hp0 : (σ 55 12).toInt ≤ 8) : jM l yX12_bestNow cX12_bestNow 1 (some .int) ({ frames := 103, cells := 0, slots := 0, locals := 5061 }) D cI cL ad zz [.ref (ad 55)] σ τ (fun r σ' τ' => τ = τ' ∧ (∀ i : Nat, (i < 55 ∨ 55 < i) ∧ (i < 66 ∨ 66 < i) ∧ (i < 68 ∨ 69 < i) ∧ (i < 74 ∨ 78 < i) → σ' i = σ i) ∧ (∀ k : Nat, (k < 18 ∨ 18 < k) ∧ (k < 19 ∨ 19 < k) ∧ (k < 20 ∨ 20 < k) ∧ (k < 21 ∨ 21 < k) ∧ (k < 22 ∨ 22 < k) ∧ (k < 25 ∨ 25 < k) ∧ (k < 26 ∨ 26 < k) ∧ (k < 27 ∨ 27 < k) ∧ (k < 37 ∨ 37 < k) ∧ (k < 42 ∨ 42 < k) → σ' 55 k = σ 55 k) ∧ (jI119 σ') ∧ (jKept σ') ∧ True) := by
  refine jM.of hJ (by decide +kernel) (nt := .int) rfl (Nat.le_of_ble_eq_true rfl) ?_
  intro p e s m args below meth c Q ls hC hret hl hP
  obtain ⟨hx, hb, hr, hml, hown, hts, hK, -, hlocks, hZ⟩ := hC
  have hown : s.vm.findClass RX12 = some m.cls := hown
  have hS : va_S (jA ad) s.heap s.heap [] := va_S.rf
  have hA : ∀ q, jA ad q → jA ad q := fun _ h => h
  have hl : lv_has ls 1 [(0, .ref (ad 55))] := hl
  obtain ⟨i1, w2, w3⟩ : (0 ≤ (σ 55 6).toInt ∧ (σ 55 6).toInt ≤ 4) ∧ (∀ k : Nat, k < 4 → 0 ≤ (σ 60 k).toInt ∧ (σ 60 k).toInt ≤ 50) ∧ (∀ k : Nat, k < 4 → 0 ≤ (σ 61 k).toInt ∧ (σ 61 k).toInt ≤ 20) := id hI102
  obtain ⟨i4, i5, i6, w7, w8⟩ : (1 ≤ (σ 55 10).toInt ∧ (σ 55 10).toInt ≤ 8) ∧ (1 ≤ (σ 55 12).toInt ∧ (σ 55 12).toInt ≤ 12) ∧ (0 ≤ (σ 55 13).toInt ∧ (σ 55 13).toInt ≤ 999) ∧ (∀ k : Nat, k < 8 → 0 ≤ (σ 62 k).toInt ∧ (σ 62 k).toInt ≤ 3) ∧ (∀ k : Nat, k < 8 → 0 ≤ (σ 67 k).toInt ∧ (σ 67 k).toInt ≤ 3) := id hI104
  refine lv_aload_n hx hb dX12_bestNow_0 rfl (lv_at hl 0 rfl) ?_
  have w9 : ∀ k : Nat, k < 4 → 0 ≤ (σ 68 k).toInt ∧ (σ 68 k).toInt ≤ 3 := hI119
  refine jcallVv (As := []) (rest := []) ⟨hx, hb, hml, hown, hts⟩ hK hP hA hS hZ (c_X12_begin l D cI cL ad zz hJ σ τ hI104 w9) cw_RX12_256 (jc_55 cI cL ad σ τ) rfl ⟨Nat.le_of_ble_eq_true rfl, Nat.le_of_ble_eq_true rfl⟩ rfl rfl rfl hl.1 rfl (Nat.le_of_ble_eq_true rfl) dX12_bestNow_1 ⟨Nat.zero_le _, Nat.zero_le _⟩ (fun σ10 τ10 H locs h10 hP hS => ?_)
  obtain ⟨rfl, f12, f13, I14, h10⟩ := h10
  obtain ⟨i16, i17, i18, i19, i20, w21⟩ : (0 ≤ (σ10 55 25).toInt) ∧ ((σ10 55 25).toInt ≤ (σ10 55 10).toInt) ∧ (0 ≤ (σ10 55 26).toInt) ∧ ((σ10 55 26).toInt ≤ (σ10 55 12).toInt) ∧ ((-1) ≤ (σ10 55 27).toInt ∧ (σ10 55 27).toInt ≤ 3) ∧ (∀ k : Nat, k < 4 → 0 ≤ (σ10 68 k).toInt ∧ (σ10 68 k).toInt ≤ 3) := id I14
  have z22 : (σ10 55 10).toInt = (σ 55 10).toInt := (congrArg Int32.toInt (show σ10 55 10 = (σ 55 10) from (f13 10 (by decide))))
  have z23 : (σ10 55 12).toInt = (σ 55 12).toInt := (congrArg Int32.toInt (show σ10 55 12 = (σ 55 12) from (f13 12 (by decide))))
  obtain ⟨k24, k25, k26, h10⟩ := h10
  refine lv_aload_n hx hb dX12_bestNow_4 rfl (lv_at hl 0 rfl) ?_
  refine jcallVv (As := []) (rest := []) ⟨hx, hb, hml, hown, hts⟩ hK hP hA hS hZ (c_X12_forgets l D cI cL ad zz hJ σ10 τ) cw_RX12_341 (jc_55 cI cL ad σ10 τ) rfl ⟨Nat.le_of_ble_eq_true rfl, Nat.le_of_ble_eq_true rfl⟩ rfl rfl rfl hl.1 rfl (Nat.le_of_ble_eq_true rfl) dX12_bestNow_5 ⟨Nat.zero_le _, Nat.zero_le _⟩ (fun σ27 τ27 H locs h27 hP hS => ?_)
  obtain ⟨rfl, f29, f30, h27⟩ := h27
  refine lv_aload_n hx hb dX12_bestNow_8 rfl (lv_at hl 0 rfl) ?_
  have I32 : jI101 σ27 := jI101_fr ((f30 4 (by decide)).trans (f13 4 (by decide))) ((f30 5 (by decide)).trans (f13 5 (by decide))) ((f29 56 (by decide)).trans (f12 56 (by decide))) ((f29 57 (by decide)).trans (f12 57 (by decide))) ((f29 58 (by decide)).trans (f12 58 (by decide))) ((f29 59 (by decide)).trans (f12 59 (by decide))) hI101
  have I33 : jI102 σ27 := jI102_fr ((f30 6 (by decide)).trans (f13 6 (by decide))) ((f29 60 (by decide)).trans (f12 60 (by decide))) ((f29 61 (by decide)).trans (f12 61 (by decide))) hI102
  have I34 : jI103 σ27 := jI103_fr ((f30 9 (by decide)).trans (f13 9 (by decide))) hI103
  have I35 : jI104 σ27 := jI104_fr ((f30 10 (by decide)).trans (f13 10 (by decide))) ((f30 12 (by decide)).trans (f13 12 (by decide))) ((f30 13 (by decide)).trans (f13 13 (by decide))) ((f29 62 (by decide)).trans (f12 62 (by decide))) ((f29 67 (by decide)).trans (f12 67 (by decide))) hI104
  have I36 : jI105 σ27 := jI105_fr ((f30 15 (by decide)).trans (f13 15 (by decide))) ((f29 65 (by decide)).trans (f12 65 (by decide))) hI105
  have I37 : jI106 σ27 := jI106_fr ((f30 32 (by decide)).trans (f13 32 (by decide))) ((f29 70 (by decide)).trans (f12 70 (by decide))) ((f29 71 (by decide)).trans (f12 71 (by decide))) ((f29 72 (by decide)).trans (f12 72 (by decide))) hI106
  have I38 : jI120 σ27 := jI120_fr (f30 10 (by decide)) (f30 12 (by decide)) (f30 25 (by decide)) (f30 26 (by decide)) (f30 27 (by decide)) (f29 68 (by decide)) I14
  have p39 : jKept σ27 := jKept.fr ((f29 75 (by decide)).trans (f12 75 (by decide))) ((f29 76 (by decide)).trans (f12 76 (by decide))) ((f29 77 (by decide)).trans (f12 77 (by decide))) hs_jKept
  have z40 : (σ27 55 12).toInt = (σ 55 12).toInt := (congrArg Int32.toInt (show σ27 55 12 = (σ 55 12) from ((f30 12 (by decide)).trans (f13 12 (by decide)))))
  have z41 : (σ27 55 26).toInt = (σ10 55 26).toInt := (congrArg Int32.toInt (show σ27 55 26 = (σ10 55 26) from (f30 26 (by decide))))
  refine jcallV (As := []) (rest := []) ⟨hx, hb, hml, hown, hts⟩ hK hP hA hS hZ ((c_X12_bests l D cI cL ad zz hJ 8).2.1 σ27 τ I32 I33 I34 I35 I36 I37 I38 p39 (by omega)) cw_RX12_280 (jc_55 cI cL ad σ27 τ) rfl ⟨Nat.le_of_ble_eq_true rfl, Nat.le_of_ble_eq_true rfl⟩ rfl rfl rfl hl.1 rfl (Nat.le_of_ble_eq_true rfl) dX12_bestNow_9 ⟨Nat.zero_le _, Nat.zero_le _⟩ (fun r43 σ42 τ42 H locs h42 hP hS => ?_)
  obtain ⟨rfl, f44, f45, p46, h42⟩ := h42
  obtain ⟨k48, h42⟩ := h42
  have h49 := h42
  obtain ⟨q51, k50⟩ := h49
  have w52 : ∀ k : Nat, k < 4 → 0 ≤ (σ42 68 k).toInt ∧ (σ42 68 k).toInt ≤ 3 := (jrr_fr (f44 68 (by decide)) (jrr_fr (f29 68 (by decide)) w21))
  have I53 : jI119 σ42 := w52
  exact hret r43 σ42 τ _ _ _ _ rfl ⟨rfl, (fun i hi => ((f44 i (imp_258 i hi)).trans ((f29 i (imp_259 i hi)).trans (f12 i (imp_256 i hi))))), (fun i hi => ((f45 i (imp_260 i hi)).trans ((f30 i (imp_261 i hi)).trans (f13 i (imp_257 i hi))))), I53, p46, trivial⟩ hP hS dX12_bestNow_12
set_option maxHeartbeats 4000000 in
set_option maxRecDepth 100000 in
theorem c_X12_worth (l : Launch) (D : va_G) (cI cL : ClassId) (ad zz : Nat → Nat) (hJ : jD ad) (σ : Nat → Nat → Int32) (τ : Nat → Nat → Int64) (a1 : Int32) (A1 : Int) (t1 : a1.toInt = A1) (a2 : Int32) (A2 : Int) (t2 : a2.toInt = A2) (hI101 : jI101 σ) (hI102 : jI102 σ) (hI103 : jI103 σ) (hI104 : jI104 σ) (hI105 : jI105 σ) (hI106 : jI106 σ) (hI119 : jI119 σ) (hs_jKept : jKept σ) : jM l yX12_worth cX12_worth 5 (some .int) ({ frames := 104, cells := 0, slots := 0, locals := 5081 }) D cI cL ad zz [.ref (ad 55), .int a1, .int a2] σ τ (fun r σ' τ' => τ = τ' ∧ (∀ i : Nat, (i < 55 ∨ 55 < i) ∧ (i < 66 ∨ 66 < i) ∧ (i < 68 ∨ 69 < i) ∧ (i < 74 ∨ 78 < i) → σ' i = σ i) ∧ (∀ k : Nat, (k < 18 ∨ 18 < k) ∧ (k < 19 ∨ 19 < k) ∧ (k < 20 ∨ 20 < k) ∧ (k < 21 ∨ 21 < k) ∧ (k < 22 ∨ 22 < k) ∧ (k < 25 ∨ 25 < k) ∧ (k < 26 ∨ 26 < k) ∧ (k < 27 ∨ 27 < k) ∧ (k < 30 ∨ 30 < k) ∧ (k < 31 ∨ 31 < k) ∧ (k < 37 ∨ 37 < k) ∧ (k < 42 ∨ 42 < k) → σ' 55 k = σ 55 k) ∧ (jI119 σ') ∧ (jKept σ') ∧ True) := by
  refine jM.of hJ (by decide +kernel) (nt := .int) rfl (Nat.le_of_ble_eq_true rfl) ?_
  intro p e s m args below meth c Q ls hC hret hl hP
  obtain ⟨hx, hb, hr, hml, hown, hts, hK, -, hlocks, hZ⟩ := hC
  have hown : s.vm.findClass RX12 = some m.cls := hown
  have hS : va_S (jA ad) s.heap s.heap [] := va_S.rf
  have hA : ∀ q, jA ad q → jA ad q := fun _ h => h
  have hl : lv_has ls 5 [(0, .ref (ad 55)), (1, .int a1), (2, .int a2)] := hl
  have g1 := jrg t1
  have g2 := jrg t2
  obtain ⟨i1, w2, w3⟩ : (0 ≤ (σ 55 6).toInt ∧ (σ 55 6).toInt ≤ 4) ∧ (∀ k : Nat, k < 4 → 0 ≤ (σ 60 k).toInt ∧ (σ 60 k).toInt ≤ 50) ∧ (∀ k : Nat, k < 4 → 0 ≤ (σ 61 k).toInt ∧ (σ 61 k).toInt ≤ 20) := id hI102
  obtain ⟨i4, i5, i6, w7, w8⟩ : (1 ≤ (σ 55 10).toInt ∧ (σ 55 10).toInt ≤ 8) ∧ (1 ≤ (σ 55 12).toInt ∧ (σ 55 12).toInt ≤ 12) ∧ (0 ≤ (σ 55 13).toInt ∧ (σ 55 13).toInt ≤ 999) ∧ (∀ k : Nat, k < 8 → 0 ≤ (σ 62 k).toInt ∧ (σ 62 k).toInt ≤ 3) ∧ (∀ k : Nat, k < 8 → 0 ≤ (σ 67 k).toInt ∧ (σ 67 k).toInt ≤ 3) := id hI104
  refine lv_aload_n hx hb dX12_worth_0 rfl (lv_at hl 0 rfl) ?_
  refine lv_iload_n hx hb dX12_worth_1 rfl (lv_at hl 1 rfl) ?_
  refine jcallV (As := [.int a1]) (rest := []) ⟨hx, hb, hml, hown, hts⟩ hK hP hA hS hZ (c_X12_isBowler l D cI cL ad zz hJ σ τ a1 (A1) t1 hI102) cw_RX12_146 (jc_55 cI cL ad σ τ) rfl ⟨Nat.le_of_ble_eq_true rfl, Nat.le_of_ble_eq_true rfl⟩ rfl rfl rfl hl.1 rfl (Nat.le_of_ble_eq_true rfl) dX12_worth_2 ⟨Nat.zero_le _, Nat.zero_le _⟩ (fun r10 σ9 τ9 H locs h9 hP hS => ?_)
  obtain ⟨⟨rfl, rfl⟩, h9⟩ := h9
  rcases h9 with h11 | h12
  · obtain ⟨q14, k13⟩ := h11
    have q14 := q14.symm
    subst q14
    refine lv_if_eq (tgt := 27) hx hb dX12_worth_5 (by decide) (fun c => absurd c (by decide)) (fun _ => ?_)
    refine lv_iload_n hx hb dX12_worth_8 rfl (lv_at hl 2 rfl) ?_
    refine lv_i2l (v := a2.toInt64) hx hb dX12_worth_9 rfl ?_
    refine lv_lconst (v := 0) hx hb dX12_worth_10 (by decide) ?_
    refine lv_lconst (v := 1) hx hb dX12_worth_11 (by decide) ?_
    refine jcallS (As := [.long a2.toInt64, .long 0, .long 1]) (rest := []) ⟨hx, hb, hml, hown, hts⟩ hK hP hA hS hZ (c_X12_within l D cI cL ad zz hJ σ τ a2.toInt64 (A2) (jtoL t2) 0 (0) jzl_0 1 (1) jzl_1) cw_RX12_136 ⟨Nat.le_of_ble_eq_true rfl, Nat.le_of_ble_eq_true rfl⟩ rfl rfl rfl hl.1 rfl (Nat.le_of_ble_eq_true rfl) dX12_worth_12 ⟨Nat.zero_le _, Nat.zero_le _⟩ (fun r16 σ15 τ15 H locs h15 hP hS => ?_)
    obtain ⟨⟨rfl, rfl⟩, h15⟩ := h15
    rcases h15 with h17 | h18
    · obtain ⟨q20, k19⟩ := h17
      have q20 := q20.symm
      subst q20
      refine lv_if_eq (tgt := 27) hx hb dX12_worth_15 (by decide) (fun c => absurd c (by decide)) (fun _ => ?_)
      refine lv_aload_n hx hb dX12_worth_18 rfl (lv_at hl 0 rfl) ?_
      refine va_get (D := D) hx hb hts inlX12 hown hK hP 55 (jc_55 cI cL ad σ τ) rfl 12 (by decide) (hts _ kw_8_16) (fun _ h9 => h9) rfl dX12_worth_19 ?_
      refine lv_bipush (v := 8) hx hb dX12_worth_22 (by decide) ?_
      refine lv_icmp_le (tgt := 30) hx hb dX12_worth_24 (by decide) (fun c21 => ?_) (fun c21 => ?_)
      · have kc21 := jle c21 rfl jz_8
        refine lv_aload_n hx hb dX12_worth_30 rfl (lv_at hl 0 rfl) ?_
        refine jcallV (As := []) (rest := []) ⟨hx, hb, hml, hown, hts⟩ hK hP hA hS hZ (c_X12_bestNow l D cI cL ad zz hJ σ τ hI101 hI102 hI103 hI104 hI105 hI106 hI119 hs_jKept (by omega)) cw_RX12_346 (jc_55 cI cL ad σ τ) rfl ⟨Nat.le_of_ble_eq_true rfl, Nat.le_of_ble_eq_true rfl⟩ rfl rfl rfl hl.1 rfl (Nat.le_of_ble_eq_true rfl) dX12_worth_31 ⟨Nat.zero_le _, Nat.zero_le _⟩ (fun r23 σ22 τ22 H locs h22 hP hS => ?_)
        obtain ⟨rfl, f24, f25, I26, p27, h22⟩ := h22
        refine lv_istore_n (lv' := [(3, .int r23), (0, .ref (ad 55)), (1, .int a1), (2, .int a2)]) hx hb dX12_worth_34 rfl hl (by decide) rfl (fun ls hl => ?_)
        refine lv_iload_n hx hb dX12_worth_35 rfl (lv_at hl 3 rfl) ?_
        refine lv_if_ne (tgt := 47) hx hb dX12_worth_36 (by decide) (fun c29 => ?_) (fun c29 => ?_)
        · have kc29 := jne c29 t2 jz_0
          refine lv_aload_n hx hb dX12_worth_47 rfl (lv_at hl 1 rfl) ?_
          refine lv_iload_n hx hb dX12_worth_48 rfl (lv_at hl 2 rfl) ?_
          refine jput (ty := .int) hx hb hts inlX12 tyX12 tyX12_ok nmX12 hown hK hP hJ hA hS (jc_55 cI cL ad σ22 τ) rfl (k := 31) (by decide) (Nat.le_of_ble_eq_true rfl) (jp_55_31 cI cL ad σ22 τ a1) (hts _ kw_7_17) (fun _ h9 => h9) rfl (by decide +kernel) rfl rfl dX12_worth_49 (fun σ30 H locs eσ30 hP hS => ?_)
          refine lv_aload_n hx hb dX12_worth_52 rfl (lv_at hl 1 rfl) ?_
          have I31 : jI101 σ30 := jI101_fr ((jkp 4 eσ30 (by decide)).trans (f25 4 (by decide))) ((jkp 5 eσ30 (by decide)).trans (f25 5 (by decide))) ((jnp 56 eσ30 (by decide)).trans (f24 56 (by decide))) ((jnp 57 eσ30 (by decide)).trans (f24 57 (by decide))) ((jnp 58 eσ30 (by decide)).trans (f24 58 (by decide))) ((jnp 59 eσ30 (by decide)).trans (f24 59 (by decide))) hI101
          have I32 : jI102 σ30 := jI102_fr ((jkp 6 eσ30 (by decide)).trans (f25 6 (by decide))) ((jnp 60 eσ30 (by decide)).trans (f24 60 (by decide))) ((jnp 61 eσ30 (by decide)).trans (f24 61 (by decide))) hI102
          have I33 : jI103 σ30 := jI103_fr ((jkp 9 eσ30 (by decide)).trans (f25 9 (by decide))) hI103
          have I34 : jI104 σ30 := jI104_fr ((jkp 10 eσ30 (by decide)).trans (f25 10 (by decide))) ((jkp 12 eσ30 (by decide)).trans (f25 12 (by decide))) ((jkp 13 eσ30 (by decide)).trans (f25 13 (by decide))) ((jnp 62 eσ30 (by decide)).trans (f24 62 (by decide))) ((jnp 67 eσ30 (by decide)).trans (f24 67 (by decide))) hI104
          have I35 : jI105 σ30 := jI105_fr ((jkp 15 eσ30 (by decide)).trans (f25 15 (by decide))) ((jnp 65 eσ30 (by decide)).trans (f24 65 (by decide))) hI105
          have I36 : jI106 σ30 := jI106_fr ((jkp 32 eσ30 (by decide)).trans (f25 32 (by decide))) ((jnp 70 eσ30 (by decide)).trans (f24 70 (by decide))) ((jnp 71 eσ30 (by decide)).trans (f24 71 (by decide))) ((jnp 72 eσ30 (by decide)).trans (f24 72 (by decide))) hI106
          have I37 : jI119 σ30 := jI119_fr (jnp 68 eσ30 (by decide)) I26
          have p38 : jKept σ30 := jKept.fr (jnp 75 eσ30 (by decide)) (jnp 76 eσ30 (by decide)) (jnp 77 eσ30 (by decide)) p27
          have z39 : (σ30 55 12).toInt = (σ 55 12).toInt := (congrArg Int32.toInt (show σ30 55 12 = (σ 55 12) from ((jkp 12 eσ30 (by decide)).trans (f25 12 (by decide)))))
          refine jcallV (As := []) (rest := []) ⟨hx, hb, hml, hown, hts⟩ hK hP hA hS hZ (c_X12_bestNow l D cI cL ad zz hJ σ30 τ I31 I32 I33 I34 I35 I36 I37 p38 (by omega)) cw_RX12_346 (jc_55 cI cL ad σ30 τ) rfl ⟨Nat.le_of_ble_eq_true rfl, Nat.le_of_ble_eq_true rfl⟩ rfl rfl rfl hl.1 rfl (Nat.le_of_ble_eq_true rfl) dX12_worth_53 ⟨Nat.zero_le _, Nat.zero_le _⟩ (fun r41 σ40 τ40 H locs h40 hP hS => ?_)
          obtain ⟨rfl, f42, f43, I44, p45, h40⟩ := h40
          refine lv_istore (lv' := [(4, .int r41), (3, .int r23), (0, .ref (ad 55)), (1, .int a1), (2, .int a2)]) hx hb dX12_worth_56 hl (by decide) rfl (fun ls hl => ?_)
          refine lv_aload_n hx hb dX12_worth_58 rfl (lv_at hl 2 rfl) ?_
          refine lv_iconst (v := (-1)) hx hb dX12_worth_59 (by decide) ?_
          refine jput (ty := .int) hx hb hts inlX12 tyX12 tyX12_ok nmX12 hown hK hP hJ hA hS (jc_55 cI cL ad σ40 τ) rfl (k := 30) (by decide) (Nat.le_of_ble_eq_true rfl) (jp_55_30 cI cL ad σ40 τ (-1)) (hts _ kw_7_16) (fun _ h9 => h9) rfl (by decide +kernel) rfl rfl dX12_worth_60 (fun σ47 H locs eσ47 hP hS => ?_)
          refine lv_aload_n hx hb dX12_worth_63 rfl (lv_at hl 2 rfl) ?_
          refine lv_iconst (v := (-1)) hx hb dX12_worth_64 (by decide) ?_
          refine jput (ty := .int) hx hb hts inlX12 tyX12 tyX12_ok nmX12 hown hK hP hJ hA hS (jc_55 cI cL ad σ47 τ) rfl (k := 31) (by decide) (Nat.le_of_ble_eq_true rfl) (jp_55_31 cI cL ad σ47 τ (-1)) (hts _ kw_7_17) (fun _ h9 => h9) rfl (by decide +kernel) rfl rfl dX12_worth_65 (fun σ48 H locs eσ48 hP hS => ?_)
          refine lv_iload_n hx hb dX12_worth_68 rfl (lv_at hl 4 rfl) ?_
          refine lv_if_ne (tgt := 79) hx hb dX12_worth_69 (by decide) (fun c49 => ?_) (fun c => absurd (jeq c t2 jz_0) (by omega))
          have kc49 := jne c49 t2 jz_0
          refine lv_iload_n hx hb dX12_worth_79 rfl (lv_at hl 1 rfl) ?_
          refine lv_iload hx hb dX12_worth_80 (lv_at hl 0 rfl) ?_
          have g50 := jrg (rfl : r23.toInt = r23.toInt)
          have g51 := jrg (rfl : r41.toInt = r41.toInt)
          refine lv_isub hx hb dX12_worth_82 ?_
          refine lv_topi (fun x52 ex52 => ?_)
          have gx52 := jrg (rfl : x52.toInt = x52.toInt)
          have I53 : jI119 σ48 := jI119_fr ((jnp 68 eσ48 (by decide)).trans (jnp 68 eσ47 (by decide))) I44
          have p54 : jKept σ48 := jKept.fr ((jnp 75 eσ48 (by decide)).trans (jnp 75 eσ47 (by decide))) ((jnp 76 eσ48 (by decide)).trans (jnp 76 eσ47 (by decide))) ((jnp 77 eσ48 (by decide)).trans (jnp 77 eσ47 (by decide))) p45
          exact hret x52 σ48 τ _ _ _ _ rfl ⟨rfl, (fun i hi => ((jnp i eσ48 (imp_262 i hi)).trans ((jnp i eσ47 (imp_262 i hi)).trans ((f42 i hi).trans ((jnp i eσ30 (imp_262 i hi)).trans (f24 i hi)))))), (fun i hi => ((jkp i eσ48 (imp_263 i hi)).trans ((jkp i eσ47 (imp_264 i hi)).trans ((f43 i (imp_265 i hi)).trans ((jkp i eσ30 (imp_263 i hi)).trans (f25 i (imp_265 i hi))))))), I53, p54, trivial⟩ hP hS dX12_worth_83
        · have kc29 := jeq c29 t2 jz_0
          refine lv_aload_n hx hb dX12_worth_39 rfl (lv_at hl 1 rfl) ?_
          refine lv_iload_n hx hb dX12_worth_40 rfl (lv_at hl 2 rfl) ?_
          refine jput (ty := .int) hx hb hts inlX12 tyX12 tyX12_ok nmX12 hown hK hP hJ hA hS (jc_55 cI cL ad σ22 τ) rfl (k := 30) (by decide) (Nat.le_of_ble_eq_true rfl) (jp_55_30 cI cL ad σ22 τ a1) (hts _ kw_7_16) (fun _ h9 => h9) rfl (by decide +kernel) rfl rfl dX12_worth_41 (fun σ55 H locs eσ55 hP hS => ?_)
          refine lv_goto (tgt := 52) hx hb dX12_worth_44 (by decide) ?_
          refine lv_aload_n hx hb dX12_worth_52 rfl (lv_at hl 1 rfl) ?_
          have I56 : jI101 σ55 := jI101_fr ((jkp 4 eσ55 (by decide)).trans (f25 4 (by decide))) ((jkp 5 eσ55 (by decide)).trans (f25 5 (by decide))) ((jnp 56 eσ55 (by decide)).trans (f24 56 (by decide))) ((jnp 57 eσ55 (by decide)).trans (f24 57 (by decide))) ((jnp 58 eσ55 (by decide)).trans (f24 58 (by decide))) ((jnp 59 eσ55 (by decide)).trans (f24 59 (by decide))) hI101
          have I57 : jI102 σ55 := jI102_fr ((jkp 6 eσ55 (by decide)).trans (f25 6 (by decide))) ((jnp 60 eσ55 (by decide)).trans (f24 60 (by decide))) ((jnp 61 eσ55 (by decide)).trans (f24 61 (by decide))) hI102
          have I58 : jI103 σ55 := jI103_fr ((jkp 9 eσ55 (by decide)).trans (f25 9 (by decide))) hI103
          have I59 : jI104 σ55 := jI104_fr ((jkp 10 eσ55 (by decide)).trans (f25 10 (by decide))) ((jkp 12 eσ55 (by decide)).trans (f25 12 (by decide))) ((jkp 13 eσ55 (by decide)).trans (f25 13 (by decide))) ((jnp 62 eσ55 (by decide)).trans (f24 62 (by decide))) ((jnp 67 eσ55 (by decide)).trans (f24 67 (by decide))) hI104
          have I60 : jI105 σ55 := jI105_fr ((jkp 15 eσ55 (by decide)).trans (f25 15 (by decide))) ((jnp 65 eσ55 (by decide)).trans (f24 65 (by decide))) hI105
          have I61 : jI106 σ55 := jI106_fr ((jkp 32 eσ55 (by decide)).trans (f25 32 (by decide))) ((jnp 70 eσ55 (by decide)).trans (f24 70 (by decide))) ((jnp 71 eσ55 (by decide)).trans (f24 71 (by decide))) ((jnp 72 eσ55 (by decide)).trans (f24 72 (by decide))) hI106
          have I62 : jI119 σ55 := jI119_fr (jnp 68 eσ55 (by decide)) I26
          have p63 : jKept σ55 := jKept.fr (jnp 75 eσ55 (by decide)) (jnp 76 eσ55 (by decide)) (jnp 77 eσ55 (by decide)) p27
          have z64 : (σ55 55 12).toInt = (σ 55 12).toInt := (congrArg Int32.toInt (show σ55 55 12 = (σ 55 12) from ((jkp 12 eσ55 (by decide)).trans (f25 12 (by decide)))))
          refine jcallV (As := []) (rest := []) ⟨hx, hb, hml, hown, hts⟩ hK hP hA hS hZ (c_X12_bestNow l D cI cL ad zz hJ σ55 τ I56 I57 I58 I59 I60 I61 I62 p63 (by omega)) cw_RX12_346 (jc_55 cI cL ad σ55 τ) rfl ⟨Nat.le_of_ble_eq_true rfl, Nat.le_of_ble_eq_true rfl⟩ rfl rfl rfl hl.1 rfl (Nat.le_of_ble_eq_true rfl) dX12_worth_53 ⟨Nat.zero_le _, Nat.zero_le _⟩ (fun r66 σ65 τ65 H locs h65 hP hS => ?_)
          obtain ⟨rfl, f67, f68, I69, p70, h65⟩ := h65
          refine lv_istore (lv' := [(4, .int r66), (3, .int r23), (0, .ref (ad 55)), (1, .int a1), (2, .int a2)]) hx hb dX12_worth_56 hl (by decide) rfl (fun ls hl => ?_)
          refine lv_aload_n hx hb dX12_worth_58 rfl (lv_at hl 2 rfl) ?_
          refine lv_iconst (v := (-1)) hx hb dX12_worth_59 (by decide) ?_
          refine jput (ty := .int) hx hb hts inlX12 tyX12 tyX12_ok nmX12 hown hK hP hJ hA hS (jc_55 cI cL ad σ65 τ) rfl (k := 30) (by decide) (Nat.le_of_ble_eq_true rfl) (jp_55_30 cI cL ad σ65 τ (-1)) (hts _ kw_7_16) (fun _ h9 => h9) rfl (by decide +kernel) rfl rfl dX12_worth_60 (fun σ72 H locs eσ72 hP hS => ?_)
          refine lv_aload_n hx hb dX12_worth_63 rfl (lv_at hl 2 rfl) ?_
          refine lv_iconst (v := (-1)) hx hb dX12_worth_64 (by decide) ?_
          refine jput (ty := .int) hx hb hts inlX12 tyX12 tyX12_ok nmX12 hown hK hP hJ hA hS (jc_55 cI cL ad σ72 τ) rfl (k := 31) (by decide) (Nat.le_of_ble_eq_true rfl) (jp_55_31 cI cL ad σ72 τ (-1)) (hts _ kw_7_17) (fun _ h9 => h9) rfl (by decide +kernel) rfl rfl dX12_worth_65 (fun σ73 H locs eσ73 hP hS => ?_)
          refine lv_iload_n hx hb dX12_worth_68 rfl (lv_at hl 4 rfl) ?_
          refine lv_if_ne (tgt := 79) hx hb dX12_worth_69 (by decide) (fun c => absurd (jne c t2 jz_0) (by omega)) (fun c74 => ?_)
          have kc74 := jeq c74 t2 jz_0
          refine lv_iload hx hb dX12_worth_72 (lv_at hl 0 rfl) ?_
          refine lv_iload_n hx hb dX12_worth_74 rfl (lv_at hl 1 rfl) ?_
          have g75 := jrg (rfl : r66.toInt = r66.toInt)
          have g76 := jrg (rfl : r23.toInt = r23.toInt)
          refine lv_isub hx hb dX12_worth_75 ?_
          refine lv_topi (fun x77 ex77 => ?_)
          have gx77 := jrg (rfl : x77.toInt = x77.toInt)
          refine lv_goto (tgt := 83) hx hb dX12_worth_76 (by decide) ?_
          have I78 : jI119 σ73 := jI119_fr ((jnp 68 eσ73 (by decide)).trans (jnp 68 eσ72 (by decide))) I69
          have p79 : jKept σ73 := jKept.fr ((jnp 75 eσ73 (by decide)).trans (jnp 75 eσ72 (by decide))) ((jnp 76 eσ73 (by decide)).trans (jnp 76 eσ72 (by decide))) ((jnp 77 eσ73 (by decide)).trans (jnp 77 eσ72 (by decide))) p70
          exact hret x77 σ73 τ _ _ _ _ rfl ⟨rfl, (fun i hi => ((jnp i eσ73 (imp_262 i hi)).trans ((jnp i eσ72 (imp_262 i hi)).trans ((f67 i hi).trans ((jnp i eσ55 (imp_262 i hi)).trans (f24 i hi)))))), (fun i hi => ((jkp i eσ73 (imp_263 i hi)).trans ((jkp i eσ72 (imp_264 i hi)).trans ((f68 i (imp_265 i hi)).trans ((jkp i eσ55 (imp_264 i hi)).trans (f25 i (imp_265 i hi))))))), I78, p79, trivial⟩ hP hS dX12_worth_83
      · have kc21 := jnle c21 rfl jz_8
        refine lv_ldc (v := (-2000000000)) hx hb hown (hts _ kw_11_4) dX12_worth_27 ?_
        exact hret (-2000000000) σ τ _ _ _ _ rfl ⟨rfl, (fun _ _ => rfl), (fun _ _ => rfl), hI119, hs_jKept, trivial⟩ hP hS dX12_worth_29
    · obtain ⟨q81, k80⟩ := h18
      have q81 := q81.symm
      subst q81
      refine lv_if_eq (tgt := 27) hx hb dX12_worth_15 (by decide) (fun _ => ?_) (fun c => absurd (by decide) c)
      refine lv_ldc (v := (-2000000000)) hx hb hown (hts _ kw_11_4) dX12_worth_27 ?_
      exact hret (-2000000000) σ τ _ _ _ _ rfl ⟨rfl, (fun _ _ => rfl), (fun _ _ => rfl), hI119, hs_jKept, trivial⟩ hP hS dX12_worth_29
  · obtain ⟨q83, k82⟩ := h12
    have q83 := q83.symm
    subst q83
    refine lv_if_eq (tgt := 27) hx hb dX12_worth_5 (by decide) (fun _ => ?_) (fun c => absurd (by decide) c)
    refine lv_ldc (v := (-2000000000)) hx hb hown (hts _ kw_11_4) dX12_worth_27 ?_
    exact hret (-2000000000) σ τ _ _ _ _ rfl ⟨rfl, (fun _ _ => rfl), (fun _ _ => rfl), hI119, hs_jKept, trivial⟩ hP hS dX12_worth_29
set_option maxHeartbeats 4000000 in
set_option maxRecDepth 100000 in
theorem c_X12_fielded (l : Launch) (D : va_G) (cI cL : ClassId) (ad zz : Nat → Nat) (hJ : jD ad) (σ : Nat → Nat → Int32) (τ : Nat → Nat → Int64) (a1 : Int32) (A1 : Int) (t1 : a1.toInt = A1) (a2 : Int32) (A2 : Int) (t2 : a2.toInt = A2) (hI101 : jI101 σ) (hI102 : jI102 σ) (hI103 : jI103 σ) (hI104 : jI104 σ) (hI105 : jI105 σ) (hI106 : jI106 σ) (hI119 : jI119 σ) (hs_jKept : jKept σ) : jM l yX12_fielded cX12_fielded 9 (some .int) ({ frames := 104, cells := 0, slots := 0, locals := 5081 }) D cI cL ad zz [.ref (ad 55), .int a1, .int a2] σ τ (fun r σ' τ' => τ = τ' ∧ (∀ i : Nat, (i < 55 ∨ 55 < i) ∧ (i < 66 ∨ 66 < i) ∧ (i < 68 ∨ 69 < i) ∧ (i < 74 ∨ 78 < i) → σ' i = σ i) ∧ (∀ k : Nat, (k < 9 ∨ 9 < k) ∧ (k < 18 ∨ 18 < k) ∧ (k < 19 ∨ 19 < k) ∧ (k < 20 ∨ 20 < k) ∧ (k < 21 ∨ 21 < k) ∧ (k < 22 ∨ 22 < k) ∧ (k < 25 ∨ 25 < k) ∧ (k < 26 ∨ 26 < k) ∧ (k < 27 ∨ 27 < k) ∧ (k < 37 ∨ 37 < k) ∧ (k < 42 ∨ 42 < k) → σ' 55 k = σ 55 k) ∧ (jI103 σ') ∧ (jI119 σ') ∧ (jKept σ') ∧ ((σ' 55 9).toInt = (σ 55 9).toInt) ∧ True) := by
  refine jM.of hJ (by decide +kernel) (nt := .int) rfl (Nat.le_of_ble_eq_true rfl) ?_
  intro p e s m args below meth c Q ls hC hret hl hP
  obtain ⟨hx, hb, hr, hml, hown, hts, hK, -, hlocks, hZ⟩ := hC
  have hown : s.vm.findClass RX12 = some m.cls := hown
  have hS : va_S (jA ad) s.heap s.heap [] := va_S.rf
  have hA : ∀ q, jA ad q → jA ad q := fun _ h => h
  have hl : lv_has ls 9 [(0, .ref (ad 55)), (1, .int a1), (2, .int a2)] := hl
  have g1 := jrg t1
  have g2 := jrg t2
  have i1 : 0 ≤ (σ 55 9).toInt ∧ (σ 55 9).toInt ≤ 3 := hI103
  obtain ⟨i2, i3, i4, w5, w6⟩ : (1 ≤ (σ 55 10).toInt ∧ (σ 55 10).toInt ≤ 8) ∧ (1 ≤ (σ 55 12).toInt ∧ (σ 55 12).toInt ≤ 12) ∧ (0 ≤ (σ 55 13).toInt ∧ (σ 55 13).toInt ≤ 999) ∧ (∀ k : Nat, k < 8 → 0 ≤ (σ 62 k).toInt ∧ (σ 62 k).toInt ≤ 3) ∧ (∀ k : Nat, k < 8 → 0 ≤ (σ 67 k).toInt ∧ (σ 67 k).toInt ≤ 3) := id hI104
  refine lv_iload_n hx hb dX12_fielded_0 rfl (lv_at hl 2 rfl) ?_
  refine lv_i2l (v := a2.toInt64) hx hb dX12_fielded_1 rfl ?_
  refine lv_lconst (v := 0) hx hb dX12_fielded_2 (by decide) ?_
  refine lv_lconst (v := 1) hx hb dX12_fielded_3 (by decide) ?_
  refine jcallS (As := [.long a2.toInt64, .long 0, .long 1]) (rest := []) ⟨hx, hb, hml, hown, hts⟩ hK hP hA hS hZ (c_X12_within l D cI cL ad zz hJ σ τ a2.toInt64 (A2) (jtoL t2) 0 (0) jzl_0 1 (1) jzl_1) cw_RX12_136 ⟨Nat.le_of_ble_eq_true rfl, Nat.le_of_ble_eq_true rfl⟩ rfl rfl rfl hl.1 rfl (Nat.le_of_ble_eq_true rfl) dX12_fielded_4 ⟨Nat.zero_le _, Nat.zero_le _⟩ (fun r8 σ7 τ7 H locs h7 hP hS => ?_)
  obtain ⟨⟨rfl, rfl⟩, h7⟩ := h7
  rcases h7 with h9 | h10
  · obtain ⟨q12, k11⟩ := h9
    have q12 := q12.symm
    subst q12
    refine lv_if_eq (tgt := 26) hx hb dX12_fielded_7 (by decide) (fun c => absurd c (by decide)) (fun _ => ?_)
    refine lv_iload_n hx hb dX12_fielded_10 rfl (lv_at hl 2 rfl) ?_
    refine lv_if_ne (tgt := 28) hx hb dX12_fielded_11 (by decide) (fun c13 => ?_) (fun c13 => ?_)
    · have kc13 := jne c13 t2 jz_0
      refine lv_aload_n hx hb dX12_fielded_28 rfl (lv_at hl 0 rfl) ?_
      refine va_get (D := D) hx hb hts inlX12 hown hK hP 55 (jc_55 cI cL ad σ τ) rfl 12 (by decide) (hts _ kw_8_16) (fun _ h9 => h9) rfl dX12_fielded_29 ?_
      refine lv_bipush (v := 8) hx hb dX12_fielded_32 (by decide) ?_
      refine lv_icmp_le (tgt := 40) hx hb dX12_fielded_34 (by decide) (fun c14 => ?_) (fun c14 => ?_)
      · have kc14 := jle c14 rfl jz_8
        refine lv_aload_n hx hb dX12_fielded_40 rfl (lv_at hl 0 rfl) ?_
        refine va_get (D := D) hx hb hts inlX12 hown hK hP 55 (jc_55 cI cL ad σ τ) rfl 9 (by decide) (hts _ kw_12_14) (fun _ h9 => h9) rfl dX12_fielded_41 ?_
        refine lv_istore_n (lv' := [(3, .int (σ 55 9)), (0, .ref (ad 55)), (1, .int a1), (2, .int a2)]) hx hb dX12_fielded_44 rfl hl (by decide) rfl (fun ls hl => ?_)
        refine lv_iconst (v := 0) hx hb dX12_fielded_45 (by decide) ?_
        refine lv_istore (lv' := [(4, .int 0), (3, .int (σ 55 9)), (0, .ref (ad 55)), (1, .int a1), (2, .int a2)]) hx hb dX12_fielded_46 hl (by decide) rfl (fun ls hl => ?_)
        refine lv_ldcw (v := 2000000000) hx hb hown (hts _ kw_34_4) dX12_fielded_48 ?_
        refine lv_istore (lv' := [(5, .int 2000000000), (4, .int 0), (3, .int (σ 55 9)), (0, .ref (ad 55)), (1, .int a1), (2, .int a2)]) hx hb dX12_fielded_51 hl (by decide) rfl (fun ls hl => ?_)
        refine lv_iconst (v := 0) hx hb dX12_fielded_53 (by decide) ?_
        refine lv_istore (lv' := [(6, .int 0), (5, .int 2000000000), (4, .int 0), (3, .int (σ 55 9)), (0, .ref (ad 55)), (1, .int a1), (2, .int a2)]) hx hb dX12_fielded_54 hl (by decide) rfl (fun ls hl => ?_)
        refine lv_iconst (v := 0) hx hb dX12_fielded_56 (by decide) ?_
        refine lv_istore (lv' := [(7, .int 0), (6, .int 0), (5, .int 2000000000), (4, .int 0), (3, .int (σ 55 9)), (0, .ref (ad 55)), (1, .int a1), (2, .int a2)]) hx hb dX12_fielded_57 hl (by decide) rfl (fun ls hl => ?_)
        have lp15 : ∀ (n16 : Nat) (x17 : Int32) (x18 : Int32) (x19 : Int32) (x20 : Int32) (σ22 : Nat → Nat → Int32) (H : Heap) (locs : List Loc) (ls : Array Slot), (-x20.toInt + 4 : Int) < n16 → 0 ≤ x20.toInt → x20.toInt ≤ 4 → (∀ i : Nat, (i < 55 ∨ 55 < i) ∧ (i < 66 ∨ 66 < i) ∧ (i < 68 ∨ 69 < i) ∧ (i < 74 ∨ 78 < i) → σ22 i = σ i) → (∀ k : Nat, (k < 9 ∨ 9 < k) ∧ (k < 18 ∨ 18 < k) ∧ (k < 19 ∨ 19 < k) ∧ (k < 20 ∨ 20 < k) ∧ (k < 21 ∨ 21 < k) ∧ (k < 22 ∨ 22 < k) ∧ (k < 25 ∨ 25 < k) ∧ (k < 26 ∨ 26 < k) ∧ (k < 27 ∨ 27 < k) ∧ (k < 37 ∨ 37 < k) ∧ (k < 42 ∨ 42 < k) → σ22 55 k = σ 55 k) → jKept σ22 → jI103 σ22 → jI119 σ22 → jH D cI cL ad σ22 τ H → va_S (jA ad) s.heap H locs → lv_has ls 9 [(7, .int x20), (6, .int x19), (5, .int x18), (4, .int x17), (3, .int (σ 55 9)), (0, .ref (ad 55)), (1, .int a1), (2, .int a2)] → W p l e ({ frames := 104, cells := 0, slots := 0, locals := 5081 }) s m args below meth c H locs 0 0 Q (F0 m 59 ls []) := by
          intro n16
          induction n16 with
          | zero => intro x17 x18 x19 x20 σ22 H locs ls h24 h25 h26; have gx17 := jrg (rfl : x17.toInt = x17.toInt); have gx18 := jrg (rfl : x18.toInt = x18.toInt); have gx19 := jrg (rfl : x19.toInt = x19.toInt); exact absurd h24 (by omega)
          | succ n16 ihlp15 =>
            intro x17 x18 x19 x20 σ22 H locs ls h24 h25 h26 f27 f28 p29 p30 p31 hP hS hl
            have gx17 := jrg (rfl : x17.toInt = x17.toInt); have gx18 := jrg (rfl : x18.toInt = x18.toInt); have gx19 := jrg (rfl : x19.toInt = x19.toInt)
            have i32 : 0 ≤ (σ22 55 9).toInt ∧ (σ22 55 9).toInt ≤ 3 := p30
            refine lv_iload hx hb dX12_fielded_59 (lv_at hl 0 rfl) ?_
            refine lv_iconst (v := 4) hx hb dX12_fielded_61 (by decide) ?_
            refine lv_icmp_ge (tgt := 129) hx hb dX12_fielded_62 (by decide) (fun c33 => ?_) (fun c33 => ?_)
            · have kc33 := jle c33 jz_4 rfl
              refine lv_aload_n hx hb dX12_fielded_129 rfl (lv_at hl 5 rfl) ?_
              refine lv_iload_n hx hb dX12_fielded_130 rfl (lv_at hl 4 rfl) ?_
              refine jput (ty := .int) hx hb hts inlX12 tyX12 tyX12_ok nmX12 hown hK hP hJ hA hS (jc_55 cI cL ad σ22 τ) rfl (k := 9) (by decide) (Nat.le_of_ble_eq_true rfl) (jp_55_9 cI cL ad σ22 τ (σ 55 9)) (hts _ kw_12_14) (fun _ h9 => h9) rfl (by decide +kernel) rfl rfl dX12_fielded_131 (fun σ34 H locs eσ34 hP hS => ?_)
              refine lv_iload_n hx hb dX12_fielded_134 rfl (lv_at hl 7 rfl) ?_
              refine lv_if_ne (tgt := 143) hx hb dX12_fielded_135 (by decide) (fun c35 => ?_) (fun c => absurd (jeq c t2 jz_0) (by omega))
              have kc35 := jne c35 t2 jz_0
              refine lv_iload hx hb dX12_fielded_143 (lv_at hl 3 rfl) ?_
              have z36 : (σ34 55 9).toInt = (σ 55 9).toInt := (congrArg Int32.toInt (show σ34 55 9 = (σ 55 9) from (jsp eσ34)))
              have I37 : jI103 σ34 := (show 0 ≤ (σ34 55 9).toInt ∧ (σ34 55 9).toInt ≤ 3 by omega)
              have I38 : jI119 σ34 := jI119_fr (jnp 68 eσ34 (by decide)) p31
              have p39 : jKept σ34 := jKept.fr (jnp 75 eσ34 (by decide)) (jnp 76 eσ34 (by decide)) (jnp 77 eσ34 (by decide)) p29
              exact hret x17 σ34 τ _ _ _ _ rfl ⟨rfl, (fun i hi => ((jnp i eσ34 (imp_262 i hi)).trans (f27 i hi))), (fun i hi => ((jkp i eσ34 (imp_266 i hi)).trans (f28 i hi))), I37, I38, p39, (by omega), trivial⟩ hP hS dX12_fielded_145
            · have kc33 := jnle c33 jz_4 rfl
              refine lv_aload_n hx hb dX12_fielded_65 rfl (lv_at hl 5 rfl) ?_
              refine lv_iload hx hb dX12_fielded_66 (lv_at hl 0 rfl) ?_
              refine jput (ty := .int) hx hb hts inlX12 tyX12 tyX12_ok nmX12 hown hK hP hJ hA hS (jc_55 cI cL ad σ22 τ) rfl (k := 9) (by decide) (Nat.le_of_ble_eq_true rfl) (jp_55_9 cI cL ad σ22 τ x20) (hts _ kw_12_14) (fun _ h9 => h9) rfl (by decide +kernel) rfl rfl dX12_fielded_68 (fun σ40 H locs eσ40 hP hS => ?_)
              refine lv_iload_n hx hb dX12_fielded_71 rfl (lv_at hl 7 rfl) ?_
              refine lv_if_ne (tgt := 87) hx hb dX12_fielded_72 (by decide) (fun c41 => ?_) (fun c => absurd (jeq c t2 jz_0) (by omega))
              have kc41 := jne c41 t2 jz_0
              refine lv_aload_n hx hb dX12_fielded_87 rfl (lv_at hl 5 rfl) ?_
              have I42 : jI101 σ40 := jI101_fr ((jkp 4 eσ40 (by decide)).trans (f28 4 (by decide))) ((jkp 5 eσ40 (by decide)).trans (f28 5 (by decide))) ((jnp 56 eσ40 (by decide)).trans (f27 56 (by decide))) ((jnp 57 eσ40 (by decide)).trans (f27 57 (by decide))) ((jnp 58 eσ40 (by decide)).trans (f27 58 (by decide))) ((jnp 59 eσ40 (by decide)).trans (f27 59 (by decide))) hI101
              have I43 : jI102 σ40 := jI102_fr ((jkp 6 eσ40 (by decide)).trans (f28 6 (by decide))) ((jnp 60 eσ40 (by decide)).trans (f27 60 (by decide))) ((jnp 61 eσ40 (by decide)).trans (f27 61 (by decide))) hI102
              have z44 : (σ40 55 9).toInt = x20.toInt := (congrArg Int32.toInt (show σ40 55 9 = x20 from (jsp eσ40)))
              have I45 : jI103 σ40 := (show 0 ≤ (σ40 55 9).toInt ∧ (σ40 55 9).toInt ≤ 3 by omega)
              have I46 : jI104 σ40 := jI104_fr ((jkp 10 eσ40 (by decide)).trans (f28 10 (by decide))) ((jkp 12 eσ40 (by decide)).trans (f28 12 (by decide))) ((jkp 13 eσ40 (by decide)).trans (f28 13 (by decide))) ((jnp 62 eσ40 (by decide)).trans (f27 62 (by decide))) ((jnp 67 eσ40 (by decide)).trans (f27 67 (by decide))) hI104
              have I47 : jI105 σ40 := jI105_fr ((jkp 15 eσ40 (by decide)).trans (f28 15 (by decide))) ((jnp 65 eσ40 (by decide)).trans (f27 65 (by decide))) hI105
              have I48 : jI106 σ40 := jI106_fr ((jkp 32 eσ40 (by decide)).trans (f28 32 (by decide))) ((jnp 70 eσ40 (by decide)).trans (f27 70 (by decide))) ((jnp 71 eσ40 (by decide)).trans (f27 71 (by decide))) ((jnp 72 eσ40 (by decide)).trans (f27 72 (by decide))) hI106
              have I49 : jI119 σ40 := jI119_fr (jnp 68 eσ40 (by decide)) p31
              have p50 : jKept σ40 := jKept.fr (jnp 75 eσ40 (by decide)) (jnp 76 eσ40 (by decide)) (jnp 77 eσ40 (by decide)) p29
              have z51 : (σ40 55 12).toInt = (σ 55 12).toInt := (congrArg Int32.toInt (show σ40 55 12 = (σ 55 12) from ((jkp 12 eσ40 (by decide)).trans (f28 12 (by decide)))))
              refine jcallV (As := []) (rest := []) ⟨hx, hb, hml, hown, hts⟩ hK hP hA hS hZ (c_X12_bestNow l D cI cL ad zz hJ σ40 τ I42 I43 I45 I46 I47 I48 I49 p50 (by omega)) cw_RX12_346 (jc_55 cI cL ad σ40 τ) rfl ⟨Nat.le_of_ble_eq_true rfl, Nat.le_of_ble_eq_true rfl⟩ rfl rfl rfl hl.1 rfl (Nat.le_of_ble_eq_true rfl) dX12_fielded_88 ⟨Nat.zero_le _, Nat.zero_le _⟩ (fun r53 σ52 τ52 H locs h52 hP hS => ?_)
              obtain ⟨rfl, f54, f55, I56, p57, h52⟩ := h52
              refine lv_istore (lv' := [(8, .int r53), (7, .int x20), (6, .int x19), (5, .int x18), (4, .int x17), (3, .int (σ 55 9)), (0, .ref (ad 55)), (1, .int a1), (2, .int a2)]) hx hb dX12_fielded_91 hl (by decide) rfl (fun ls hl => ?_)
              refine lv_iload hx hb dX12_fielded_93 (lv_at hl 1 rfl) ?_
              refine lv_iload_n hx hb dX12_fielded_95 rfl (lv_at hl 7 rfl) ?_
              refine lv_icmp_ne (tgt := 104) hx hb dX12_fielded_96 (by decide) (fun c59 => ?_) (fun c59 => ?_)
              · have kc59 := jne c59 rfl t1
                refine lv_iload hx hb dX12_fielded_104 (lv_at hl 2 rfl) ?_
                refine lv_istore (lv' := [(6, .int x19), (8, .int r53), (7, .int x20), (5, .int x18), (4, .int x17), (3, .int (σ 55 9)), (0, .ref (ad 55)), (1, .int a1), (2, .int a2)]) hx hb dX12_fielded_106 hl (by decide) rfl (fun ls hl => ?_)
                refine lv_iload hx hb dX12_fielded_108 (lv_at hl 1 rfl) ?_
                refine lv_iload hx hb dX12_fielded_110 (lv_at hl 3 rfl) ?_
                refine lv_icmp_ge (tgt := 123) hx hb dX12_fielded_112 (by decide) (fun c60 => ?_) (fun c60 => ?_)
                · have kc60 := jle c60 rfl rfl
                  obtain ⟨x61, ex61⟩ : ∃ y : Int32, y = x20 + 1 := ⟨_, rfl⟩
                  have tx61 : x61.toInt = x20.toInt + 1 := (jadd ex61 rfl jz_1 (by omega) (by omega)).trans (by omega)
                  refine lv_iinc (v := x61) (lv' := [(7, .int x61), (6, .int x19), (8, .int r53), (5, .int x18), (4, .int x17), (3, .int (σ 55 9)), (0, .ref (ad 55)), (1, .int a1), (2, .int a2)]) hx hb dX12_fielded_123 hl (k := 2) rfl (by rw [ex61]; rfl) (by decide) rfl (fun ls hl => ?_)
                  refine lv_goto (tgt := 59) hx hb dX12_fielded_126 (by decide) ?_
                  have I62 : jI103 σ52 := jI103_fr (f55 9 (by decide)) I45
                  exact ihlp15 x17 x18 x19 x61 σ52 _ _ ls (by have h93 := tx61; omega) (by have h93 := tx61; omega) (by have h93 := tx61; omega) (fun i hi => ((f54 i hi).trans ((jnp i eσ40 (imp_262 i hi)).trans (f27 i hi)))) (fun i hi => ((f55 i (imp_267 i hi)).trans ((jkp i eσ40 (imp_266 i hi)).trans (f28 i hi))))  p57 I62 I56 hP hS (lv_sub hl [0, 1, 3, 4, 5, 6, 7, 8] rfl)
                · have kc60 := jnle c60 rfl rfl
                  refine lv_iload hx hb dX12_fielded_115 (lv_at hl 2 rfl) ?_
                  refine lv_istore (lv' := [(4, .int x20), (6, .int x19), (8, .int r53), (7, .int x20), (5, .int x18), (3, .int (σ 55 9)), (0, .ref (ad 55)), (1, .int a1), (2, .int a2)]) hx hb dX12_fielded_117 hl (by decide) rfl (fun ls hl => ?_)
                  refine lv_iload hx hb dX12_fielded_119 (lv_at hl 2 rfl) ?_
                  refine lv_istore (lv' := [(5, .int r53), (4, .int x20), (6, .int x19), (8, .int r53), (7, .int x20), (3, .int (σ 55 9)), (0, .ref (ad 55)), (1, .int a1), (2, .int a2)]) hx hb dX12_fielded_121 hl (by decide) rfl (fun ls hl => ?_)
                  obtain ⟨x63, ex63⟩ : ∃ y : Int32, y = x20 + 1 := ⟨_, rfl⟩
                  have tx63 : x63.toInt = x20.toInt + 1 := (jadd ex63 rfl jz_1 (by omega) (by omega)).trans (by omega)
                  refine lv_iinc (v := x63) (lv' := [(7, .int x63), (5, .int r53), (4, .int x20), (6, .int x19), (8, .int r53), (3, .int (σ 55 9)), (0, .ref (ad 55)), (1, .int a1), (2, .int a2)]) hx hb dX12_fielded_123 hl (k := 4) rfl (by rw [ex63]; rfl) (by decide) rfl (fun ls hl => ?_)
                  refine lv_goto (tgt := 59) hx hb dX12_fielded_126 (by decide) ?_
                  have I64 : jI103 σ52 := jI103_fr (f55 9 (by decide)) I45
                  exact ihlp15 x20 r53 x19 x63 σ52 _ _ ls (by have h93 := tx63; omega) (by have h93 := tx63; omega) (by have h93 := tx63; omega) (fun i hi => ((f54 i hi).trans ((jnp i eσ40 (imp_262 i hi)).trans (f27 i hi)))) (fun i hi => ((f55 i (imp_267 i hi)).trans ((jkp i eσ40 (imp_266 i hi)).trans (f28 i hi))))  p57 I64 I56 hP hS (lv_sub hl [0, 3, 1, 2, 5, 6, 7, 8] rfl)
              · have kc59 := jeq c59 rfl t1
                refine lv_iload hx hb dX12_fielded_99 (lv_at hl 0 rfl) ?_
                refine lv_goto (tgt := 106) hx hb dX12_fielded_101 (by decide) ?_
                refine lv_istore (lv' := [(6, .int r53), (8, .int r53), (7, .int x20), (5, .int x18), (4, .int x17), (3, .int (σ 55 9)), (0, .ref (ad 55)), (1, .int a1), (2, .int a2)]) hx hb dX12_fielded_106 hl (by decide) rfl (fun ls hl => ?_)
                refine lv_iload hx hb dX12_fielded_108 (lv_at hl 1 rfl) ?_
                refine lv_iload hx hb dX12_fielded_110 (lv_at hl 3 rfl) ?_
                refine lv_icmp_ge (tgt := 123) hx hb dX12_fielded_112 (by decide) (fun c65 => ?_) (fun c65 => ?_)
                · have kc65 := jle c65 rfl rfl
                  obtain ⟨x66, ex66⟩ : ∃ y : Int32, y = x20 + 1 := ⟨_, rfl⟩
                  have tx66 : x66.toInt = x20.toInt + 1 := (jadd ex66 rfl jz_1 (by omega) (by omega)).trans (by omega)
                  refine lv_iinc (v := x66) (lv' := [(7, .int x66), (6, .int r53), (8, .int r53), (5, .int x18), (4, .int x17), (3, .int (σ 55 9)), (0, .ref (ad 55)), (1, .int a1), (2, .int a2)]) hx hb dX12_fielded_123 hl (k := 2) rfl (by rw [ex66]; rfl) (by decide) rfl (fun ls hl => ?_)
                  refine lv_goto (tgt := 59) hx hb dX12_fielded_126 (by decide) ?_
                  have I67 : jI103 σ52 := jI103_fr (f55 9 (by decide)) I45
                  exact ihlp15 x17 x18 r53 x66 σ52 _ _ ls (by have h93 := tx66; omega) (by have h93 := tx66; omega) (by have h93 := tx66; omega) (fun i hi => ((f54 i hi).trans ((jnp i eσ40 (imp_262 i hi)).trans (f27 i hi)))) (fun i hi => ((f55 i (imp_267 i hi)).trans ((jkp i eσ40 (imp_266 i hi)).trans (f28 i hi))))  p57 I67 I56 hP hS (lv_sub hl [0, 1, 3, 4, 5, 6, 7, 8] rfl)
                · have kc65 := jnle c65 rfl rfl
                  refine lv_iload hx hb dX12_fielded_115 (lv_at hl 2 rfl) ?_
                  refine lv_istore (lv' := [(4, .int x20), (6, .int r53), (8, .int r53), (7, .int x20), (5, .int x18), (3, .int (σ 55 9)), (0, .ref (ad 55)), (1, .int a1), (2, .int a2)]) hx hb dX12_fielded_117 hl (by decide) rfl (fun ls hl => ?_)
                  refine lv_iload hx hb dX12_fielded_119 (lv_at hl 2 rfl) ?_
                  refine lv_istore (lv' := [(5, .int r53), (4, .int x20), (6, .int r53), (8, .int r53), (7, .int x20), (3, .int (σ 55 9)), (0, .ref (ad 55)), (1, .int a1), (2, .int a2)]) hx hb dX12_fielded_121 hl (by decide) rfl (fun ls hl => ?_)
                  obtain ⟨x68, ex68⟩ : ∃ y : Int32, y = x20 + 1 := ⟨_, rfl⟩
                  have tx68 : x68.toInt = x20.toInt + 1 := (jadd ex68 rfl jz_1 (by omega) (by omega)).trans (by omega)
                  refine lv_iinc (v := x68) (lv' := [(7, .int x68), (5, .int r53), (4, .int x20), (6, .int r53), (8, .int r53), (3, .int (σ 55 9)), (0, .ref (ad 55)), (1, .int a1), (2, .int a2)]) hx hb dX12_fielded_123 hl (k := 4) rfl (by rw [ex68]; rfl) (by decide) rfl (fun ls hl => ?_)
                  refine lv_goto (tgt := 59) hx hb dX12_fielded_126 (by decide) ?_
                  have I69 : jI103 σ52 := jI103_fr (f55 9 (by decide)) I45
                  exact ihlp15 x20 r53 r53 x68 σ52 _ _ ls (by have h93 := tx68; omega) (by have h93 := tx68; omega) (by have h93 := tx68; omega) (fun i hi => ((f54 i hi).trans ((jnp i eσ40 (imp_262 i hi)).trans (f27 i hi)))) (fun i hi => ((f55 i (imp_267 i hi)).trans ((jkp i eσ40 (imp_266 i hi)).trans (f28 i hi))))  p57 I69 I56 hP hS (lv_sub hl [0, 3, 1, 2, 5, 6, 7, 8] rfl)
        exact lp15 1000000 0 2000000000 0 0 σ _ _ ls (by have h90 := jz_0; have h91 := jz_2000000000; have h92 := jz_0; have h93 := jz_0; omega) (by have h90 := jz_0; have h91 := jz_2000000000; have h92 := jz_0; have h93 := jz_0; omega) (by have h90 := jz_0; have h91 := jz_2000000000; have h92 := jz_0; have h93 := jz_0; omega) (fun _ _ => rfl) (fun _ _ => rfl)  hs_jKept hI103 hI119 hP hS hl
      · have kc14 := jnle c14 rfl jz_8
        refine lv_bipush (v := (-4)) hx hb dX12_fielded_37 (by decide) ?_
        exact hret (-4) σ τ _ _ _ _ rfl ⟨rfl, (fun _ _ => rfl), (fun _ _ => rfl), hI103, hI119, hs_jKept, (by omega), trivial⟩ hP hS dX12_fielded_39
    · have kc13 := jeq c13 t2 jz_0
      refine lv_iload_n hx hb dX12_fielded_14 rfl (lv_at hl 1 rfl) ?_
      refine lv_i2l (v := a1.toInt64) hx hb dX12_fielded_15 rfl ?_
      refine lv_lconst (v := 0) hx hb dX12_fielded_16 (by decide) ?_
      refine lv_ldc2 (v := 3) hx hb hown (hts _ kw_12_13) dX12_fielded_17 ?_
      refine jcallS (As := [.long a1.toInt64, .long 0, .long 3]) (rest := []) ⟨hx, hb, hml, hown, hts⟩ hK hP hA hS hZ (c_X12_within l D cI cL ad zz hJ σ τ a1.toInt64 (A1) (jtoL t1) 0 (0) jzl_0 3 (3) jzl_3) cw_RX12_136 ⟨Nat.le_of_ble_eq_true rfl, Nat.le_of_ble_eq_true rfl⟩ rfl rfl rfl hl.1 rfl (Nat.le_of_ble_eq_true rfl) dX12_fielded_20 ⟨Nat.zero_le _, Nat.zero_le _⟩ (fun r71 σ70 τ70 H locs h70 hP hS => ?_)
      obtain ⟨⟨rfl, rfl⟩, h70⟩ := h70
      rcases h70 with h72 | h73
      · obtain ⟨q75, k74⟩ := h72
        have q75 := q75.symm
        subst q75
        refine lv_if_ne (tgt := 28) hx hb dX12_fielded_23 (by decide) (fun _ => ?_) (fun c => absurd c (by decide))
        refine lv_aload_n hx hb dX12_fielded_28 rfl (lv_at hl 0 rfl) ?_
        refine va_get (D := D) hx hb hts inlX12 hown hK hP 55 (jc_55 cI cL ad σ τ) rfl 12 (by decide) (hts _ kw_8_16) (fun _ h9 => h9) rfl dX12_fielded_29 ?_
        refine lv_bipush (v := 8) hx hb dX12_fielded_32 (by decide) ?_
        refine lv_icmp_le (tgt := 40) hx hb dX12_fielded_34 (by decide) (fun c76 => ?_) (fun c76 => ?_)
        · have kc76 := jle c76 rfl jz_8
          refine lv_aload_n hx hb dX12_fielded_40 rfl (lv_at hl 0 rfl) ?_
          refine va_get (D := D) hx hb hts inlX12 hown hK hP 55 (jc_55 cI cL ad σ τ) rfl 9 (by decide) (hts _ kw_12_14) (fun _ h9 => h9) rfl dX12_fielded_41 ?_
          refine lv_istore_n (lv' := [(3, .int (σ 55 9)), (0, .ref (ad 55)), (1, .int a1), (2, .int a2)]) hx hb dX12_fielded_44 rfl hl (by decide) rfl (fun ls hl => ?_)
          refine lv_iconst (v := 0) hx hb dX12_fielded_45 (by decide) ?_
          refine lv_istore (lv' := [(4, .int 0), (3, .int (σ 55 9)), (0, .ref (ad 55)), (1, .int a1), (2, .int a2)]) hx hb dX12_fielded_46 hl (by decide) rfl (fun ls hl => ?_)
          refine lv_ldcw (v := 2000000000) hx hb hown (hts _ kw_34_4) dX12_fielded_48 ?_
          refine lv_istore (lv' := [(5, .int 2000000000), (4, .int 0), (3, .int (σ 55 9)), (0, .ref (ad 55)), (1, .int a1), (2, .int a2)]) hx hb dX12_fielded_51 hl (by decide) rfl (fun ls hl => ?_)
          refine lv_iconst (v := 0) hx hb dX12_fielded_53 (by decide) ?_
          refine lv_istore (lv' := [(6, .int 0), (5, .int 2000000000), (4, .int 0), (3, .int (σ 55 9)), (0, .ref (ad 55)), (1, .int a1), (2, .int a2)]) hx hb dX12_fielded_54 hl (by decide) rfl (fun ls hl => ?_)
          refine lv_iconst (v := 0) hx hb dX12_fielded_56 (by decide) ?_
          refine lv_istore (lv' := [(7, .int 0), (6, .int 0), (5, .int 2000000000), (4, .int 0), (3, .int (σ 55 9)), (0, .ref (ad 55)), (1, .int a1), (2, .int a2)]) hx hb dX12_fielded_57 hl (by decide) rfl (fun ls hl => ?_)
          have lp77 : ∀ (n78 : Nat) (x79 : Int32) (x80 : Int32) (x81 : Int32) (x82 : Int32) (σ84 : Nat → Nat → Int32) (H : Heap) (locs : List Loc) (ls : Array Slot), (-x82.toInt + 4 : Int) < n78 → 0 ≤ x82.toInt → x82.toInt ≤ 4 → (∀ i : Nat, (i < 55 ∨ 55 < i) ∧ (i < 66 ∨ 66 < i) ∧ (i < 68 ∨ 69 < i) ∧ (i < 74 ∨ 78 < i) → σ84 i = σ i) → (∀ k : Nat, (k < 9 ∨ 9 < k) ∧ (k < 18 ∨ 18 < k) ∧ (k < 19 ∨ 19 < k) ∧ (k < 20 ∨ 20 < k) ∧ (k < 21 ∨ 21 < k) ∧ (k < 22 ∨ 22 < k) ∧ (k < 25 ∨ 25 < k) ∧ (k < 26 ∨ 26 < k) ∧ (k < 27 ∨ 27 < k) ∧ (k < 37 ∨ 37 < k) ∧ (k < 42 ∨ 42 < k) → σ84 55 k = σ 55 k) → jKept σ84 → jI103 σ84 → jI119 σ84 → jH D cI cL ad σ84 τ H → va_S (jA ad) s.heap H locs → lv_has ls 9 [(7, .int x82), (6, .int x81), (5, .int x80), (4, .int x79), (3, .int (σ 55 9)), (0, .ref (ad 55)), (1, .int a1), (2, .int a2)] → W p l e ({ frames := 104, cells := 0, slots := 0, locals := 5081 }) s m args below meth c H locs 0 0 Q (F0 m 59 ls []) := by
            intro n78
            induction n78 with
            | zero => intro x79 x80 x81 x82 σ84 H locs ls h86 h87 h88; have gx79 := jrg (rfl : x79.toInt = x79.toInt); have gx80 := jrg (rfl : x80.toInt = x80.toInt); have gx81 := jrg (rfl : x81.toInt = x81.toInt); exact absurd h86 (by omega)
            | succ n78 ihlp77 =>
              intro x79 x80 x81 x82 σ84 H locs ls h86 h87 h88 f89 f90 p91 p92 p93 hP hS hl
              have gx79 := jrg (rfl : x79.toInt = x79.toInt); have gx80 := jrg (rfl : x80.toInt = x80.toInt); have gx81 := jrg (rfl : x81.toInt = x81.toInt)
              have i94 : 0 ≤ (σ84 55 9).toInt ∧ (σ84 55 9).toInt ≤ 3 := p92
              refine lv_iload hx hb dX12_fielded_59 (lv_at hl 0 rfl) ?_
              refine lv_iconst (v := 4) hx hb dX12_fielded_61 (by decide) ?_
              refine lv_icmp_ge (tgt := 129) hx hb dX12_fielded_62 (by decide) (fun c95 => ?_) (fun c95 => ?_)
              · have kc95 := jle c95 jz_4 rfl
                refine lv_aload_n hx hb dX12_fielded_129 rfl (lv_at hl 5 rfl) ?_
                refine lv_iload_n hx hb dX12_fielded_130 rfl (lv_at hl 4 rfl) ?_
                refine jput (ty := .int) hx hb hts inlX12 tyX12 tyX12_ok nmX12 hown hK hP hJ hA hS (jc_55 cI cL ad σ84 τ) rfl (k := 9) (by decide) (Nat.le_of_ble_eq_true rfl) (jp_55_9 cI cL ad σ84 τ (σ 55 9)) (hts _ kw_12_14) (fun _ h9 => h9) rfl (by decide +kernel) rfl rfl dX12_fielded_131 (fun σ96 H locs eσ96 hP hS => ?_)
                refine lv_iload_n hx hb dX12_fielded_134 rfl (lv_at hl 7 rfl) ?_
                refine lv_if_ne (tgt := 143) hx hb dX12_fielded_135 (by decide) (fun c => absurd (jne c t2 jz_0) (by omega)) (fun c97 => ?_)
                have kc97 := jeq c97 t2 jz_0
                refine lv_iload hx hb dX12_fielded_138 (lv_at hl 1 rfl) ?_
                refine lv_goto (tgt := 145) hx hb dX12_fielded_140 (by decide) ?_
                have z98 : (σ96 55 9).toInt = (σ 55 9).toInt := (congrArg Int32.toInt (show σ96 55 9 = (σ 55 9) from (jsp eσ96)))
                have I99 : jI103 σ96 := (show 0 ≤ (σ96 55 9).toInt ∧ (σ96 55 9).toInt ≤ 3 by omega)
                have I100 : jI119 σ96 := jI119_fr (jnp 68 eσ96 (by decide)) p93
                have p101 : jKept σ96 := jKept.fr (jnp 75 eσ96 (by decide)) (jnp 76 eσ96 (by decide)) (jnp 77 eσ96 (by decide)) p91
                exact hret x81 σ96 τ _ _ _ _ rfl ⟨rfl, (fun i hi => ((jnp i eσ96 (imp_262 i hi)).trans (f89 i hi))), (fun i hi => ((jkp i eσ96 (imp_266 i hi)).trans (f90 i hi))), I99, I100, p101, (by omega), trivial⟩ hP hS dX12_fielded_145
              · have kc95 := jnle c95 jz_4 rfl
                refine lv_aload_n hx hb dX12_fielded_65 rfl (lv_at hl 5 rfl) ?_
                refine lv_iload hx hb dX12_fielded_66 (lv_at hl 0 rfl) ?_
                refine jput (ty := .int) hx hb hts inlX12 tyX12 tyX12_ok nmX12 hown hK hP hJ hA hS (jc_55 cI cL ad σ84 τ) rfl (k := 9) (by decide) (Nat.le_of_ble_eq_true rfl) (jp_55_9 cI cL ad σ84 τ x82) (hts _ kw_12_14) (fun _ h9 => h9) rfl (by decide +kernel) rfl rfl dX12_fielded_68 (fun σ102 H locs eσ102 hP hS => ?_)
                refine lv_iload_n hx hb dX12_fielded_71 rfl (lv_at hl 7 rfl) ?_
                refine lv_if_ne (tgt := 87) hx hb dX12_fielded_72 (by decide) (fun c => absurd (jne c t2 jz_0) (by omega)) (fun c103 => ?_)
                have kc103 := jeq c103 t2 jz_0
                refine lv_iload hx hb dX12_fielded_75 (lv_at hl 0 rfl) ?_
                refine lv_iload_n hx hb dX12_fielded_77 rfl (lv_at hl 6 rfl) ?_
                refine lv_icmp_eq (tgt := 87) hx hb dX12_fielded_78 (by decide) (fun c104 => ?_) (fun c104 => ?_)
                · have kc104 := jeq c104 rfl t1
                  refine lv_aload_n hx hb dX12_fielded_87 rfl (lv_at hl 5 rfl) ?_
                  have I105 : jI101 σ102 := jI101_fr ((jkp 4 eσ102 (by decide)).trans (f90 4 (by decide))) ((jkp 5 eσ102 (by decide)).trans (f90 5 (by decide))) ((jnp 56 eσ102 (by decide)).trans (f89 56 (by decide))) ((jnp 57 eσ102 (by decide)).trans (f89 57 (by decide))) ((jnp 58 eσ102 (by decide)).trans (f89 58 (by decide))) ((jnp 59 eσ102 (by decide)).trans (f89 59 (by decide))) hI101
                  have I106 : jI102 σ102 := jI102_fr ((jkp 6 eσ102 (by decide)).trans (f90 6 (by decide))) ((jnp 60 eσ102 (by decide)).trans (f89 60 (by decide))) ((jnp 61 eσ102 (by decide)).trans (f89 61 (by decide))) hI102
                  have z107 : (σ102 55 9).toInt = x82.toInt := (congrArg Int32.toInt (show σ102 55 9 = x82 from (jsp eσ102)))
                  have I108 : jI103 σ102 := (show 0 ≤ (σ102 55 9).toInt ∧ (σ102 55 9).toInt ≤ 3 by omega)
                  have I109 : jI104 σ102 := jI104_fr ((jkp 10 eσ102 (by decide)).trans (f90 10 (by decide))) ((jkp 12 eσ102 (by decide)).trans (f90 12 (by decide))) ((jkp 13 eσ102 (by decide)).trans (f90 13 (by decide))) ((jnp 62 eσ102 (by decide)).trans (f89 62 (by decide))) ((jnp 67 eσ102 (by decide)).trans (f89 67 (by decide))) hI104
                  have I110 : jI105 σ102 := jI105_fr ((jkp 15 eσ102 (by decide)).trans (f90 15 (by decide))) ((jnp 65 eσ102 (by decide)).trans (f89 65 (by decide))) hI105
                  have I111 : jI106 σ102 := jI106_fr ((jkp 32 eσ102 (by decide)).trans (f90 32 (by decide))) ((jnp 70 eσ102 (by decide)).trans (f89 70 (by decide))) ((jnp 71 eσ102 (by decide)).trans (f89 71 (by decide))) ((jnp 72 eσ102 (by decide)).trans (f89 72 (by decide))) hI106
                  have I112 : jI119 σ102 := jI119_fr (jnp 68 eσ102 (by decide)) p93
                  have p113 : jKept σ102 := jKept.fr (jnp 75 eσ102 (by decide)) (jnp 76 eσ102 (by decide)) (jnp 77 eσ102 (by decide)) p91
                  have z114 : (σ102 55 12).toInt = (σ 55 12).toInt := (congrArg Int32.toInt (show σ102 55 12 = (σ 55 12) from ((jkp 12 eσ102 (by decide)).trans (f90 12 (by decide)))))
                  refine jcallV (As := []) (rest := []) ⟨hx, hb, hml, hown, hts⟩ hK hP hA hS hZ (c_X12_bestNow l D cI cL ad zz hJ σ102 τ I105 I106 I108 I109 I110 I111 I112 p113 (by omega)) cw_RX12_346 (jc_55 cI cL ad σ102 τ) rfl ⟨Nat.le_of_ble_eq_true rfl, Nat.le_of_ble_eq_true rfl⟩ rfl rfl rfl hl.1 rfl (Nat.le_of_ble_eq_true rfl) dX12_fielded_88 ⟨Nat.zero_le _, Nat.zero_le _⟩ (fun r116 σ115 τ115 H locs h115 hP hS => ?_)
                  obtain ⟨rfl, f117, f118, I119, p120, h115⟩ := h115
                  refine lv_istore (lv' := [(8, .int r116), (7, .int x82), (6, .int x81), (5, .int x80), (4, .int x79), (3, .int (σ 55 9)), (0, .ref (ad 55)), (1, .int a1), (2, .int a2)]) hx hb dX12_fielded_91 hl (by decide) rfl (fun ls hl => ?_)
                  refine lv_iload hx hb dX12_fielded_93 (lv_at hl 1 rfl) ?_
                  refine lv_iload_n hx hb dX12_fielded_95 rfl (lv_at hl 7 rfl) ?_
                  refine lv_icmp_ne (tgt := 104) hx hb dX12_fielded_96 (by decide) (fun c122 => ?_) (fun c122 => ?_)
                  · have kc122 := jne c122 rfl t1
                    refine lv_iload hx hb dX12_fielded_104 (lv_at hl 2 rfl) ?_
                    refine lv_istore (lv' := [(6, .int x81), (8, .int r116), (7, .int x82), (5, .int x80), (4, .int x79), (3, .int (σ 55 9)), (0, .ref (ad 55)), (1, .int a1), (2, .int a2)]) hx hb dX12_fielded_106 hl (by decide) rfl (fun ls hl => ?_)
                    refine lv_iload hx hb dX12_fielded_108 (lv_at hl 1 rfl) ?_
                    refine lv_iload hx hb dX12_fielded_110 (lv_at hl 3 rfl) ?_
                    refine lv_icmp_ge (tgt := 123) hx hb dX12_fielded_112 (by decide) (fun c123 => ?_) (fun c123 => ?_)
                    · have kc123 := jle c123 rfl rfl
                      obtain ⟨x124, ex124⟩ : ∃ y : Int32, y = x82 + 1 := ⟨_, rfl⟩
                      have tx124 : x124.toInt = x82.toInt + 1 := (jadd ex124 rfl jz_1 (by omega) (by omega)).trans (by omega)
                      refine lv_iinc (v := x124) (lv' := [(7, .int x124), (6, .int x81), (8, .int r116), (5, .int x80), (4, .int x79), (3, .int (σ 55 9)), (0, .ref (ad 55)), (1, .int a1), (2, .int a2)]) hx hb dX12_fielded_123 hl (k := 2) rfl (by rw [ex124]; rfl) (by decide) rfl (fun ls hl => ?_)
                      refine lv_goto (tgt := 59) hx hb dX12_fielded_126 (by decide) ?_
                      have I125 : jI103 σ115 := jI103_fr (f118 9 (by decide)) I108
                      exact ihlp77 x79 x80 x81 x124 σ115 _ _ ls (by have h93 := tx124; omega) (by have h93 := tx124; omega) (by have h93 := tx124; omega) (fun i hi => ((f117 i hi).trans ((jnp i eσ102 (imp_262 i hi)).trans (f89 i hi)))) (fun i hi => ((f118 i (imp_267 i hi)).trans ((jkp i eσ102 (imp_266 i hi)).trans (f90 i hi))))  p120 I125 I119 hP hS (lv_sub hl [0, 1, 3, 4, 5, 6, 7, 8] rfl)
                    · have kc123 := jnle c123 rfl rfl
                      refine lv_iload hx hb dX12_fielded_115 (lv_at hl 2 rfl) ?_
                      refine lv_istore (lv' := [(4, .int x82), (6, .int x81), (8, .int r116), (7, .int x82), (5, .int x80), (3, .int (σ 55 9)), (0, .ref (ad 55)), (1, .int a1), (2, .int a2)]) hx hb dX12_fielded_117 hl (by decide) rfl (fun ls hl => ?_)
                      refine lv_iload hx hb dX12_fielded_119 (lv_at hl 2 rfl) ?_
                      refine lv_istore (lv' := [(5, .int r116), (4, .int x82), (6, .int x81), (8, .int r116), (7, .int x82), (3, .int (σ 55 9)), (0, .ref (ad 55)), (1, .int a1), (2, .int a2)]) hx hb dX12_fielded_121 hl (by decide) rfl (fun ls hl => ?_)
                      obtain ⟨x126, ex126⟩ : ∃ y : Int32, y = x82 + 1 := ⟨_, rfl⟩
                      have tx126 : x126.toInt = x82.toInt + 1 := (jadd ex126 rfl jz_1 (by omega) (by omega)).trans (by omega)
                      refine lv_iinc (v := x126) (lv' := [(7, .int x126), (5, .int r116), (4, .int x82), (6, .int x81), (8, .int r116), (3, .int (σ 55 9)), (0, .ref (ad 55)), (1, .int a1), (2, .int a2)]) hx hb dX12_fielded_123 hl (k := 4) rfl (by rw [ex126]; rfl) (by decide) rfl (fun ls hl => ?_)
                      refine lv_goto (tgt := 59) hx hb dX12_fielded_126 (by decide) ?_
                      have I127 : jI103 σ115 := jI103_fr (f118 9 (by decide)) I108
                      exact ihlp77 x82 r116 x81 x126 σ115 _ _ ls (by have h93 := tx126; omega) (by have h93 := tx126; omega) (by have h93 := tx126; omega) (fun i hi => ((f117 i hi).trans ((jnp i eσ102 (imp_262 i hi)).trans (f89 i hi)))) (fun i hi => ((f118 i (imp_267 i hi)).trans ((jkp i eσ102 (imp_266 i hi)).trans (f90 i hi))))  p120 I127 I119 hP hS (lv_sub hl [0, 3, 1, 2, 5, 6, 7, 8] rfl)
                  · have kc122 := jeq c122 rfl t1
                    refine lv_iload hx hb dX12_fielded_99 (lv_at hl 0 rfl) ?_
                    refine lv_goto (tgt := 106) hx hb dX12_fielded_101 (by decide) ?_
                    refine lv_istore (lv' := [(6, .int r116), (8, .int r116), (7, .int x82), (5, .int x80), (4, .int x79), (3, .int (σ 55 9)), (0, .ref (ad 55)), (1, .int a1), (2, .int a2)]) hx hb dX12_fielded_106 hl (by decide) rfl (fun ls hl => ?_)
                    refine lv_iload hx hb dX12_fielded_108 (lv_at hl 1 rfl) ?_
                    refine lv_iload hx hb dX12_fielded_110 (lv_at hl 3 rfl) ?_
                    refine lv_icmp_ge (tgt := 123) hx hb dX12_fielded_112 (by decide) (fun c128 => ?_) (fun c128 => ?_)
                    · have kc128 := jle c128 rfl rfl
                      obtain ⟨x129, ex129⟩ : ∃ y : Int32, y = x82 + 1 := ⟨_, rfl⟩
                      have tx129 : x129.toInt = x82.toInt + 1 := (jadd ex129 rfl jz_1 (by omega) (by omega)).trans (by omega)
                      refine lv_iinc (v := x129) (lv' := [(7, .int x129), (6, .int r116), (8, .int r116), (5, .int x80), (4, .int x79), (3, .int (σ 55 9)), (0, .ref (ad 55)), (1, .int a1), (2, .int a2)]) hx hb dX12_fielded_123 hl (k := 2) rfl (by rw [ex129]; rfl) (by decide) rfl (fun ls hl => ?_)
                      refine lv_goto (tgt := 59) hx hb dX12_fielded_126 (by decide) ?_
                      have I130 : jI103 σ115 := jI103_fr (f118 9 (by decide)) I108
                      exact ihlp77 x79 x80 r116 x129 σ115 _ _ ls (by have h93 := tx129; omega) (by have h93 := tx129; omega) (by have h93 := tx129; omega) (fun i hi => ((f117 i hi).trans ((jnp i eσ102 (imp_262 i hi)).trans (f89 i hi)))) (fun i hi => ((f118 i (imp_267 i hi)).trans ((jkp i eσ102 (imp_266 i hi)).trans (f90 i hi))))  p120 I130 I119 hP hS (lv_sub hl [0, 1, 3, 4, 5, 6, 7, 8] rfl)
                    · have kc128 := jnle c128 rfl rfl
                      refine lv_iload hx hb dX12_fielded_115 (lv_at hl 2 rfl) ?_
                      refine lv_istore (lv' := [(4, .int x82), (6, .int r116), (8, .int r116), (7, .int x82), (5, .int x80), (3, .int (σ 55 9)), (0, .ref (ad 55)), (1, .int a1), (2, .int a2)]) hx hb dX12_fielded_117 hl (by decide) rfl (fun ls hl => ?_)
                      refine lv_iload hx hb dX12_fielded_119 (lv_at hl 2 rfl) ?_
                      refine lv_istore (lv' := [(5, .int r116), (4, .int x82), (6, .int r116), (8, .int r116), (7, .int x82), (3, .int (σ 55 9)), (0, .ref (ad 55)), (1, .int a1), (2, .int a2)]) hx hb dX12_fielded_121 hl (by decide) rfl (fun ls hl => ?_)
                      obtain ⟨x131, ex131⟩ : ∃ y : Int32, y = x82 + 1 := ⟨_, rfl⟩
                      have tx131 : x131.toInt = x82.toInt + 1 := (jadd ex131 rfl jz_1 (by omega) (by omega)).trans (by omega)
                      refine lv_iinc (v := x131) (lv' := [(7, .int x131), (5, .int r116), (4, .int x82), (6, .int r116), (8, .int r116), (3, .int (σ 55 9)), (0, .ref (ad 55)), (1, .int a1), (2, .int a2)]) hx hb dX12_fielded_123 hl (k := 4) rfl (by rw [ex131]; rfl) (by decide) rfl (fun ls hl => ?_)
                      refine lv_goto (tgt := 59) hx hb dX12_fielded_126 (by decide) ?_
                      have I132 : jI103 σ115 := jI103_fr (f118 9 (by decide)) I108
                      exact ihlp77 x82 r116 r116 x131 σ115 _ _ ls (by have h93 := tx131; omega) (by have h93 := tx131; omega) (by have h93 := tx131; omega) (fun i hi => ((f117 i hi).trans ((jnp i eσ102 (imp_262 i hi)).trans (f89 i hi)))) (fun i hi => ((f118 i (imp_267 i hi)).trans ((jkp i eσ102 (imp_266 i hi)).trans (f90 i hi))))  p120 I132 I119 hP hS (lv_sub hl [0, 3, 1, 2, 5, 6, 7, 8] rfl)
                · have kc104 := jne c104 rfl t1
                  refine lv_ldcw (v := 2000000000) hx hb hown (hts _ kw_34_4) dX12_fielded_81 ?_
                  refine lv_goto (tgt := 91) hx hb dX12_fielded_84 (by decide) ?_
                  refine lv_istore (lv' := [(8, .int 2000000000), (7, .int x82), (6, .int x81), (5, .int x80), (4, .int x79), (3, .int (σ 55 9)), (0, .ref (ad 55)), (1, .int a1), (2, .int a2)]) hx hb dX12_fielded_91 hl (by decide) rfl (fun ls hl => ?_)
                  refine lv_iload hx hb dX12_fielded_93 (lv_at hl 1 rfl) ?_
                  refine lv_iload_n hx hb dX12_fielded_95 rfl (lv_at hl 7 rfl) ?_
                  refine lv_icmp_ne (tgt := 104) hx hb dX12_fielded_96 (by decide) (fun c133 => ?_) (fun c133 => ?_)
                  · have kc133 := jne c133 rfl t1
                    refine lv_iload hx hb dX12_fielded_104 (lv_at hl 2 rfl) ?_
                    refine lv_istore (lv' := [(6, .int x81), (8, .int 2000000000), (7, .int x82), (5, .int x80), (4, .int x79), (3, .int (σ 55 9)), (0, .ref (ad 55)), (1, .int a1), (2, .int a2)]) hx hb dX12_fielded_106 hl (by decide) rfl (fun ls hl => ?_)
                    refine lv_iload hx hb dX12_fielded_108 (lv_at hl 1 rfl) ?_
                    refine lv_iload hx hb dX12_fielded_110 (lv_at hl 3 rfl) ?_
                    refine lv_icmp_ge (tgt := 123) hx hb dX12_fielded_112 (by decide) (fun c134 => ?_) (fun c134 => ?_)
                    · have kc134 := jle c134 rfl jz_2000000000
                      obtain ⟨x135, ex135⟩ : ∃ y : Int32, y = x82 + 1 := ⟨_, rfl⟩
                      have tx135 : x135.toInt = x82.toInt + 1 := (jadd ex135 rfl jz_1 (by omega) (by omega)).trans (by omega)
                      refine lv_iinc (v := x135) (lv' := [(7, .int x135), (6, .int x81), (8, .int 2000000000), (5, .int x80), (4, .int x79), (3, .int (σ 55 9)), (0, .ref (ad 55)), (1, .int a1), (2, .int a2)]) hx hb dX12_fielded_123 hl (k := 2) rfl (by rw [ex135]; rfl) (by decide) rfl (fun ls hl => ?_)
                      refine lv_goto (tgt := 59) hx hb dX12_fielded_126 (by decide) ?_
                      have p136 : jKept σ102 := jKept.fr (jnp 75 eσ102 (by decide)) (jnp 76 eσ102 (by decide)) (jnp 77 eσ102 (by decide)) p91
                      have z137 : (σ102 55 9).toInt = x82.toInt := (congrArg Int32.toInt (show σ102 55 9 = x82 from (jsp eσ102)))
                      have I138 : jI103 σ102 := (show 0 ≤ (σ102 55 9).toInt ∧ (σ102 55 9).toInt ≤ 3 by omega)
                      have I139 : jI119 σ102 := jI119_fr (jnp 68 eσ102 (by decide)) p93
                      exact ihlp77 x79 x80 x81 x135 σ102 _ _ ls (by have h93 := tx135; omega) (by have h93 := tx135; omega) (by have h93 := tx135; omega) (fun i hi => ((jnp i eσ102 (imp_262 i hi)).trans (f89 i hi))) (fun i hi => ((jkp i eσ102 (imp_266 i hi)).trans (f90 i hi)))  p136 I138 I139 hP hS (lv_sub hl [0, 1, 3, 4, 5, 6, 7, 8] rfl)
                    · have kc134 := jnle c134 rfl jz_2000000000
                      refine lv_iload hx hb dX12_fielded_115 (lv_at hl 2 rfl) ?_
                      refine lv_istore (lv' := [(4, .int x82), (6, .int x81), (8, .int 2000000000), (7, .int x82), (5, .int x80), (3, .int (σ 55 9)), (0, .ref (ad 55)), (1, .int a1), (2, .int a2)]) hx hb dX12_fielded_117 hl (by decide) rfl (fun ls hl => ?_)
                      refine lv_iload hx hb dX12_fielded_119 (lv_at hl 2 rfl) ?_
                      refine lv_istore (lv' := [(5, .int 2000000000), (4, .int x82), (6, .int x81), (8, .int 2000000000), (7, .int x82), (3, .int (σ 55 9)), (0, .ref (ad 55)), (1, .int a1), (2, .int a2)]) hx hb dX12_fielded_121 hl (by decide) rfl (fun ls hl => ?_)
                      obtain ⟨x140, ex140⟩ : ∃ y : Int32, y = x82 + 1 := ⟨_, rfl⟩
                      have tx140 : x140.toInt = x82.toInt + 1 := (jadd ex140 rfl jz_1 (by omega) (by omega)).trans (by omega)
                      refine lv_iinc (v := x140) (lv' := [(7, .int x140), (5, .int 2000000000), (4, .int x82), (6, .int x81), (8, .int 2000000000), (3, .int (σ 55 9)), (0, .ref (ad 55)), (1, .int a1), (2, .int a2)]) hx hb dX12_fielded_123 hl (k := 4) rfl (by rw [ex140]; rfl) (by decide) rfl (fun ls hl => ?_)
                      refine lv_goto (tgt := 59) hx hb dX12_fielded_126 (by decide) ?_
                      have p141 : jKept σ102 := jKept.fr (jnp 75 eσ102 (by decide)) (jnp 76 eσ102 (by decide)) (jnp 77 eσ102 (by decide)) p91
                      have z142 : (σ102 55 9).toInt = x82.toInt := (congrArg Int32.toInt (show σ102 55 9 = x82 from (jsp eσ102)))
                      have I143 : jI103 σ102 := (show 0 ≤ (σ102 55 9).toInt ∧ (σ102 55 9).toInt ≤ 3 by omega)
                      have I144 : jI119 σ102 := jI119_fr (jnp 68 eσ102 (by decide)) p93
                      exact ihlp77 x82 2000000000 x81 x140 σ102 _ _ ls (by have h91 := jz_2000000000; have h93 := tx140; omega) (by have h91 := jz_2000000000; have h93 := tx140; omega) (by have h91 := jz_2000000000; have h93 := tx140; omega) (fun i hi => ((jnp i eσ102 (imp_262 i hi)).trans (f89 i hi))) (fun i hi => ((jkp i eσ102 (imp_266 i hi)).trans (f90 i hi)))  p141 I143 I144 hP hS (lv_sub hl [0, 3, 1, 2, 5, 6, 7, 8] rfl)
                  · have kc133 := jeq c133 rfl t1
                    refine lv_iload hx hb dX12_fielded_99 (lv_at hl 0 rfl) ?_
                    refine lv_goto (tgt := 106) hx hb dX12_fielded_101 (by decide) ?_
                    refine lv_istore (lv' := [(6, .int 2000000000), (8, .int 2000000000), (7, .int x82), (5, .int x80), (4, .int x79), (3, .int (σ 55 9)), (0, .ref (ad 55)), (1, .int a1), (2, .int a2)]) hx hb dX12_fielded_106 hl (by decide) rfl (fun ls hl => ?_)
                    refine lv_iload hx hb dX12_fielded_108 (lv_at hl 1 rfl) ?_
                    refine lv_iload hx hb dX12_fielded_110 (lv_at hl 3 rfl) ?_
                    refine lv_icmp_ge (tgt := 123) hx hb dX12_fielded_112 (by decide) (fun c145 => ?_) (fun c145 => ?_)
                    · have kc145 := jle c145 rfl jz_2000000000
                      obtain ⟨x146, ex146⟩ : ∃ y : Int32, y = x82 + 1 := ⟨_, rfl⟩
                      have tx146 : x146.toInt = x82.toInt + 1 := (jadd ex146 rfl jz_1 (by omega) (by omega)).trans (by omega)
                      refine lv_iinc (v := x146) (lv' := [(7, .int x146), (6, .int 2000000000), (8, .int 2000000000), (5, .int x80), (4, .int x79), (3, .int (σ 55 9)), (0, .ref (ad 55)), (1, .int a1), (2, .int a2)]) hx hb dX12_fielded_123 hl (k := 2) rfl (by rw [ex146]; rfl) (by decide) rfl (fun ls hl => ?_)
                      refine lv_goto (tgt := 59) hx hb dX12_fielded_126 (by decide) ?_
                      have p147 : jKept σ102 := jKept.fr (jnp 75 eσ102 (by decide)) (jnp 76 eσ102 (by decide)) (jnp 77 eσ102 (by decide)) p91
                      have z148 : (σ102 55 9).toInt = x82.toInt := (congrArg Int32.toInt (show σ102 55 9 = x82 from (jsp eσ102)))
                      have I149 : jI103 σ102 := (show 0 ≤ (σ102 55 9).toInt ∧ (σ102 55 9).toInt ≤ 3 by omega)
                      have I150 : jI119 σ102 := jI119_fr (jnp 68 eσ102 (by decide)) p93
                      exact ihlp77 x79 x80 2000000000 x146 σ102 _ _ ls (by have h92 := jz_2000000000; have h93 := tx146; omega) (by have h92 := jz_2000000000; have h93 := tx146; omega) (by have h92 := jz_2000000000; have h93 := tx146; omega) (fun i hi => ((jnp i eσ102 (imp_262 i hi)).trans (f89 i hi))) (fun i hi => ((jkp i eσ102 (imp_266 i hi)).trans (f90 i hi)))  p147 I149 I150 hP hS (lv_sub hl [0, 1, 3, 4, 5, 6, 7, 8] rfl)
                    · have kc145 := jnle c145 rfl jz_2000000000
                      refine lv_iload hx hb dX12_fielded_115 (lv_at hl 2 rfl) ?_
                      refine lv_istore (lv' := [(4, .int x82), (6, .int 2000000000), (8, .int 2000000000), (7, .int x82), (5, .int x80), (3, .int (σ 55 9)), (0, .ref (ad 55)), (1, .int a1), (2, .int a2)]) hx hb dX12_fielded_117 hl (by decide) rfl (fun ls hl => ?_)
                      refine lv_iload hx hb dX12_fielded_119 (lv_at hl 2 rfl) ?_
                      refine lv_istore (lv' := [(5, .int 2000000000), (4, .int x82), (6, .int 2000000000), (8, .int 2000000000), (7, .int x82), (3, .int (σ 55 9)), (0, .ref (ad 55)), (1, .int a1), (2, .int a2)]) hx hb dX12_fielded_121 hl (by decide) rfl (fun ls hl => ?_)
                      obtain ⟨x151, ex151⟩ : ∃ y : Int32, y = x82 + 1 := ⟨_, rfl⟩
                      have tx151 : x151.toInt = x82.toInt + 1 := (jadd ex151 rfl jz_1 (by omega) (by omega)).trans (by omega)
                      refine lv_iinc (v := x151) (lv' := [(7, .int x151), (5, .int 2000000000), (4, .int x82), (6, .int 2000000000), (8, .int 2000000000), (3, .int (σ 55 9)), (0, .ref (ad 55)), (1, .int a1), (2, .int a2)]) hx hb dX12_fielded_123 hl (k := 4) rfl (by rw [ex151]; rfl) (by decide) rfl (fun ls hl => ?_)
                      refine lv_goto (tgt := 59) hx hb dX12_fielded_126 (by decide) ?_
                      have p152 : jKept σ102 := jKept.fr (jnp 75 eσ102 (by decide)) (jnp 76 eσ102 (by decide)) (jnp 77 eσ102 (by decide)) p91
                      have z153 : (σ102 55 9).toInt = x82.toInt := (congrArg Int32.toInt (show σ102 55 9 = x82 from (jsp eσ102)))
                      have I154 : jI103 σ102 := (show 0 ≤ (σ102 55 9).toInt ∧ (σ102 55 9).toInt ≤ 3 by omega)
                      have I155 : jI119 σ102 := jI119_fr (jnp 68 eσ102 (by decide)) p93
                      exact ihlp77 x82 2000000000 2000000000 x151 σ102 _ _ ls (by have h91 := jz_2000000000; have h92 := jz_2000000000; have h93 := tx151; omega) (by have h91 := jz_2000000000; have h92 := jz_2000000000; have h93 := tx151; omega) (by have h91 := jz_2000000000; have h92 := jz_2000000000; have h93 := tx151; omega) (fun i hi => ((jnp i eσ102 (imp_262 i hi)).trans (f89 i hi))) (fun i hi => ((jkp i eσ102 (imp_266 i hi)).trans (f90 i hi)))  p152 I154 I155 hP hS (lv_sub hl [0, 3, 1, 2, 5, 6, 7, 8] rfl)
          exact lp77 1000000 0 2000000000 0 0 σ _ _ ls (by have h90 := jz_0; have h91 := jz_2000000000; have h92 := jz_0; have h93 := jz_0; omega) (by have h90 := jz_0; have h91 := jz_2000000000; have h92 := jz_0; have h93 := jz_0; omega) (by have h90 := jz_0; have h91 := jz_2000000000; have h92 := jz_0; have h93 := jz_0; omega) (fun _ _ => rfl) (fun _ _ => rfl)  hs_jKept hI103 hI119 hP hS hl
        · have kc76 := jnle c76 rfl jz_8
          refine lv_bipush (v := (-4)) hx hb dX12_fielded_37 (by decide) ?_
          exact hret (-4) σ τ _ _ _ _ rfl ⟨rfl, (fun _ _ => rfl), (fun _ _ => rfl), hI103, hI119, hs_jKept, (by omega), trivial⟩ hP hS dX12_fielded_39
      · obtain ⟨q157, k156⟩ := h73
        have q157 := q157.symm
        subst q157
        refine lv_if_ne (tgt := 28) hx hb dX12_fielded_23 (by decide) (fun c => absurd (by decide) c) (fun _ => ?_)
        refine lv_iconst (v := (-1)) hx hb dX12_fielded_26 (by decide) ?_
        exact hret (-1) σ τ _ _ _ _ rfl ⟨rfl, (fun _ _ => rfl), (fun _ _ => rfl), hI103, hI119, hs_jKept, (by omega), trivial⟩ hP hS dX12_fielded_27
  · obtain ⟨q159, k158⟩ := h10
    have q159 := q159.symm
    subst q159
    refine lv_if_eq (tgt := 26) hx hb dX12_fielded_7 (by decide) (fun _ => ?_) (fun c => absurd (by decide) c)
    refine lv_iconst (v := (-1)) hx hb dX12_fielded_26 (by decide) ?_
    exact hret (-1) σ τ _ _ _ _ rfl ⟨rfl, (fun _ _ => rfl), (fun _ _ => rfl), hI103, hI119, hs_jKept, (by omega), trivial⟩ hP hS dX12_fielded_27
set_option maxHeartbeats 4000000 in
set_option maxRecDepth 100000 in
theorem c_X12_kept (l : Launch) (D : va_G) (cI cL : ClassId) (ad zz : Nat → Nat) (hJ : jD ad) (σ : Nat → Nat → Int32) (τ : Nat → Nat → Int64) (a1 : Int32) (A1 : Int) (t1 : a1.toInt = A1) (hI101 : jI101 σ) (hI102 : jI102 σ) (hI103 : jI103 σ) (hI104 : jI104 σ) (hI105 : jI105 σ) (hI106 : jI106 σ) (hI119 : jI119 σ) (hs_jKept : jKept σ) : jM l yX12_kept cX12_kept 4 (some .int) ({ frames := 103, cells := 0, slots := 0, locals := 5061 }) D cI cL ad zz [.ref (ad 55), .int a1] σ τ (fun r σ' τ' => τ = τ' ∧ (∀ i : Nat, (i < 55 ∨ 55 < i) ∧ (i < 66 ∨ 66 < i) ∧ (i < 68 ∨ 69 < i) ∧ (i < 74 ∨ 78 < i) → σ' i = σ i) ∧ (∀ k : Nat, (k < 18 ∨ 18 < k) ∧ (k < 19 ∨ 19 < k) ∧ (k < 20 ∨ 20 < k) ∧ (k < 21 ∨ 21 < k) ∧ (k < 22 ∨ 22 < k) ∧ (k < 25 ∨ 25 < k) ∧ (k < 26 ∨ 26 < k) ∧ (k < 27 ∨ 27 < k) ∧ (k < 37 ∨ 37 < k) ∧ (k < 42 ∨ 42 < k) → σ' 55 k = σ 55 k) ∧ (jI119 σ') ∧ (jKept σ') ∧ True) := by
  refine jM.of hJ (by decide +kernel) (nt := .int) rfl (Nat.le_of_ble_eq_true rfl) ?_
  intro p e s m args below meth c Q ls hC hret hl hP
  obtain ⟨hx, hb, hr, hml, hown, hts, hK, -, hlocks, hZ⟩ := hC
  have hown : s.vm.findClass RX12 = some m.cls := hown
  have hS : va_S (jA ad) s.heap s.heap [] := va_S.rf
  have hA : ∀ q, jA ad q → jA ad q := fun _ h => h
  have hl : lv_has ls 4 [(0, .ref (ad 55)), (1, .int a1)] := hl
  have g1 := jrg t1
  obtain ⟨i1, w2, w3⟩ : (0 ≤ (σ 55 6).toInt ∧ (σ 55 6).toInt ≤ 4) ∧ (∀ k : Nat, k < 4 → 0 ≤ (σ 60 k).toInt ∧ (σ 60 k).toInt ≤ 50) ∧ (∀ k : Nat, k < 4 → 0 ≤ (σ 61 k).toInt ∧ (σ 61 k).toInt ≤ 20) := id hI102
  obtain ⟨i4, i5, i6, w7, w8⟩ : (1 ≤ (σ 55 10).toInt ∧ (σ 55 10).toInt ≤ 8) ∧ (1 ≤ (σ 55 12).toInt ∧ (σ 55 12).toInt ≤ 12) ∧ (0 ≤ (σ 55 13).toInt ∧ (σ 55 13).toInt ≤ 999) ∧ (∀ k : Nat, k < 8 → 0 ≤ (σ 62 k).toInt ∧ (σ 62 k).toInt ≤ 3) ∧ (∀ k : Nat, k < 8 → 0 ≤ (σ 67 k).toInt ∧ (σ 67 k).toInt ≤ 3) := id hI104
  refine lv_aload_n hx hb dX12_kept_0 rfl (lv_at hl 0 rfl) ?_
  refine lv_iload_n hx hb dX12_kept_1 rfl (lv_at hl 1 rfl) ?_
  refine jcallV (As := [.int a1]) (rest := []) ⟨hx, hb, hml, hown, hts⟩ hK hP hA hS hZ (c_X12_isBowler l D cI cL ad zz hJ σ τ a1 (A1) t1 hI102) cw_RX12_146 (jc_55 cI cL ad σ τ) rfl ⟨Nat.le_of_ble_eq_true rfl, Nat.le_of_ble_eq_true rfl⟩ rfl rfl rfl hl.1 rfl (Nat.le_of_ble_eq_true rfl) dX12_kept_2 ⟨Nat.zero_le _, Nat.zero_le _⟩ (fun r10 σ9 τ9 H locs h9 hP hS => ?_)
  obtain ⟨⟨rfl, rfl⟩, h9⟩ := h9
  rcases h9 with h11 | h12
  · obtain ⟨q14, k13⟩ := h11
    have q14 := q14.symm
    subst q14
    refine lv_if_ne (tgt := 10) hx hb dX12_kept_5 (by decide) (fun _ => ?_) (fun c => absurd c (by decide))
    refine lv_aload_n hx hb dX12_kept_10 rfl (lv_at hl 0 rfl) ?_
    refine va_get (D := D) hx hb hts inlX12 hown hK hP 55 (jc_55 cI cL ad σ τ) rfl 12 (by decide) (hts _ kw_8_16) (fun _ h9 => h9) rfl dX12_kept_11 ?_
    refine lv_bipush (v := 8) hx hb dX12_kept_14 (by decide) ?_
    refine lv_icmp_le (tgt := 22) hx hb dX12_kept_16 (by decide) (fun c15 => ?_) (fun c15 => ?_)
    · have kc15 := jle c15 rfl jz_8
      refine lv_aload_n hx hb dX12_kept_22 rfl (lv_at hl 0 rfl) ?_
      have w16 : ∀ k : Nat, k < 4 → 0 ≤ (σ 68 k).toInt ∧ (σ 68 k).toInt ≤ 3 := hI119
      refine jcallVv (As := []) (rest := []) ⟨hx, hb, hml, hown, hts⟩ hK hP hA hS hZ (c_X12_begin l D cI cL ad zz hJ σ τ hI104 w16) cw_RX12_256 (jc_55 cI cL ad σ τ) rfl ⟨Nat.le_of_ble_eq_true rfl, Nat.le_of_ble_eq_true rfl⟩ rfl rfl rfl hl.1 rfl (Nat.le_of_ble_eq_true rfl) dX12_kept_23 ⟨Nat.zero_le _, Nat.zero_le _⟩ (fun σ17 τ17 H locs h17 hP hS => ?_)
      obtain ⟨rfl, f19, f20, I21, h17⟩ := h17
      obtain ⟨i23, i24, i25, i26, i27, w28⟩ : (0 ≤ (σ17 55 25).toInt) ∧ ((σ17 55 25).toInt ≤ (σ17 55 10).toInt) ∧ (0 ≤ (σ17 55 26).toInt) ∧ ((σ17 55 26).toInt ≤ (σ17 55 12).toInt) ∧ ((-1) ≤ (σ17 55 27).toInt ∧ (σ17 55 27).toInt ≤ 3) ∧ (∀ k : Nat, k < 4 → 0 ≤ (σ17 68 k).toInt ∧ (σ17 68 k).toInt ≤ 3) := id I21
      have z29 : (σ17 55 10).toInt = (σ 55 10).toInt := (congrArg Int32.toInt (show σ17 55 10 = (σ 55 10) from (f20 10 (by decide))))
      have z30 : (σ17 55 12).toInt = (σ 55 12).toInt := (congrArg Int32.toInt (show σ17 55 12 = (σ 55 12) from (f20 12 (by decide))))
      obtain ⟨k31, k32, k33, h17⟩ := h17
      refine lv_aload_n hx hb dX12_kept_26 rfl (lv_at hl 0 rfl) ?_
      refine jcallVv (As := []) (rest := []) ⟨hx, hb, hml, hown, hts⟩ hK hP hA hS hZ (c_X12_forgets l D cI cL ad zz hJ σ17 τ) cw_RX12_341 (jc_55 cI cL ad σ17 τ) rfl ⟨Nat.le_of_ble_eq_true rfl, Nat.le_of_ble_eq_true rfl⟩ rfl rfl rfl hl.1 rfl (Nat.le_of_ble_eq_true rfl) dX12_kept_27 ⟨Nat.zero_le _, Nat.zero_le _⟩ (fun σ34 τ34 H locs h34 hP hS => ?_)
      obtain ⟨rfl, f36, f37, h34⟩ := h34
      have w44 : ∀ k : Nat, k < 4 → 0 ≤ (σ34 68 k).toInt ∧ (σ34 68 k).toInt ≤ 3 := (jrr_fr (f36 68 (by decide)) w28)
      have I45 : jI119 σ34 := w44
      have z46 : (σ34 55 12).toInt = (σ 55 12).toInt := (congrArg Int32.toInt (show σ34 55 12 = (σ 55 12) from ((f37 12 (by decide)).trans (f20 12 (by decide)))))
      have z47 : (σ34 55 26).toInt = (σ17 55 26).toInt := (congrArg Int32.toInt (show σ34 55 26 = (σ17 55 26) from (f37 26 (by decide))))
      have z48 : (σ34 55 25).toInt = (σ17 55 25).toInt := (congrArg Int32.toInt (show σ34 55 25 = (σ17 55 25) from (f37 25 (by decide))))
      have z49 : (σ34 55 10).toInt = (σ 55 10).toInt := (congrArg Int32.toInt (show σ34 55 10 = (σ 55 10) from ((f37 10 (by decide)).trans (f20 10 (by decide)))))
      have z50 : (σ34 55 27).toInt = (σ17 55 27).toInt := (congrArg Int32.toInt (show σ34 55 27 = (σ17 55 27) from (f37 27 (by decide))))
      have p52 : jKept σ34 := jKept.fr ((f36 75 (by decide)).trans (f19 75 (by decide))) ((f36 76 (by decide)).trans (f19 76 (by decide))) ((f36 77 (by decide)).trans (f19 77 (by decide))) hs_jKept
      have lp39 : ∀ (n40 : Nat)  (σ43 : Nat → Nat → Int32) (H : Heap) (locs : List Loc) (ls : Array Slot), ((σ43 55 12).toInt - (σ43 55 26).toInt : Int) < n40 → 0 ≤ (σ43 55 25).toInt → (σ43 55 25).toInt ≤ (σ43 55 10).toInt → 0 ≤ (σ43 55 26).toInt → (σ43 55 26).toInt ≤ (σ43 55 12).toInt → (-1) ≤ (σ43 55 27).toInt ∧ (σ43 55 27).toInt ≤ 3 → (∀ i : Nat, (i < 55 ∨ 55 < i) ∧ (i < 66 ∨ 66 < i) ∧ (i < 68 ∨ 69 < i) ∧ (i < 74 ∨ 78 < i) → σ43 i = σ34 i) → (∀ k : Nat, (k < 18 ∨ 18 < k) ∧ (k < 19 ∨ 19 < k) ∧ (k < 20 ∨ 20 < k) ∧ (k < 21 ∨ 21 < k) ∧ (k < 22 ∨ 22 < k) ∧ (k < 25 ∨ 25 < k) ∧ (k < 26 ∨ 26 < k) ∧ (k < 27 ∨ 27 < k) ∧ (k < 37 ∨ 37 < k) → σ43 55 k = σ34 55 k) → jKept σ43 → jI119 σ43 → jH D cI cL ad σ43 τ H → va_S (jA ad) s.heap H locs → lv_has ls 4 [(0, .ref (ad 55)), (1, .int a1)] → W p l e ({ frames := 103, cells := 0, slots := 0, locals := 5061 }) s m args below meth c H locs 0 0 Q (F0 m 30 ls []) := by
        intro n40
        induction n40 with
        | zero => intro  σ43 H locs ls h53 h54 h55 h56 h57 h58; exact absurd h53 (by omega)
        | succ n40 ihlp39 =>
          intro  σ43 H locs ls h53 h54 h55 h56 h57 h58 f59 f60 p61 p62 hP hS hl
          have z63 : (σ43 55 12).toInt = (σ 55 12).toInt := (congrArg Int32.toInt (show σ43 55 12 = (σ 55 12) from ((f60 12 (by decide)).trans ((f37 12 (by decide)).trans (f20 12 (by decide))))))
          have z64 : (σ43 55 10).toInt = (σ 55 10).toInt := (congrArg Int32.toInt (show σ43 55 10 = (σ 55 10) from ((f60 10 (by decide)).trans ((f37 10 (by decide)).trans (f20 10 (by decide))))))
          refine lv_aload_n hx hb dX12_kept_30 rfl (lv_at hl 0 rfl) ?_
          have I65 : jI102 σ43 := jI102_fr ((f60 6 (by decide)).trans ((f37 6 (by decide)).trans (f20 6 (by decide)))) ((f59 60 (by decide)).trans ((f36 60 (by decide)).trans (f19 60 (by decide)))) ((f59 61 (by decide)).trans ((f36 61 (by decide)).trans (f19 61 (by decide)))) hI102
          have I66 : jI104 σ43 := jI104_fr ((f60 10 (by decide)).trans ((f37 10 (by decide)).trans (f20 10 (by decide)))) ((f60 12 (by decide)).trans ((f37 12 (by decide)).trans (f20 12 (by decide)))) ((f60 13 (by decide)).trans ((f37 13 (by decide)).trans (f20 13 (by decide)))) ((f59 62 (by decide)).trans ((f36 62 (by decide)).trans (f19 62 (by decide)))) ((f59 67 (by decide)).trans ((f36 67 (by decide)).trans (f19 67 (by decide)))) hI104
          have w67 : ∀ k : Nat, k < 4 → 0 ≤ (σ43 68 k).toInt ∧ (σ43 68 k).toInt ≤ 3 := p62
          have I68 : jI120 σ43 := ⟨(by omega), (by omega), (by omega), (by omega), (by omega), w67⟩
          refine jcallV (As := []) (rest := []) ⟨hx, hb, hml, hown, hts⟩ hK hP hA hS hZ (c_X12_isEnded l D cI cL ad zz hJ σ43 τ I65 I66 I68) cw_RX12_307 (jc_55 cI cL ad σ43 τ) rfl ⟨Nat.le_of_ble_eq_true rfl, Nat.le_of_ble_eq_true rfl⟩ rfl rfl rfl hl.1 rfl (Nat.le_of_ble_eq_true rfl) dX12_kept_31 ⟨Nat.zero_le _, Nat.zero_le _⟩ (fun r70 σ69 τ69 H locs h69 hP hS => ?_)
          obtain ⟨⟨rfl, rfl⟩, h69⟩ := h69
          rcases h69 with h71 | h72
          · obtain ⟨q74, k73⟩ := h71
            have q74 := q74.symm
            subst q74
            refine lv_if_ne (tgt := 68) hx hb dX12_kept_34 (by decide) (fun _ => ?_) (fun c => absurd c (by decide))
            refine lv_bipush (v := (-2)) hx hb dX12_kept_68 (by decide) ?_
            exact hret (-2) σ43 τ _ _ _ _ rfl ⟨rfl, (fun i hi => ((f59 i hi).trans ((f36 i (imp_259 i hi)).trans (f19 i (imp_256 i hi))))), (fun i hi => ((f60 i (imp_268 i hi)).trans ((f37 i (imp_261 i hi)).trans (f20 i (imp_257 i hi))))), p62, p61, trivial⟩ hP hS dX12_kept_70
          · obtain ⟨q78, k75, k76, k77⟩ := h72
            have q78 := q78.symm
            subst q78
            obtain ⟨B79, k80, k81, w82⟩ := k77
            have z83 : (σ43 55 6).toInt = (σ 55 6).toInt := (congrArg Int32.toInt (show σ43 55 6 = (σ 55 6) from ((f60 6 (by decide)).trans ((f37 6 (by decide)).trans (f20 6 (by decide))))))
            refine lv_if_ne (tgt := 68) hx hb dX12_kept_34 (by decide) (fun c => absurd (by decide) c) (fun _ => ?_)
            refine lv_aload_n hx hb dX12_kept_37 rfl (lv_at hl 0 rfl) ?_
            have p84 : jmb σ43 B79 = 1 := (jmb_fr rfl rfl rfl rfl rfl B79).trans w82
            have I85 : jI101 σ43 := jI101_fr ((f60 4 (by decide)).trans ((f37 4 (by decide)).trans (f20 4 (by decide)))) ((f60 5 (by decide)).trans ((f37 5 (by decide)).trans (f20 5 (by decide)))) ((f59 56 (by decide)).trans ((f36 56 (by decide)).trans (f19 56 (by decide)))) ((f59 57 (by decide)).trans ((f36 57 (by decide)).trans (f19 57 (by decide)))) ((f59 58 (by decide)).trans ((f36 58 (by decide)).trans (f19 58 (by decide)))) ((f59 59 (by decide)).trans ((f36 59 (by decide)).trans (f19 59 (by decide)))) hI101
            have I86 : jI103 σ43 := jI103_fr ((f60 9 (by decide)).trans ((f37 9 (by decide)).trans (f20 9 (by decide)))) hI103
            have I87 : jI105 σ43 := jI105_fr ((f60 15 (by decide)).trans ((f37 15 (by decide)).trans (f20 15 (by decide)))) ((f59 65 (by decide)).trans ((f36 65 (by decide)).trans (f19 65 (by decide)))) hI105
            have I88 : jI106 σ43 := jI106_fr ((f60 32 (by decide)).trans ((f37 32 (by decide)).trans (f20 32 (by decide)))) ((f59 70 (by decide)).trans ((f36 70 (by decide)).trans (f19 70 (by decide)))) ((f59 71 (by decide)).trans ((f36 71 (by decide)).trans (f19 71 (by decide)))) ((f59 72 (by decide)).trans ((f36 72 (by decide)).trans (f19 72 (by decide)))) hI106
            refine jcallV (As := []) (rest := []) ⟨hx, hb, hml, hown, hts⟩ hK hP hA hS hZ ((c_X12_bests l D cI cL ad zz hJ 8).2.2 σ43 τ B79 p84 I85 I65 I86 I66 I87 I88 I68 p61 (by omega) (by omega) (by omega) (by omega)) cw_RX12_280 (jc_55 cI cL ad σ43 τ) rfl ⟨Nat.le_of_ble_eq_true rfl, Nat.le_of_ble_eq_true rfl⟩ rfl rfl rfl hl.1 rfl (Nat.le_of_ble_eq_true rfl) dX12_kept_38 ⟨Nat.zero_le _, Nat.zero_le _⟩ (fun r90 σ89 τ89 H locs h89 hP hS => ?_)
            obtain ⟨rfl, f91, f92, p93, h89⟩ := h89
            obtain ⟨k95, h89⟩ := h89
            have h96 := h89
            obtain ⟨q98, k97⟩ := h96
            refine lv_istore_n (lv' := [(2, .int r90), (0, .ref (ad 55)), (1, .int a1)]) hx hb dX12_kept_41 rfl hl (by decide) rfl (fun ls hl => ?_)
            refine lv_aload_n hx hb dX12_kept_42 rfl (lv_at hl 1 rfl) ?_
            refine va_get (D := D) hx hb hts inlX12 hown hK hP 55 (jc_55 cI cL ad σ89 τ) rfl 37 (by decide) (hts _ kw_33_15) (fun _ h9 => h9) rfl dX12_kept_43 ?_
            refine lv_iload_n hx hb dX12_kept_46 rfl (lv_at hl 2 rfl) ?_
            refine lv_icmp_ne (tgt := 55) hx hb dX12_kept_47 (by decide) (fun c99 => ?_) (fun c99 => ?_)
            · have kc99 := jne c99 rfl t1
              refine lv_aload_n hx hb dX12_kept_55 rfl (lv_at hl 1 rfl) ?_
              refine lv_aload_n hx hb dX12_kept_56 rfl (lv_at hl 1 rfl) ?_
              refine va_get (D := D) hx hb hts inlX12 hown hK hP 55 (jc_55 cI cL ad σ89 τ) rfl 37 (by decide) (hts _ kw_33_15) (fun _ h9 => h9) rfl dX12_kept_57 ?_
              refine lv_iconst (v := 0) hx hb dX12_kept_60 (by decide) ?_
              have w100 : ∀ k : Nat, k < 4 → 0 ≤ (σ89 68 k).toInt ∧ (σ89 68 k).toInt ≤ 3 := (jrr_fr (f91 68 (by decide)) w67)
              have z101 : (σ89 55 6).toInt = (σ 55 6).toInt := (congrArg Int32.toInt (show σ89 55 6 = (σ 55 6) from ((f92 6 (by decide)).trans ((f60 6 (by decide)).trans ((f37 6 (by decide)).trans (f20 6 (by decide)))))))
              have z102 : (σ89 55 27).toInt = (σ43 55 27).toInt := (congrArg Int32.toInt (show σ89 55 27 = (σ43 55 27) from (f92 27 (by decide))))
              have z103 : (σ89 55 25).toInt = (σ43 55 25).toInt := (congrArg Int32.toInt (show σ89 55 25 = (σ43 55 25) from (f92 25 (by decide))))
              have z104 : (σ89 55 26).toInt = (σ43 55 26).toInt := (congrArg Int32.toInt (show σ89 55 26 = (σ43 55 26) from (f92 26 (by decide))))
              have z105 : (σ89 68 0).toInt = (σ43 68 0).toInt := (congrArg Int32.toInt (show σ89 68 0 = (σ43 68 0) from (congrFun (f91 68 (by decide)) 0)))
              have z106 : (σ89 68 1).toInt = (σ43 68 1).toInt := (congrArg Int32.toInt (show σ89 68 1 = (σ43 68 1) from (congrFun (f91 68 (by decide)) 1)))
              have z107 : (σ89 68 2).toInt = (σ43 68 2).toInt := (congrArg Int32.toInt (show σ89 68 2 = (σ43 68 2) from (congrFun (f91 68 (by decide)) 2)))
              have z108 : (σ89 68 3).toInt = (σ43 68 3).toInt := (congrArg Int32.toInt (show σ89 68 3 = (σ43 68 3) from (congrFun (f91 68 (by decide)) 3)))
              refine jcallV (As := [.int (σ89 55 37), .int 0]) (rest := []) ⟨hx, hb, hml, hown, hts⟩ hK hP hA hS hZ (c_X12_goes_0 l D cI cL ad zz hJ σ89 τ (σ89 55 37) ((σ89 55 37).toInt) rfl w100 (by omega) (by omega) (by omega) (by omega) (by omega)) cw_RX12_296 (jc_55 cI cL ad σ89 τ) rfl ⟨Nat.le_of_ble_eq_true rfl, Nat.le_of_ble_eq_true rfl⟩ rfl rfl rfl hl.1 rfl (Nat.le_of_ble_eq_true rfl) dX12_kept_61 ⟨Nat.zero_le _, Nat.zero_le _⟩ (fun r110 σ109 τ109 H locs h109 hP hS => ?_)
              obtain ⟨rfl, f111, f112, w113, w114, w115, h109⟩ := h109
              obtain ⟨k117, k118, k119, h109⟩ := h109
              have h120 := h109
              obtain ⟨q126, k121, k122, k123, k124, k125⟩ := h120
              refine lv_istore_n (lv' := [(3, .int r110), (2, .int r90), (0, .ref (ad 55)), (1, .int a1)]) hx hb dX12_kept_64 rfl hl (by decide) rfl (fun ls hl => ?_)
              refine lv_goto (tgt := 30) hx hb dX12_kept_65 (by decide) ?_
              have z127 : (σ109 55 12).toInt = (σ 55 12).toInt := (congrArg Int32.toInt (show σ109 55 12 = (σ 55 12) from ((f112 12 (by decide)).trans ((f92 12 (by decide)).trans ((f60 12 (by decide)).trans ((f37 12 (by decide)).trans (f20 12 (by decide))))))))
              have z128 : (σ109 55 10).toInt = (σ 55 10).toInt := (congrArg Int32.toInt (show σ109 55 10 = (σ 55 10) from ((f112 10 (by decide)).trans ((f92 10 (by decide)).trans ((f60 10 (by decide)).trans ((f37 10 (by decide)).trans (f20 10 (by decide))))))))
              have p129 : jKept σ109 := jKept.fr (f111 75 (by decide)) (f111 76 (by decide)) (f111 77 (by decide)) p93
              have I130 : jI119 σ109 := w113
              exact ihlp39  σ109 _ _ ls (by omega) (by omega) (by omega) (by omega) (by omega) (by omega) (fun i hi => ((f111 i (imp_256 i hi)).trans ((f91 i (imp_258 i hi)).trans (f59 i hi)))) (fun i hi => ((f112 i (imp_269 i hi)).trans ((f92 i (imp_270 i hi)).trans (f60 i hi))))  p129 I130 hP hS (lv_sub hl [2, 3] rfl)
            · have kc99 := jeq c99 rfl t1
              refine lv_aload_n hx hb dX12_kept_50 rfl (lv_at hl 1 rfl) ?_
              refine va_get (D := D) hx hb hts inlX12 hown hK hP 55 (jc_55 cI cL ad σ89 τ) rfl 26 (by decide) (hts _ kw_23_5) (fun _ h9 => h9) rfl dX12_kept_51 ?_
              have m131 : σ89 55 26 = (σ43 55 26) := (f92 26 (by decide))
              refine jtopr m131 ?_
              have I132 : jI119 σ89 := jI119_fr (f91 68 (by decide)) p62
              exact hret (σ43 55 26) σ89 τ _ _ _ _ rfl ⟨rfl, (fun i hi => ((f91 i (imp_258 i hi)).trans ((f59 i hi).trans ((f36 i (imp_259 i hi)).trans (f19 i (imp_256 i hi)))))), (fun i hi => ((f92 i (imp_260 i hi)).trans ((f60 i (imp_268 i hi)).trans ((f37 i (imp_261 i hi)).trans (f20 i (imp_257 i hi)))))), I132, p93, trivial⟩ hP hS dX12_kept_54
      exact lp39 1000000  σ34 _ _ ls (by omega) (by omega) (by omega) (by omega) (by omega) (by omega) (fun _ _ => rfl) (fun _ _ => rfl)  p52 I45 hP hS hl
    · have kc15 := jnle c15 rfl jz_8
      refine lv_bipush (v := (-4)) hx hb dX12_kept_19 (by decide) ?_
      exact hret (-4) σ τ _ _ _ _ rfl ⟨rfl, (fun _ _ => rfl), (fun _ _ => rfl), hI119, hs_jKept, trivial⟩ hP hS dX12_kept_21
  · obtain ⟨q134, k133⟩ := h12
    have q134 := q134.symm
    subst q134
    refine lv_if_ne (tgt := 10) hx hb dX12_kept_5 (by decide) (fun c => absurd (by decide) c) (fun _ => ?_)
    refine lv_iconst (v := (-1)) hx hb dX12_kept_8 (by decide) ?_
    exact hret (-1) σ τ _ _ _ _ rfl ⟨rfl, (fun _ _ => rfl), (fun _ _ => rfl), hI119, hs_jKept, trivial⟩ hP hS dX12_kept_9
set_option maxHeartbeats 4000000 in
set_option maxRecDepth 100000 in
theorem c_X12_orders_5 (l : Launch) (D : va_G) (cI cL : ClassId) (ad zz : Nat → Nat) (hJ : jD ad) (σ : Nat → Nat → Int32) (τ : Nat → Nat → Int64) (a2 : Int32) (A2 : Int) (t2 : a2.toInt = A2) (a3 : Int32) (A3 : Int) (t3 : a3.toInt = A3) (hI101 : jI101 σ) (hI102 : jI102 σ) (hI103 : jI103 σ) (hI104 : jI104 σ) (hI105 : jI105 σ) (hI106 : jI106 σ) (hI119 : jI119 σ) (hI111 : jI111 σ) (hs_jKept : jKept σ) (hp0 : (σ 55 10).toInt ≤ 5) (hp1 : 5 ≤ (σ 55 10).toInt) (hp2 : (σ 55 12).toInt ≤ 8) : jMv l yX12_orders cX12_orders 6 none ({ frames := 104, cells := 0, slots := 0, locals := 5081 }) D cI cL ad zz [.ref (ad 55), .int 5, .int a2, .int a3] σ τ (fun σ' τ' => τ = τ' ∧ (∀ i : Nat, (i < 55 ∨ 55 < i) ∧ (i < 62 ∨ 62 < i) ∧ (i < 66 ∨ 66 < i) ∧ (i < 68 ∨ 69 < i) ∧ (i < 74 ∨ 78 < i) → σ' i = σ i) ∧ (∀ k : Nat, (k < 18 ∨ 18 < k) ∧ (k < 19 ∨ 19 < k) ∧ (k < 20 ∨ 20 < k) ∧ (k < 21 ∨ 21 < k) ∧ (k < 22 ∨ 22 < k) ∧ (k < 25 ∨ 25 < k) ∧ (k < 26 ∨ 26 < k) ∧ (k < 27 ∨ 27 < k) ∧ (k < 37 ∨ 37 < k) ∧ (k < 42 ∨ 42 < k) ∧ (k < 45 ∨ 45 < k) ∧ (k < 46 ∨ 46 < k) → σ' 55 k = σ 55 k) ∧ (jI104 σ') ∧ (jI119 σ') ∧ (jKept σ') ∧ True) := by
  refine jMv.of hJ (by decide +kernel) rfl (Nat.le_of_ble_eq_true rfl) ?_
  intro p e s m args below meth c Q ls hC hret hl hP
  obtain ⟨hx, hb, hr, hml, hown, hts, hK, -, hlocks, hZ⟩ := hC
  have hown : s.vm.findClass RX12 = some m.cls := hown
  have hS : va_S (jA ad) s.heap s.heap [] := va_S.rf
  have hA : ∀ q, jA ad q → jA ad q := fun _ h => h
  have hl : lv_has ls 6 [(0, .ref (ad 55)), (1, .int 5), (2, .int a2), (3, .int a3)] := hl
  have g2 := jrg t2
  have g3 := jrg t3
  obtain ⟨i1, i2, i3, w4, w5⟩ : (1 ≤ (σ 55 10).toInt ∧ (σ 55 10).toInt ≤ 8) ∧ (1 ≤ (σ 55 12).toInt ∧ (σ 55 12).toInt ≤ 12) ∧ (0 ≤ (σ 55 13).toInt ∧ (σ 55 13).toInt ≤ 999) ∧ (∀ k : Nat, k < 8 → 0 ≤ (σ 62 k).toInt ∧ (σ 62 k).toInt ≤ 3) ∧ (∀ k : Nat, k < 8 → 0 ≤ (σ 67 k).toInt ∧ (σ 67 k).toInt ≤ 3) := id hI104
  have w6 : ∀ k : Nat, k < 5 → 0 ≤ (σ 79 k).toInt ∧ (σ 79 k).toInt ≤ 3 := hI111
  refine lv_iload_n hx hb dX12_orders_0 rfl (lv_at hl 1 rfl) ?_
  refine lv_aload_n hx hb dX12_orders_1 rfl (lv_at hl 0 rfl) ?_
  refine va_get (D := D) hx hb hts inlX12 hown hK hP 55 (jc_55 cI cL ad σ τ) rfl 10 (by decide) (hts _ kw_8_15) (fun _ h9 => h9) rfl dX12_orders_2 ?_
  refine lv_icmp_ne (tgt := 35) hx hb dX12_orders_5 (by decide) (fun c => absurd (jne c jz_5 rfl) (by omega)) (fun c7 => ?_)
  have kc7 := jeq c7 jz_5 rfl
  refine lv_aload_n hx hb dX12_orders_8 rfl (lv_at hl 0 rfl) ?_
  refine jcallV (As := []) (rest := []) ⟨hx, hb, hml, hown, hts⟩ hK hP hA hS hZ (c_X12_bestNow l D cI cL ad zz hJ σ τ hI101 hI102 hI103 hI104 hI105 hI106 hI119 hs_jKept (by omega)) cw_RX12_346 (jc_55 cI cL ad σ τ) rfl ⟨Nat.le_of_ble_eq_true rfl, Nat.le_of_ble_eq_true rfl⟩ rfl rfl rfl hl.1 rfl (Nat.le_of_ble_eq_true rfl) dX12_orders_9 ⟨Nat.zero_le _, Nat.zero_le _⟩ (fun r9 σ8 τ8 H locs h8 hP hS => ?_)
  obtain ⟨rfl, f10, f11, I12, p13, h8⟩ := h8
  refine lv_istore (lv' := [(4, .int r9), (0, .ref (ad 55)), (1, .int 5), (2, .int a2), (3, .int a3)]) hx hb dX12_orders_12 hl (by decide) rfl (fun ls hl => ?_)
  refine lv_iload hx hb dX12_orders_14 (lv_at hl 0 rfl) ?_
  refine lv_aload_n hx hb dX12_orders_16 rfl (lv_at hl 1 rfl) ?_
  refine va_get (D := D) hx hb hts inlX12 hown hK hP 55 (jc_55 cI cL ad σ8 τ) rfl 46 (by decide) (hts _ kw_40_17) (fun _ h9 => h9) rfl dX12_orders_17 ?_
  have m15 : σ8 55 46 = (σ 55 46) := (f11 46 (by decide))
  refine jtopr m15 ?_
  refine lv_icmp_le (tgt := 34) hx hb dX12_orders_20 (by decide) (fun c16 => ?_) (fun c16 => ?_)
  · have kc16 := jle c16 rfl rfl
    have I17 : jI104 σ8 := jI104_fr (f11 10 (by decide)) (f11 12 (by decide)) (f11 13 (by decide)) (f10 62 (by decide)) (f10 67 (by decide)) hI104
    exact hret σ8 τ _ _ _ _ ⟨rfl, (fun i hi => (f10 i (imp_271 i hi))), (fun i hi => (f11 i (imp_272 i hi))), I17, I12, p13, trivial⟩ hP hS dX12_orders_34
  · have kc16 := jnle c16 rfl rfl
    refine lv_aload_n hx hb dX12_orders_23 rfl (lv_at hl 1 rfl) ?_
    refine lv_iload hx hb dX12_orders_24 (lv_at hl 0 rfl) ?_
    refine jput (ty := .int) hx hb hts inlX12 tyX12 tyX12_ok nmX12 hown hK hP hJ hA hS (jc_55 cI cL ad σ8 τ) rfl (k := 46) (by decide) (Nat.le_of_ble_eq_true rfl) (jp_55_46 cI cL ad σ8 τ r9) (hts _ kw_40_17) (fun _ h9 => h9) rfl (by decide +kernel) rfl rfl dX12_orders_26 (fun σ18 H locs eσ18 hP hS => ?_)
    refine lv_aload_n hx hb dX12_orders_29 rfl (lv_at hl 1 rfl) ?_
    refine lv_iload_n hx hb dX12_orders_30 rfl (lv_at hl 4 rfl) ?_
    refine jput (ty := .int) hx hb hts inlX12 tyX12 tyX12_ok nmX12 hown hK hP hJ hA hS (jc_55 cI cL ad σ18 τ) rfl (k := 45) (by decide) (Nat.le_of_ble_eq_true rfl) (jp_55_45 cI cL ad σ18 τ a3) (hts _ kw_40_18) (fun _ h9 => h9) rfl (by decide +kernel) rfl rfl dX12_orders_31 (fun σ19 H locs eσ19 hP hS => ?_)
    have I20 : jI104 σ19 := jI104_fr ((jkp 10 eσ19 (by decide)).trans ((jkp 10 eσ18 (by decide)).trans (f11 10 (by decide)))) ((jkp 12 eσ19 (by decide)).trans ((jkp 12 eσ18 (by decide)).trans (f11 12 (by decide)))) ((jkp 13 eσ19 (by decide)).trans ((jkp 13 eσ18 (by decide)).trans (f11 13 (by decide)))) ((jnp 62 eσ19 (by decide)).trans ((jnp 62 eσ18 (by decide)).trans (f10 62 (by decide)))) ((jnp 67 eσ19 (by decide)).trans ((jnp 67 eσ18 (by decide)).trans (f10 67 (by decide)))) hI104
    have I21 : jI119 σ19 := jI119_fr ((jnp 68 eσ19 (by decide)).trans (jnp 68 eσ18 (by decide))) I12
    have p22 : jKept σ19 := jKept.fr ((jnp 75 eσ19 (by decide)).trans (jnp 75 eσ18 (by decide))) ((jnp 76 eσ19 (by decide)).trans (jnp 76 eσ18 (by decide))) ((jnp 77 eσ19 (by decide)).trans (jnp 77 eσ18 (by decide))) p13
    exact hret σ19 τ _ _ _ _ ⟨rfl, (fun i hi => ((jnp i eσ19 (imp_273 i hi)).trans ((jnp i eσ18 (imp_273 i hi)).trans (f10 i (imp_271 i hi))))), (fun i hi => ((jkp i eσ19 (imp_274 i hi)).trans ((jkp i eσ18 (imp_275 i hi)).trans (f11 i (imp_272 i hi))))), I20, I21, p22, trivial⟩ hP hS dX12_orders_34
set_option maxHeartbeats 4000000 in
set_option maxRecDepth 100000 in
theorem c_X12_orders_4 (l : Launch) (D : va_G) (cI cL : ClassId) (ad zz : Nat → Nat) (hJ : jD ad) (σ : Nat → Nat → Int32) (τ : Nat → Nat → Int64) (a2 : Int32) (A2 : Int) (t2 : a2.toInt = A2) (a3 : Int32) (A3 : Int) (t3 : a3.toInt = A3) (hI101 : jI101 σ) (hI102 : jI102 σ) (hI103 : jI103 σ) (hI104 : jI104 σ) (hI105 : jI105 σ) (hI106 : jI106 σ) (hI119 : jI119 σ) (hI111 : jI111 σ) (hs_jKept : jKept σ) (hp0 : (σ 55 10).toInt ≤ 5) (hp1 : 4 ≤ (σ 55 10).toInt) (hp2 : (σ 55 12).toInt ≤ 8) : jMv l yX12_orders cX12_orders 6 none ({ frames := 105, cells := 0, slots := 0, locals := 5106 }) D cI cL ad zz [.ref (ad 55), .int 4, .int a2, .int a3] σ τ (fun σ' τ' => τ = τ' ∧ (∀ i : Nat, (i < 55 ∨ 55 < i) ∧ (i < 62 ∨ 62 < i) ∧ (i < 66 ∨ 66 < i) ∧ (i < 68 ∨ 69 < i) ∧ (i < 74 ∨ 78 < i) → σ' i = σ i) ∧ (∀ k : Nat, (k < 18 ∨ 18 < k) ∧ (k < 19 ∨ 19 < k) ∧ (k < 20 ∨ 20 < k) ∧ (k < 21 ∨ 21 < k) ∧ (k < 22 ∨ 22 < k) ∧ (k < 25 ∨ 25 < k) ∧ (k < 26 ∨ 26 < k) ∧ (k < 27 ∨ 27 < k) ∧ (k < 37 ∨ 37 < k) ∧ (k < 42 ∨ 42 < k) ∧ (k < 45 ∨ 45 < k) ∧ (k < 46 ∨ 46 < k) → σ' 55 k = σ 55 k) ∧ (jI104 σ') ∧ (jI119 σ') ∧ (jKept σ') ∧ True) := by
  refine jMv.of hJ (by decide +kernel) rfl (Nat.le_of_ble_eq_true rfl) ?_
  intro p e s m args below meth c Q ls hC hret hl hP
  obtain ⟨hx, hb, hr, hml, hown, hts, hK, -, hlocks, hZ⟩ := hC
  have hown : s.vm.findClass RX12 = some m.cls := hown
  have hS : va_S (jA ad) s.heap s.heap [] := va_S.rf
  have hA : ∀ q, jA ad q → jA ad q := fun _ h => h
  have hl : lv_has ls 6 [(0, .ref (ad 55)), (1, .int 4), (2, .int a2), (3, .int a3)] := hl
  have g2 := jrg t2
  have g3 := jrg t3
  obtain ⟨i1, i2, i3, w4, w5⟩ : (1 ≤ (σ 55 10).toInt ∧ (σ 55 10).toInt ≤ 8) ∧ (1 ≤ (σ 55 12).toInt ∧ (σ 55 12).toInt ≤ 12) ∧ (0 ≤ (σ 55 13).toInt ∧ (σ 55 13).toInt ≤ 999) ∧ (∀ k : Nat, k < 8 → 0 ≤ (σ 62 k).toInt ∧ (σ 62 k).toInt ≤ 3) ∧ (∀ k : Nat, k < 8 → 0 ≤ (σ 67 k).toInt ∧ (σ 67 k).toInt ≤ 3) := id hI104
  have w6 : ∀ k : Nat, k < 5 → 0 ≤ (σ 79 k).toInt ∧ (σ 79 k).toInt ≤ 3 := hI111
  refine lv_iload_n hx hb dX12_orders_0 rfl (lv_at hl 1 rfl) ?_
  refine lv_aload_n hx hb dX12_orders_1 rfl (lv_at hl 0 rfl) ?_
  refine va_get (D := D) hx hb hts inlX12 hown hK hP 55 (jc_55 cI cL ad σ τ) rfl 10 (by decide) (hts _ kw_8_15) (fun _ h9 => h9) rfl dX12_orders_2 ?_
  refine lv_icmp_ne (tgt := 35) hx hb dX12_orders_5 (by decide) (fun c7 => ?_) (fun c7 => ?_)
  · have kc7 := jne c7 jz_4 rfl
    refine lv_iconst (v := 0) hx hb dX12_orders_35 (by decide) ?_
    refine lv_istore (lv' := [(4, .int 0), (0, .ref (ad 55)), (1, .int 4), (2, .int a2), (3, .int a3)]) hx hb dX12_orders_36 hl (by decide) rfl (fun ls hl => ?_)
    have lp8 : ∀ (n9 : Nat) (x10 : Int32) (σ12 : Nat → Nat → Int32) (H : Heap) (locs : List Loc) (ls : Array Slot), (-x10.toInt + 4 : Int) < n9 → 0 ≤ x10.toInt → x10.toInt ≤ 4 → (∀ i : Nat, (i < 55 ∨ 55 < i) ∧ (i < 62 ∨ 62 < i) ∧ (i < 66 ∨ 66 < i) ∧ (i < 68 ∨ 69 < i) ∧ (i < 74 ∨ 78 < i) → σ12 i = σ i) → (∀ k : Nat, (k < 18 ∨ 18 < k) ∧ (k < 19 ∨ 19 < k) ∧ (k < 20 ∨ 20 < k) ∧ (k < 21 ∨ 21 < k) ∧ (k < 22 ∨ 22 < k) ∧ (k < 25 ∨ 25 < k) ∧ (k < 26 ∨ 26 < k) ∧ (k < 27 ∨ 27 < k) ∧ (k < 37 ∨ 37 < k) ∧ (k < 42 ∨ 42 < k) ∧ (k < 45 ∨ 45 < k) ∧ (k < 46 ∨ 46 < k) → σ12 55 k = σ 55 k) → jKept σ12 → jI104 σ12 → jI119 σ12 → jH D cI cL ad σ12 τ H → va_S (jA ad) s.heap H locs → lv_has ls 6 [(4, .int x10), (0, .ref (ad 55)), (1, .int 4), (2, .int a2), (3, .int a3)] → W p l e ({ frames := 105, cells := 0, slots := 0, locals := 5106 }) s m args below meth c H locs 0 0 Q (F0 m 38 ls []) := by
      intro n9
      induction n9 with
      | zero => intro x10 σ12 H locs ls h14 h15 h16; exact absurd h14 (by omega)
      | succ n9 ihlp8 =>
        intro x10 σ12 H locs ls h14 h15 h16 f17 f18 p19 p20 p21 hP hS hl
        obtain ⟨i22, i23, i24, w25, w26⟩ : (1 ≤ (σ12 55 10).toInt ∧ (σ12 55 10).toInt ≤ 8) ∧ (1 ≤ (σ12 55 12).toInt ∧ (σ12 55 12).toInt ≤ 12) ∧ (0 ≤ (σ12 55 13).toInt ∧ (σ12 55 13).toInt ≤ 999) ∧ (∀ k : Nat, k < 8 → 0 ≤ (σ12 62 k).toInt ∧ (σ12 62 k).toInt ≤ 3) ∧ (∀ k : Nat, k < 8 → 0 ≤ (σ12 67 k).toInt ∧ (σ12 67 k).toInt ≤ 3) := id p20
        have z27 : (σ12 55 10).toInt = (σ 55 10).toInt := (congrArg Int32.toInt (show σ12 55 10 = (σ 55 10) from (f18 10 (by decide))))
        have z28 : (σ12 55 12).toInt = (σ 55 12).toInt := (congrArg Int32.toInt (show σ12 55 12 = (σ 55 12) from (f18 12 (by decide))))
        have z29 : (σ12 55 13).toInt = (σ 55 13).toInt := (congrArg Int32.toInt (show σ12 55 13 = (σ 55 13) from (f18 13 (by decide))))
        refine lv_iload hx hb dX12_orders_38 (lv_at hl 0 rfl) ?_
        refine lv_iconst (v := 4) hx hb dX12_orders_40 (by decide) ?_
        refine lv_icmp_ge (tgt := 127) hx hb dX12_orders_41 (by decide) (fun c30 => ?_) (fun c30 => ?_)
        · have kc30 := jle c30 jz_4 rfl
          exact hret σ12 τ _ _ _ _ ⟨rfl, (fun i hi => (f17 i hi)), (fun i hi => (f18 i hi)), p20, p21, p19, trivial⟩ hP hS dX12_orders_127
        · have kc30 := jnle c30 jz_4 rfl
          refine lv_iconst (v := 0) hx hb dX12_orders_44 (by decide) ?_
          refine lv_istore (lv' := [(5, .int 0), (4, .int x10), (0, .ref (ad 55)), (1, .int 4), (2, .int a2), (3, .int a3)]) hx hb dX12_orders_45 hl (by decide) rfl (fun ls hl => ?_)
          have lp31 : ∀ (n32 : Nat) (x33 : Int32) (H : Heap) (locs : List Loc) (ls : Array Slot), ((σ12 55 10).toInt - x33.toInt : Int) < n32 → 0 ≤ x33.toInt → x33.toInt ≤ 5 → x33.toInt ≤ (σ12 55 10).toInt → jH D cI cL ad σ12 τ H → va_S (jA ad) s.heap H locs → lv_has ls 6 [(5, .int x33), (4, .int x10), (0, .ref (ad 55)), (1, .int 4), (2, .int a2), (3, .int a3)] → W p l e ({ frames := 105, cells := 0, slots := 0, locals := 5106 }) s m args below meth c H locs 0 0 Q (F0 m 47 ls []) := by
            intro n32
            induction n32 with
            | zero => intro x33 H locs ls h35 h36 h37 h38; exact absurd h35 (by omega)
            | succ n32 ihlp31 =>
              intro x33 H locs ls h35 h36 h37 h38 hP hS hl
              refine lv_iload hx hb dX12_orders_47 (lv_at hl 0 rfl) ?_
              refine lv_aload_n hx hb dX12_orders_49 rfl (lv_at hl 2 rfl) ?_
              refine va_get (D := D) hx hb hts inlX12 hown hK hP 55 (jc_55 cI cL ad σ12 τ) rfl 10 (by decide) (hts _ kw_8_15) (fun _ h9 => h9) rfl dX12_orders_50 ?_
              have m40 : σ12 55 10 = (σ 55 10) := (f18 10 (by decide))
              refine jtopr m40 ?_
              refine lv_icmp_ge (tgt := 84) hx hb dX12_orders_53 (by decide) (fun c41 => ?_) (fun c41 => ?_)
              · have kc41 := jle c41 rfl rfl
                refine lv_iload hx hb dX12_orders_84 (lv_at hl 0 rfl) ?_
                refine lv_aload_n hx hb dX12_orders_86 rfl (lv_at hl 2 rfl) ?_
                refine va_get (D := D) hx hb hts inlX12 hown hK hP 55 (jc_55 cI cL ad σ12 τ) rfl 10 (by decide) (hts _ kw_8_15) (fun _ h9 => h9) rfl dX12_orders_87 ?_
                refine jtopr m40 ?_
                refine lv_icmp_ge (tgt := 121) hx hb dX12_orders_90 (by decide) (fun c42 => ?_) (fun c => absurd (jnle c rfl rfl) (by omega))
                have kc42 := jle c42 rfl rfl
                obtain ⟨x43, ex43⟩ : ∃ y : Int32, y = x10 + 1 := ⟨_, rfl⟩
                have tx43 : x43.toInt = x10.toInt + 1 := (jadd ex43 rfl jz_1 (by omega) (by omega)).trans (by omega)
                refine lv_iinc (v := x43) (lv' := [(4, .int x43), (5, .int x33), (0, .ref (ad 55)), (1, .int 4), (2, .int a2), (3, .int a3)]) hx hb dX12_orders_121 hl (k := 1) rfl (by rw [ex43]; rfl) (by decide) rfl (fun ls hl => ?_)
                refine lv_goto (tgt := 38) hx hb dX12_orders_124 (by decide) ?_
                exact ihlp8 x43 σ12 _ _ ls (by have h90 := tx43; omega) (by have h90 := tx43; omega) (by have h90 := tx43; omega) (fun i hi => (f17 i hi)) (fun i hi => (f18 i hi))  p19 p20 p21 hP hS (lv_sub hl [0, 2, 3, 4, 5] rfl)
              · have kc41 := jnle c41 rfl rfl
                refine lv_iload_n hx hb dX12_orders_56 rfl (lv_at hl 4 rfl) ?_
                refine lv_iload hx hb dX12_orders_57 (lv_at hl 0 rfl) ?_
                refine lv_ishr hx hb dX12_orders_59 ?_
                refine lv_topi (fun x44 ex44 => ?_)
                have gx44 := jrg (rfl : x44.toInt = x44.toInt)
                refine lv_iconst (v := 1) hx hb dX12_orders_60 (by decide) ?_
                refine lv_iand hx hb dX12_orders_61 ?_
                refine lv_topi (fun x45 ex45 => ?_)
                have gx45 := jrg (rfl : x45.toInt = x45.toInt)
                have g46 : 0 ≤ x45.toInt ∧ x45.toInt ≤ 1 := jmask ex45 1 (by decide) (by decide)
                refine lv_iconst (v := 1) hx hb dX12_orders_62 (by decide) ?_
                refine lv_icmp_eq (tgt := 78) hx hb dX12_orders_63 (by decide) (fun c47 => ?_) (fun c47 => ?_)
                · have kc47 := jeq c47 rfl jz_1
                  obtain ⟨x48, ex48⟩ : ∃ y : Int32, y = x33 + 1 := ⟨_, rfl⟩
                  have tx48 : x48.toInt = x33.toInt + 1 := (jadd ex48 rfl jz_1 (by omega) (by omega)).trans (by omega)
                  refine lv_iinc (v := x48) (lv' := [(5, .int x48), (4, .int x10), (0, .ref (ad 55)), (1, .int 4), (2, .int a2), (3, .int a3)]) hx hb dX12_orders_78 hl (k := 0) rfl (by rw [ex48]; rfl) (by decide) rfl (fun ls hl => ?_)
                  refine lv_goto (tgt := 47) hx hb dX12_orders_81 (by decide) ?_
                  exact ihlp31 x48 _ _ ls (by have h90 := tx48; omega) (by have h90 := tx48; omega) (by have h90 := tx48; omega) (by have h90 := tx48; omega)    hP hS (lv_sub hl [0, 1, 2, 3, 4, 5] rfl)
                · have kc47 := jne c47 rfl jz_1
                  refine lv_aload_n hx hb dX12_orders_66 rfl (lv_at hl 2 rfl) ?_
                  refine va_get (D := D) hx hb hts inlX12 hown hK hP 55 (jc_55 cI cL ad σ12 τ) rfl 44 (by decide) (hts _ kw_8_4) (fun _ h9 => h9) rfl dX12_orders_67 ?_
                  refine lv_iload hx hb dX12_orders_70 (lv_at hl 0 rfl) ?_
                  refine jald hx hb hK hP (jc_79 cI cL ad σ12 τ) (jin rfl (by omega) (by omega)) dX12_orders_72 ?_
                  have w49 : ∀ k : Nat, k < 5 → 0 ≤ (σ12 79 k).toInt ∧ (σ12 79 k).toInt ≤ 3 := (jrr_fr (f17 79 (by decide)) w6)
                  have g50 := w49 _ (jnat (x := x33) rfl (n := 5) (by omega) (by decide))
                  refine lv_topi (fun x51 ex51 => ?_)
                  rw [← ex51] at g50
                  refine lv_iload hx hb dX12_orders_73 (lv_at hl 1 rfl) ?_
                  refine lv_icmp_eq (tgt := 84) hx hb dX12_orders_75 (by decide) (fun c52 => ?_) (fun c52 => ?_)
                  · have kc52 := jeq c52 rfl rfl
                    refine lv_iload hx hb dX12_orders_84 (lv_at hl 0 rfl) ?_
                    refine lv_aload_n hx hb dX12_orders_86 rfl (lv_at hl 2 rfl) ?_
                    refine va_get (D := D) hx hb hts inlX12 hown hK hP 55 (jc_55 cI cL ad σ12 τ) rfl 10 (by decide) (hts _ kw_8_15) (fun _ h9 => h9) rfl dX12_orders_87 ?_
                    refine jtopr m40 ?_
                    refine lv_icmp_ge (tgt := 121) hx hb dX12_orders_90 (by decide) (fun c => absurd (jle c rfl rfl) (by omega)) (fun c53 => ?_)
                    have kc53 := jnle c53 rfl rfl
                    refine lv_aload_n hx hb dX12_orders_93 rfl (lv_at hl 2 rfl) ?_
                    refine va_get (D := D) hx hb hts inlX12 hown hK hP 55 (jc_55 cI cL ad σ12 τ) rfl 11 (by decide) (hts _ kw_7_8) (fun _ h9 => h9) rfl dX12_orders_94 ?_
                    refine lv_iload_n hx hb dX12_orders_97 rfl (lv_at hl 3 rfl) ?_
                    refine lv_iload hx hb dX12_orders_98 (lv_at hl 1 rfl) ?_
                    refine jast hx hb hK hP hJ hA hS (jc_62 cI cL ad σ12 τ) (ja_62 cI cL ad σ12 τ _ _) (jin jz_4 (by omega) (by omega)) dX12_orders_100 (fun σ54 H locs eσ54 hP hS => ?_)
                    have eσ54 : σ54 = jup σ12 62 4 x10 := eσ54
                    refine lv_aload_n hx hb dX12_orders_101 rfl (lv_at hl 2 rfl) ?_
                    refine lv_iload_n hx hb dX12_orders_102 rfl (lv_at hl 3 rfl) ?_
                    refine lv_iconst (v := 1) hx hb dX12_orders_103 (by decide) ?_
                    refine lv_iadd hx hb dX12_orders_104 ?_
                    refine jtopr (y := 5) (by decide) ?_
                    refine lv_iload_n hx hb dX12_orders_105 rfl (lv_at hl 4 rfl) ?_
                    refine lv_iconst (v := 1) hx hb dX12_orders_106 (by decide) ?_
                    refine lv_iload hx hb dX12_orders_107 (lv_at hl 0 rfl) ?_
                    refine lv_ishl hx hb dX12_orders_109 ?_
                    refine lv_topi (fun x55 ex55 => ?_)
                    have gx55 := jrg (rfl : x55.toInt = x55.toInt)
                    refine lv_ior hx hb dX12_orders_110 ?_
                    refine lv_topi (fun x56 ex56 => ?_)
                    have gx56 := jrg (rfl : x56.toInt = x56.toInt)
                    refine lv_bipush (v := 10) hx hb dX12_orders_111 (by decide) ?_
                    refine lv_iload_n hx hb dX12_orders_113 rfl (lv_at hl 5 rfl) ?_
                    refine lv_imul hx hb dX12_orders_114 ?_
                    refine lv_topi (fun x57 ex57 => ?_)
                    have gx57 := jrg (rfl : x57.toInt = x57.toInt)
                    refine lv_iload hx hb dX12_orders_115 (lv_at hl 1 rfl) ?_
                    have g58 := jrg (rfl : x57.toInt = x57.toInt)
                    have g59 := jrg (rfl : x10.toInt = x10.toInt)
                    refine lv_iadd hx hb dX12_orders_117 ?_
                    refine lv_topi (fun x60 ex60 => ?_)
                    have gx60 := jrg (rfl : x60.toInt = x60.toInt)
                    have I61 : jI101 σ54 := jI101_fr ((congrFun (jnp 55 eσ54 (by decide)) 4).trans (f18 4 (by decide))) ((congrFun (jnp 55 eσ54 (by decide)) 5).trans (f18 5 (by decide))) ((jnp 56 eσ54 (by decide)).trans (f17 56 (by decide))) ((jnp 57 eσ54 (by decide)).trans (f17 57 (by decide))) ((jnp 58 eσ54 (by decide)).trans (f17 58 (by decide))) ((jnp 59 eσ54 (by decide)).trans (f17 59 (by decide))) hI101
                    have I62 : jI102 σ54 := jI102_fr ((congrFun (jnp 55 eσ54 (by decide)) 6).trans (f18 6 (by decide))) ((jnp 60 eσ54 (by decide)).trans (f17 60 (by decide))) ((jnp 61 eσ54 (by decide)).trans (f17 61 (by decide))) hI102
                    have I63 : jI103 σ54 := jI103_fr ((congrFun (jnp 55 eσ54 (by decide)) 9).trans (f18 9 (by decide))) hI103
                    have z64 : (σ54 55 10).toInt = (σ 55 10).toInt := (congrArg Int32.toInt (show σ54 55 10 = (σ 55 10) from ((congrFun (jnp 55 eσ54 (by decide)) 10).trans m40)))
                    have z65 : (σ54 55 12).toInt = (σ 55 12).toInt := (congrArg Int32.toInt (show σ54 55 12 = (σ 55 12) from ((congrFun (jnp 55 eσ54 (by decide)) 12).trans (f18 12 (by decide)))))
                    have z66 : (σ54 55 13).toInt = (σ 55 13).toInt := (congrArg Int32.toInt (show σ54 55 13 = (σ 55 13) from ((congrFun (jnp 55 eσ54 (by decide)) 13).trans (f18 13 (by decide)))))
                    have w67 : ∀ k : Nat, k < 8 → 0 ≤ (σ54 62 k).toInt ∧ (σ54 62 k).toInt ≤ 3 := (by rw [eσ54]; exact jrr_up w25 (by omega) (by omega))
                    have w68 : ∀ k : Nat, k < 8 → 0 ≤ (σ54 67 k).toInt ∧ (σ54 67 k).toInt ≤ 3 := (jrr_fr (jnp 67 eσ54 (by decide)) w26)
                    have I69 : jI104 σ54 := ⟨(by omega), (by omega), (by omega), w67, w68⟩
                    have I70 : jI105 σ54 := jI105_fr ((congrFun (jnp 55 eσ54 (by decide)) 15).trans (f18 15 (by decide))) ((jnp 65 eσ54 (by decide)).trans (f17 65 (by decide))) hI105
                    have I71 : jI106 σ54 := jI106_fr ((congrFun (jnp 55 eσ54 (by decide)) 32).trans (f18 32 (by decide))) ((jnp 70 eσ54 (by decide)).trans (f17 70 (by decide))) ((jnp 71 eσ54 (by decide)).trans (f17 71 (by decide))) ((jnp 72 eσ54 (by decide)).trans (f17 72 (by decide))) hI106
                    have I72 : jI119 σ54 := jI119_fr (jnp 68 eσ54 (by decide)) p21
                    have I73 : jI111 σ54 := jI111_fr ((jnp 79 eσ54 (by decide)).trans (f17 79 (by decide))) hI111
                    have p74 : jKept σ54 := jKept.fr (jnp 75 eσ54 (by decide)) (jnp 76 eσ54 (by decide)) (jnp 77 eσ54 (by decide)) p19
                    refine jcallVv (As := [.int 5, .int x56, .int x60]) (rest := []) ⟨hx, hb, hml, hown, hts⟩ hK hP hA hS hZ (c_X12_orders_5 l D cI cL ad zz hJ σ54 τ x56 (x56.toInt) rfl x60 (x60.toInt) rfl I61 I62 I63 I69 I70 I71 I72 I73 p74 (by omega) (by omega) (by omega)) cw_RX12_355 (jc_55 cI cL ad σ54 τ) rfl ⟨Nat.le_of_ble_eq_true rfl, Nat.le_of_ble_eq_true rfl⟩ rfl rfl rfl hl.1 rfl (Nat.le_of_ble_eq_true rfl) dX12_orders_118 ⟨Nat.zero_le _, Nat.zero_le _⟩ (fun σ75 τ75 H locs h75 hP hS => ?_)
                    obtain ⟨rfl, f77, f78, I79, I80, p81, h75⟩ := h75
                    obtain ⟨i83, i84, i85, w86, w87⟩ : (1 ≤ (σ75 55 10).toInt ∧ (σ75 55 10).toInt ≤ 8) ∧ (1 ≤ (σ75 55 12).toInt ∧ (σ75 55 12).toInt ≤ 12) ∧ (0 ≤ (σ75 55 13).toInt ∧ (σ75 55 13).toInt ≤ 999) ∧ (∀ k : Nat, k < 8 → 0 ≤ (σ75 62 k).toInt ∧ (σ75 62 k).toInt ≤ 3) ∧ (∀ k : Nat, k < 8 → 0 ≤ (σ75 67 k).toInt ∧ (σ75 67 k).toInt ≤ 3) := id I79
                    have z88 : (σ75 55 10).toInt = (σ 55 10).toInt := (congrArg Int32.toInt (show σ75 55 10 = (σ 55 10) from ((f78 10 (by decide)).trans ((congrFun (jnp 55 eσ54 (by decide)) 10).trans m40))))
                    have z89 : (σ75 55 12).toInt = (σ 55 12).toInt := (congrArg Int32.toInt (show σ75 55 12 = (σ 55 12) from ((f78 12 (by decide)).trans ((congrFun (jnp 55 eσ54 (by decide)) 12).trans (f18 12 (by decide))))))
                    have z90 : (σ75 55 13).toInt = (σ 55 13).toInt := (congrArg Int32.toInt (show σ75 55 13 = (σ 55 13) from ((f78 13 (by decide)).trans ((congrFun (jnp 55 eσ54 (by decide)) 13).trans (f18 13 (by decide))))))
                    obtain ⟨x91, ex91⟩ : ∃ y : Int32, y = x10 + 1 := ⟨_, rfl⟩
                    have tx91 : x91.toInt = x10.toInt + 1 := (jadd ex91 rfl jz_1 (by omega) (by omega)).trans (by omega)
                    refine lv_iinc (v := x91) (lv' := [(4, .int x91), (5, .int x33), (0, .ref (ad 55)), (1, .int 4), (2, .int a2), (3, .int a3)]) hx hb dX12_orders_121 hl (k := 1) rfl (by rw [ex91]; rfl) (by decide) rfl (fun ls hl => ?_)
                    refine lv_goto (tgt := 38) hx hb dX12_orders_124 (by decide) ?_
                    exact ihlp8 x91 σ75 _ _ ls (by have h90 := tx91; omega) (by have h90 := tx91; omega) (by have h90 := tx91; omega) (fun i hi => ((f77 i hi).trans ((jnp i eσ54 (imp_276 i hi)).trans (f17 i hi)))) (fun i hi => ((f78 i hi).trans ((congrFun (jnp 55 eσ54 (by decide)) i).trans (f18 i hi))))  p81 I79 I80 hP hS (lv_sub hl [0, 2, 3, 4, 5] rfl)
                  · have kc52 := jne c52 rfl rfl
                    obtain ⟨x92, ex92⟩ : ∃ y : Int32, y = x33 + 1 := ⟨_, rfl⟩
                    have tx92 : x92.toInt = x33.toInt + 1 := (jadd ex92 rfl jz_1 (by omega) (by omega)).trans (by omega)
                    refine lv_iinc (v := x92) (lv' := [(5, .int x92), (4, .int x10), (0, .ref (ad 55)), (1, .int 4), (2, .int a2), (3, .int a3)]) hx hb dX12_orders_78 hl (k := 0) rfl (by rw [ex92]; rfl) (by decide) rfl (fun ls hl => ?_)
                    refine lv_goto (tgt := 47) hx hb dX12_orders_81 (by decide) ?_
                    exact ihlp31 x92 _ _ ls (by have h90 := tx92; omega) (by have h90 := tx92; omega) (by have h90 := tx92; omega) (by have h90 := tx92; omega)    hP hS (lv_sub hl [0, 1, 2, 3, 4, 5] rfl)
          exact lp31 1000000 0 _ _ ls (by have h90 := jz_0; omega) (by have h90 := jz_0; omega) (by have h90 := jz_0; omega) (by have h90 := jz_0; omega)   hP hS hl
    exact lp8 1000000 0 σ _ _ ls (by have h90 := jz_0; omega) (by have h90 := jz_0; omega) (by have h90 := jz_0; omega) (fun _ _ => rfl) (fun _ _ => rfl)  hs_jKept hI104 hI119 hP hS hl
  · have kc7 := jeq c7 jz_4 rfl
    refine lv_aload_n hx hb dX12_orders_8 rfl (lv_at hl 0 rfl) ?_
    refine jcallV (As := []) (rest := []) ⟨hx, hb, hml, hown, hts⟩ hK hP hA hS hZ (c_X12_bestNow l D cI cL ad zz hJ σ τ hI101 hI102 hI103 hI104 hI105 hI106 hI119 hs_jKept (by omega)) cw_RX12_346 (jc_55 cI cL ad σ τ) rfl ⟨Nat.le_of_ble_eq_true rfl, Nat.le_of_ble_eq_true rfl⟩ rfl rfl rfl hl.1 rfl (Nat.le_of_ble_eq_true rfl) dX12_orders_9 ⟨Nat.zero_le _, Nat.zero_le _⟩ (fun r94 σ93 τ93 H locs h93 hP hS => ?_)
    obtain ⟨rfl, f95, f96, I97, p98, h93⟩ := h93
    refine lv_istore (lv' := [(4, .int r94), (0, .ref (ad 55)), (1, .int 4), (2, .int a2), (3, .int a3)]) hx hb dX12_orders_12 hl (by decide) rfl (fun ls hl => ?_)
    refine lv_iload hx hb dX12_orders_14 (lv_at hl 0 rfl) ?_
    refine lv_aload_n hx hb dX12_orders_16 rfl (lv_at hl 1 rfl) ?_
    refine va_get (D := D) hx hb hts inlX12 hown hK hP 55 (jc_55 cI cL ad σ93 τ) rfl 46 (by decide) (hts _ kw_40_17) (fun _ h9 => h9) rfl dX12_orders_17 ?_
    have m100 : σ93 55 46 = (σ 55 46) := (f96 46 (by decide))
    refine jtopr m100 ?_
    refine lv_icmp_le (tgt := 34) hx hb dX12_orders_20 (by decide) (fun c101 => ?_) (fun c101 => ?_)
    · have kc101 := jle c101 rfl rfl
      have I102 : jI104 σ93 := jI104_fr (f96 10 (by decide)) (f96 12 (by decide)) (f96 13 (by decide)) (f95 62 (by decide)) (f95 67 (by decide)) hI104
      exact hret σ93 τ _ _ _ _ ⟨rfl, (fun i hi => (f95 i (imp_271 i hi))), (fun i hi => (f96 i (imp_272 i hi))), I102, I97, p98, trivial⟩ hP hS dX12_orders_34
    · have kc101 := jnle c101 rfl rfl
      refine lv_aload_n hx hb dX12_orders_23 rfl (lv_at hl 1 rfl) ?_
      refine lv_iload hx hb dX12_orders_24 (lv_at hl 0 rfl) ?_
      refine jput (ty := .int) hx hb hts inlX12 tyX12 tyX12_ok nmX12 hown hK hP hJ hA hS (jc_55 cI cL ad σ93 τ) rfl (k := 46) (by decide) (Nat.le_of_ble_eq_true rfl) (jp_55_46 cI cL ad σ93 τ r94) (hts _ kw_40_17) (fun _ h9 => h9) rfl (by decide +kernel) rfl rfl dX12_orders_26 (fun σ103 H locs eσ103 hP hS => ?_)
      refine lv_aload_n hx hb dX12_orders_29 rfl (lv_at hl 1 rfl) ?_
      refine lv_iload_n hx hb dX12_orders_30 rfl (lv_at hl 4 rfl) ?_
      refine jput (ty := .int) hx hb hts inlX12 tyX12 tyX12_ok nmX12 hown hK hP hJ hA hS (jc_55 cI cL ad σ103 τ) rfl (k := 45) (by decide) (Nat.le_of_ble_eq_true rfl) (jp_55_45 cI cL ad σ103 τ a3) (hts _ kw_40_18) (fun _ h9 => h9) rfl (by decide +kernel) rfl rfl dX12_orders_31 (fun σ104 H locs eσ104 hP hS => ?_)
      have I105 : jI104 σ104 := jI104_fr ((jkp 10 eσ104 (by decide)).trans ((jkp 10 eσ103 (by decide)).trans (f96 10 (by decide)))) ((jkp 12 eσ104 (by decide)).trans ((jkp 12 eσ103 (by decide)).trans (f96 12 (by decide)))) ((jkp 13 eσ104 (by decide)).trans ((jkp 13 eσ103 (by decide)).trans (f96 13 (by decide)))) ((jnp 62 eσ104 (by decide)).trans ((jnp 62 eσ103 (by decide)).trans (f95 62 (by decide)))) ((jnp 67 eσ104 (by decide)).trans ((jnp 67 eσ103 (by decide)).trans (f95 67 (by decide)))) hI104
      have I106 : jI119 σ104 := jI119_fr ((jnp 68 eσ104 (by decide)).trans (jnp 68 eσ103 (by decide))) I97
      have p107 : jKept σ104 := jKept.fr ((jnp 75 eσ104 (by decide)).trans (jnp 75 eσ103 (by decide))) ((jnp 76 eσ104 (by decide)).trans (jnp 76 eσ103 (by decide))) ((jnp 77 eσ104 (by decide)).trans (jnp 77 eσ103 (by decide))) p98
      exact hret σ104 τ _ _ _ _ ⟨rfl, (fun i hi => ((jnp i eσ104 (imp_273 i hi)).trans ((jnp i eσ103 (imp_273 i hi)).trans (f95 i (imp_271 i hi))))), (fun i hi => ((jkp i eσ104 (imp_274 i hi)).trans ((jkp i eσ103 (imp_275 i hi)).trans (f96 i (imp_272 i hi))))), I105, I106, p107, trivial⟩ hP hS dX12_orders_34
set_option maxHeartbeats 4000000 in
set_option maxRecDepth 100000 in
theorem c_X12_orders_3 (l : Launch) (D : va_G) (cI cL : ClassId) (ad zz : Nat → Nat) (hJ : jD ad) (σ : Nat → Nat → Int32) (τ : Nat → Nat → Int64) (a2 : Int32) (A2 : Int) (t2 : a2.toInt = A2) (a3 : Int32) (A3 : Int) (t3 : a3.toInt = A3) (hI101 : jI101 σ) (hI102 : jI102 σ) (hI103 : jI103 σ) (hI104 : jI104 σ) (hI105 : jI105 σ) (hI106 : jI106 σ) (hI119 : jI119 σ) (hI111 : jI111 σ) (hs_jKept : jKept σ) (hp0 : (σ 55 10).toInt ≤ 5) (hp1 : 3 ≤ (σ 55 10).toInt) (hp2 : (σ 55 12).toInt ≤ 8) : jMv l yX12_orders cX12_orders 6 none ({ frames := 106, cells := 0, slots := 0, locals := 5131 }) D cI cL ad zz [.ref (ad 55), .int 3, .int a2, .int a3] σ τ (fun σ' τ' => τ = τ' ∧ (∀ i : Nat, (i < 55 ∨ 55 < i) ∧ (i < 62 ∨ 62 < i) ∧ (i < 66 ∨ 66 < i) ∧ (i < 68 ∨ 69 < i) ∧ (i < 74 ∨ 78 < i) → σ' i = σ i) ∧ (∀ k : Nat, (k < 18 ∨ 18 < k) ∧ (k < 19 ∨ 19 < k) ∧ (k < 20 ∨ 20 < k) ∧ (k < 21 ∨ 21 < k) ∧ (k < 22 ∨ 22 < k) ∧ (k < 25 ∨ 25 < k) ∧ (k < 26 ∨ 26 < k) ∧ (k < 27 ∨ 27 < k) ∧ (k < 37 ∨ 37 < k) ∧ (k < 42 ∨ 42 < k) ∧ (k < 45 ∨ 45 < k) ∧ (k < 46 ∨ 46 < k) → σ' 55 k = σ 55 k) ∧ (jI104 σ') ∧ (jI119 σ') ∧ (jKept σ') ∧ True) := by
  refine jMv.of hJ (by decide +kernel) rfl (Nat.le_of_ble_eq_true rfl) ?_
  intro p e s m args below meth c Q ls hC hret hl hP
  obtain ⟨hx, hb, hr, hml, hown, hts, hK, -, hlocks, hZ⟩ := hC
  have hown : s.vm.findClass RX12 = some m.cls := hown
  have hS : va_S (jA ad) s.heap s.heap [] := va_S.rf
  have hA : ∀ q, jA ad q → jA ad q := fun _ h => h
  have hl : lv_has ls 6 [(0, .ref (ad 55)), (1, .int 3), (2, .int a2), (3, .int a3)] := hl
  have g2 := jrg t2
  have g3 := jrg t3
  obtain ⟨i1, i2, i3, w4, w5⟩ : (1 ≤ (σ 55 10).toInt ∧ (σ 55 10).toInt ≤ 8) ∧ (1 ≤ (σ 55 12).toInt ∧ (σ 55 12).toInt ≤ 12) ∧ (0 ≤ (σ 55 13).toInt ∧ (σ 55 13).toInt ≤ 999) ∧ (∀ k : Nat, k < 8 → 0 ≤ (σ 62 k).toInt ∧ (σ 62 k).toInt ≤ 3) ∧ (∀ k : Nat, k < 8 → 0 ≤ (σ 67 k).toInt ∧ (σ 67 k).toInt ≤ 3) := id hI104
  have w6 : ∀ k : Nat, k < 5 → 0 ≤ (σ 79 k).toInt ∧ (σ 79 k).toInt ≤ 3 := hI111
  refine lv_iload_n hx hb dX12_orders_0 rfl (lv_at hl 1 rfl) ?_
  refine lv_aload_n hx hb dX12_orders_1 rfl (lv_at hl 0 rfl) ?_
  refine va_get (D := D) hx hb hts inlX12 hown hK hP 55 (jc_55 cI cL ad σ τ) rfl 10 (by decide) (hts _ kw_8_15) (fun _ h9 => h9) rfl dX12_orders_2 ?_
  refine lv_icmp_ne (tgt := 35) hx hb dX12_orders_5 (by decide) (fun c7 => ?_) (fun c7 => ?_)
  · have kc7 := jne c7 jz_3 rfl
    refine lv_iconst (v := 0) hx hb dX12_orders_35 (by decide) ?_
    refine lv_istore (lv' := [(4, .int 0), (0, .ref (ad 55)), (1, .int 3), (2, .int a2), (3, .int a3)]) hx hb dX12_orders_36 hl (by decide) rfl (fun ls hl => ?_)
    have lp8 : ∀ (n9 : Nat) (x10 : Int32) (σ12 : Nat → Nat → Int32) (H : Heap) (locs : List Loc) (ls : Array Slot), (-x10.toInt + 4 : Int) < n9 → 0 ≤ x10.toInt → x10.toInt ≤ 4 → (∀ i : Nat, (i < 55 ∨ 55 < i) ∧ (i < 62 ∨ 62 < i) ∧ (i < 66 ∨ 66 < i) ∧ (i < 68 ∨ 69 < i) ∧ (i < 74 ∨ 78 < i) → σ12 i = σ i) → (∀ k : Nat, (k < 18 ∨ 18 < k) ∧ (k < 19 ∨ 19 < k) ∧ (k < 20 ∨ 20 < k) ∧ (k < 21 ∨ 21 < k) ∧ (k < 22 ∨ 22 < k) ∧ (k < 25 ∨ 25 < k) ∧ (k < 26 ∨ 26 < k) ∧ (k < 27 ∨ 27 < k) ∧ (k < 37 ∨ 37 < k) ∧ (k < 42 ∨ 42 < k) ∧ (k < 45 ∨ 45 < k) ∧ (k < 46 ∨ 46 < k) → σ12 55 k = σ 55 k) → jKept σ12 → jI104 σ12 → jI119 σ12 → jH D cI cL ad σ12 τ H → va_S (jA ad) s.heap H locs → lv_has ls 6 [(4, .int x10), (0, .ref (ad 55)), (1, .int 3), (2, .int a2), (3, .int a3)] → W p l e ({ frames := 106, cells := 0, slots := 0, locals := 5131 }) s m args below meth c H locs 0 0 Q (F0 m 38 ls []) := by
      intro n9
      induction n9 with
      | zero => intro x10 σ12 H locs ls h14 h15 h16; exact absurd h14 (by omega)
      | succ n9 ihlp8 =>
        intro x10 σ12 H locs ls h14 h15 h16 f17 f18 p19 p20 p21 hP hS hl
        obtain ⟨i22, i23, i24, w25, w26⟩ : (1 ≤ (σ12 55 10).toInt ∧ (σ12 55 10).toInt ≤ 8) ∧ (1 ≤ (σ12 55 12).toInt ∧ (σ12 55 12).toInt ≤ 12) ∧ (0 ≤ (σ12 55 13).toInt ∧ (σ12 55 13).toInt ≤ 999) ∧ (∀ k : Nat, k < 8 → 0 ≤ (σ12 62 k).toInt ∧ (σ12 62 k).toInt ≤ 3) ∧ (∀ k : Nat, k < 8 → 0 ≤ (σ12 67 k).toInt ∧ (σ12 67 k).toInt ≤ 3) := id p20
        have z27 : (σ12 55 10).toInt = (σ 55 10).toInt := (congrArg Int32.toInt (show σ12 55 10 = (σ 55 10) from (f18 10 (by decide))))
        have z28 : (σ12 55 12).toInt = (σ 55 12).toInt := (congrArg Int32.toInt (show σ12 55 12 = (σ 55 12) from (f18 12 (by decide))))
        have z29 : (σ12 55 13).toInt = (σ 55 13).toInt := (congrArg Int32.toInt (show σ12 55 13 = (σ 55 13) from (f18 13 (by decide))))
        refine lv_iload hx hb dX12_orders_38 (lv_at hl 0 rfl) ?_
        refine lv_iconst (v := 4) hx hb dX12_orders_40 (by decide) ?_
        refine lv_icmp_ge (tgt := 127) hx hb dX12_orders_41 (by decide) (fun c30 => ?_) (fun c30 => ?_)
        · have kc30 := jle c30 jz_4 rfl
          exact hret σ12 τ _ _ _ _ ⟨rfl, (fun i hi => (f17 i hi)), (fun i hi => (f18 i hi)), p20, p21, p19, trivial⟩ hP hS dX12_orders_127
        · have kc30 := jnle c30 jz_4 rfl
          refine lv_iconst (v := 0) hx hb dX12_orders_44 (by decide) ?_
          refine lv_istore (lv' := [(5, .int 0), (4, .int x10), (0, .ref (ad 55)), (1, .int 3), (2, .int a2), (3, .int a3)]) hx hb dX12_orders_45 hl (by decide) rfl (fun ls hl => ?_)
          have lp31 : ∀ (n32 : Nat) (x33 : Int32) (H : Heap) (locs : List Loc) (ls : Array Slot), ((σ12 55 10).toInt - x33.toInt : Int) < n32 → 0 ≤ x33.toInt → x33.toInt ≤ 5 → x33.toInt ≤ (σ12 55 10).toInt → jH D cI cL ad σ12 τ H → va_S (jA ad) s.heap H locs → lv_has ls 6 [(5, .int x33), (4, .int x10), (0, .ref (ad 55)), (1, .int 3), (2, .int a2), (3, .int a3)] → W p l e ({ frames := 106, cells := 0, slots := 0, locals := 5131 }) s m args below meth c H locs 0 0 Q (F0 m 47 ls []) := by
            intro n32
            induction n32 with
            | zero => intro x33 H locs ls h35 h36 h37 h38; exact absurd h35 (by omega)
            | succ n32 ihlp31 =>
              intro x33 H locs ls h35 h36 h37 h38 hP hS hl
              refine lv_iload hx hb dX12_orders_47 (lv_at hl 0 rfl) ?_
              refine lv_aload_n hx hb dX12_orders_49 rfl (lv_at hl 2 rfl) ?_
              refine va_get (D := D) hx hb hts inlX12 hown hK hP 55 (jc_55 cI cL ad σ12 τ) rfl 10 (by decide) (hts _ kw_8_15) (fun _ h9 => h9) rfl dX12_orders_50 ?_
              have m40 : σ12 55 10 = (σ 55 10) := (f18 10 (by decide))
              refine jtopr m40 ?_
              refine lv_icmp_ge (tgt := 84) hx hb dX12_orders_53 (by decide) (fun c41 => ?_) (fun c41 => ?_)
              · have kc41 := jle c41 rfl rfl
                refine lv_iload hx hb dX12_orders_84 (lv_at hl 0 rfl) ?_
                refine lv_aload_n hx hb dX12_orders_86 rfl (lv_at hl 2 rfl) ?_
                refine va_get (D := D) hx hb hts inlX12 hown hK hP 55 (jc_55 cI cL ad σ12 τ) rfl 10 (by decide) (hts _ kw_8_15) (fun _ h9 => h9) rfl dX12_orders_87 ?_
                refine jtopr m40 ?_
                refine lv_icmp_ge (tgt := 121) hx hb dX12_orders_90 (by decide) (fun c42 => ?_) (fun c => absurd (jnle c rfl rfl) (by omega))
                have kc42 := jle c42 rfl rfl
                obtain ⟨x43, ex43⟩ : ∃ y : Int32, y = x10 + 1 := ⟨_, rfl⟩
                have tx43 : x43.toInt = x10.toInt + 1 := (jadd ex43 rfl jz_1 (by omega) (by omega)).trans (by omega)
                refine lv_iinc (v := x43) (lv' := [(4, .int x43), (5, .int x33), (0, .ref (ad 55)), (1, .int 3), (2, .int a2), (3, .int a3)]) hx hb dX12_orders_121 hl (k := 1) rfl (by rw [ex43]; rfl) (by decide) rfl (fun ls hl => ?_)
                refine lv_goto (tgt := 38) hx hb dX12_orders_124 (by decide) ?_
                exact ihlp8 x43 σ12 _ _ ls (by have h90 := tx43; omega) (by have h90 := tx43; omega) (by have h90 := tx43; omega) (fun i hi => (f17 i hi)) (fun i hi => (f18 i hi))  p19 p20 p21 hP hS (lv_sub hl [0, 2, 3, 4, 5] rfl)
              · have kc41 := jnle c41 rfl rfl
                refine lv_iload_n hx hb dX12_orders_56 rfl (lv_at hl 4 rfl) ?_
                refine lv_iload hx hb dX12_orders_57 (lv_at hl 0 rfl) ?_
                refine lv_ishr hx hb dX12_orders_59 ?_
                refine lv_topi (fun x44 ex44 => ?_)
                have gx44 := jrg (rfl : x44.toInt = x44.toInt)
                refine lv_iconst (v := 1) hx hb dX12_orders_60 (by decide) ?_
                refine lv_iand hx hb dX12_orders_61 ?_
                refine lv_topi (fun x45 ex45 => ?_)
                have gx45 := jrg (rfl : x45.toInt = x45.toInt)
                have g46 : 0 ≤ x45.toInt ∧ x45.toInt ≤ 1 := jmask ex45 1 (by decide) (by decide)
                refine lv_iconst (v := 1) hx hb dX12_orders_62 (by decide) ?_
                refine lv_icmp_eq (tgt := 78) hx hb dX12_orders_63 (by decide) (fun c47 => ?_) (fun c47 => ?_)
                · have kc47 := jeq c47 rfl jz_1
                  obtain ⟨x48, ex48⟩ : ∃ y : Int32, y = x33 + 1 := ⟨_, rfl⟩
                  have tx48 : x48.toInt = x33.toInt + 1 := (jadd ex48 rfl jz_1 (by omega) (by omega)).trans (by omega)
                  refine lv_iinc (v := x48) (lv' := [(5, .int x48), (4, .int x10), (0, .ref (ad 55)), (1, .int 3), (2, .int a2), (3, .int a3)]) hx hb dX12_orders_78 hl (k := 0) rfl (by rw [ex48]; rfl) (by decide) rfl (fun ls hl => ?_)
                  refine lv_goto (tgt := 47) hx hb dX12_orders_81 (by decide) ?_
                  exact ihlp31 x48 _ _ ls (by have h90 := tx48; omega) (by have h90 := tx48; omega) (by have h90 := tx48; omega) (by have h90 := tx48; omega)    hP hS (lv_sub hl [0, 1, 2, 3, 4, 5] rfl)
                · have kc47 := jne c47 rfl jz_1
                  refine lv_aload_n hx hb dX12_orders_66 rfl (lv_at hl 2 rfl) ?_
                  refine va_get (D := D) hx hb hts inlX12 hown hK hP 55 (jc_55 cI cL ad σ12 τ) rfl 44 (by decide) (hts _ kw_8_4) (fun _ h9 => h9) rfl dX12_orders_67 ?_
                  refine lv_iload hx hb dX12_orders_70 (lv_at hl 0 rfl) ?_
                  refine jald hx hb hK hP (jc_79 cI cL ad σ12 τ) (jin rfl (by omega) (by omega)) dX12_orders_72 ?_
                  have w49 : ∀ k : Nat, k < 5 → 0 ≤ (σ12 79 k).toInt ∧ (σ12 79 k).toInt ≤ 3 := (jrr_fr (f17 79 (by decide)) w6)
                  have g50 := w49 _ (jnat (x := x33) rfl (n := 5) (by omega) (by decide))
                  refine lv_topi (fun x51 ex51 => ?_)
                  rw [← ex51] at g50
                  refine lv_iload hx hb dX12_orders_73 (lv_at hl 1 rfl) ?_
                  refine lv_icmp_eq (tgt := 84) hx hb dX12_orders_75 (by decide) (fun c52 => ?_) (fun c52 => ?_)
                  · have kc52 := jeq c52 rfl rfl
                    refine lv_iload hx hb dX12_orders_84 (lv_at hl 0 rfl) ?_
                    refine lv_aload_n hx hb dX12_orders_86 rfl (lv_at hl 2 rfl) ?_
                    refine va_get (D := D) hx hb hts inlX12 hown hK hP 55 (jc_55 cI cL ad σ12 τ) rfl 10 (by decide) (hts _ kw_8_15) (fun _ h9 => h9) rfl dX12_orders_87 ?_
                    refine jtopr m40 ?_
                    refine lv_icmp_ge (tgt := 121) hx hb dX12_orders_90 (by decide) (fun c => absurd (jle c rfl rfl) (by omega)) (fun c53 => ?_)
                    have kc53 := jnle c53 rfl rfl
                    refine lv_aload_n hx hb dX12_orders_93 rfl (lv_at hl 2 rfl) ?_
                    refine va_get (D := D) hx hb hts inlX12 hown hK hP 55 (jc_55 cI cL ad σ12 τ) rfl 11 (by decide) (hts _ kw_7_8) (fun _ h9 => h9) rfl dX12_orders_94 ?_
                    refine lv_iload_n hx hb dX12_orders_97 rfl (lv_at hl 3 rfl) ?_
                    refine lv_iload hx hb dX12_orders_98 (lv_at hl 1 rfl) ?_
                    refine jast hx hb hK hP hJ hA hS (jc_62 cI cL ad σ12 τ) (ja_62 cI cL ad σ12 τ _ _) (jin jz_3 (by omega) (by omega)) dX12_orders_100 (fun σ54 H locs eσ54 hP hS => ?_)
                    have eσ54 : σ54 = jup σ12 62 3 x10 := eσ54
                    refine lv_aload_n hx hb dX12_orders_101 rfl (lv_at hl 2 rfl) ?_
                    refine lv_iload_n hx hb dX12_orders_102 rfl (lv_at hl 3 rfl) ?_
                    refine lv_iconst (v := 1) hx hb dX12_orders_103 (by decide) ?_
                    refine lv_iadd hx hb dX12_orders_104 ?_
                    refine jtopr (y := 4) (by decide) ?_
                    refine lv_iload_n hx hb dX12_orders_105 rfl (lv_at hl 4 rfl) ?_
                    refine lv_iconst (v := 1) hx hb dX12_orders_106 (by decide) ?_
                    refine lv_iload hx hb dX12_orders_107 (lv_at hl 0 rfl) ?_
                    refine lv_ishl hx hb dX12_orders_109 ?_
                    refine lv_topi (fun x55 ex55 => ?_)
                    have gx55 := jrg (rfl : x55.toInt = x55.toInt)
                    refine lv_ior hx hb dX12_orders_110 ?_
                    refine lv_topi (fun x56 ex56 => ?_)
                    have gx56 := jrg (rfl : x56.toInt = x56.toInt)
                    refine lv_bipush (v := 10) hx hb dX12_orders_111 (by decide) ?_
                    refine lv_iload_n hx hb dX12_orders_113 rfl (lv_at hl 5 rfl) ?_
                    refine lv_imul hx hb dX12_orders_114 ?_
                    refine lv_topi (fun x57 ex57 => ?_)
                    have gx57 := jrg (rfl : x57.toInt = x57.toInt)
                    refine lv_iload hx hb dX12_orders_115 (lv_at hl 1 rfl) ?_
                    have g58 := jrg (rfl : x57.toInt = x57.toInt)
                    have g59 := jrg (rfl : x10.toInt = x10.toInt)
                    refine lv_iadd hx hb dX12_orders_117 ?_
                    refine lv_topi (fun x60 ex60 => ?_)
                    have gx60 := jrg (rfl : x60.toInt = x60.toInt)
                    have I61 : jI101 σ54 := jI101_fr ((congrFun (jnp 55 eσ54 (by decide)) 4).trans (f18 4 (by decide))) ((congrFun (jnp 55 eσ54 (by decide)) 5).trans (f18 5 (by decide))) ((jnp 56 eσ54 (by decide)).trans (f17 56 (by decide))) ((jnp 57 eσ54 (by decide)).trans (f17 57 (by decide))) ((jnp 58 eσ54 (by decide)).trans (f17 58 (by decide))) ((jnp 59 eσ54 (by decide)).trans (f17 59 (by decide))) hI101
                    have I62 : jI102 σ54 := jI102_fr ((congrFun (jnp 55 eσ54 (by decide)) 6).trans (f18 6 (by decide))) ((jnp 60 eσ54 (by decide)).trans (f17 60 (by decide))) ((jnp 61 eσ54 (by decide)).trans (f17 61 (by decide))) hI102
                    have I63 : jI103 σ54 := jI103_fr ((congrFun (jnp 55 eσ54 (by decide)) 9).trans (f18 9 (by decide))) hI103
                    have z64 : (σ54 55 10).toInt = (σ 55 10).toInt := (congrArg Int32.toInt (show σ54 55 10 = (σ 55 10) from ((congrFun (jnp 55 eσ54 (by decide)) 10).trans m40)))
                    have z65 : (σ54 55 12).toInt = (σ 55 12).toInt := (congrArg Int32.toInt (show σ54 55 12 = (σ 55 12) from ((congrFun (jnp 55 eσ54 (by decide)) 12).trans (f18 12 (by decide)))))
                    have z66 : (σ54 55 13).toInt = (σ 55 13).toInt := (congrArg Int32.toInt (show σ54 55 13 = (σ 55 13) from ((congrFun (jnp 55 eσ54 (by decide)) 13).trans (f18 13 (by decide)))))
                    have w67 : ∀ k : Nat, k < 8 → 0 ≤ (σ54 62 k).toInt ∧ (σ54 62 k).toInt ≤ 3 := (by rw [eσ54]; exact jrr_up w25 (by omega) (by omega))
                    have w68 : ∀ k : Nat, k < 8 → 0 ≤ (σ54 67 k).toInt ∧ (σ54 67 k).toInt ≤ 3 := (jrr_fr (jnp 67 eσ54 (by decide)) w26)
                    have I69 : jI104 σ54 := ⟨(by omega), (by omega), (by omega), w67, w68⟩
                    have I70 : jI105 σ54 := jI105_fr ((congrFun (jnp 55 eσ54 (by decide)) 15).trans (f18 15 (by decide))) ((jnp 65 eσ54 (by decide)).trans (f17 65 (by decide))) hI105
                    have I71 : jI106 σ54 := jI106_fr ((congrFun (jnp 55 eσ54 (by decide)) 32).trans (f18 32 (by decide))) ((jnp 70 eσ54 (by decide)).trans (f17 70 (by decide))) ((jnp 71 eσ54 (by decide)).trans (f17 71 (by decide))) ((jnp 72 eσ54 (by decide)).trans (f17 72 (by decide))) hI106
                    have I72 : jI119 σ54 := jI119_fr (jnp 68 eσ54 (by decide)) p21
                    have I73 : jI111 σ54 := jI111_fr ((jnp 79 eσ54 (by decide)).trans (f17 79 (by decide))) hI111
                    have p74 : jKept σ54 := jKept.fr (jnp 75 eσ54 (by decide)) (jnp 76 eσ54 (by decide)) (jnp 77 eσ54 (by decide)) p19
                    refine jcallVv (As := [.int 4, .int x56, .int x60]) (rest := []) ⟨hx, hb, hml, hown, hts⟩ hK hP hA hS hZ (c_X12_orders_4 l D cI cL ad zz hJ σ54 τ x56 (x56.toInt) rfl x60 (x60.toInt) rfl I61 I62 I63 I69 I70 I71 I72 I73 p74 (by omega) (by omega) (by omega)) cw_RX12_355 (jc_55 cI cL ad σ54 τ) rfl ⟨Nat.le_of_ble_eq_true rfl, Nat.le_of_ble_eq_true rfl⟩ rfl rfl rfl hl.1 rfl (Nat.le_of_ble_eq_true rfl) dX12_orders_118 ⟨Nat.zero_le _, Nat.zero_le _⟩ (fun σ75 τ75 H locs h75 hP hS => ?_)
                    obtain ⟨rfl, f77, f78, I79, I80, p81, h75⟩ := h75
                    obtain ⟨i83, i84, i85, w86, w87⟩ : (1 ≤ (σ75 55 10).toInt ∧ (σ75 55 10).toInt ≤ 8) ∧ (1 ≤ (σ75 55 12).toInt ∧ (σ75 55 12).toInt ≤ 12) ∧ (0 ≤ (σ75 55 13).toInt ∧ (σ75 55 13).toInt ≤ 999) ∧ (∀ k : Nat, k < 8 → 0 ≤ (σ75 62 k).toInt ∧ (σ75 62 k).toInt ≤ 3) ∧ (∀ k : Nat, k < 8 → 0 ≤ (σ75 67 k).toInt ∧ (σ75 67 k).toInt ≤ 3) := id I79
                    have z88 : (σ75 55 10).toInt = (σ 55 10).toInt := (congrArg Int32.toInt (show σ75 55 10 = (σ 55 10) from ((f78 10 (by decide)).trans ((congrFun (jnp 55 eσ54 (by decide)) 10).trans m40))))
                    have z89 : (σ75 55 12).toInt = (σ 55 12).toInt := (congrArg Int32.toInt (show σ75 55 12 = (σ 55 12) from ((f78 12 (by decide)).trans ((congrFun (jnp 55 eσ54 (by decide)) 12).trans (f18 12 (by decide))))))
                    have z90 : (σ75 55 13).toInt = (σ 55 13).toInt := (congrArg Int32.toInt (show σ75 55 13 = (σ 55 13) from ((f78 13 (by decide)).trans ((congrFun (jnp 55 eσ54 (by decide)) 13).trans (f18 13 (by decide))))))
                    obtain ⟨x91, ex91⟩ : ∃ y : Int32, y = x10 + 1 := ⟨_, rfl⟩
                    have tx91 : x91.toInt = x10.toInt + 1 := (jadd ex91 rfl jz_1 (by omega) (by omega)).trans (by omega)
                    refine lv_iinc (v := x91) (lv' := [(4, .int x91), (5, .int x33), (0, .ref (ad 55)), (1, .int 3), (2, .int a2), (3, .int a3)]) hx hb dX12_orders_121 hl (k := 1) rfl (by rw [ex91]; rfl) (by decide) rfl (fun ls hl => ?_)
                    refine lv_goto (tgt := 38) hx hb dX12_orders_124 (by decide) ?_
                    exact ihlp8 x91 σ75 _ _ ls (by have h90 := tx91; omega) (by have h90 := tx91; omega) (by have h90 := tx91; omega) (fun i hi => ((f77 i hi).trans ((jnp i eσ54 (imp_276 i hi)).trans (f17 i hi)))) (fun i hi => ((f78 i hi).trans ((congrFun (jnp 55 eσ54 (by decide)) i).trans (f18 i hi))))  p81 I79 I80 hP hS (lv_sub hl [0, 2, 3, 4, 5] rfl)
                  · have kc52 := jne c52 rfl rfl
                    obtain ⟨x92, ex92⟩ : ∃ y : Int32, y = x33 + 1 := ⟨_, rfl⟩
                    have tx92 : x92.toInt = x33.toInt + 1 := (jadd ex92 rfl jz_1 (by omega) (by omega)).trans (by omega)
                    refine lv_iinc (v := x92) (lv' := [(5, .int x92), (4, .int x10), (0, .ref (ad 55)), (1, .int 3), (2, .int a2), (3, .int a3)]) hx hb dX12_orders_78 hl (k := 0) rfl (by rw [ex92]; rfl) (by decide) rfl (fun ls hl => ?_)
                    refine lv_goto (tgt := 47) hx hb dX12_orders_81 (by decide) ?_
                    exact ihlp31 x92 _ _ ls (by have h90 := tx92; omega) (by have h90 := tx92; omega) (by have h90 := tx92; omega) (by have h90 := tx92; omega)    hP hS (lv_sub hl [0, 1, 2, 3, 4, 5] rfl)
          exact lp31 1000000 0 _ _ ls (by have h90 := jz_0; omega) (by have h90 := jz_0; omega) (by have h90 := jz_0; omega) (by have h90 := jz_0; omega)   hP hS hl
    exact lp8 1000000 0 σ _ _ ls (by have h90 := jz_0; omega) (by have h90 := jz_0; omega) (by have h90 := jz_0; omega) (fun _ _ => rfl) (fun _ _ => rfl)  hs_jKept hI104 hI119 hP hS hl
  · have kc7 := jeq c7 jz_3 rfl
    refine lv_aload_n hx hb dX12_orders_8 rfl (lv_at hl 0 rfl) ?_
    refine jcallV (As := []) (rest := []) ⟨hx, hb, hml, hown, hts⟩ hK hP hA hS hZ (c_X12_bestNow l D cI cL ad zz hJ σ τ hI101 hI102 hI103 hI104 hI105 hI106 hI119 hs_jKept (by omega)) cw_RX12_346 (jc_55 cI cL ad σ τ) rfl ⟨Nat.le_of_ble_eq_true rfl, Nat.le_of_ble_eq_true rfl⟩ rfl rfl rfl hl.1 rfl (Nat.le_of_ble_eq_true rfl) dX12_orders_9 ⟨Nat.zero_le _, Nat.zero_le _⟩ (fun r94 σ93 τ93 H locs h93 hP hS => ?_)
    obtain ⟨rfl, f95, f96, I97, p98, h93⟩ := h93
    refine lv_istore (lv' := [(4, .int r94), (0, .ref (ad 55)), (1, .int 3), (2, .int a2), (3, .int a3)]) hx hb dX12_orders_12 hl (by decide) rfl (fun ls hl => ?_)
    refine lv_iload hx hb dX12_orders_14 (lv_at hl 0 rfl) ?_
    refine lv_aload_n hx hb dX12_orders_16 rfl (lv_at hl 1 rfl) ?_
    refine va_get (D := D) hx hb hts inlX12 hown hK hP 55 (jc_55 cI cL ad σ93 τ) rfl 46 (by decide) (hts _ kw_40_17) (fun _ h9 => h9) rfl dX12_orders_17 ?_
    have m100 : σ93 55 46 = (σ 55 46) := (f96 46 (by decide))
    refine jtopr m100 ?_
    refine lv_icmp_le (tgt := 34) hx hb dX12_orders_20 (by decide) (fun c101 => ?_) (fun c101 => ?_)
    · have kc101 := jle c101 rfl rfl
      have I102 : jI104 σ93 := jI104_fr (f96 10 (by decide)) (f96 12 (by decide)) (f96 13 (by decide)) (f95 62 (by decide)) (f95 67 (by decide)) hI104
      exact hret σ93 τ _ _ _ _ ⟨rfl, (fun i hi => (f95 i (imp_271 i hi))), (fun i hi => (f96 i (imp_272 i hi))), I102, I97, p98, trivial⟩ hP hS dX12_orders_34
    · have kc101 := jnle c101 rfl rfl
      refine lv_aload_n hx hb dX12_orders_23 rfl (lv_at hl 1 rfl) ?_
      refine lv_iload hx hb dX12_orders_24 (lv_at hl 0 rfl) ?_
      refine jput (ty := .int) hx hb hts inlX12 tyX12 tyX12_ok nmX12 hown hK hP hJ hA hS (jc_55 cI cL ad σ93 τ) rfl (k := 46) (by decide) (Nat.le_of_ble_eq_true rfl) (jp_55_46 cI cL ad σ93 τ r94) (hts _ kw_40_17) (fun _ h9 => h9) rfl (by decide +kernel) rfl rfl dX12_orders_26 (fun σ103 H locs eσ103 hP hS => ?_)
      refine lv_aload_n hx hb dX12_orders_29 rfl (lv_at hl 1 rfl) ?_
      refine lv_iload_n hx hb dX12_orders_30 rfl (lv_at hl 4 rfl) ?_
      refine jput (ty := .int) hx hb hts inlX12 tyX12 tyX12_ok nmX12 hown hK hP hJ hA hS (jc_55 cI cL ad σ103 τ) rfl (k := 45) (by decide) (Nat.le_of_ble_eq_true rfl) (jp_55_45 cI cL ad σ103 τ a3) (hts _ kw_40_18) (fun _ h9 => h9) rfl (by decide +kernel) rfl rfl dX12_orders_31 (fun σ104 H locs eσ104 hP hS => ?_)
      have I105 : jI104 σ104 := jI104_fr ((jkp 10 eσ104 (by decide)).trans ((jkp 10 eσ103 (by decide)).trans (f96 10 (by decide)))) ((jkp 12 eσ104 (by decide)).trans ((jkp 12 eσ103 (by decide)).trans (f96 12 (by decide)))) ((jkp 13 eσ104 (by decide)).trans ((jkp 13 eσ103 (by decide)).trans (f96 13 (by decide)))) ((jnp 62 eσ104 (by decide)).trans ((jnp 62 eσ103 (by decide)).trans (f95 62 (by decide)))) ((jnp 67 eσ104 (by decide)).trans ((jnp 67 eσ103 (by decide)).trans (f95 67 (by decide)))) hI104
      have I106 : jI119 σ104 := jI119_fr ((jnp 68 eσ104 (by decide)).trans (jnp 68 eσ103 (by decide))) I97
      have p107 : jKept σ104 := jKept.fr ((jnp 75 eσ104 (by decide)).trans (jnp 75 eσ103 (by decide))) ((jnp 76 eσ104 (by decide)).trans (jnp 76 eσ103 (by decide))) ((jnp 77 eσ104 (by decide)).trans (jnp 77 eσ103 (by decide))) p98
      exact hret σ104 τ _ _ _ _ ⟨rfl, (fun i hi => ((jnp i eσ104 (imp_273 i hi)).trans ((jnp i eσ103 (imp_273 i hi)).trans (f95 i (imp_271 i hi))))), (fun i hi => ((jkp i eσ104 (imp_274 i hi)).trans ((jkp i eσ103 (imp_275 i hi)).trans (f96 i (imp_272 i hi))))), I105, I106, p107, trivial⟩ hP hS dX12_orders_34
set_option maxHeartbeats 4000000 in
set_option maxRecDepth 100000 in
theorem c_X12_orders_2 (l : Launch) (D : va_G) (cI cL : ClassId) (ad zz : Nat → Nat) (hJ : jD ad) (σ : Nat → Nat → Int32) (τ : Nat → Nat → Int64) (a2 : Int32) (A2 : Int) (t2 : a2.toInt = A2) (a3 : Int32) (A3 : Int) (t3 : a3.toInt = A3) (hI101 : jI101 σ) (hI102 : jI102 σ) (hI103 : jI103 σ) (hI104 : jI104 σ) (hI105 : jI105 σ) (hI106 : jI106 σ) (hI119 : jI119 σ) (hI111 : jI111 σ) (hs_jKept : jKept σ) (hp0 : (σ 55 10).toInt ≤ 5) (hp1 : 2 ≤ (σ 55 10).toInt) (hp2 : (σ 55 12).toInt ≤ 8) : jMv l yX12_orders cX12_orders 6 none ({ frames := 107, cells := 0, slots := 0, locals := 5156 }) D cI cL ad zz [.ref (ad 55), .int 2, .int a2, .int a3] σ τ (fun σ' τ' => τ = τ' ∧ (∀ i : Nat, (i < 55 ∨ 55 < i) ∧ (i < 62 ∨ 62 < i) ∧ (i < 66 ∨ 66 < i) ∧ (i < 68 ∨ 69 < i) ∧ (i < 74 ∨ 78 < i) → σ' i = σ i) ∧ (∀ k : Nat, (k < 18 ∨ 18 < k) ∧ (k < 19 ∨ 19 < k) ∧ (k < 20 ∨ 20 < k) ∧ (k < 21 ∨ 21 < k) ∧ (k < 22 ∨ 22 < k) ∧ (k < 25 ∨ 25 < k) ∧ (k < 26 ∨ 26 < k) ∧ (k < 27 ∨ 27 < k) ∧ (k < 37 ∨ 37 < k) ∧ (k < 42 ∨ 42 < k) ∧ (k < 45 ∨ 45 < k) ∧ (k < 46 ∨ 46 < k) → σ' 55 k = σ 55 k) ∧ (jI104 σ') ∧ (jI119 σ') ∧ (jKept σ') ∧ True) := by
  refine jMv.of hJ (by decide +kernel) rfl (Nat.le_of_ble_eq_true rfl) ?_
  intro p e s m args below meth c Q ls hC hret hl hP
  obtain ⟨hx, hb, hr, hml, hown, hts, hK, -, hlocks, hZ⟩ := hC
  have hown : s.vm.findClass RX12 = some m.cls := hown
  have hS : va_S (jA ad) s.heap s.heap [] := va_S.rf
  have hA : ∀ q, jA ad q → jA ad q := fun _ h => h
  have hl : lv_has ls 6 [(0, .ref (ad 55)), (1, .int 2), (2, .int a2), (3, .int a3)] := hl
  have g2 := jrg t2
  have g3 := jrg t3
  obtain ⟨i1, i2, i3, w4, w5⟩ : (1 ≤ (σ 55 10).toInt ∧ (σ 55 10).toInt ≤ 8) ∧ (1 ≤ (σ 55 12).toInt ∧ (σ 55 12).toInt ≤ 12) ∧ (0 ≤ (σ 55 13).toInt ∧ (σ 55 13).toInt ≤ 999) ∧ (∀ k : Nat, k < 8 → 0 ≤ (σ 62 k).toInt ∧ (σ 62 k).toInt ≤ 3) ∧ (∀ k : Nat, k < 8 → 0 ≤ (σ 67 k).toInt ∧ (σ 67 k).toInt ≤ 3) := id hI104
  have w6 : ∀ k : Nat, k < 5 → 0 ≤ (σ 79 k).toInt ∧ (σ 79 k).toInt ≤ 3 := hI111
  refine lv_iload_n hx hb dX12_orders_0 rfl (lv_at hl 1 rfl) ?_
  refine lv_aload_n hx hb dX12_orders_1 rfl (lv_at hl 0 rfl) ?_
  refine va_get (D := D) hx hb hts inlX12 hown hK hP 55 (jc_55 cI cL ad σ τ) rfl 10 (by decide) (hts _ kw_8_15) (fun _ h9 => h9) rfl dX12_orders_2 ?_
  refine lv_icmp_ne (tgt := 35) hx hb dX12_orders_5 (by decide) (fun c7 => ?_) (fun c7 => ?_)
  · have kc7 := jne c7 jz_2 rfl
    refine lv_iconst (v := 0) hx hb dX12_orders_35 (by decide) ?_
    refine lv_istore (lv' := [(4, .int 0), (0, .ref (ad 55)), (1, .int 2), (2, .int a2), (3, .int a3)]) hx hb dX12_orders_36 hl (by decide) rfl (fun ls hl => ?_)
    have lp8 : ∀ (n9 : Nat) (x10 : Int32) (σ12 : Nat → Nat → Int32) (H : Heap) (locs : List Loc) (ls : Array Slot), (-x10.toInt + 4 : Int) < n9 → 0 ≤ x10.toInt → x10.toInt ≤ 4 → (∀ i : Nat, (i < 55 ∨ 55 < i) ∧ (i < 62 ∨ 62 < i) ∧ (i < 66 ∨ 66 < i) ∧ (i < 68 ∨ 69 < i) ∧ (i < 74 ∨ 78 < i) → σ12 i = σ i) → (∀ k : Nat, (k < 18 ∨ 18 < k) ∧ (k < 19 ∨ 19 < k) ∧ (k < 20 ∨ 20 < k) ∧ (k < 21 ∨ 21 < k) ∧ (k < 22 ∨ 22 < k) ∧ (k < 25 ∨ 25 < k) ∧ (k < 26 ∨ 26 < k) ∧ (k < 27 ∨ 27 < k) ∧ (k < 37 ∨ 37 < k) ∧ (k < 42 ∨ 42 < k) ∧ (k < 45 ∨ 45 < k) ∧ (k < 46 ∨ 46 < k) → σ12 55 k = σ 55 k) → jKept σ12 → jI104 σ12 → jI119 σ12 → jH D cI cL ad σ12 τ H → va_S (jA ad) s.heap H locs → lv_has ls 6 [(4, .int x10), (0, .ref (ad 55)), (1, .int 2), (2, .int a2), (3, .int a3)] → W p l e ({ frames := 107, cells := 0, slots := 0, locals := 5156 }) s m args below meth c H locs 0 0 Q (F0 m 38 ls []) := by
      intro n9
      induction n9 with
      | zero => intro x10 σ12 H locs ls h14 h15 h16; exact absurd h14 (by omega)
      | succ n9 ihlp8 =>
        intro x10 σ12 H locs ls h14 h15 h16 f17 f18 p19 p20 p21 hP hS hl
        obtain ⟨i22, i23, i24, w25, w26⟩ : (1 ≤ (σ12 55 10).toInt ∧ (σ12 55 10).toInt ≤ 8) ∧ (1 ≤ (σ12 55 12).toInt ∧ (σ12 55 12).toInt ≤ 12) ∧ (0 ≤ (σ12 55 13).toInt ∧ (σ12 55 13).toInt ≤ 999) ∧ (∀ k : Nat, k < 8 → 0 ≤ (σ12 62 k).toInt ∧ (σ12 62 k).toInt ≤ 3) ∧ (∀ k : Nat, k < 8 → 0 ≤ (σ12 67 k).toInt ∧ (σ12 67 k).toInt ≤ 3) := id p20
        have z27 : (σ12 55 10).toInt = (σ 55 10).toInt := (congrArg Int32.toInt (show σ12 55 10 = (σ 55 10) from (f18 10 (by decide))))
        have z28 : (σ12 55 12).toInt = (σ 55 12).toInt := (congrArg Int32.toInt (show σ12 55 12 = (σ 55 12) from (f18 12 (by decide))))
        have z29 : (σ12 55 13).toInt = (σ 55 13).toInt := (congrArg Int32.toInt (show σ12 55 13 = (σ 55 13) from (f18 13 (by decide))))
        refine lv_iload hx hb dX12_orders_38 (lv_at hl 0 rfl) ?_
        refine lv_iconst (v := 4) hx hb dX12_orders_40 (by decide) ?_
        refine lv_icmp_ge (tgt := 127) hx hb dX12_orders_41 (by decide) (fun c30 => ?_) (fun c30 => ?_)
        · have kc30 := jle c30 jz_4 rfl
          exact hret σ12 τ _ _ _ _ ⟨rfl, (fun i hi => (f17 i hi)), (fun i hi => (f18 i hi)), p20, p21, p19, trivial⟩ hP hS dX12_orders_127
        · have kc30 := jnle c30 jz_4 rfl
          refine lv_iconst (v := 0) hx hb dX12_orders_44 (by decide) ?_
          refine lv_istore (lv' := [(5, .int 0), (4, .int x10), (0, .ref (ad 55)), (1, .int 2), (2, .int a2), (3, .int a3)]) hx hb dX12_orders_45 hl (by decide) rfl (fun ls hl => ?_)
          have lp31 : ∀ (n32 : Nat) (x33 : Int32) (H : Heap) (locs : List Loc) (ls : Array Slot), ((σ12 55 10).toInt - x33.toInt : Int) < n32 → 0 ≤ x33.toInt → x33.toInt ≤ 5 → x33.toInt ≤ (σ12 55 10).toInt → jH D cI cL ad σ12 τ H → va_S (jA ad) s.heap H locs → lv_has ls 6 [(5, .int x33), (4, .int x10), (0, .ref (ad 55)), (1, .int 2), (2, .int a2), (3, .int a3)] → W p l e ({ frames := 107, cells := 0, slots := 0, locals := 5156 }) s m args below meth c H locs 0 0 Q (F0 m 47 ls []) := by
            intro n32
            induction n32 with
            | zero => intro x33 H locs ls h35 h36 h37 h38; exact absurd h35 (by omega)
            | succ n32 ihlp31 =>
              intro x33 H locs ls h35 h36 h37 h38 hP hS hl
              refine lv_iload hx hb dX12_orders_47 (lv_at hl 0 rfl) ?_
              refine lv_aload_n hx hb dX12_orders_49 rfl (lv_at hl 2 rfl) ?_
              refine va_get (D := D) hx hb hts inlX12 hown hK hP 55 (jc_55 cI cL ad σ12 τ) rfl 10 (by decide) (hts _ kw_8_15) (fun _ h9 => h9) rfl dX12_orders_50 ?_
              have m40 : σ12 55 10 = (σ 55 10) := (f18 10 (by decide))
              refine jtopr m40 ?_
              refine lv_icmp_ge (tgt := 84) hx hb dX12_orders_53 (by decide) (fun c41 => ?_) (fun c41 => ?_)
              · have kc41 := jle c41 rfl rfl
                refine lv_iload hx hb dX12_orders_84 (lv_at hl 0 rfl) ?_
                refine lv_aload_n hx hb dX12_orders_86 rfl (lv_at hl 2 rfl) ?_
                refine va_get (D := D) hx hb hts inlX12 hown hK hP 55 (jc_55 cI cL ad σ12 τ) rfl 10 (by decide) (hts _ kw_8_15) (fun _ h9 => h9) rfl dX12_orders_87 ?_
                refine jtopr m40 ?_
                refine lv_icmp_ge (tgt := 121) hx hb dX12_orders_90 (by decide) (fun c42 => ?_) (fun c => absurd (jnle c rfl rfl) (by omega))
                have kc42 := jle c42 rfl rfl
                obtain ⟨x43, ex43⟩ : ∃ y : Int32, y = x10 + 1 := ⟨_, rfl⟩
                have tx43 : x43.toInt = x10.toInt + 1 := (jadd ex43 rfl jz_1 (by omega) (by omega)).trans (by omega)
                refine lv_iinc (v := x43) (lv' := [(4, .int x43), (5, .int x33), (0, .ref (ad 55)), (1, .int 2), (2, .int a2), (3, .int a3)]) hx hb dX12_orders_121 hl (k := 1) rfl (by rw [ex43]; rfl) (by decide) rfl (fun ls hl => ?_)
                refine lv_goto (tgt := 38) hx hb dX12_orders_124 (by decide) ?_
                exact ihlp8 x43 σ12 _ _ ls (by have h90 := tx43; omega) (by have h90 := tx43; omega) (by have h90 := tx43; omega) (fun i hi => (f17 i hi)) (fun i hi => (f18 i hi))  p19 p20 p21 hP hS (lv_sub hl [0, 2, 3, 4, 5] rfl)
              · have kc41 := jnle c41 rfl rfl
                refine lv_iload_n hx hb dX12_orders_56 rfl (lv_at hl 4 rfl) ?_
                refine lv_iload hx hb dX12_orders_57 (lv_at hl 0 rfl) ?_
                refine lv_ishr hx hb dX12_orders_59 ?_
                refine lv_topi (fun x44 ex44 => ?_)
                have gx44 := jrg (rfl : x44.toInt = x44.toInt)
                refine lv_iconst (v := 1) hx hb dX12_orders_60 (by decide) ?_
                refine lv_iand hx hb dX12_orders_61 ?_
                refine lv_topi (fun x45 ex45 => ?_)
                have gx45 := jrg (rfl : x45.toInt = x45.toInt)
                have g46 : 0 ≤ x45.toInt ∧ x45.toInt ≤ 1 := jmask ex45 1 (by decide) (by decide)
                refine lv_iconst (v := 1) hx hb dX12_orders_62 (by decide) ?_
                refine lv_icmp_eq (tgt := 78) hx hb dX12_orders_63 (by decide) (fun c47 => ?_) (fun c47 => ?_)
                · have kc47 := jeq c47 rfl jz_1
                  obtain ⟨x48, ex48⟩ : ∃ y : Int32, y = x33 + 1 := ⟨_, rfl⟩
                  have tx48 : x48.toInt = x33.toInt + 1 := (jadd ex48 rfl jz_1 (by omega) (by omega)).trans (by omega)
                  refine lv_iinc (v := x48) (lv' := [(5, .int x48), (4, .int x10), (0, .ref (ad 55)), (1, .int 2), (2, .int a2), (3, .int a3)]) hx hb dX12_orders_78 hl (k := 0) rfl (by rw [ex48]; rfl) (by decide) rfl (fun ls hl => ?_)
                  refine lv_goto (tgt := 47) hx hb dX12_orders_81 (by decide) ?_
                  exact ihlp31 x48 _ _ ls (by have h90 := tx48; omega) (by have h90 := tx48; omega) (by have h90 := tx48; omega) (by have h90 := tx48; omega)    hP hS (lv_sub hl [0, 1, 2, 3, 4, 5] rfl)
                · have kc47 := jne c47 rfl jz_1
                  refine lv_aload_n hx hb dX12_orders_66 rfl (lv_at hl 2 rfl) ?_
                  refine va_get (D := D) hx hb hts inlX12 hown hK hP 55 (jc_55 cI cL ad σ12 τ) rfl 44 (by decide) (hts _ kw_8_4) (fun _ h9 => h9) rfl dX12_orders_67 ?_
                  refine lv_iload hx hb dX12_orders_70 (lv_at hl 0 rfl) ?_
                  refine jald hx hb hK hP (jc_79 cI cL ad σ12 τ) (jin rfl (by omega) (by omega)) dX12_orders_72 ?_
                  have w49 : ∀ k : Nat, k < 5 → 0 ≤ (σ12 79 k).toInt ∧ (σ12 79 k).toInt ≤ 3 := (jrr_fr (f17 79 (by decide)) w6)
                  have g50 := w49 _ (jnat (x := x33) rfl (n := 5) (by omega) (by decide))
                  refine lv_topi (fun x51 ex51 => ?_)
                  rw [← ex51] at g50
                  refine lv_iload hx hb dX12_orders_73 (lv_at hl 1 rfl) ?_
                  refine lv_icmp_eq (tgt := 84) hx hb dX12_orders_75 (by decide) (fun c52 => ?_) (fun c52 => ?_)
                  · have kc52 := jeq c52 rfl rfl
                    refine lv_iload hx hb dX12_orders_84 (lv_at hl 0 rfl) ?_
                    refine lv_aload_n hx hb dX12_orders_86 rfl (lv_at hl 2 rfl) ?_
                    refine va_get (D := D) hx hb hts inlX12 hown hK hP 55 (jc_55 cI cL ad σ12 τ) rfl 10 (by decide) (hts _ kw_8_15) (fun _ h9 => h9) rfl dX12_orders_87 ?_
                    refine jtopr m40 ?_
                    refine lv_icmp_ge (tgt := 121) hx hb dX12_orders_90 (by decide) (fun c => absurd (jle c rfl rfl) (by omega)) (fun c53 => ?_)
                    have kc53 := jnle c53 rfl rfl
                    refine lv_aload_n hx hb dX12_orders_93 rfl (lv_at hl 2 rfl) ?_
                    refine va_get (D := D) hx hb hts inlX12 hown hK hP 55 (jc_55 cI cL ad σ12 τ) rfl 11 (by decide) (hts _ kw_7_8) (fun _ h9 => h9) rfl dX12_orders_94 ?_
                    refine lv_iload_n hx hb dX12_orders_97 rfl (lv_at hl 3 rfl) ?_
                    refine lv_iload hx hb dX12_orders_98 (lv_at hl 1 rfl) ?_
                    refine jast hx hb hK hP hJ hA hS (jc_62 cI cL ad σ12 τ) (ja_62 cI cL ad σ12 τ _ _) (jin jz_2 (by omega) (by omega)) dX12_orders_100 (fun σ54 H locs eσ54 hP hS => ?_)
                    have eσ54 : σ54 = jup σ12 62 2 x10 := eσ54
                    refine lv_aload_n hx hb dX12_orders_101 rfl (lv_at hl 2 rfl) ?_
                    refine lv_iload_n hx hb dX12_orders_102 rfl (lv_at hl 3 rfl) ?_
                    refine lv_iconst (v := 1) hx hb dX12_orders_103 (by decide) ?_
                    refine lv_iadd hx hb dX12_orders_104 ?_
                    refine jtopr (y := 3) (by decide) ?_
                    refine lv_iload_n hx hb dX12_orders_105 rfl (lv_at hl 4 rfl) ?_
                    refine lv_iconst (v := 1) hx hb dX12_orders_106 (by decide) ?_
                    refine lv_iload hx hb dX12_orders_107 (lv_at hl 0 rfl) ?_
                    refine lv_ishl hx hb dX12_orders_109 ?_
                    refine lv_topi (fun x55 ex55 => ?_)
                    have gx55 := jrg (rfl : x55.toInt = x55.toInt)
                    refine lv_ior hx hb dX12_orders_110 ?_
                    refine lv_topi (fun x56 ex56 => ?_)
                    have gx56 := jrg (rfl : x56.toInt = x56.toInt)
                    refine lv_bipush (v := 10) hx hb dX12_orders_111 (by decide) ?_
                    refine lv_iload_n hx hb dX12_orders_113 rfl (lv_at hl 5 rfl) ?_
                    refine lv_imul hx hb dX12_orders_114 ?_
                    refine lv_topi (fun x57 ex57 => ?_)
                    have gx57 := jrg (rfl : x57.toInt = x57.toInt)
                    refine lv_iload hx hb dX12_orders_115 (lv_at hl 1 rfl) ?_
                    have g58 := jrg (rfl : x57.toInt = x57.toInt)
                    have g59 := jrg (rfl : x10.toInt = x10.toInt)
                    refine lv_iadd hx hb dX12_orders_117 ?_
                    refine lv_topi (fun x60 ex60 => ?_)
                    have gx60 := jrg (rfl : x60.toInt = x60.toInt)
                    have I61 : jI101 σ54 := jI101_fr ((congrFun (jnp 55 eσ54 (by decide)) 4).trans (f18 4 (by decide))) ((congrFun (jnp 55 eσ54 (by decide)) 5).trans (f18 5 (by decide))) ((jnp 56 eσ54 (by decide)).trans (f17 56 (by decide))) ((jnp 57 eσ54 (by decide)).trans (f17 57 (by decide))) ((jnp 58 eσ54 (by decide)).trans (f17 58 (by decide))) ((jnp 59 eσ54 (by decide)).trans (f17 59 (by decide))) hI101
                    have I62 : jI102 σ54 := jI102_fr ((congrFun (jnp 55 eσ54 (by decide)) 6).trans (f18 6 (by decide))) ((jnp 60 eσ54 (by decide)).trans (f17 60 (by decide))) ((jnp 61 eσ54 (by decide)).trans (f17 61 (by decide))) hI102
                    have I63 : jI103 σ54 := jI103_fr ((congrFun (jnp 55 eσ54 (by decide)) 9).trans (f18 9 (by decide))) hI103
                    have z64 : (σ54 55 10).toInt = (σ 55 10).toInt := (congrArg Int32.toInt (show σ54 55 10 = (σ 55 10) from ((congrFun (jnp 55 eσ54 (by decide)) 10).trans m40)))
                    have z65 : (σ54 55 12).toInt = (σ 55 12).toInt := (congrArg Int32.toInt (show σ54 55 12 = (σ 55 12) from ((congrFun (jnp 55 eσ54 (by decide)) 12).trans (f18 12 (by decide)))))
                    have z66 : (σ54 55 13).toInt = (σ 55 13).toInt := (congrArg Int32.toInt (show σ54 55 13 = (σ 55 13) from ((congrFun (jnp 55 eσ54 (by decide)) 13).trans (f18 13 (by decide)))))
                    have w67 : ∀ k : Nat, k < 8 → 0 ≤ (σ54 62 k).toInt ∧ (σ54 62 k).toInt ≤ 3 := (by rw [eσ54]; exact jrr_up w25 (by omega) (by omega))
                    have w68 : ∀ k : Nat, k < 8 → 0 ≤ (σ54 67 k).toInt ∧ (σ54 67 k).toInt ≤ 3 := (jrr_fr (jnp 67 eσ54 (by decide)) w26)
                    have I69 : jI104 σ54 := ⟨(by omega), (by omega), (by omega), w67, w68⟩
                    have I70 : jI105 σ54 := jI105_fr ((congrFun (jnp 55 eσ54 (by decide)) 15).trans (f18 15 (by decide))) ((jnp 65 eσ54 (by decide)).trans (f17 65 (by decide))) hI105
                    have I71 : jI106 σ54 := jI106_fr ((congrFun (jnp 55 eσ54 (by decide)) 32).trans (f18 32 (by decide))) ((jnp 70 eσ54 (by decide)).trans (f17 70 (by decide))) ((jnp 71 eσ54 (by decide)).trans (f17 71 (by decide))) ((jnp 72 eσ54 (by decide)).trans (f17 72 (by decide))) hI106
                    have I72 : jI119 σ54 := jI119_fr (jnp 68 eσ54 (by decide)) p21
                    have I73 : jI111 σ54 := jI111_fr ((jnp 79 eσ54 (by decide)).trans (f17 79 (by decide))) hI111
                    have p74 : jKept σ54 := jKept.fr (jnp 75 eσ54 (by decide)) (jnp 76 eσ54 (by decide)) (jnp 77 eσ54 (by decide)) p19
                    refine jcallVv (As := [.int 3, .int x56, .int x60]) (rest := []) ⟨hx, hb, hml, hown, hts⟩ hK hP hA hS hZ (c_X12_orders_3 l D cI cL ad zz hJ σ54 τ x56 (x56.toInt) rfl x60 (x60.toInt) rfl I61 I62 I63 I69 I70 I71 I72 I73 p74 (by omega) (by omega) (by omega)) cw_RX12_355 (jc_55 cI cL ad σ54 τ) rfl ⟨Nat.le_of_ble_eq_true rfl, Nat.le_of_ble_eq_true rfl⟩ rfl rfl rfl hl.1 rfl (Nat.le_of_ble_eq_true rfl) dX12_orders_118 ⟨Nat.zero_le _, Nat.zero_le _⟩ (fun σ75 τ75 H locs h75 hP hS => ?_)
                    obtain ⟨rfl, f77, f78, I79, I80, p81, h75⟩ := h75
                    obtain ⟨i83, i84, i85, w86, w87⟩ : (1 ≤ (σ75 55 10).toInt ∧ (σ75 55 10).toInt ≤ 8) ∧ (1 ≤ (σ75 55 12).toInt ∧ (σ75 55 12).toInt ≤ 12) ∧ (0 ≤ (σ75 55 13).toInt ∧ (σ75 55 13).toInt ≤ 999) ∧ (∀ k : Nat, k < 8 → 0 ≤ (σ75 62 k).toInt ∧ (σ75 62 k).toInt ≤ 3) ∧ (∀ k : Nat, k < 8 → 0 ≤ (σ75 67 k).toInt ∧ (σ75 67 k).toInt ≤ 3) := id I79
                    have z88 : (σ75 55 10).toInt = (σ 55 10).toInt := (congrArg Int32.toInt (show σ75 55 10 = (σ 55 10) from ((f78 10 (by decide)).trans ((congrFun (jnp 55 eσ54 (by decide)) 10).trans m40))))
                    have z89 : (σ75 55 12).toInt = (σ 55 12).toInt := (congrArg Int32.toInt (show σ75 55 12 = (σ 55 12) from ((f78 12 (by decide)).trans ((congrFun (jnp 55 eσ54 (by decide)) 12).trans (f18 12 (by decide))))))
                    have z90 : (σ75 55 13).toInt = (σ 55 13).toInt := (congrArg Int32.toInt (show σ75 55 13 = (σ 55 13) from ((f78 13 (by decide)).trans ((congrFun (jnp 55 eσ54 (by decide)) 13).trans (f18 13 (by decide))))))
                    obtain ⟨x91, ex91⟩ : ∃ y : Int32, y = x10 + 1 := ⟨_, rfl⟩
                    have tx91 : x91.toInt = x10.toInt + 1 := (jadd ex91 rfl jz_1 (by omega) (by omega)).trans (by omega)
                    refine lv_iinc (v := x91) (lv' := [(4, .int x91), (5, .int x33), (0, .ref (ad 55)), (1, .int 2), (2, .int a2), (3, .int a3)]) hx hb dX12_orders_121 hl (k := 1) rfl (by rw [ex91]; rfl) (by decide) rfl (fun ls hl => ?_)
                    refine lv_goto (tgt := 38) hx hb dX12_orders_124 (by decide) ?_
                    exact ihlp8 x91 σ75 _ _ ls (by have h90 := tx91; omega) (by have h90 := tx91; omega) (by have h90 := tx91; omega) (fun i hi => ((f77 i hi).trans ((jnp i eσ54 (imp_276 i hi)).trans (f17 i hi)))) (fun i hi => ((f78 i hi).trans ((congrFun (jnp 55 eσ54 (by decide)) i).trans (f18 i hi))))  p81 I79 I80 hP hS (lv_sub hl [0, 2, 3, 4, 5] rfl)
                  · have kc52 := jne c52 rfl rfl
                    obtain ⟨x92, ex92⟩ : ∃ y : Int32, y = x33 + 1 := ⟨_, rfl⟩
                    have tx92 : x92.toInt = x33.toInt + 1 := (jadd ex92 rfl jz_1 (by omega) (by omega)).trans (by omega)
                    refine lv_iinc (v := x92) (lv' := [(5, .int x92), (4, .int x10), (0, .ref (ad 55)), (1, .int 2), (2, .int a2), (3, .int a3)]) hx hb dX12_orders_78 hl (k := 0) rfl (by rw [ex92]; rfl) (by decide) rfl (fun ls hl => ?_)
                    refine lv_goto (tgt := 47) hx hb dX12_orders_81 (by decide) ?_
                    exact ihlp31 x92 _ _ ls (by have h90 := tx92; omega) (by have h90 := tx92; omega) (by have h90 := tx92; omega) (by have h90 := tx92; omega)    hP hS (lv_sub hl [0, 1, 2, 3, 4, 5] rfl)
          exact lp31 1000000 0 _ _ ls (by have h90 := jz_0; omega) (by have h90 := jz_0; omega) (by have h90 := jz_0; omega) (by have h90 := jz_0; omega)   hP hS hl
    exact lp8 1000000 0 σ _ _ ls (by have h90 := jz_0; omega) (by have h90 := jz_0; omega) (by have h90 := jz_0; omega) (fun _ _ => rfl) (fun _ _ => rfl)  hs_jKept hI104 hI119 hP hS hl
  · have kc7 := jeq c7 jz_2 rfl
    refine lv_aload_n hx hb dX12_orders_8 rfl (lv_at hl 0 rfl) ?_
    refine jcallV (As := []) (rest := []) ⟨hx, hb, hml, hown, hts⟩ hK hP hA hS hZ (c_X12_bestNow l D cI cL ad zz hJ σ τ hI101 hI102 hI103 hI104 hI105 hI106 hI119 hs_jKept (by omega)) cw_RX12_346 (jc_55 cI cL ad σ τ) rfl ⟨Nat.le_of_ble_eq_true rfl, Nat.le_of_ble_eq_true rfl⟩ rfl rfl rfl hl.1 rfl (Nat.le_of_ble_eq_true rfl) dX12_orders_9 ⟨Nat.zero_le _, Nat.zero_le _⟩ (fun r94 σ93 τ93 H locs h93 hP hS => ?_)
    obtain ⟨rfl, f95, f96, I97, p98, h93⟩ := h93
    refine lv_istore (lv' := [(4, .int r94), (0, .ref (ad 55)), (1, .int 2), (2, .int a2), (3, .int a3)]) hx hb dX12_orders_12 hl (by decide) rfl (fun ls hl => ?_)
    refine lv_iload hx hb dX12_orders_14 (lv_at hl 0 rfl) ?_
    refine lv_aload_n hx hb dX12_orders_16 rfl (lv_at hl 1 rfl) ?_
    refine va_get (D := D) hx hb hts inlX12 hown hK hP 55 (jc_55 cI cL ad σ93 τ) rfl 46 (by decide) (hts _ kw_40_17) (fun _ h9 => h9) rfl dX12_orders_17 ?_
    have m100 : σ93 55 46 = (σ 55 46) := (f96 46 (by decide))
    refine jtopr m100 ?_
    refine lv_icmp_le (tgt := 34) hx hb dX12_orders_20 (by decide) (fun c101 => ?_) (fun c101 => ?_)
    · have kc101 := jle c101 rfl rfl
      have I102 : jI104 σ93 := jI104_fr (f96 10 (by decide)) (f96 12 (by decide)) (f96 13 (by decide)) (f95 62 (by decide)) (f95 67 (by decide)) hI104
      exact hret σ93 τ _ _ _ _ ⟨rfl, (fun i hi => (f95 i (imp_271 i hi))), (fun i hi => (f96 i (imp_272 i hi))), I102, I97, p98, trivial⟩ hP hS dX12_orders_34
    · have kc101 := jnle c101 rfl rfl
      refine lv_aload_n hx hb dX12_orders_23 rfl (lv_at hl 1 rfl) ?_
      refine lv_iload hx hb dX12_orders_24 (lv_at hl 0 rfl) ?_
      refine jput (ty := .int) hx hb hts inlX12 tyX12 tyX12_ok nmX12 hown hK hP hJ hA hS (jc_55 cI cL ad σ93 τ) rfl (k := 46) (by decide) (Nat.le_of_ble_eq_true rfl) (jp_55_46 cI cL ad σ93 τ r94) (hts _ kw_40_17) (fun _ h9 => h9) rfl (by decide +kernel) rfl rfl dX12_orders_26 (fun σ103 H locs eσ103 hP hS => ?_)
      refine lv_aload_n hx hb dX12_orders_29 rfl (lv_at hl 1 rfl) ?_
      refine lv_iload_n hx hb dX12_orders_30 rfl (lv_at hl 4 rfl) ?_
      refine jput (ty := .int) hx hb hts inlX12 tyX12 tyX12_ok nmX12 hown hK hP hJ hA hS (jc_55 cI cL ad σ103 τ) rfl (k := 45) (by decide) (Nat.le_of_ble_eq_true rfl) (jp_55_45 cI cL ad σ103 τ a3) (hts _ kw_40_18) (fun _ h9 => h9) rfl (by decide +kernel) rfl rfl dX12_orders_31 (fun σ104 H locs eσ104 hP hS => ?_)
      have I105 : jI104 σ104 := jI104_fr ((jkp 10 eσ104 (by decide)).trans ((jkp 10 eσ103 (by decide)).trans (f96 10 (by decide)))) ((jkp 12 eσ104 (by decide)).trans ((jkp 12 eσ103 (by decide)).trans (f96 12 (by decide)))) ((jkp 13 eσ104 (by decide)).trans ((jkp 13 eσ103 (by decide)).trans (f96 13 (by decide)))) ((jnp 62 eσ104 (by decide)).trans ((jnp 62 eσ103 (by decide)).trans (f95 62 (by decide)))) ((jnp 67 eσ104 (by decide)).trans ((jnp 67 eσ103 (by decide)).trans (f95 67 (by decide)))) hI104
      have I106 : jI119 σ104 := jI119_fr ((jnp 68 eσ104 (by decide)).trans (jnp 68 eσ103 (by decide))) I97
      have p107 : jKept σ104 := jKept.fr ((jnp 75 eσ104 (by decide)).trans (jnp 75 eσ103 (by decide))) ((jnp 76 eσ104 (by decide)).trans (jnp 76 eσ103 (by decide))) ((jnp 77 eσ104 (by decide)).trans (jnp 77 eσ103 (by decide))) p98
      exact hret σ104 τ _ _ _ _ ⟨rfl, (fun i hi => ((jnp i eσ104 (imp_273 i hi)).trans ((jnp i eσ103 (imp_273 i hi)).trans (f95 i (imp_271 i hi))))), (fun i hi => ((jkp i eσ104 (imp_274 i hi)).trans ((jkp i eσ103 (imp_275 i hi)).trans (f96 i (imp_272 i hi))))), I105, I106, p107, trivial⟩ hP hS dX12_orders_34
set_option maxHeartbeats 4000000 in
set_option maxRecDepth 100000 in
theorem c_X12_orders_1 (l : Launch) (D : va_G) (cI cL : ClassId) (ad zz : Nat → Nat) (hJ : jD ad) (σ : Nat → Nat → Int32) (τ : Nat → Nat → Int64) (a2 : Int32) (A2 : Int) (t2 : a2.toInt = A2) (a3 : Int32) (A3 : Int) (t3 : a3.toInt = A3) (hI101 : jI101 σ) (hI102 : jI102 σ) (hI103 : jI103 σ) (hI104 : jI104 σ) (hI105 : jI105 σ) (hI106 : jI106 σ) (hI119 : jI119 σ) (hI111 : jI111 σ) (hs_jKept : jKept σ) (hp0 : (σ 55 10).toInt ≤ 5) (hp1 : 1 ≤ (σ 55 10).toInt) (hp2 : (σ 55 12).toInt ≤ 8) : jMv l yX12_orders cX12_orders 6 none ({ frames := 108, cells := 0, slots := 0, locals := 5181 }) D cI cL ad zz [.ref (ad 55), .int 1, .int a2, .int a3] σ τ (fun σ' τ' => τ = τ' ∧ (∀ i : Nat, (i < 55 ∨ 55 < i) ∧ (i < 62 ∨ 62 < i) ∧ (i < 66 ∨ 66 < i) ∧ (i < 68 ∨ 69 < i) ∧ (i < 74 ∨ 78 < i) → σ' i = σ i) ∧ (∀ k : Nat, (k < 18 ∨ 18 < k) ∧ (k < 19 ∨ 19 < k) ∧ (k < 20 ∨ 20 < k) ∧ (k < 21 ∨ 21 < k) ∧ (k < 22 ∨ 22 < k) ∧ (k < 25 ∨ 25 < k) ∧ (k < 26 ∨ 26 < k) ∧ (k < 27 ∨ 27 < k) ∧ (k < 37 ∨ 37 < k) ∧ (k < 42 ∨ 42 < k) ∧ (k < 45 ∨ 45 < k) ∧ (k < 46 ∨ 46 < k) → σ' 55 k = σ 55 k) ∧ (jI104 σ') ∧ (jI119 σ') ∧ (jKept σ') ∧ True) := by
  refine jMv.of hJ (by decide +kernel) rfl (Nat.le_of_ble_eq_true rfl) ?_
  intro p e s m args below meth c Q ls hC hret hl hP
  obtain ⟨hx, hb, hr, hml, hown, hts, hK, -, hlocks, hZ⟩ := hC
  have hown : s.vm.findClass RX12 = some m.cls := hown
  have hS : va_S (jA ad) s.heap s.heap [] := va_S.rf
  have hA : ∀ q, jA ad q → jA ad q := fun _ h => h
  have hl : lv_has ls 6 [(0, .ref (ad 55)), (1, .int 1), (2, .int a2), (3, .int a3)] := hl
  have g2 := jrg t2
  have g3 := jrg t3
  obtain ⟨i1, i2, i3, w4, w5⟩ : (1 ≤ (σ 55 10).toInt ∧ (σ 55 10).toInt ≤ 8) ∧ (1 ≤ (σ 55 12).toInt ∧ (σ 55 12).toInt ≤ 12) ∧ (0 ≤ (σ 55 13).toInt ∧ (σ 55 13).toInt ≤ 999) ∧ (∀ k : Nat, k < 8 → 0 ≤ (σ 62 k).toInt ∧ (σ 62 k).toInt ≤ 3) ∧ (∀ k : Nat, k < 8 → 0 ≤ (σ 67 k).toInt ∧ (σ 67 k).toInt ≤ 3) := id hI104
  have w6 : ∀ k : Nat, k < 5 → 0 ≤ (σ 79 k).toInt ∧ (σ 79 k).toInt ≤ 3 := hI111
  refine lv_iload_n hx hb dX12_orders_0 rfl (lv_at hl 1 rfl) ?_
  refine lv_aload_n hx hb dX12_orders_1 rfl (lv_at hl 0 rfl) ?_
  refine va_get (D := D) hx hb hts inlX12 hown hK hP 55 (jc_55 cI cL ad σ τ) rfl 10 (by decide) (hts _ kw_8_15) (fun _ h9 => h9) rfl dX12_orders_2 ?_
  refine lv_icmp_ne (tgt := 35) hx hb dX12_orders_5 (by decide) (fun c7 => ?_) (fun c7 => ?_)
  · have kc7 := jne c7 jz_1 rfl
    refine lv_iconst (v := 0) hx hb dX12_orders_35 (by decide) ?_
    refine lv_istore (lv' := [(4, .int 0), (0, .ref (ad 55)), (1, .int 1), (2, .int a2), (3, .int a3)]) hx hb dX12_orders_36 hl (by decide) rfl (fun ls hl => ?_)
    have lp8 : ∀ (n9 : Nat) (x10 : Int32) (σ12 : Nat → Nat → Int32) (H : Heap) (locs : List Loc) (ls : Array Slot), (-x10.toInt + 4 : Int) < n9 → 0 ≤ x10.toInt → x10.toInt ≤ 4 → (∀ i : Nat, (i < 55 ∨ 55 < i) ∧ (i < 62 ∨ 62 < i) ∧ (i < 66 ∨ 66 < i) ∧ (i < 68 ∨ 69 < i) ∧ (i < 74 ∨ 78 < i) → σ12 i = σ i) → (∀ k : Nat, (k < 18 ∨ 18 < k) ∧ (k < 19 ∨ 19 < k) ∧ (k < 20 ∨ 20 < k) ∧ (k < 21 ∨ 21 < k) ∧ (k < 22 ∨ 22 < k) ∧ (k < 25 ∨ 25 < k) ∧ (k < 26 ∨ 26 < k) ∧ (k < 27 ∨ 27 < k) ∧ (k < 37 ∨ 37 < k) ∧ (k < 42 ∨ 42 < k) ∧ (k < 45 ∨ 45 < k) ∧ (k < 46 ∨ 46 < k) → σ12 55 k = σ 55 k) → jKept σ12 → jI104 σ12 → jI119 σ12 → jH D cI cL ad σ12 τ H → va_S (jA ad) s.heap H locs → lv_has ls 6 [(4, .int x10), (0, .ref (ad 55)), (1, .int 1), (2, .int a2), (3, .int a3)] → W p l e ({ frames := 108, cells := 0, slots := 0, locals := 5181 }) s m args below meth c H locs 0 0 Q (F0 m 38 ls []) := by
      intro n9
      induction n9 with
      | zero => intro x10 σ12 H locs ls h14 h15 h16; exact absurd h14 (by omega)
      | succ n9 ihlp8 =>
        intro x10 σ12 H locs ls h14 h15 h16 f17 f18 p19 p20 p21 hP hS hl
        obtain ⟨i22, i23, i24, w25, w26⟩ : (1 ≤ (σ12 55 10).toInt ∧ (σ12 55 10).toInt ≤ 8) ∧ (1 ≤ (σ12 55 12).toInt ∧ (σ12 55 12).toInt ≤ 12) ∧ (0 ≤ (σ12 55 13).toInt ∧ (σ12 55 13).toInt ≤ 999) ∧ (∀ k : Nat, k < 8 → 0 ≤ (σ12 62 k).toInt ∧ (σ12 62 k).toInt ≤ 3) ∧ (∀ k : Nat, k < 8 → 0 ≤ (σ12 67 k).toInt ∧ (σ12 67 k).toInt ≤ 3) := id p20
        have z27 : (σ12 55 10).toInt = (σ 55 10).toInt := (congrArg Int32.toInt (show σ12 55 10 = (σ 55 10) from (f18 10 (by decide))))
        have z28 : (σ12 55 12).toInt = (σ 55 12).toInt := (congrArg Int32.toInt (show σ12 55 12 = (σ 55 12) from (f18 12 (by decide))))
        have z29 : (σ12 55 13).toInt = (σ 55 13).toInt := (congrArg Int32.toInt (show σ12 55 13 = (σ 55 13) from (f18 13 (by decide))))
        refine lv_iload hx hb dX12_orders_38 (lv_at hl 0 rfl) ?_
        refine lv_iconst (v := 4) hx hb dX12_orders_40 (by decide) ?_
        refine lv_icmp_ge (tgt := 127) hx hb dX12_orders_41 (by decide) (fun c30 => ?_) (fun c30 => ?_)
        · have kc30 := jle c30 jz_4 rfl
          exact hret σ12 τ _ _ _ _ ⟨rfl, (fun i hi => (f17 i hi)), (fun i hi => (f18 i hi)), p20, p21, p19, trivial⟩ hP hS dX12_orders_127
        · have kc30 := jnle c30 jz_4 rfl
          refine lv_iconst (v := 0) hx hb dX12_orders_44 (by decide) ?_
          refine lv_istore (lv' := [(5, .int 0), (4, .int x10), (0, .ref (ad 55)), (1, .int 1), (2, .int a2), (3, .int a3)]) hx hb dX12_orders_45 hl (by decide) rfl (fun ls hl => ?_)
          have lp31 : ∀ (n32 : Nat) (x33 : Int32) (H : Heap) (locs : List Loc) (ls : Array Slot), ((σ12 55 10).toInt - x33.toInt : Int) < n32 → 0 ≤ x33.toInt → x33.toInt ≤ 5 → x33.toInt ≤ (σ12 55 10).toInt → jH D cI cL ad σ12 τ H → va_S (jA ad) s.heap H locs → lv_has ls 6 [(5, .int x33), (4, .int x10), (0, .ref (ad 55)), (1, .int 1), (2, .int a2), (3, .int a3)] → W p l e ({ frames := 108, cells := 0, slots := 0, locals := 5181 }) s m args below meth c H locs 0 0 Q (F0 m 47 ls []) := by
            intro n32
            induction n32 with
            | zero => intro x33 H locs ls h35 h36 h37 h38; exact absurd h35 (by omega)
            | succ n32 ihlp31 =>
              intro x33 H locs ls h35 h36 h37 h38 hP hS hl
              refine lv_iload hx hb dX12_orders_47 (lv_at hl 0 rfl) ?_
              refine lv_aload_n hx hb dX12_orders_49 rfl (lv_at hl 2 rfl) ?_
              refine va_get (D := D) hx hb hts inlX12 hown hK hP 55 (jc_55 cI cL ad σ12 τ) rfl 10 (by decide) (hts _ kw_8_15) (fun _ h9 => h9) rfl dX12_orders_50 ?_
              have m40 : σ12 55 10 = (σ 55 10) := (f18 10 (by decide))
              refine jtopr m40 ?_
              refine lv_icmp_ge (tgt := 84) hx hb dX12_orders_53 (by decide) (fun c41 => ?_) (fun c41 => ?_)
              · have kc41 := jle c41 rfl rfl
                refine lv_iload hx hb dX12_orders_84 (lv_at hl 0 rfl) ?_
                refine lv_aload_n hx hb dX12_orders_86 rfl (lv_at hl 2 rfl) ?_
                refine va_get (D := D) hx hb hts inlX12 hown hK hP 55 (jc_55 cI cL ad σ12 τ) rfl 10 (by decide) (hts _ kw_8_15) (fun _ h9 => h9) rfl dX12_orders_87 ?_
                refine jtopr m40 ?_
                refine lv_icmp_ge (tgt := 121) hx hb dX12_orders_90 (by decide) (fun c42 => ?_) (fun c => absurd (jnle c rfl rfl) (by omega))
                have kc42 := jle c42 rfl rfl
                obtain ⟨x43, ex43⟩ : ∃ y : Int32, y = x10 + 1 := ⟨_, rfl⟩
                have tx43 : x43.toInt = x10.toInt + 1 := (jadd ex43 rfl jz_1 (by omega) (by omega)).trans (by omega)
                refine lv_iinc (v := x43) (lv' := [(4, .int x43), (5, .int x33), (0, .ref (ad 55)), (1, .int 1), (2, .int a2), (3, .int a3)]) hx hb dX12_orders_121 hl (k := 1) rfl (by rw [ex43]; rfl) (by decide) rfl (fun ls hl => ?_)
                refine lv_goto (tgt := 38) hx hb dX12_orders_124 (by decide) ?_
                exact ihlp8 x43 σ12 _ _ ls (by have h90 := tx43; omega) (by have h90 := tx43; omega) (by have h90 := tx43; omega) (fun i hi => (f17 i hi)) (fun i hi => (f18 i hi))  p19 p20 p21 hP hS (lv_sub hl [0, 2, 3, 4, 5] rfl)
              · have kc41 := jnle c41 rfl rfl
                refine lv_iload_n hx hb dX12_orders_56 rfl (lv_at hl 4 rfl) ?_
                refine lv_iload hx hb dX12_orders_57 (lv_at hl 0 rfl) ?_
                refine lv_ishr hx hb dX12_orders_59 ?_
                refine lv_topi (fun x44 ex44 => ?_)
                have gx44 := jrg (rfl : x44.toInt = x44.toInt)
                refine lv_iconst (v := 1) hx hb dX12_orders_60 (by decide) ?_
                refine lv_iand hx hb dX12_orders_61 ?_
                refine lv_topi (fun x45 ex45 => ?_)
                have gx45 := jrg (rfl : x45.toInt = x45.toInt)
                have g46 : 0 ≤ x45.toInt ∧ x45.toInt ≤ 1 := jmask ex45 1 (by decide) (by decide)
                refine lv_iconst (v := 1) hx hb dX12_orders_62 (by decide) ?_
                refine lv_icmp_eq (tgt := 78) hx hb dX12_orders_63 (by decide) (fun c47 => ?_) (fun c47 => ?_)
                · have kc47 := jeq c47 rfl jz_1
                  obtain ⟨x48, ex48⟩ : ∃ y : Int32, y = x33 + 1 := ⟨_, rfl⟩
                  have tx48 : x48.toInt = x33.toInt + 1 := (jadd ex48 rfl jz_1 (by omega) (by omega)).trans (by omega)
                  refine lv_iinc (v := x48) (lv' := [(5, .int x48), (4, .int x10), (0, .ref (ad 55)), (1, .int 1), (2, .int a2), (3, .int a3)]) hx hb dX12_orders_78 hl (k := 0) rfl (by rw [ex48]; rfl) (by decide) rfl (fun ls hl => ?_)
                  refine lv_goto (tgt := 47) hx hb dX12_orders_81 (by decide) ?_
                  exact ihlp31 x48 _ _ ls (by have h90 := tx48; omega) (by have h90 := tx48; omega) (by have h90 := tx48; omega) (by have h90 := tx48; omega)    hP hS (lv_sub hl [0, 1, 2, 3, 4, 5] rfl)
                · have kc47 := jne c47 rfl jz_1
                  refine lv_aload_n hx hb dX12_orders_66 rfl (lv_at hl 2 rfl) ?_
                  refine va_get (D := D) hx hb hts inlX12 hown hK hP 55 (jc_55 cI cL ad σ12 τ) rfl 44 (by decide) (hts _ kw_8_4) (fun _ h9 => h9) rfl dX12_orders_67 ?_
                  refine lv_iload hx hb dX12_orders_70 (lv_at hl 0 rfl) ?_
                  refine jald hx hb hK hP (jc_79 cI cL ad σ12 τ) (jin rfl (by omega) (by omega)) dX12_orders_72 ?_
                  have w49 : ∀ k : Nat, k < 5 → 0 ≤ (σ12 79 k).toInt ∧ (σ12 79 k).toInt ≤ 3 := (jrr_fr (f17 79 (by decide)) w6)
                  have g50 := w49 _ (jnat (x := x33) rfl (n := 5) (by omega) (by decide))
                  refine lv_topi (fun x51 ex51 => ?_)
                  rw [← ex51] at g50
                  refine lv_iload hx hb dX12_orders_73 (lv_at hl 1 rfl) ?_
                  refine lv_icmp_eq (tgt := 84) hx hb dX12_orders_75 (by decide) (fun c52 => ?_) (fun c52 => ?_)
                  · have kc52 := jeq c52 rfl rfl
                    refine lv_iload hx hb dX12_orders_84 (lv_at hl 0 rfl) ?_
                    refine lv_aload_n hx hb dX12_orders_86 rfl (lv_at hl 2 rfl) ?_
                    refine va_get (D := D) hx hb hts inlX12 hown hK hP 55 (jc_55 cI cL ad σ12 τ) rfl 10 (by decide) (hts _ kw_8_15) (fun _ h9 => h9) rfl dX12_orders_87 ?_
                    refine jtopr m40 ?_
                    refine lv_icmp_ge (tgt := 121) hx hb dX12_orders_90 (by decide) (fun c => absurd (jle c rfl rfl) (by omega)) (fun c53 => ?_)
                    have kc53 := jnle c53 rfl rfl
                    refine lv_aload_n hx hb dX12_orders_93 rfl (lv_at hl 2 rfl) ?_
                    refine va_get (D := D) hx hb hts inlX12 hown hK hP 55 (jc_55 cI cL ad σ12 τ) rfl 11 (by decide) (hts _ kw_7_8) (fun _ h9 => h9) rfl dX12_orders_94 ?_
                    refine lv_iload_n hx hb dX12_orders_97 rfl (lv_at hl 3 rfl) ?_
                    refine lv_iload hx hb dX12_orders_98 (lv_at hl 1 rfl) ?_
                    refine jast hx hb hK hP hJ hA hS (jc_62 cI cL ad σ12 τ) (ja_62 cI cL ad σ12 τ _ _) (jin jz_1 (by omega) (by omega)) dX12_orders_100 (fun σ54 H locs eσ54 hP hS => ?_)
                    have eσ54 : σ54 = jup σ12 62 1 x10 := eσ54
                    refine lv_aload_n hx hb dX12_orders_101 rfl (lv_at hl 2 rfl) ?_
                    refine lv_iload_n hx hb dX12_orders_102 rfl (lv_at hl 3 rfl) ?_
                    refine lv_iconst (v := 1) hx hb dX12_orders_103 (by decide) ?_
                    refine lv_iadd hx hb dX12_orders_104 ?_
                    refine jtopr (y := 2) (by decide) ?_
                    refine lv_iload_n hx hb dX12_orders_105 rfl (lv_at hl 4 rfl) ?_
                    refine lv_iconst (v := 1) hx hb dX12_orders_106 (by decide) ?_
                    refine lv_iload hx hb dX12_orders_107 (lv_at hl 0 rfl) ?_
                    refine lv_ishl hx hb dX12_orders_109 ?_
                    refine lv_topi (fun x55 ex55 => ?_)
                    have gx55 := jrg (rfl : x55.toInt = x55.toInt)
                    refine lv_ior hx hb dX12_orders_110 ?_
                    refine lv_topi (fun x56 ex56 => ?_)
                    have gx56 := jrg (rfl : x56.toInt = x56.toInt)
                    refine lv_bipush (v := 10) hx hb dX12_orders_111 (by decide) ?_
                    refine lv_iload_n hx hb dX12_orders_113 rfl (lv_at hl 5 rfl) ?_
                    refine lv_imul hx hb dX12_orders_114 ?_
                    refine lv_topi (fun x57 ex57 => ?_)
                    have gx57 := jrg (rfl : x57.toInt = x57.toInt)
                    refine lv_iload hx hb dX12_orders_115 (lv_at hl 1 rfl) ?_
                    have g58 := jrg (rfl : x57.toInt = x57.toInt)
                    have g59 := jrg (rfl : x10.toInt = x10.toInt)
                    refine lv_iadd hx hb dX12_orders_117 ?_
                    refine lv_topi (fun x60 ex60 => ?_)
                    have gx60 := jrg (rfl : x60.toInt = x60.toInt)
                    have I61 : jI101 σ54 := jI101_fr ((congrFun (jnp 55 eσ54 (by decide)) 4).trans (f18 4 (by decide))) ((congrFun (jnp 55 eσ54 (by decide)) 5).trans (f18 5 (by decide))) ((jnp 56 eσ54 (by decide)).trans (f17 56 (by decide))) ((jnp 57 eσ54 (by decide)).trans (f17 57 (by decide))) ((jnp 58 eσ54 (by decide)).trans (f17 58 (by decide))) ((jnp 59 eσ54 (by decide)).trans (f17 59 (by decide))) hI101
                    have I62 : jI102 σ54 := jI102_fr ((congrFun (jnp 55 eσ54 (by decide)) 6).trans (f18 6 (by decide))) ((jnp 60 eσ54 (by decide)).trans (f17 60 (by decide))) ((jnp 61 eσ54 (by decide)).trans (f17 61 (by decide))) hI102
                    have I63 : jI103 σ54 := jI103_fr ((congrFun (jnp 55 eσ54 (by decide)) 9).trans (f18 9 (by decide))) hI103
                    have z64 : (σ54 55 10).toInt = (σ 55 10).toInt := (congrArg Int32.toInt (show σ54 55 10 = (σ 55 10) from ((congrFun (jnp 55 eσ54 (by decide)) 10).trans m40)))
                    have z65 : (σ54 55 12).toInt = (σ 55 12).toInt := (congrArg Int32.toInt (show σ54 55 12 = (σ 55 12) from ((congrFun (jnp 55 eσ54 (by decide)) 12).trans (f18 12 (by decide)))))
                    have z66 : (σ54 55 13).toInt = (σ 55 13).toInt := (congrArg Int32.toInt (show σ54 55 13 = (σ 55 13) from ((congrFun (jnp 55 eσ54 (by decide)) 13).trans (f18 13 (by decide)))))
                    have w67 : ∀ k : Nat, k < 8 → 0 ≤ (σ54 62 k).toInt ∧ (σ54 62 k).toInt ≤ 3 := (by rw [eσ54]; exact jrr_up w25 (by omega) (by omega))
                    have w68 : ∀ k : Nat, k < 8 → 0 ≤ (σ54 67 k).toInt ∧ (σ54 67 k).toInt ≤ 3 := (jrr_fr (jnp 67 eσ54 (by decide)) w26)
                    have I69 : jI104 σ54 := ⟨(by omega), (by omega), (by omega), w67, w68⟩
                    have I70 : jI105 σ54 := jI105_fr ((congrFun (jnp 55 eσ54 (by decide)) 15).trans (f18 15 (by decide))) ((jnp 65 eσ54 (by decide)).trans (f17 65 (by decide))) hI105
                    have I71 : jI106 σ54 := jI106_fr ((congrFun (jnp 55 eσ54 (by decide)) 32).trans (f18 32 (by decide))) ((jnp 70 eσ54 (by decide)).trans (f17 70 (by decide))) ((jnp 71 eσ54 (by decide)).trans (f17 71 (by decide))) ((jnp 72 eσ54 (by decide)).trans (f17 72 (by decide))) hI106
                    have I72 : jI119 σ54 := jI119_fr (jnp 68 eσ54 (by decide)) p21
                    have I73 : jI111 σ54 := jI111_fr ((jnp 79 eσ54 (by decide)).trans (f17 79 (by decide))) hI111
                    have p74 : jKept σ54 := jKept.fr (jnp 75 eσ54 (by decide)) (jnp 76 eσ54 (by decide)) (jnp 77 eσ54 (by decide)) p19
                    refine jcallVv (As := [.int 2, .int x56, .int x60]) (rest := []) ⟨hx, hb, hml, hown, hts⟩ hK hP hA hS hZ (c_X12_orders_2 l D cI cL ad zz hJ σ54 τ x56 (x56.toInt) rfl x60 (x60.toInt) rfl I61 I62 I63 I69 I70 I71 I72 I73 p74 (by omega) (by omega) (by omega)) cw_RX12_355 (jc_55 cI cL ad σ54 τ) rfl ⟨Nat.le_of_ble_eq_true rfl, Nat.le_of_ble_eq_true rfl⟩ rfl rfl rfl hl.1 rfl (Nat.le_of_ble_eq_true rfl) dX12_orders_118 ⟨Nat.zero_le _, Nat.zero_le _⟩ (fun σ75 τ75 H locs h75 hP hS => ?_)
                    obtain ⟨rfl, f77, f78, I79, I80, p81, h75⟩ := h75
                    obtain ⟨i83, i84, i85, w86, w87⟩ : (1 ≤ (σ75 55 10).toInt ∧ (σ75 55 10).toInt ≤ 8) ∧ (1 ≤ (σ75 55 12).toInt ∧ (σ75 55 12).toInt ≤ 12) ∧ (0 ≤ (σ75 55 13).toInt ∧ (σ75 55 13).toInt ≤ 999) ∧ (∀ k : Nat, k < 8 → 0 ≤ (σ75 62 k).toInt ∧ (σ75 62 k).toInt ≤ 3) ∧ (∀ k : Nat, k < 8 → 0 ≤ (σ75 67 k).toInt ∧ (σ75 67 k).toInt ≤ 3) := id I79
                    have z88 : (σ75 55 10).toInt = (σ 55 10).toInt := (congrArg Int32.toInt (show σ75 55 10 = (σ 55 10) from ((f78 10 (by decide)).trans ((congrFun (jnp 55 eσ54 (by decide)) 10).trans m40))))
                    have z89 : (σ75 55 12).toInt = (σ 55 12).toInt := (congrArg Int32.toInt (show σ75 55 12 = (σ 55 12) from ((f78 12 (by decide)).trans ((congrFun (jnp 55 eσ54 (by decide)) 12).trans (f18 12 (by decide))))))
                    have z90 : (σ75 55 13).toInt = (σ 55 13).toInt := (congrArg Int32.toInt (show σ75 55 13 = (σ 55 13) from ((f78 13 (by decide)).trans ((congrFun (jnp 55 eσ54 (by decide)) 13).trans (f18 13 (by decide))))))
                    obtain ⟨x91, ex91⟩ : ∃ y : Int32, y = x10 + 1 := ⟨_, rfl⟩
                    have tx91 : x91.toInt = x10.toInt + 1 := (jadd ex91 rfl jz_1 (by omega) (by omega)).trans (by omega)
                    refine lv_iinc (v := x91) (lv' := [(4, .int x91), (5, .int x33), (0, .ref (ad 55)), (1, .int 1), (2, .int a2), (3, .int a3)]) hx hb dX12_orders_121 hl (k := 1) rfl (by rw [ex91]; rfl) (by decide) rfl (fun ls hl => ?_)
                    refine lv_goto (tgt := 38) hx hb dX12_orders_124 (by decide) ?_
                    exact ihlp8 x91 σ75 _ _ ls (by have h90 := tx91; omega) (by have h90 := tx91; omega) (by have h90 := tx91; omega) (fun i hi => ((f77 i hi).trans ((jnp i eσ54 (imp_276 i hi)).trans (f17 i hi)))) (fun i hi => ((f78 i hi).trans ((congrFun (jnp 55 eσ54 (by decide)) i).trans (f18 i hi))))  p81 I79 I80 hP hS (lv_sub hl [0, 2, 3, 4, 5] rfl)
                  · have kc52 := jne c52 rfl rfl
                    obtain ⟨x92, ex92⟩ : ∃ y : Int32, y = x33 + 1 := ⟨_, rfl⟩
                    have tx92 : x92.toInt = x33.toInt + 1 := (jadd ex92 rfl jz_1 (by omega) (by omega)).trans (by omega)
                    refine lv_iinc (v := x92) (lv' := [(5, .int x92), (4, .int x10), (0, .ref (ad 55)), (1, .int 1), (2, .int a2), (3, .int a3)]) hx hb dX12_orders_78 hl (k := 0) rfl (by rw [ex92]; rfl) (by decide) rfl (fun ls hl => ?_)
                    refine lv_goto (tgt := 47) hx hb dX12_orders_81 (by decide) ?_
                    exact ihlp31 x92 _ _ ls (by have h90 := tx92; omega) (by have h90 := tx92; omega) (by have h90 := tx92; omega) (by have h90 := tx92; omega)    hP hS (lv_sub hl [0, 1, 2, 3, 4, 5] rfl)
          exact lp31 1000000 0 _ _ ls (by have h90 := jz_0; omega) (by have h90 := jz_0; omega) (by have h90 := jz_0; omega) (by have h90 := jz_0; omega)   hP hS hl
    exact lp8 1000000 0 σ _ _ ls (by have h90 := jz_0; omega) (by have h90 := jz_0; omega) (by have h90 := jz_0; omega) (fun _ _ => rfl) (fun _ _ => rfl)  hs_jKept hI104 hI119 hP hS hl
  · have kc7 := jeq c7 jz_1 rfl
    refine lv_aload_n hx hb dX12_orders_8 rfl (lv_at hl 0 rfl) ?_
    refine jcallV (As := []) (rest := []) ⟨hx, hb, hml, hown, hts⟩ hK hP hA hS hZ (c_X12_bestNow l D cI cL ad zz hJ σ τ hI101 hI102 hI103 hI104 hI105 hI106 hI119 hs_jKept (by omega)) cw_RX12_346 (jc_55 cI cL ad σ τ) rfl ⟨Nat.le_of_ble_eq_true rfl, Nat.le_of_ble_eq_true rfl⟩ rfl rfl rfl hl.1 rfl (Nat.le_of_ble_eq_true rfl) dX12_orders_9 ⟨Nat.zero_le _, Nat.zero_le _⟩ (fun r94 σ93 τ93 H locs h93 hP hS => ?_)
    obtain ⟨rfl, f95, f96, I97, p98, h93⟩ := h93
    refine lv_istore (lv' := [(4, .int r94), (0, .ref (ad 55)), (1, .int 1), (2, .int a2), (3, .int a3)]) hx hb dX12_orders_12 hl (by decide) rfl (fun ls hl => ?_)
    refine lv_iload hx hb dX12_orders_14 (lv_at hl 0 rfl) ?_
    refine lv_aload_n hx hb dX12_orders_16 rfl (lv_at hl 1 rfl) ?_
    refine va_get (D := D) hx hb hts inlX12 hown hK hP 55 (jc_55 cI cL ad σ93 τ) rfl 46 (by decide) (hts _ kw_40_17) (fun _ h9 => h9) rfl dX12_orders_17 ?_
    have m100 : σ93 55 46 = (σ 55 46) := (f96 46 (by decide))
    refine jtopr m100 ?_
    refine lv_icmp_le (tgt := 34) hx hb dX12_orders_20 (by decide) (fun c101 => ?_) (fun c101 => ?_)
    · have kc101 := jle c101 rfl rfl
      have I102 : jI104 σ93 := jI104_fr (f96 10 (by decide)) (f96 12 (by decide)) (f96 13 (by decide)) (f95 62 (by decide)) (f95 67 (by decide)) hI104
      exact hret σ93 τ _ _ _ _ ⟨rfl, (fun i hi => (f95 i (imp_271 i hi))), (fun i hi => (f96 i (imp_272 i hi))), I102, I97, p98, trivial⟩ hP hS dX12_orders_34
    · have kc101 := jnle c101 rfl rfl
      refine lv_aload_n hx hb dX12_orders_23 rfl (lv_at hl 1 rfl) ?_
      refine lv_iload hx hb dX12_orders_24 (lv_at hl 0 rfl) ?_
      refine jput (ty := .int) hx hb hts inlX12 tyX12 tyX12_ok nmX12 hown hK hP hJ hA hS (jc_55 cI cL ad σ93 τ) rfl (k := 46) (by decide) (Nat.le_of_ble_eq_true rfl) (jp_55_46 cI cL ad σ93 τ r94) (hts _ kw_40_17) (fun _ h9 => h9) rfl (by decide +kernel) rfl rfl dX12_orders_26 (fun σ103 H locs eσ103 hP hS => ?_)
      refine lv_aload_n hx hb dX12_orders_29 rfl (lv_at hl 1 rfl) ?_
      refine lv_iload_n hx hb dX12_orders_30 rfl (lv_at hl 4 rfl) ?_
      refine jput (ty := .int) hx hb hts inlX12 tyX12 tyX12_ok nmX12 hown hK hP hJ hA hS (jc_55 cI cL ad σ103 τ) rfl (k := 45) (by decide) (Nat.le_of_ble_eq_true rfl) (jp_55_45 cI cL ad σ103 τ a3) (hts _ kw_40_18) (fun _ h9 => h9) rfl (by decide +kernel) rfl rfl dX12_orders_31 (fun σ104 H locs eσ104 hP hS => ?_)
      have I105 : jI104 σ104 := jI104_fr ((jkp 10 eσ104 (by decide)).trans ((jkp 10 eσ103 (by decide)).trans (f96 10 (by decide)))) ((jkp 12 eσ104 (by decide)).trans ((jkp 12 eσ103 (by decide)).trans (f96 12 (by decide)))) ((jkp 13 eσ104 (by decide)).trans ((jkp 13 eσ103 (by decide)).trans (f96 13 (by decide)))) ((jnp 62 eσ104 (by decide)).trans ((jnp 62 eσ103 (by decide)).trans (f95 62 (by decide)))) ((jnp 67 eσ104 (by decide)).trans ((jnp 67 eσ103 (by decide)).trans (f95 67 (by decide)))) hI104
      have I106 : jI119 σ104 := jI119_fr ((jnp 68 eσ104 (by decide)).trans (jnp 68 eσ103 (by decide))) I97
      have p107 : jKept σ104 := jKept.fr ((jnp 75 eσ104 (by decide)).trans (jnp 75 eσ103 (by decide))) ((jnp 76 eσ104 (by decide)).trans (jnp 76 eσ103 (by decide))) ((jnp 77 eσ104 (by decide)).trans (jnp 77 eσ103 (by decide))) p98
      exact hret σ104 τ _ _ _ _ ⟨rfl, (fun i hi => ((jnp i eσ104 (imp_273 i hi)).trans ((jnp i eσ103 (imp_273 i hi)).trans (f95 i (imp_271 i hi))))), (fun i hi => ((jkp i eσ104 (imp_274 i hi)).trans ((jkp i eσ103 (imp_275 i hi)).trans (f96 i (imp_272 i hi))))), I105, I106, p107, trivial⟩ hP hS dX12_orders_34
set_option maxHeartbeats 4000000 in
set_option maxRecDepth 100000 in
theorem c_X12_orders_0 (l : Launch) (D : va_G) (cI cL : ClassId) (ad zz : Nat → Nat) (hJ : jD ad) (σ : Nat → Nat → Int32) (τ : Nat → Nat → Int64) (a2 : Int32) (A2 : Int) (t2 : a2.toInt = A2) (a3 : Int32) (A3 : Int) (t3 : a3.toInt = A3) (hI101 : jI101 σ) (hI102 : jI102 σ) (hI103 : jI103 σ) (hI104 : jI104 σ) (hI105 : jI105 σ) (hI106 : jI106 σ) (hI119 : jI119 σ) (hI111 : jI111 σ) (hs_jKept : jKept σ) (hp0 : (σ 55 10).toInt ≤ 5) (hp1 : 0 ≤ (σ 55 10).toInt) (hp2 : (σ 55 12).toInt ≤ 8) : jMv l yX12_orders cX12_orders 6 none ({ frames := 109, cells := 0, slots := 0, locals := 5206 }) D cI cL ad zz [.ref (ad 55), .int 0, .int a2, .int a3] σ τ (fun σ' τ' => τ = τ' ∧ (∀ i : Nat, (i < 55 ∨ 55 < i) ∧ (i < 62 ∨ 62 < i) ∧ (i < 66 ∨ 66 < i) ∧ (i < 68 ∨ 69 < i) ∧ (i < 74 ∨ 78 < i) → σ' i = σ i) ∧ (∀ k : Nat, (k < 18 ∨ 18 < k) ∧ (k < 19 ∨ 19 < k) ∧ (k < 20 ∨ 20 < k) ∧ (k < 21 ∨ 21 < k) ∧ (k < 22 ∨ 22 < k) ∧ (k < 25 ∨ 25 < k) ∧ (k < 26 ∨ 26 < k) ∧ (k < 27 ∨ 27 < k) ∧ (k < 37 ∨ 37 < k) ∧ (k < 42 ∨ 42 < k) ∧ (k < 45 ∨ 45 < k) ∧ (k < 46 ∨ 46 < k) → σ' 55 k = σ 55 k) ∧ (jI104 σ') ∧ (jI119 σ') ∧ (jKept σ') ∧ True) := by
  refine jMv.of hJ (by decide +kernel) rfl (Nat.le_of_ble_eq_true rfl) ?_
  intro p e s m args below meth c Q ls hC hret hl hP
  obtain ⟨hx, hb, hr, hml, hown, hts, hK, -, hlocks, hZ⟩ := hC
  have hown : s.vm.findClass RX12 = some m.cls := hown
  have hS : va_S (jA ad) s.heap s.heap [] := va_S.rf
  have hA : ∀ q, jA ad q → jA ad q := fun _ h => h
  have hl : lv_has ls 6 [(0, .ref (ad 55)), (1, .int 0), (2, .int a2), (3, .int a3)] := hl
  have g2 := jrg t2
  have g3 := jrg t3
  obtain ⟨i1, i2, i3, w4, w5⟩ : (1 ≤ (σ 55 10).toInt ∧ (σ 55 10).toInt ≤ 8) ∧ (1 ≤ (σ 55 12).toInt ∧ (σ 55 12).toInt ≤ 12) ∧ (0 ≤ (σ 55 13).toInt ∧ (σ 55 13).toInt ≤ 999) ∧ (∀ k : Nat, k < 8 → 0 ≤ (σ 62 k).toInt ∧ (σ 62 k).toInt ≤ 3) ∧ (∀ k : Nat, k < 8 → 0 ≤ (σ 67 k).toInt ∧ (σ 67 k).toInt ≤ 3) := id hI104
  have w6 : ∀ k : Nat, k < 5 → 0 ≤ (σ 79 k).toInt ∧ (σ 79 k).toInt ≤ 3 := hI111
  refine lv_iload_n hx hb dX12_orders_0 rfl (lv_at hl 1 rfl) ?_
  refine lv_aload_n hx hb dX12_orders_1 rfl (lv_at hl 0 rfl) ?_
  refine va_get (D := D) hx hb hts inlX12 hown hK hP 55 (jc_55 cI cL ad σ τ) rfl 10 (by decide) (hts _ kw_8_15) (fun _ h9 => h9) rfl dX12_orders_2 ?_
  refine lv_icmp_ne (tgt := 35) hx hb dX12_orders_5 (by decide) (fun c7 => ?_) (fun c => absurd (jeq c jz_0 rfl) (by omega))
  have kc7 := jne c7 jz_0 rfl
  refine lv_iconst (v := 0) hx hb dX12_orders_35 (by decide) ?_
  refine lv_istore (lv' := [(4, .int 0), (0, .ref (ad 55)), (1, .int 0), (2, .int a2), (3, .int a3)]) hx hb dX12_orders_36 hl (by decide) rfl (fun ls hl => ?_)
  have lp8 : ∀ (n9 : Nat) (x10 : Int32) (σ12 : Nat → Nat → Int32) (H : Heap) (locs : List Loc) (ls : Array Slot), (-x10.toInt + 4 : Int) < n9 → 0 ≤ x10.toInt → x10.toInt ≤ 4 → (∀ i : Nat, (i < 55 ∨ 55 < i) ∧ (i < 62 ∨ 62 < i) ∧ (i < 66 ∨ 66 < i) ∧ (i < 68 ∨ 69 < i) ∧ (i < 74 ∨ 78 < i) → σ12 i = σ i) → (∀ k : Nat, (k < 18 ∨ 18 < k) ∧ (k < 19 ∨ 19 < k) ∧ (k < 20 ∨ 20 < k) ∧ (k < 21 ∨ 21 < k) ∧ (k < 22 ∨ 22 < k) ∧ (k < 25 ∨ 25 < k) ∧ (k < 26 ∨ 26 < k) ∧ (k < 27 ∨ 27 < k) ∧ (k < 37 ∨ 37 < k) ∧ (k < 42 ∨ 42 < k) ∧ (k < 45 ∨ 45 < k) ∧ (k < 46 ∨ 46 < k) → σ12 55 k = σ 55 k) → jKept σ12 → jI104 σ12 → jI119 σ12 → jH D cI cL ad σ12 τ H → va_S (jA ad) s.heap H locs → lv_has ls 6 [(4, .int x10), (0, .ref (ad 55)), (1, .int 0), (2, .int a2), (3, .int a3)] → W p l e ({ frames := 109, cells := 0, slots := 0, locals := 5206 }) s m args below meth c H locs 0 0 Q (F0 m 38 ls []) := by
    intro n9
    induction n9 with
    | zero => intro x10 σ12 H locs ls h14 h15 h16; exact absurd h14 (by omega)
    | succ n9 ihlp8 =>
      intro x10 σ12 H locs ls h14 h15 h16 f17 f18 p19 p20 p21 hP hS hl
      obtain ⟨i22, i23, i24, w25, w26⟩ : (1 ≤ (σ12 55 10).toInt ∧ (σ12 55 10).toInt ≤ 8) ∧ (1 ≤ (σ12 55 12).toInt ∧ (σ12 55 12).toInt ≤ 12) ∧ (0 ≤ (σ12 55 13).toInt ∧ (σ12 55 13).toInt ≤ 999) ∧ (∀ k : Nat, k < 8 → 0 ≤ (σ12 62 k).toInt ∧ (σ12 62 k).toInt ≤ 3) ∧ (∀ k : Nat, k < 8 → 0 ≤ (σ12 67 k).toInt ∧ (σ12 67 k).toInt ≤ 3) := id p20
      have z27 : (σ12 55 10).toInt = (σ 55 10).toInt := (congrArg Int32.toInt (show σ12 55 10 = (σ 55 10) from (f18 10 (by decide))))
      have z28 : (σ12 55 12).toInt = (σ 55 12).toInt := (congrArg Int32.toInt (show σ12 55 12 = (σ 55 12) from (f18 12 (by decide))))
      have z29 : (σ12 55 13).toInt = (σ 55 13).toInt := (congrArg Int32.toInt (show σ12 55 13 = (σ 55 13) from (f18 13 (by decide))))
      refine lv_iload hx hb dX12_orders_38 (lv_at hl 0 rfl) ?_
      refine lv_iconst (v := 4) hx hb dX12_orders_40 (by decide) ?_
      refine lv_icmp_ge (tgt := 127) hx hb dX12_orders_41 (by decide) (fun c30 => ?_) (fun c30 => ?_)
      · have kc30 := jle c30 jz_4 rfl
        exact hret σ12 τ _ _ _ _ ⟨rfl, (fun i hi => (f17 i hi)), (fun i hi => (f18 i hi)), p20, p21, p19, trivial⟩ hP hS dX12_orders_127
      · have kc30 := jnle c30 jz_4 rfl
        refine lv_iconst (v := 0) hx hb dX12_orders_44 (by decide) ?_
        refine lv_istore (lv' := [(5, .int 0), (4, .int x10), (0, .ref (ad 55)), (1, .int 0), (2, .int a2), (3, .int a3)]) hx hb dX12_orders_45 hl (by decide) rfl (fun ls hl => ?_)
        have lp31 : ∀ (n32 : Nat) (x33 : Int32) (H : Heap) (locs : List Loc) (ls : Array Slot), ((σ12 55 10).toInt - x33.toInt : Int) < n32 → 0 ≤ x33.toInt → x33.toInt ≤ 5 → x33.toInt ≤ (σ12 55 10).toInt → jH D cI cL ad σ12 τ H → va_S (jA ad) s.heap H locs → lv_has ls 6 [(5, .int x33), (4, .int x10), (0, .ref (ad 55)), (1, .int 0), (2, .int a2), (3, .int a3)] → W p l e ({ frames := 109, cells := 0, slots := 0, locals := 5206 }) s m args below meth c H locs 0 0 Q (F0 m 47 ls []) := by
          intro n32
          induction n32 with
          | zero => intro x33 H locs ls h35 h36 h37 h38; exact absurd h35 (by omega)
          | succ n32 ihlp31 =>
            intro x33 H locs ls h35 h36 h37 h38 hP hS hl
            refine lv_iload hx hb dX12_orders_47 (lv_at hl 0 rfl) ?_
            refine lv_aload_n hx hb dX12_orders_49 rfl (lv_at hl 2 rfl) ?_
            refine va_get (D := D) hx hb hts inlX12 hown hK hP 55 (jc_55 cI cL ad σ12 τ) rfl 10 (by decide) (hts _ kw_8_15) (fun _ h9 => h9) rfl dX12_orders_50 ?_
            have m40 : σ12 55 10 = (σ 55 10) := (f18 10 (by decide))
            refine jtopr m40 ?_
            refine lv_icmp_ge (tgt := 84) hx hb dX12_orders_53 (by decide) (fun c41 => ?_) (fun c41 => ?_)
            · have kc41 := jle c41 rfl rfl
              refine lv_iload hx hb dX12_orders_84 (lv_at hl 0 rfl) ?_
              refine lv_aload_n hx hb dX12_orders_86 rfl (lv_at hl 2 rfl) ?_
              refine va_get (D := D) hx hb hts inlX12 hown hK hP 55 (jc_55 cI cL ad σ12 τ) rfl 10 (by decide) (hts _ kw_8_15) (fun _ h9 => h9) rfl dX12_orders_87 ?_
              refine jtopr m40 ?_
              refine lv_icmp_ge (tgt := 121) hx hb dX12_orders_90 (by decide) (fun c42 => ?_) (fun c => absurd (jnle c rfl rfl) (by omega))
              have kc42 := jle c42 rfl rfl
              obtain ⟨x43, ex43⟩ : ∃ y : Int32, y = x10 + 1 := ⟨_, rfl⟩
              have tx43 : x43.toInt = x10.toInt + 1 := (jadd ex43 rfl jz_1 (by omega) (by omega)).trans (by omega)
              refine lv_iinc (v := x43) (lv' := [(4, .int x43), (5, .int x33), (0, .ref (ad 55)), (1, .int 0), (2, .int a2), (3, .int a3)]) hx hb dX12_orders_121 hl (k := 1) rfl (by rw [ex43]; rfl) (by decide) rfl (fun ls hl => ?_)
              refine lv_goto (tgt := 38) hx hb dX12_orders_124 (by decide) ?_
              exact ihlp8 x43 σ12 _ _ ls (by have h90 := tx43; omega) (by have h90 := tx43; omega) (by have h90 := tx43; omega) (fun i hi => (f17 i hi)) (fun i hi => (f18 i hi))  p19 p20 p21 hP hS (lv_sub hl [0, 2, 3, 4, 5] rfl)
            · have kc41 := jnle c41 rfl rfl
              refine lv_iload_n hx hb dX12_orders_56 rfl (lv_at hl 4 rfl) ?_
              refine lv_iload hx hb dX12_orders_57 (lv_at hl 0 rfl) ?_
              refine lv_ishr hx hb dX12_orders_59 ?_
              refine lv_topi (fun x44 ex44 => ?_)
              have gx44 := jrg (rfl : x44.toInt = x44.toInt)
              refine lv_iconst (v := 1) hx hb dX12_orders_60 (by decide) ?_
              refine lv_iand hx hb dX12_orders_61 ?_
              refine lv_topi (fun x45 ex45 => ?_)
              have gx45 := jrg (rfl : x45.toInt = x45.toInt)
              have g46 : 0 ≤ x45.toInt ∧ x45.toInt ≤ 1 := jmask ex45 1 (by decide) (by decide)
              refine lv_iconst (v := 1) hx hb dX12_orders_62 (by decide) ?_
              refine lv_icmp_eq (tgt := 78) hx hb dX12_orders_63 (by decide) (fun c47 => ?_) (fun c47 => ?_)
              · have kc47 := jeq c47 rfl jz_1
                obtain ⟨x48, ex48⟩ : ∃ y : Int32, y = x33 + 1 := ⟨_, rfl⟩
                have tx48 : x48.toInt = x33.toInt + 1 := (jadd ex48 rfl jz_1 (by omega) (by omega)).trans (by omega)
                refine lv_iinc (v := x48) (lv' := [(5, .int x48), (4, .int x10), (0, .ref (ad 55)), (1, .int 0), (2, .int a2), (3, .int a3)]) hx hb dX12_orders_78 hl (k := 0) rfl (by rw [ex48]; rfl) (by decide) rfl (fun ls hl => ?_)
                refine lv_goto (tgt := 47) hx hb dX12_orders_81 (by decide) ?_
                exact ihlp31 x48 _ _ ls (by have h90 := tx48; omega) (by have h90 := tx48; omega) (by have h90 := tx48; omega) (by have h90 := tx48; omega)    hP hS (lv_sub hl [0, 1, 2, 3, 4, 5] rfl)
              · have kc47 := jne c47 rfl jz_1
                refine lv_aload_n hx hb dX12_orders_66 rfl (lv_at hl 2 rfl) ?_
                refine va_get (D := D) hx hb hts inlX12 hown hK hP 55 (jc_55 cI cL ad σ12 τ) rfl 44 (by decide) (hts _ kw_8_4) (fun _ h9 => h9) rfl dX12_orders_67 ?_
                refine lv_iload hx hb dX12_orders_70 (lv_at hl 0 rfl) ?_
                refine jald hx hb hK hP (jc_79 cI cL ad σ12 τ) (jin rfl (by omega) (by omega)) dX12_orders_72 ?_
                have w49 : ∀ k : Nat, k < 5 → 0 ≤ (σ12 79 k).toInt ∧ (σ12 79 k).toInt ≤ 3 := (jrr_fr (f17 79 (by decide)) w6)
                have g50 := w49 _ (jnat (x := x33) rfl (n := 5) (by omega) (by decide))
                refine lv_topi (fun x51 ex51 => ?_)
                rw [← ex51] at g50
                refine lv_iload hx hb dX12_orders_73 (lv_at hl 1 rfl) ?_
                refine lv_icmp_eq (tgt := 84) hx hb dX12_orders_75 (by decide) (fun c52 => ?_) (fun c52 => ?_)
                · have kc52 := jeq c52 rfl rfl
                  refine lv_iload hx hb dX12_orders_84 (lv_at hl 0 rfl) ?_
                  refine lv_aload_n hx hb dX12_orders_86 rfl (lv_at hl 2 rfl) ?_
                  refine va_get (D := D) hx hb hts inlX12 hown hK hP 55 (jc_55 cI cL ad σ12 τ) rfl 10 (by decide) (hts _ kw_8_15) (fun _ h9 => h9) rfl dX12_orders_87 ?_
                  refine jtopr m40 ?_
                  refine lv_icmp_ge (tgt := 121) hx hb dX12_orders_90 (by decide) (fun c => absurd (jle c rfl rfl) (by omega)) (fun c53 => ?_)
                  have kc53 := jnle c53 rfl rfl
                  refine lv_aload_n hx hb dX12_orders_93 rfl (lv_at hl 2 rfl) ?_
                  refine va_get (D := D) hx hb hts inlX12 hown hK hP 55 (jc_55 cI cL ad σ12 τ) rfl 11 (by decide) (hts _ kw_7_8) (fun _ h9 => h9) rfl dX12_orders_94 ?_
                  refine lv_iload_n hx hb dX12_orders_97 rfl (lv_at hl 3 rfl) ?_
                  refine lv_iload hx hb dX12_orders_98 (lv_at hl 1 rfl) ?_
                  refine jast hx hb hK hP hJ hA hS (jc_62 cI cL ad σ12 τ) (ja_62 cI cL ad σ12 τ _ _) (jin jz_0 (by omega) (by omega)) dX12_orders_100 (fun σ54 H locs eσ54 hP hS => ?_)
                  have eσ54 : σ54 = jup σ12 62 0 x10 := eσ54
                  refine lv_aload_n hx hb dX12_orders_101 rfl (lv_at hl 2 rfl) ?_
                  refine lv_iload_n hx hb dX12_orders_102 rfl (lv_at hl 3 rfl) ?_
                  refine lv_iconst (v := 1) hx hb dX12_orders_103 (by decide) ?_
                  refine lv_iadd hx hb dX12_orders_104 ?_
                  refine jtopr (y := 1) (by decide) ?_
                  refine lv_iload_n hx hb dX12_orders_105 rfl (lv_at hl 4 rfl) ?_
                  refine lv_iconst (v := 1) hx hb dX12_orders_106 (by decide) ?_
                  refine lv_iload hx hb dX12_orders_107 (lv_at hl 0 rfl) ?_
                  refine lv_ishl hx hb dX12_orders_109 ?_
                  refine lv_topi (fun x55 ex55 => ?_)
                  have gx55 := jrg (rfl : x55.toInt = x55.toInt)
                  refine lv_ior hx hb dX12_orders_110 ?_
                  refine lv_topi (fun x56 ex56 => ?_)
                  have gx56 := jrg (rfl : x56.toInt = x56.toInt)
                  refine lv_bipush (v := 10) hx hb dX12_orders_111 (by decide) ?_
                  refine lv_iload_n hx hb dX12_orders_113 rfl (lv_at hl 5 rfl) ?_
                  refine lv_imul hx hb dX12_orders_114 ?_
                  refine lv_topi (fun x57 ex57 => ?_)
                  have gx57 := jrg (rfl : x57.toInt = x57.toInt)
                  refine lv_iload hx hb dX12_orders_115 (lv_at hl 1 rfl) ?_
                  have g58 := jrg (rfl : x57.toInt = x57.toInt)
                  have g59 := jrg (rfl : x10.toInt = x10.toInt)
                  refine lv_iadd hx hb dX12_orders_117 ?_
                  refine lv_topi (fun x60 ex60 => ?_)
                  have gx60 := jrg (rfl : x60.toInt = x60.toInt)
                  have I61 : jI101 σ54 := jI101_fr ((congrFun (jnp 55 eσ54 (by decide)) 4).trans (f18 4 (by decide))) ((congrFun (jnp 55 eσ54 (by decide)) 5).trans (f18 5 (by decide))) ((jnp 56 eσ54 (by decide)).trans (f17 56 (by decide))) ((jnp 57 eσ54 (by decide)).trans (f17 57 (by decide))) ((jnp 58 eσ54 (by decide)).trans (f17 58 (by decide))) ((jnp 59 eσ54 (by decide)).trans (f17 59 (by decide))) hI101
                  have I62 : jI102 σ54 := jI102_fr ((congrFun (jnp 55 eσ54 (by decide)) 6).trans (f18 6 (by decide))) ((jnp 60 eσ54 (by decide)).trans (f17 60 (by decide))) ((jnp 61 eσ54 (by decide)).trans (f17 61 (by decide))) hI102
                  have I63 : jI103 σ54 := jI103_fr ((congrFun (jnp 55 eσ54 (by decide)) 9).trans (f18 9 (by decide))) hI103
                  have z64 : (σ54 55 10).toInt = (σ 55 10).toInt := (congrArg Int32.toInt (show σ54 55 10 = (σ 55 10) from ((congrFun (jnp 55 eσ54 (by decide)) 10).trans m40)))
                  have z65 : (σ54 55 12).toInt = (σ 55 12).toInt := (congrArg Int32.toInt (show σ54 55 12 = (σ 55 12) from ((congrFun (jnp 55 eσ54 (by decide)) 12).trans (f18 12 (by decide)))))
                  have z66 : (σ54 55 13).toInt = (σ 55 13).toInt := (congrArg Int32.toInt (show σ54 55 13 = (σ 55 13) from ((congrFun (jnp 55 eσ54 (by decide)) 13).trans (f18 13 (by decide)))))
                  have w67 : ∀ k : Nat, k < 8 → 0 ≤ (σ54 62 k).toInt ∧ (σ54 62 k).toInt ≤ 3 := (by rw [eσ54]; exact jrr_up w25 (by omega) (by omega))
                  have w68 : ∀ k : Nat, k < 8 → 0 ≤ (σ54 67 k).toInt ∧ (σ54 67 k).toInt ≤ 3 := (jrr_fr (jnp 67 eσ54 (by decide)) w26)
                  have I69 : jI104 σ54 := ⟨(by omega), (by omega), (by omega), w67, w68⟩
                  have I70 : jI105 σ54 := jI105_fr ((congrFun (jnp 55 eσ54 (by decide)) 15).trans (f18 15 (by decide))) ((jnp 65 eσ54 (by decide)).trans (f17 65 (by decide))) hI105
                  have I71 : jI106 σ54 := jI106_fr ((congrFun (jnp 55 eσ54 (by decide)) 32).trans (f18 32 (by decide))) ((jnp 70 eσ54 (by decide)).trans (f17 70 (by decide))) ((jnp 71 eσ54 (by decide)).trans (f17 71 (by decide))) ((jnp 72 eσ54 (by decide)).trans (f17 72 (by decide))) hI106
                  have I72 : jI119 σ54 := jI119_fr (jnp 68 eσ54 (by decide)) p21
                  have I73 : jI111 σ54 := jI111_fr ((jnp 79 eσ54 (by decide)).trans (f17 79 (by decide))) hI111
                  have p74 : jKept σ54 := jKept.fr (jnp 75 eσ54 (by decide)) (jnp 76 eσ54 (by decide)) (jnp 77 eσ54 (by decide)) p19
                  refine jcallVv (As := [.int 1, .int x56, .int x60]) (rest := []) ⟨hx, hb, hml, hown, hts⟩ hK hP hA hS hZ (c_X12_orders_1 l D cI cL ad zz hJ σ54 τ x56 (x56.toInt) rfl x60 (x60.toInt) rfl I61 I62 I63 I69 I70 I71 I72 I73 p74 (by omega) (by omega) (by omega)) cw_RX12_355 (jc_55 cI cL ad σ54 τ) rfl ⟨Nat.le_of_ble_eq_true rfl, Nat.le_of_ble_eq_true rfl⟩ rfl rfl rfl hl.1 rfl (Nat.le_of_ble_eq_true rfl) dX12_orders_118 ⟨Nat.zero_le _, Nat.zero_le _⟩ (fun σ75 τ75 H locs h75 hP hS => ?_)
                  obtain ⟨rfl, f77, f78, I79, I80, p81, h75⟩ := h75
                  obtain ⟨i83, i84, i85, w86, w87⟩ : (1 ≤ (σ75 55 10).toInt ∧ (σ75 55 10).toInt ≤ 8) ∧ (1 ≤ (σ75 55 12).toInt ∧ (σ75 55 12).toInt ≤ 12) ∧ (0 ≤ (σ75 55 13).toInt ∧ (σ75 55 13).toInt ≤ 999) ∧ (∀ k : Nat, k < 8 → 0 ≤ (σ75 62 k).toInt ∧ (σ75 62 k).toInt ≤ 3) ∧ (∀ k : Nat, k < 8 → 0 ≤ (σ75 67 k).toInt ∧ (σ75 67 k).toInt ≤ 3) := id I79
                  have z88 : (σ75 55 10).toInt = (σ 55 10).toInt := (congrArg Int32.toInt (show σ75 55 10 = (σ 55 10) from ((f78 10 (by decide)).trans ((congrFun (jnp 55 eσ54 (by decide)) 10).trans m40))))
                  have z89 : (σ75 55 12).toInt = (σ 55 12).toInt := (congrArg Int32.toInt (show σ75 55 12 = (σ 55 12) from ((f78 12 (by decide)).trans ((congrFun (jnp 55 eσ54 (by decide)) 12).trans (f18 12 (by decide))))))
                  have z90 : (σ75 55 13).toInt = (σ 55 13).toInt := (congrArg Int32.toInt (show σ75 55 13 = (σ 55 13) from ((f78 13 (by decide)).trans ((congrFun (jnp 55 eσ54 (by decide)) 13).trans (f18 13 (by decide))))))
                  obtain ⟨x91, ex91⟩ : ∃ y : Int32, y = x10 + 1 := ⟨_, rfl⟩
                  have tx91 : x91.toInt = x10.toInt + 1 := (jadd ex91 rfl jz_1 (by omega) (by omega)).trans (by omega)
                  refine lv_iinc (v := x91) (lv' := [(4, .int x91), (5, .int x33), (0, .ref (ad 55)), (1, .int 0), (2, .int a2), (3, .int a3)]) hx hb dX12_orders_121 hl (k := 1) rfl (by rw [ex91]; rfl) (by decide) rfl (fun ls hl => ?_)
                  refine lv_goto (tgt := 38) hx hb dX12_orders_124 (by decide) ?_
                  exact ihlp8 x91 σ75 _ _ ls (by have h90 := tx91; omega) (by have h90 := tx91; omega) (by have h90 := tx91; omega) (fun i hi => ((f77 i hi).trans ((jnp i eσ54 (imp_276 i hi)).trans (f17 i hi)))) (fun i hi => ((f78 i hi).trans ((congrFun (jnp 55 eσ54 (by decide)) i).trans (f18 i hi))))  p81 I79 I80 hP hS (lv_sub hl [0, 2, 3, 4, 5] rfl)
                · have kc52 := jne c52 rfl rfl
                  obtain ⟨x92, ex92⟩ : ∃ y : Int32, y = x33 + 1 := ⟨_, rfl⟩
                  have tx92 : x92.toInt = x33.toInt + 1 := (jadd ex92 rfl jz_1 (by omega) (by omega)).trans (by omega)
                  refine lv_iinc (v := x92) (lv' := [(5, .int x92), (4, .int x10), (0, .ref (ad 55)), (1, .int 0), (2, .int a2), (3, .int a3)]) hx hb dX12_orders_78 hl (k := 0) rfl (by rw [ex92]; rfl) (by decide) rfl (fun ls hl => ?_)
                  refine lv_goto (tgt := 47) hx hb dX12_orders_81 (by decide) ?_
                  exact ihlp31 x92 _ _ ls (by have h90 := tx92; omega) (by have h90 := tx92; omega) (by have h90 := tx92; omega) (by have h90 := tx92; omega)    hP hS (lv_sub hl [0, 1, 2, 3, 4, 5] rfl)
        exact lp31 1000000 0 _ _ ls (by have h90 := jz_0; omega) (by have h90 := jz_0; omega) (by have h90 := jz_0; omega) (by have h90 := jz_0; omega)   hP hS hl
  exact lp8 1000000 0 σ _ _ ls (by have h90 := jz_0; omega) (by have h90 := jz_0; omega) (by have h90 := jz_0; omega) (fun _ _ => rfl) (fun _ _ => rfl)  hs_jKept hI104 hI119 hP hS hl
set_option maxHeartbeats 4000000 in
set_option maxRecDepth 100000 in
theorem c_X12_theirs (l : Launch) (D : va_G) (cI cL : ClassId) (ad zz : Nat → Nat) (hJ : jD ad) (σ : Nat → Nat → Int32) (τ : Nat → Nat → Int64) (a1 : Int32) (A1 : Int) (t1 : a1.toInt = A1) (hI101 : jI101 σ) (hI102 : jI102 σ) (hI103 : jI103 σ) (hI104 : jI104 σ) (hI105 : jI105 σ) (hI106 : jI106 σ) (hI119 : jI119 σ) (hI111 : jI111 σ) (hs_jKept : jKept σ) : jM l yX12_theirs cX12_theirs 3 (some .int) ({ frames := 110, cells := 0, slots := 0, locals := 5231 }) D cI cL ad zz [.ref (ad 55), .int a1] σ τ (fun r σ' τ' => τ = τ' ∧ (∀ i : Nat, (i < 55 ∨ 55 < i) ∧ (i < 62 ∨ 62 < i) ∧ (i < 66 ∨ 66 < i) ∧ (i < 68 ∨ 69 < i) ∧ (i < 74 ∨ 79 < i) → σ' i = σ i) ∧ (∀ k : Nat, (k < 18 ∨ 18 < k) ∧ (k < 19 ∨ 19 < k) ∧ (k < 20 ∨ 20 < k) ∧ (k < 21 ∨ 21 < k) ∧ (k < 22 ∨ 22 < k) ∧ (k < 25 ∨ 25 < k) ∧ (k < 26 ∨ 26 < k) ∧ (k < 27 ∨ 27 < k) ∧ (k < 37 ∨ 37 < k) ∧ (k < 42 ∨ 42 < k) ∧ (k < 45 ∨ 45 < k) ∧ (k < 46 ∨ 46 < k) → σ' 55 k = σ 55 k) ∧ (jI104 σ') ∧ (jI111 σ') ∧ (jI119 σ') ∧ (jKept σ') ∧ (jSo (σ' 62) (σ 62) ((σ 55 10).toInt)) ∧ True) := by
  refine jM.of hJ (by decide +kernel) (nt := .int) rfl (Nat.le_of_ble_eq_true rfl) ?_
  intro p e s m args below meth c Q ls hC hret hl hP
  obtain ⟨hx, hb, hr, hml, hown, hts, hK, -, hlocks, hZ⟩ := hC
  have hown : s.vm.findClass RX12 = some m.cls := hown
  have hS : va_S (jA ad) s.heap s.heap [] := va_S.rf
  have hA : ∀ q, jA ad q → jA ad q := fun _ h => h
  have hl : lv_has ls 3 [(0, .ref (ad 55)), (1, .int a1)] := hl
  have g1 := jrg t1
  obtain ⟨i1, i2, i3, w4, w5⟩ : (1 ≤ (σ 55 10).toInt ∧ (σ 55 10).toInt ≤ 8) ∧ (1 ≤ (σ 55 12).toInt ∧ (σ 55 12).toInt ≤ 12) ∧ (0 ≤ (σ 55 13).toInt ∧ (σ 55 13).toInt ≤ 999) ∧ (∀ k : Nat, k < 8 → 0 ≤ (σ 62 k).toInt ∧ (σ 62 k).toInt ≤ 3) ∧ (∀ k : Nat, k < 8 → 0 ≤ (σ 67 k).toInt ∧ (σ 67 k).toInt ≤ 3) := id hI104
  have w6 : ∀ k : Nat, k < 5 → 0 ≤ (σ 79 k).toInt ∧ (σ 79 k).toInt ≤ 3 := hI111
  refine lv_iload_n hx hb dX12_theirs_0 rfl (lv_at hl 1 rfl) ?_
  refine lv_i2l (v := a1.toInt64) hx hb dX12_theirs_1 rfl ?_
  refine lv_lconst (v := 0) hx hb dX12_theirs_2 (by decide) ?_
  refine lv_lconst (v := 1) hx hb dX12_theirs_3 (by decide) ?_
  refine jcallS (As := [.long a1.toInt64, .long 0, .long 1]) (rest := []) ⟨hx, hb, hml, hown, hts⟩ hK hP hA hS hZ (c_X12_within l D cI cL ad zz hJ σ τ a1.toInt64 (A1) (jtoL t1) 0 (0) jzl_0 1 (1) jzl_1) cw_RX12_136 ⟨Nat.le_of_ble_eq_true rfl, Nat.le_of_ble_eq_true rfl⟩ rfl rfl rfl hl.1 rfl (Nat.le_of_ble_eq_true rfl) dX12_theirs_4 ⟨Nat.zero_le _, Nat.zero_le _⟩ (fun r8 σ7 τ7 H locs h7 hP hS => ?_)
  obtain ⟨⟨rfl, rfl⟩, h7⟩ := h7
  rcases h7 with h9 | h10
  · obtain ⟨q12, k11⟩ := h9
    have q12 := q12.symm
    subst q12
    refine lv_if_ne (tgt := 12) hx hb dX12_theirs_7 (by decide) (fun _ => ?_) (fun c => absurd c (by decide))
    refine lv_aload_n hx hb dX12_theirs_12 rfl (lv_at hl 0 rfl) ?_
    refine va_get (D := D) hx hb hts inlX12 hown hK hP 55 (jc_55 cI cL ad σ τ) rfl 10 (by decide) (hts _ kw_8_15) (fun _ h9 => h9) rfl dX12_theirs_13 ?_
    refine lv_iconst (v := 5) hx hb dX12_theirs_16 (by decide) ?_
    refine lv_icmp_gt (tgt := 29) hx hb dX12_theirs_17 (by decide) (fun c13 => ?_) (fun c13 => ?_)
    · have kc13 := jlt c13 jz_5 rfl
      refine lv_bipush (v := (-4)) hx hb dX12_theirs_29 (by decide) ?_
      exact hret (-4) σ τ _ _ _ _ rfl ⟨rfl, (fun _ _ => rfl), (fun _ _ => rfl), hI104, hI111, hI119, hs_jKept, (by rw [show σ 62 = σ 62 from rfl]; exact jSo.rfl), trivial⟩ hP hS dX12_theirs_31
    · have kc13 := jnlt c13 jz_5 rfl
      refine lv_aload_n hx hb dX12_theirs_20 rfl (lv_at hl 0 rfl) ?_
      refine va_get (D := D) hx hb hts inlX12 hown hK hP 55 (jc_55 cI cL ad σ τ) rfl 12 (by decide) (hts _ kw_8_16) (fun _ h9 => h9) rfl dX12_theirs_21 ?_
      refine lv_bipush (v := 8) hx hb dX12_theirs_24 (by decide) ?_
      refine lv_icmp_le (tgt := 32) hx hb dX12_theirs_26 (by decide) (fun c14 => ?_) (fun c14 => ?_)
      · have kc14 := jle c14 rfl jz_8
        refine lv_iconst (v := 0) hx hb dX12_theirs_32 (by decide) ?_
        refine lv_istore_n (lv' := [(2, .int 0), (0, .ref (ad 55)), (1, .int a1)]) hx hb dX12_theirs_33 rfl hl (by decide) rfl (fun ls hl => ?_)
        have lp15 : ∀ (n16 : Nat) (x17 : Int32) (σ18 : Nat → Nat → Int32) (H : Heap) (locs : List Loc) (ls : Array Slot), ((σ18 55 10).toInt - x17.toInt : Int) < n16 → 0 ≤ x17.toInt → x17.toInt ≤ 5 → x17.toInt ≤ (σ18 55 10).toInt → (∀ i : Nat, (i < 79 ∨ 79 < i) → σ18 i = σ i) → jI111 σ18 → (jSo (σ18 79) (σ 62) (x17.toInt)) → jH D cI cL ad σ18 τ H → va_S (jA ad) s.heap H locs → lv_has ls 3 [(2, .int x17), (0, .ref (ad 55)), (1, .int a1)] → W p l e ({ frames := 110, cells := 0, slots := 0, locals := 5231 }) s m args below meth c H locs 0 0 Q (F0 m 34 ls []) := by
          intro n16
          induction n16 with
          | zero => intro x17 σ18 H locs ls h20 h21 h22 h23; exact absurd h20 (by omega)
          | succ n16 ihlp15 =>
            intro x17 σ18 H locs ls h20 h21 h22 h23 f24 p25 q26 hP hS hl
            have w27 : ∀ k : Nat, k < 5 → 0 ≤ (σ18 79 k).toInt ∧ (σ18 79 k).toInt ≤ 3 := p25
            have z28 : (σ18 55 10).toInt = (σ 55 10).toInt := (congrArg Int32.toInt (show σ18 55 10 = (σ 55 10) from (congrFun (f24 55 (by decide)) 10)))
            refine lv_iload_n hx hb dX12_theirs_34 rfl (lv_at hl 0 rfl) ?_
            refine lv_aload_n hx hb dX12_theirs_35 rfl (lv_at hl 1 rfl) ?_
            refine va_get (D := D) hx hb hts inlX12 hown hK hP 55 (jc_55 cI cL ad σ18 τ) rfl 10 (by decide) (hts _ kw_8_15) (fun _ h9 => h9) rfl dX12_theirs_36 ?_
            have m29 : σ18 55 10 = (σ 55 10) := (congrFun (f24 55 (by decide)) 10)
            refine jtopr m29 ?_
            refine lv_icmp_ge (tgt := 60) hx hb dX12_theirs_39 (by decide) (fun c30 => ?_) (fun c30 => ?_)
            · have kc30 := jle c30 rfl rfl
              refine lv_aload_n hx hb dX12_theirs_60 rfl (lv_at hl 1 rfl) ?_
              refine lv_iconst (v := (-1)) hx hb dX12_theirs_61 (by decide) ?_
              refine jput (ty := .int) hx hb hts inlX12 tyX12 tyX12_ok nmX12 hown hK hP hJ hA hS (jc_55 cI cL ad σ18 τ) rfl (k := 46) (by decide) (Nat.le_of_ble_eq_true rfl) (jp_55_46 cI cL ad σ18 τ (-1)) (hts _ kw_40_17) (fun _ h9 => h9) rfl (by decide +kernel) rfl rfl dX12_theirs_62 (fun σ31 H locs eσ31 hP hS => ?_)
              refine lv_aload_n hx hb dX12_theirs_65 rfl (lv_at hl 1 rfl) ?_
              refine lv_iconst (v := 0) hx hb dX12_theirs_66 (by decide) ?_
              refine lv_iconst (v := 0) hx hb dX12_theirs_67 (by decide) ?_
              refine lv_iconst (v := 0) hx hb dX12_theirs_68 (by decide) ?_
              have I32 : jI101 σ31 := jI101_fr ((jkp 4 eσ31 (by decide)).trans (congrFun (f24 55 (by decide)) 4)) ((jkp 5 eσ31 (by decide)).trans (congrFun (f24 55 (by decide)) 5)) ((jnp 56 eσ31 (by decide)).trans (f24 56 (by decide))) ((jnp 57 eσ31 (by decide)).trans (f24 57 (by decide))) ((jnp 58 eσ31 (by decide)).trans (f24 58 (by decide))) ((jnp 59 eσ31 (by decide)).trans (f24 59 (by decide))) hI101
              have I33 : jI102 σ31 := jI102_fr ((jkp 6 eσ31 (by decide)).trans (congrFun (f24 55 (by decide)) 6)) ((jnp 60 eσ31 (by decide)).trans (f24 60 (by decide))) ((jnp 61 eσ31 (by decide)).trans (f24 61 (by decide))) hI102
              have I34 : jI103 σ31 := jI103_fr ((jkp 9 eσ31 (by decide)).trans (congrFun (f24 55 (by decide)) 9)) hI103
              have I35 : jI104 σ31 := jI104_fr ((jkp 10 eσ31 (by decide)).trans (congrFun (f24 55 (by decide)) 10)) ((jkp 12 eσ31 (by decide)).trans (congrFun (f24 55 (by decide)) 12)) ((jkp 13 eσ31 (by decide)).trans (congrFun (f24 55 (by decide)) 13)) ((jnp 62 eσ31 (by decide)).trans (f24 62 (by decide))) ((jnp 67 eσ31 (by decide)).trans (f24 67 (by decide))) hI104
              have I36 : jI105 σ31 := jI105_fr ((jkp 15 eσ31 (by decide)).trans (congrFun (f24 55 (by decide)) 15)) ((jnp 65 eσ31 (by decide)).trans (f24 65 (by decide))) hI105
              have I37 : jI106 σ31 := jI106_fr ((jkp 32 eσ31 (by decide)).trans (congrFun (f24 55 (by decide)) 32)) ((jnp 70 eσ31 (by decide)).trans (f24 70 (by decide))) ((jnp 71 eσ31 (by decide)).trans (f24 71 (by decide))) ((jnp 72 eσ31 (by decide)).trans (f24 72 (by decide))) hI106
              have I38 : jI119 σ31 := jI119_fr ((jnp 68 eσ31 (by decide)).trans (f24 68 (by decide))) hI119
              have I39 : jI111 σ31 := jI111_fr (jnp 79 eσ31 (by decide)) p25
              have p40 : jKept σ31 := jKept.fr ((jnp 75 eσ31 (by decide)).trans (f24 75 (by decide))) ((jnp 76 eσ31 (by decide)).trans (f24 76 (by decide))) ((jnp 77 eσ31 (by decide)).trans (f24 77 (by decide))) hs_jKept
              have z41 : (σ31 55 10).toInt = (σ 55 10).toInt := (congrArg Int32.toInt (show σ31 55 10 = (σ 55 10) from ((jkp 10 eσ31 (by decide)).trans m29)))
              have z42 : (σ31 55 12).toInt = (σ 55 12).toInt := (congrArg Int32.toInt (show σ31 55 12 = (σ 55 12) from ((jkp 12 eσ31 (by decide)).trans (congrFun (f24 55 (by decide)) 12))))
              refine jcallVv (As := [.int 0, .int 0, .int 0]) (rest := []) ⟨hx, hb, hml, hown, hts⟩ hK hP hA hS hZ (c_X12_orders_0 l D cI cL ad zz hJ σ31 τ 0 (0) jz_0 0 (0) jz_0 I32 I33 I34 I35 I36 I37 I38 I39 p40 (by omega) (by omega) (by omega)) cw_RX12_355 (jc_55 cI cL ad σ31 τ) rfl ⟨Nat.le_of_ble_eq_true rfl, Nat.le_of_ble_eq_true rfl⟩ rfl rfl rfl hl.1 rfl (Nat.le_of_ble_eq_true rfl) dX12_theirs_69 ⟨Nat.zero_le _, Nat.zero_le _⟩ (fun σ43 τ43 H locs h43 hP hS => ?_)
              obtain ⟨rfl, f45, f46, I47, I48, p49, h43⟩ := h43
              obtain ⟨i51, i52, i53, w54, w55⟩ : (1 ≤ (σ43 55 10).toInt ∧ (σ43 55 10).toInt ≤ 8) ∧ (1 ≤ (σ43 55 12).toInt ∧ (σ43 55 12).toInt ≤ 12) ∧ (0 ≤ (σ43 55 13).toInt ∧ (σ43 55 13).toInt ≤ 999) ∧ (∀ k : Nat, k < 8 → 0 ≤ (σ43 62 k).toInt ∧ (σ43 62 k).toInt ≤ 3) ∧ (∀ k : Nat, k < 8 → 0 ≤ (σ43 67 k).toInt ∧ (σ43 67 k).toInt ≤ 3) := id I47
              have z56 : (σ43 55 10).toInt = (σ 55 10).toInt := (congrArg Int32.toInt (show σ43 55 10 = (σ 55 10) from ((f46 10 (by decide)).trans ((jkp 10 eσ31 (by decide)).trans m29))))
              have z57 : (σ43 55 12).toInt = (σ 55 12).toInt := (congrArg Int32.toInt (show σ43 55 12 = (σ 55 12) from ((f46 12 (by decide)).trans ((jkp 12 eσ31 (by decide)).trans (congrFun (f24 55 (by decide)) 12)))))
              have z58 : (σ43 55 13).toInt = (σ 55 13).toInt := (congrArg Int32.toInt (show σ43 55 13 = (σ 55 13) from ((f46 13 (by decide)).trans ((jkp 13 eσ31 (by decide)).trans (congrFun (f24 55 (by decide)) 13)))))
              refine lv_iconst (v := 0) hx hb dX12_theirs_72 (by decide) ?_
              refine lv_istore_n (lv' := [(2, .int 0), (0, .ref (ad 55)), (1, .int a1)]) hx hb dX12_theirs_73 rfl hl (by decide) rfl (fun ls hl => ?_)
              have lp59 : ∀ (n60 : Nat) (x61 : Int32) (σ62 : Nat → Nat → Int32) (H : Heap) (locs : List Loc) (ls : Array Slot), ((σ62 55 10).toInt - x61.toInt : Int) < n60 → 0 ≤ x61.toInt → x61.toInt ≤ 5 → x61.toInt ≤ (σ62 55 10).toInt → (∀ i : Nat, (i < 62 ∨ 62 < i) → σ62 i = σ43 i) → jI104 σ62 → (jSo (σ62 62) (σ43 79) (x61.toInt)) → jH D cI cL ad σ62 τ H → va_S (jA ad) s.heap H locs → lv_has ls 3 [(2, .int x61), (0, .ref (ad 55)), (1, .int a1)] → W p l e ({ frames := 110, cells := 0, slots := 0, locals := 5231 }) s m args below meth c H locs 0 0 Q (F0 m 74 ls []) := by
                intro n60
                induction n60 with
                | zero => intro x61 σ62 H locs ls h64 h65 h66 h67; exact absurd h64 (by omega)
                | succ n60 ihlp59 =>
                  intro x61 σ62 H locs ls h64 h65 h66 h67 f68 p69 q70 hP hS hl
                  obtain ⟨i71, i72, i73, w74, w75⟩ : (1 ≤ (σ62 55 10).toInt ∧ (σ62 55 10).toInt ≤ 8) ∧ (1 ≤ (σ62 55 12).toInt ∧ (σ62 55 12).toInt ≤ 12) ∧ (0 ≤ (σ62 55 13).toInt ∧ (σ62 55 13).toInt ≤ 999) ∧ (∀ k : Nat, k < 8 → 0 ≤ (σ62 62 k).toInt ∧ (σ62 62 k).toInt ≤ 3) ∧ (∀ k : Nat, k < 8 → 0 ≤ (σ62 67 k).toInt ∧ (σ62 67 k).toInt ≤ 3) := id p69
                  have z76 : (σ62 55 10).toInt = (σ 55 10).toInt := (congrArg Int32.toInt (show σ62 55 10 = (σ 55 10) from ((congrFun (f68 55 (by decide)) 10).trans ((f46 10 (by decide)).trans ((jkp 10 eσ31 (by decide)).trans m29)))))
                  have z77 : (σ62 55 12).toInt = (σ 55 12).toInt := (congrArg Int32.toInt (show σ62 55 12 = (σ 55 12) from ((congrFun (f68 55 (by decide)) 12).trans ((f46 12 (by decide)).trans ((jkp 12 eσ31 (by decide)).trans (congrFun (f24 55 (by decide)) 12))))))
                  have z78 : (σ62 55 13).toInt = (σ 55 13).toInt := (congrArg Int32.toInt (show σ62 55 13 = (σ 55 13) from ((congrFun (f68 55 (by decide)) 13).trans ((f46 13 (by decide)).trans ((jkp 13 eσ31 (by decide)).trans (congrFun (f24 55 (by decide)) 13))))))
                  refine lv_iload_n hx hb dX12_theirs_74 rfl (lv_at hl 0 rfl) ?_
                  refine lv_aload_n hx hb dX12_theirs_75 rfl (lv_at hl 1 rfl) ?_
                  refine va_get (D := D) hx hb hts inlX12 hown hK hP 55 (jc_55 cI cL ad σ62 τ) rfl 10 (by decide) (hts _ kw_8_15) (fun _ h9 => h9) rfl dX12_theirs_76 ?_
                  have m79 : σ62 55 10 = (σ 55 10) := ((congrFun (f68 55 (by decide)) 10).trans ((f46 10 (by decide)).trans ((jkp 10 eσ31 (by decide)).trans m29)))
                  refine jtopr m79 ?_
                  refine lv_icmp_ge (tgt := 100) hx hb dX12_theirs_79 (by decide) (fun c80 => ?_) (fun c80 => ?_)
                  · have kc80 := jle c80 rfl rfl
                    refine lv_iload_n hx hb dX12_theirs_100 rfl (lv_at hl 2 rfl) ?_
                    refine lv_if_ne (tgt := 111) hx hb dX12_theirs_101 (by decide) (fun c81 => ?_) (fun c81 => ?_)
                    · have kc81 := jne c81 t1 jz_0
                      refine lv_aload_n hx hb dX12_theirs_111 rfl (lv_at hl 1 rfl) ?_
                      refine va_get (D := D) hx hb hts inlX12 hown hK hP 55 (jc_55 cI cL ad σ62 τ) rfl 46 (by decide) (hts _ kw_40_17) (fun _ h9 => h9) rfl dX12_theirs_112 ?_
                      have m82 : σ62 55 46 = (σ43 55 46) := (congrFun (f68 55 (by decide)) 46)
                      refine jtopr m82 ?_
                      have I83 : jI111 σ62 := jI111_fr ((f68 79 (by decide)).trans (f45 79 (by decide))) I39
                      have I84 : jI119 σ62 := jI119_fr (f68 68 (by decide)) I48
                      have p85 : jKept σ62 := jKept.fr (f68 75 (by decide)) (f68 76 (by decide)) (f68 77 (by decide)) p49
                      exact hret (σ43 55 46) σ62 τ _ _ _ _ rfl ⟨rfl, (fun i hi => ((f68 i (imp_277 i hi)).trans ((f45 i (imp_278 i hi)).trans ((jnp i eσ31 (imp_279 i hi)).trans (f24 i (imp_280 i hi)))))), (fun i hi => ((congrFun (f68 55 (by decide)) i).trans ((f46 i hi).trans ((jkp i eσ31 (imp_275 i hi)).trans (congrFun (f24 55 (by decide)) i))))), p69, I83, I84, p85, (jSo.trans (g := σ43 79) q70 (by rw [show σ43 79 = σ18 79 from ((f45 79 (by decide)).trans (jnp 79 eσ31 (by decide)))]; exact q26) (by omega) (by omega)), trivial⟩ hP hS dX12_theirs_115
                    · have kc81 := jeq c81 t1 jz_0
                      refine lv_aload_n hx hb dX12_theirs_104 rfl (lv_at hl 1 rfl) ?_
                      refine va_get (D := D) hx hb hts inlX12 hown hK hP 55 (jc_55 cI cL ad σ62 τ) rfl 45 (by decide) (hts _ kw_40_18) (fun _ h9 => h9) rfl dX12_theirs_105 ?_
                      have m86 : σ62 55 45 = (σ43 55 45) := (congrFun (f68 55 (by decide)) 45)
                      refine jtopr m86 ?_
                      refine lv_goto (tgt := 115) hx hb dX12_theirs_108 (by decide) ?_
                      have I87 : jI111 σ62 := jI111_fr ((f68 79 (by decide)).trans (f45 79 (by decide))) I39
                      have I88 : jI119 σ62 := jI119_fr (f68 68 (by decide)) I48
                      have p89 : jKept σ62 := jKept.fr (f68 75 (by decide)) (f68 76 (by decide)) (f68 77 (by decide)) p49
                      exact hret (σ43 55 45) σ62 τ _ _ _ _ rfl ⟨rfl, (fun i hi => ((f68 i (imp_277 i hi)).trans ((f45 i (imp_278 i hi)).trans ((jnp i eσ31 (imp_279 i hi)).trans (f24 i (imp_280 i hi)))))), (fun i hi => ((congrFun (f68 55 (by decide)) i).trans ((f46 i hi).trans ((jkp i eσ31 (imp_275 i hi)).trans (congrFun (f24 55 (by decide)) i))))), p69, I87, I88, p89, (jSo.trans (g := σ43 79) q70 (by rw [show σ43 79 = σ18 79 from ((f45 79 (by decide)).trans (jnp 79 eσ31 (by decide)))]; exact q26) (by omega) (by omega)), trivial⟩ hP hS dX12_theirs_115
                  · have kc80 := jnle c80 rfl rfl
                    refine lv_aload_n hx hb dX12_theirs_82 rfl (lv_at hl 1 rfl) ?_
                    refine va_get (D := D) hx hb hts inlX12 hown hK hP 55 (jc_55 cI cL ad σ62 τ) rfl 11 (by decide) (hts _ kw_7_8) (fun _ h9 => h9) rfl dX12_theirs_83 ?_
                    refine lv_iload_n hx hb dX12_theirs_86 rfl (lv_at hl 0 rfl) ?_
                    refine lv_aload_n hx hb dX12_theirs_87 rfl (lv_at hl 1 rfl) ?_
                    refine va_get (D := D) hx hb hts inlX12 hown hK hP 55 (jc_55 cI cL ad σ62 τ) rfl 44 (by decide) (hts _ kw_8_4) (fun _ h9 => h9) rfl dX12_theirs_88 ?_
                    refine lv_iload_n hx hb dX12_theirs_91 rfl (lv_at hl 0 rfl) ?_
                    refine jald hx hb hK hP (jc_79 cI cL ad σ62 τ) (jin rfl (by omega) (by omega)) dX12_theirs_92 ?_
                    have w90 : ∀ k : Nat, k < 5 → 0 ≤ (σ62 79 k).toInt ∧ (σ62 79 k).toInt ≤ 3 := (jrr_fr (f68 79 (by decide)) (jrr_fr (f45 79 (by decide)) (jrr_fr (jnp 79 eσ31 (by decide)) w27)))
                    have g91 := w90 _ (jnat (x := x61) rfl (n := 5) (by omega) (by decide))
                    refine jtopr (y := (σ18 79 x61.toNatClampNeg)) (by rw [f68 79 (by decide), f45 79 (by decide), jnp 79 eσ31 (by decide)]) ?_
                    rw [f68 79 (by decide), f45 79 (by decide), jnp 79 eσ31 (by decide)] at g91
                    refine jast hx hb hK hP hJ hA hS (jc_62 cI cL ad σ62 τ) (ja_62 cI cL ad σ62 τ _ _) (jin rfl (by omega) (by omega)) dX12_theirs_93 (fun σ92 H locs eσ92 hP hS => ?_)
                    obtain ⟨x93, ex93⟩ : ∃ y : Int32, y = x61 + 1 := ⟨_, rfl⟩
                    have tx93 : x93.toInt = x61.toInt + 1 := (jadd ex93 rfl jz_1 (by omega) (by omega)).trans (by omega)
                    refine lv_iinc (v := x93) (lv' := [(2, .int x93), (0, .ref (ad 55)), (1, .int a1)]) hx hb dX12_theirs_94 hl (k := 0) rfl (by rw [ex93]; rfl) (by decide) rfl (fun ls hl => ?_)
                    refine lv_goto (tgt := 74) hx hb dX12_theirs_97 (by decide) ?_
                    have z94 : (σ92 55 10).toInt = (σ 55 10).toInt := (congrArg Int32.toInt (show σ92 55 10 = (σ 55 10) from ((congrFun (jnp 55 eσ92 (by decide)) 10).trans m79)))
                    have z95 : (σ92 55 12).toInt = (σ 55 12).toInt := (congrArg Int32.toInt (show σ92 55 12 = (σ 55 12) from ((congrFun (jnp 55 eσ92 (by decide)) 12).trans ((congrFun (f68 55 (by decide)) 12).trans ((f46 12 (by decide)).trans ((jkp 12 eσ31 (by decide)).trans (congrFun (f24 55 (by decide)) 12)))))))
                    have z96 : (σ92 55 13).toInt = (σ 55 13).toInt := (congrArg Int32.toInt (show σ92 55 13 = (σ 55 13) from ((congrFun (jnp 55 eσ92 (by decide)) 13).trans ((congrFun (f68 55 (by decide)) 13).trans ((f46 13 (by decide)).trans ((jkp 13 eσ31 (by decide)).trans (congrFun (f24 55 (by decide)) 13)))))))
                    have w97 : ∀ k : Nat, k < 8 → 0 ≤ (σ92 62 k).toInt ∧ (σ92 62 k).toInt ≤ 3 := (by rw [eσ92]; exact jrr_up w74 (by omega) (by omega))
                    have w98 : ∀ k : Nat, k < 8 → 0 ≤ (σ92 67 k).toInt ∧ (σ92 67 k).toInt ≤ 3 := (jrr_fr (jnp 67 eσ92 (by decide)) w75)
                    have I99 : jI104 σ92 := ⟨(by omega), (by omega), (by omega), w97, w98⟩
                    exact ihlp59 x93 σ92 _ _ ls (by have h90 := tx93; omega) (by have h90 := tx93; omega) (by have h90 := tx93; omega) (by have h90 := tx93; omega) (fun i hi => ((jnp i eσ92 (imp_237 i hi)).trans (f68 i hi)))   I99 (jSo.step q70 (by omega) (by rw [eσ92, jup_row, jnc (rfl : x61.toInt = x61.toInt)]) (by omega) (by rw [show σ43 79 = σ18 79 from ((f45 79 (by decide)).trans (jnp 79 eσ31 (by decide)))]; (try rw [jnc (show x61.toInt = x61.toInt by omega)]); try rfl) (by have h9 := tx93; omega)) hP hS (lv_sub hl [0, 1, 2] rfl)
              exact lp59 1000000 0 σ43 _ _ ls (by have h90 := jz_0; omega) (by have h90 := jz_0; omega) (by have h90 := jz_0; omega) (by have h90 := jz_0; omega) (fun _ _ => rfl)  I47 (jSo.first (by have h9 := jz_0; omega)) hP hS hl
            · have kc30 := jnle c30 rfl rfl
              refine lv_aload_n hx hb dX12_theirs_42 rfl (lv_at hl 1 rfl) ?_
              refine va_get (D := D) hx hb hts inlX12 hown hK hP 55 (jc_55 cI cL ad σ18 τ) rfl 44 (by decide) (hts _ kw_8_4) (fun _ h9 => h9) rfl dX12_theirs_43 ?_
              refine lv_iload_n hx hb dX12_theirs_46 rfl (lv_at hl 0 rfl) ?_
              refine lv_aload_n hx hb dX12_theirs_47 rfl (lv_at hl 1 rfl) ?_
              refine va_get (D := D) hx hb hts inlX12 hown hK hP 55 (jc_55 cI cL ad σ18 τ) rfl 11 (by decide) (hts _ kw_7_8) (fun _ h9 => h9) rfl dX12_theirs_48 ?_
              refine lv_iload_n hx hb dX12_theirs_51 rfl (lv_at hl 0 rfl) ?_
              refine jald hx hb hK hP (jc_62 cI cL ad σ18 τ) (jin rfl (by omega) (by omega)) dX12_theirs_52 ?_
              have w100 : ∀ k : Nat, k < 8 → 0 ≤ (σ18 62 k).toInt ∧ (σ18 62 k).toInt ≤ 3 := (jrr_fr (f24 62 (by decide)) w4)
              have g101 := w100 _ (jnat (x := x17) rfl (n := 8) (by omega) (by decide))
              refine jtopr (y := (σ 62 x17.toNatClampNeg)) (by rw [f24 62 (by decide)]) ?_
              rw [f24 62 (by decide)] at g101
              refine jast hx hb hK hP hJ hA hS (jc_79 cI cL ad σ18 τ) (ja_79 cI cL ad σ18 τ _ _) (jin rfl (by omega) (by omega)) dX12_theirs_53 (fun σ102 H locs eσ102 hP hS => ?_)
              obtain ⟨x103, ex103⟩ : ∃ y : Int32, y = x17 + 1 := ⟨_, rfl⟩
              have tx103 : x103.toInt = x17.toInt + 1 := (jadd ex103 rfl jz_1 (by omega) (by omega)).trans (by omega)
              refine lv_iinc (v := x103) (lv' := [(2, .int x103), (0, .ref (ad 55)), (1, .int a1)]) hx hb dX12_theirs_54 hl (k := 0) rfl (by rw [ex103]; rfl) (by decide) rfl (fun ls hl => ?_)
              refine lv_goto (tgt := 34) hx hb dX12_theirs_57 (by decide) ?_
              have z104 : (σ102 55 10).toInt = (σ 55 10).toInt := (congrArg Int32.toInt (show σ102 55 10 = (σ 55 10) from ((congrFun (jnp 55 eσ102 (by decide)) 10).trans m29)))
              have w105 : ∀ k : Nat, k < 5 → 0 ≤ (σ102 79 k).toInt ∧ (σ102 79 k).toInt ≤ 3 := (by rw [eσ102]; exact jrr_up w27 (by omega) (by omega))
              have I106 : jI111 σ102 := w105
              exact ihlp15 x103 σ102 _ _ ls (by have h90 := tx103; omega) (by have h90 := tx103; omega) (by have h90 := tx103; omega) (by have h90 := tx103; omega) (fun i hi => ((jnp i eσ102 (imp_281 i hi)).trans (f24 i hi)))   I106 (jSo.step q26 (by omega) (by rw [eσ102, jup_row, jnc (rfl : x17.toInt = x17.toInt)]) (by omega) (by (try rw [jnc (show x17.toInt = x17.toInt by omega)]); try rfl) (by have h9 := tx103; omega)) hP hS (lv_sub hl [0, 1, 2] rfl)
        exact lp15 1000000 0 σ _ _ ls (by have h90 := jz_0; omega) (by have h90 := jz_0; omega) (by have h90 := jz_0; omega) (by have h90 := jz_0; omega) (fun _ _ => rfl)  hI111 (jSo.first (by have h9 := jz_0; omega)) hP hS hl
      · have kc14 := jnle c14 rfl jz_8
        refine lv_bipush (v := (-4)) hx hb dX12_theirs_29 (by decide) ?_
        exact hret (-4) σ τ _ _ _ _ rfl ⟨rfl, (fun _ _ => rfl), (fun _ _ => rfl), hI104, hI111, hI119, hs_jKept, (by rw [show σ 62 = σ 62 from rfl]; exact jSo.rfl), trivial⟩ hP hS dX12_theirs_31
  · obtain ⟨q108, k107⟩ := h10
    have q108 := q108.symm
    subst q108
    refine lv_if_ne (tgt := 12) hx hb dX12_theirs_7 (by decide) (fun c => absurd (by decide) c) (fun _ => ?_)
    refine lv_iconst (v := (-1)) hx hb dX12_theirs_10 (by decide) ?_
    exact hret (-1) σ τ _ _ _ _ rfl ⟨rfl, (fun _ _ => rfl), (fun _ _ => rfl), hI104, hI111, hI119, hs_jKept, (by rw [show σ 62 = σ 62 from rfl]; exact jSo.rfl), trivial⟩ hP hS dX12_theirs_11
set_option maxHeartbeats 4000000 in
set_option maxRecDepth 100000 in
theorem c_X12_isShelf (l : Launch) (D : va_G) (cI cL : ClassId) (ad zz : Nat → Nat) (hJ : jD ad) (σ : Nat → Nat → Int32) (τ : Nat → Nat → Int64) (a1 : Int32) (A1 : Int) (t1 : a1.toInt = A1) : jM l yX12_isShelf cX12_isShelf 1 (some .boolean) ({ frames := 1, cells := 0, slots := 0, locals := 25 }) D cI cL ad zz [.int a1] σ τ (fun r σ' τ' => (σ = σ' ∧ τ = τ') ∧ ((r = 1 ∧ (0 ≤ A1 ∧ A1 ≤ 5)) ∨ (r = 0 ∧ ((A1 < 0) ∨ (5 < A1))))) := by
  refine jM.of hJ (by decide +kernel) (nt := .boolean) rfl (Nat.le_of_ble_eq_true rfl) ?_
  intro p e s m args below meth c Q ls hC hret hl hP
  obtain ⟨hx, hb, hr, hml, hown, hts, hK, -, hlocks, hZ⟩ := hC
  have hown : s.vm.findClass RX12 = some m.cls := hown
  have hS : va_S (jA ad) s.heap s.heap [] := va_S.rf
  have hA : ∀ q, jA ad q → jA ad q := fun _ h => h
  have hl : lv_has ls 1 [(0, .int a1)] := hl
  have g1 := jrg t1
  refine lv_iload_n hx hb dX12_isShelf_0 rfl (lv_at hl 0 rfl) ?_
  refine lv_i2l (v := a1.toInt64) hx hb dX12_isShelf_1 rfl ?_
  refine lv_lconst (v := 0) hx hb dX12_isShelf_2 (by decide) ?_
  refine lv_ldc2 (v := 5) hx hb hown (hts _ kw_43_20) dX12_isShelf_3 ?_
  refine jcallS (As := [.long a1.toInt64, .long 0, .long 5]) (rest := []) ⟨hx, hb, hml, hown, hts⟩ hK hP hA hS hZ (c_X12_within l D cI cL ad zz hJ σ τ a1.toInt64 (A1) (jtoL t1) 0 (0) jzl_0 5 (5) jzl_5) cw_RX12_136 ⟨Nat.le_of_ble_eq_true rfl, Nat.le_of_ble_eq_true rfl⟩ rfl rfl rfl hl.1 rfl (Nat.le_of_ble_eq_true rfl) dX12_isShelf_6 ⟨Nat.zero_le _, Nat.zero_le _⟩ (fun r2 σ1 τ1 H locs h1 hP hS => ?_)
  obtain ⟨⟨rfl, rfl⟩, h1⟩ := h1
  rcases h1 with h3 | h4
  · obtain ⟨q6, k5⟩ := h3
    have q6 := q6.symm
    subst q6
    exact hret 1 σ τ _ _ _ _ rfl ⟨⟨rfl, rfl⟩, Or.inl ⟨rfl, (by have h9 := jz_1; omega)⟩⟩ hP hS dX12_isShelf_9
  · obtain ⟨q8, k7⟩ := h4
    have q8 := q8.symm
    subst q8
    exact hret 0 σ τ _ _ _ _ rfl ⟨⟨rfl, rfl⟩, Or.inr (⟨rfl, (by have h9 := jz_0; omega)⟩)⟩ hP hS dX12_isShelf_9
set_option maxHeartbeats 4000000 in
set_option maxRecDepth 100000 in
theorem c_X12_books (l : Launch) (D : va_G) (cI cL : ClassId) (ad zz : Nat → Nat) (hJ : jD ad) (σ : Nat → Nat → Int32) (τ : Nat → Nat → Int64) (a1 : Int32) (A1 : Int) (t1 : a1.toInt = A1) (a2 : Int32) (A2 : Int) (t2 : a2.toInt = A2) (hI102 : jI102 σ) (hI104 : jI104 σ) (hI107 : jI107 σ) (hI110 : jI110 σ) (hI119 : jI119 σ) (hs_jBook : jBook σ) : jM l yX12_books cX12_books 6 (some .int) ({ frames := 4, cells := 0, slots := 0, locals := 85 }) D cI cL ad zz [.ref (ad 55), .int a1, .int a2] σ τ (fun r σ' τ' => τ = τ' ∧ (∀ i : Nat, (i < 55 ∨ 55 < i) ∧ (i < 68 ∨ 69 < i) ∧ (i < 80 ∨ 81 < i) → σ' i = σ i) ∧ (∀ k : Nat, (k < 25 ∨ 25 < k) ∧ (k < 26 ∨ 26 < k) ∧ (k < 27 ∨ 27 < k) ∧ (k < 47 ∨ 47 < k) → σ' 55 k = σ 55 k) ∧ (jI107 σ') ∧ (jI119 σ') ∧ (jBook σ') ∧ True) := by
  refine jM.of hJ (by decide +kernel) (nt := .int) rfl (Nat.le_of_ble_eq_true rfl) ?_
  intro p e s m args below meth c Q ls hC hret hl hP
  obtain ⟨hx, hb, hr, hml, hown, hts, hK, -, hlocks, hZ⟩ := hC
  have hown : s.vm.findClass RX12 = some m.cls := hown
  have hS : va_S (jA ad) s.heap s.heap [] := va_S.rf
  have hA : ∀ q, jA ad q → jA ad q := fun _ h => h
  have hl : lv_has ls 6 [(0, .ref (ad 55)), (1, .int a1), (2, .int a2)] := hl
  have g1 := jrg t1
  have g2 := jrg t2
  obtain ⟨i1, i2, w3⟩ : (0 ≤ (σ 55 47).toInt ∧ (σ 55 47).toInt ≤ 12) ∧ ((σ 55 47).toInt ≤ (σ 55 12).toInt) ∧ (∀ k : Nat, k < 12 → 0 ≤ (σ 80 k).toInt ∧ (σ 80 k).toInt ≤ 3) := id hI107
  obtain ⟨w4, w5⟩ : (∀ k : Nat, k < 6 → (-1) ≤ (σ 86 k).toInt ∧ (σ 86 k).toInt ≤ 24) ∧ (∀ k : Nat, k < 6 → 0 ≤ (σ 87 k).toInt ∧ (σ 87 k).toInt ≤ 60) := id hI110
  refine lv_iload_n hx hb dX12_books_0 rfl (lv_at hl 1 rfl) ?_
  refine jcallS (As := [.int a1]) (rest := []) ⟨hx, hb, hml, hown, hts⟩ hK hP hA hS hZ (c_X12_isShelf l D cI cL ad zz hJ σ τ a1 (A1) t1) cw_RX12_361 ⟨Nat.le_of_ble_eq_true rfl, Nat.le_of_ble_eq_true rfl⟩ rfl rfl rfl hl.1 rfl (Nat.le_of_ble_eq_true rfl) dX12_books_1 ⟨Nat.zero_le _, Nat.zero_le _⟩ (fun r7 σ6 τ6 H locs h6 hP hS => ?_)
  obtain ⟨⟨rfl, rfl⟩, h6⟩ := h6
  rcases h6 with h8 | h9
  · obtain ⟨q11, k10⟩ := h8
    have q11 := q11.symm
    subst q11
    refine lv_if_ne (tgt := 9) hx hb dX12_books_4 (by decide) (fun _ => ?_) (fun c => absurd c (by decide))
    refine lv_aload_n hx hb dX12_books_9 rfl (lv_at hl 0 rfl) ?_
    refine va_get (D := D) hx hb hts inlX12 hown hK hP 55 (jc_55 cI cL ad σ τ) rfl 58 (by decide) (hts _ kw_8_11) (fun _ h9 => h9) rfl dX12_books_10 ?_
    refine lv_iload_n hx hb dX12_books_13 rfl (lv_at hl 1 rfl) ?_
    refine jald hx hb hK hP (jc_86 cI cL ad σ τ) (jin t1 (by omega) (by omega)) dX12_books_14 ?_
    have g12 := w4 _ (jnat (x := a1) t1 (n := 6) (by omega) (by decide))
    refine lv_topi (fun x13 ex13 => ?_)
    rw [← ex13] at g12
    refine lv_if_lt (tgt := 32) hx hb dX12_books_15 (by decide) (fun c14 => ?_) (fun c14 => ?_)
    · have kc14 := jlt c14 rfl jz_0
      refine lv_aload_n hx hb dX12_books_32 rfl (lv_at hl 0 rfl) ?_
      refine lv_iconst (v := 0) hx hb dX12_books_33 (by decide) ?_
      refine jput (ty := .int) hx hb hts inlX12 tyX12 tyX12_ok nmX12 hown hK hP hJ hA hS (jc_55 cI cL ad σ τ) rfl (k := 47) (by decide) (Nat.le_of_ble_eq_true rfl) (jp_55_47 cI cL ad σ τ 0) (hts _ kw_15_15) (fun _ h9 => h9) rfl (by decide +kernel) rfl rfl dX12_books_34 (fun σ15 H locs eσ15 hP hS => ?_)
      have z16 : (σ15 55 47).toInt = 0 := ((congrArg Int32.toInt (show σ15 55 47 = 0 from (jsp eσ15))).trans jz_0)
      have p17 : jBook σ15 := jBook.nil (by omega)
      refine lv_aload_n hx hb dX12_books_37 rfl (lv_at hl 0 rfl) ?_
      refine va_get (D := D) hx hb hts inlX12 hown hK hP 55 (jc_55 cI cL ad σ15 τ) rfl 58 (by decide) (hts _ kw_8_11) (fun _ h9 => h9) rfl dX12_books_38 ?_
      refine lv_iload_n hx hb dX12_books_41 rfl (lv_at hl 1 rfl) ?_
      refine jald hx hb hK hP (jc_86 cI cL ad σ15 τ) (jin t1 (by omega) (by omega)) dX12_books_42 ?_
      have w18 : ∀ k : Nat, k < 6 → (-1) ≤ (σ15 86 k).toInt ∧ (σ15 86 k).toInt ≤ 24 := (jrr_fr (jnp 86 eσ15 (by decide)) w4)
      have g19 := w18 _ (jnat (x := a1) t1 (n := 6) (by omega) (by decide))
      refine lv_topi (fun x20 ex20 => ?_)
      rw [← ex20] at g19
      refine lv_bipush (v := 20) hx hb dX12_books_43 (by decide) ?_
      refine lv_icmp_ne (tgt := 56) hx hb dX12_books_45 (by decide) (fun c21 => ?_) (fun c21 => ?_)
      · have kc21 := jne c21 rfl jz_20
        refine lv_iconst (v := 0) hx hb dX12_books_56 (by decide) ?_
        refine lv_istore_n (lv' := [(3, .int 0), (0, .ref (ad 55)), (1, .int a1), (2, .int a2)]) hx hb dX12_books_57 rfl hl (by decide) rfl (fun ls hl => ?_)
        have z27 : (σ15 55 12).toInt = (σ 55 12).toInt := (congrArg Int32.toInt (show σ15 55 12 = (σ 55 12) from (jkp 12 eσ15 (by decide))))
        have w28 : ∀ k : Nat, k < 12 → 0 ≤ (σ15 80 k).toInt ∧ (σ15 80 k).toInt ≤ 3 := (jrr_fr (jnp 80 eσ15 (by decide)) w3)
        have I29 : jI107 σ15 := ⟨(by omega), (by omega), w28⟩
        have I30 : jI119 σ15 := jI119_fr (jnp 68 eσ15 (by decide)) hI119
        have lp22 : ∀ (n23 : Nat) (x24 : Int32) (σ26 : Nat → Nat → Int32) (H : Heap) (locs : List Loc) (ls : Array Slot), (-(2 * (σ26 55 47).toInt) + x24.toInt + 26 : Int) < n23 → 0 ≤ x24.toInt → x24.toInt ≤ 1 → ((x24.toInt = 0) ∨ (0 ≤ A2)) → (σ26 55 47).toInt ≤ 12 → (∀ i : Nat, (i < 55 ∨ 55 < i) ∧ (i < 68 ∨ 69 < i) ∧ (i < 80 ∨ 81 < i) → σ26 i = σ15 i) → (∀ k : Nat, (k < 25 ∨ 25 < k) ∧ (k < 26 ∨ 26 < k) ∧ (k < 27 ∨ 27 < k) ∧ (k < 47 ∨ 47 < k) → σ26 55 k = σ15 55 k) → jBook σ26 → jI107 σ26 → jI119 σ26 → jH D cI cL ad σ26 τ H → va_S (jA ad) s.heap H locs → lv_has ls 6 [(3, .int x24), (0, .ref (ad 55)), (1, .int a1), (2, .int a2)] → W p l e ({ frames := 4, cells := 0, slots := 0, locals := 85 }) s m args below meth c H locs 0 0 Q (F0 m 58 ls []) := by
          intro n23
          induction n23 with
          | zero => intro x24 σ26 H locs ls h32 h33 h34 h35 h36; exact absurd h32 (by omega)
          | succ n23 ihlp22 =>
            intro x24 σ26 H locs ls h32 h33 h34 h35 h36 f37 f38 p39 p40 p41 hP hS hl
            obtain ⟨i42, i43, w44⟩ : (0 ≤ (σ26 55 47).toInt ∧ (σ26 55 47).toInt ≤ 12) ∧ ((σ26 55 47).toInt ≤ (σ26 55 12).toInt) ∧ (∀ k : Nat, k < 12 → 0 ≤ (σ26 80 k).toInt ∧ (σ26 80 k).toInt ≤ 3) := id p40
            have z45 : (σ26 55 12).toInt = (σ 55 12).toInt := (congrArg Int32.toInt (show σ26 55 12 = (σ 55 12) from ((f38 12 (by decide)).trans (jkp 12 eσ15 (by decide)))))
            refine lv_iload_n hx hb dX12_books_58 rfl (lv_at hl 0 rfl) ?_
            refine lv_if_eq (tgt := 145) hx hb dX12_books_59 (by decide) (fun c46 => ?_) (fun c46 => ?_)
            · have kc46 := jeq c46 rfl jz_0
              refine lv_aload_n hx hb dX12_books_145 rfl (lv_at hl 1 rfl) ?_
              refine va_get (D := D) hx hb hts inlX12 hown hK hP 55 (jc_55 cI cL ad σ26 τ) rfl 47 (by decide) (hts _ kw_15_15) (fun _ h9 => h9) rfl dX12_books_146 ?_
              exact hret (σ26 55 47) σ26 τ _ _ _ _ rfl ⟨rfl, (fun i hi => ((f37 i hi).trans (jnp i eσ15 (imp_215 i hi)))), (fun i hi => ((f38 i hi).trans (jkp i eσ15 (imp_218 i hi)))), p40, p41, p39, trivial⟩ hP hS dX12_books_149
            · have kc46 := jne c46 rfl jz_0
              refine lv_iload_n hx hb dX12_books_62 rfl (lv_at hl 3 rfl) ?_
              refine lv_aload_n hx hb dX12_books_63 rfl (lv_at hl 1 rfl) ?_
              refine va_get (D := D) hx hb hts inlX12 hown hK hP 55 (jc_55 cI cL ad σ26 τ) rfl 59 (by decide) (hts _ kw_8_12) (fun _ h9 => h9) rfl dX12_books_64 ?_
              refine lv_iload_n hx hb dX12_books_67 rfl (lv_at hl 2 rfl) ?_
              refine jald hx hb hK hP (jc_87 cI cL ad σ26 τ) (jin t1 (by omega) (by omega)) dX12_books_68 ?_
              have w47 : ∀ k : Nat, k < 6 → 0 ≤ (σ26 87 k).toInt ∧ (σ26 87 k).toInt ≤ 60 := (jrr_fr (f37 87 (by decide)) (jrr_fr (jnp 87 eσ15 (by decide)) w5))
              have g48 := w47 _ (jnat (x := a1) t1 (n := 6) (by omega) (by decide))
              refine lv_topi (fun x49 ex49 => ?_)
              rw [← ex49] at g48
              refine lv_aload_n hx hb dX12_books_69 rfl (lv_at hl 1 rfl) ?_
              refine va_get (D := D) hx hb hts inlX12 hown hK hP 55 (jc_55 cI cL ad σ26 τ) rfl 47 (by decide) (hts _ kw_15_15) (fun _ h9 => h9) rfl dX12_books_70 ?_
              have g50 := jrg (rfl : x49.toInt = x49.toInt)
              have g51 := jrg (rfl : (σ26 55 47).toInt = (σ26 55 47).toInt)
              refine lv_isub hx hb dX12_books_73 ?_
              refine lv_topi (fun x52 ex52 => ?_)
              have tx52 : x52.toInt = x49.toInt - (σ26 55 47).toInt := (jsub ex52 rfl rfl (by omega) (by omega)).trans (by omega)
              refine lv_icmp_ge (tgt := 96) hx hb dX12_books_74 (by decide) (fun c53 => ?_) (fun c53 => ?_)
              · have kc53 := jle c53 tx52 t2
                refine lv_ldc2 (v := (-1)) hx hb hown (hts _ kw_43_16) dX12_books_96 ?_
                refine lv_lstore (lv' := [(4, .long (-1)), (3, .int x24), (0, .ref (ad 55)), (1, .int a1), (2, .int a2)]) hx hb dX12_books_99 hl (by decide) rfl (fun ls hl => ?_)
                refine lv_lload hx hb dX12_books_101 (lv_at hl 0 rfl) ?_
                refine lv_lconst (v := 0) hx hb dX12_books_103 (by decide) ?_
                refine W.lcmp hx hb dX12_books_104 ?_
                refine lv_if_lt (tgt := 140) hx hb dX12_books_105 (by decide) (fun c54 => ?_) (fun c => absurd (jcnlt c jzl_m1 jzl_0) (by omega))
                have kc54 := jclt c54 jzl_m1 jzl_0
                refine lv_iconst (v := 0) hx hb dX12_books_140 (by decide) ?_
                refine lv_istore_n (lv' := [(3, .int 0), (4, .long (-1)), (0, .ref (ad 55)), (1, .int a1), (2, .int a2)]) hx hb dX12_books_141 rfl hl (by decide) rfl (fun ls hl => ?_)
                refine lv_goto (tgt := 58) hx hb dX12_books_142 (by decide) ?_
                exact ihlp22 0 σ26 _ _ ls (by have h90 := jz_0; omega) (by have h90 := jz_0; omega) (by have h90 := jz_0; omega) (by have h90 := jz_0; omega) (by have h90 := jz_0; omega) (fun i hi => (f37 i hi)) (fun i hi => (f38 i hi))  p39 p40 p41 hP hS (lv_sub hl [0, 2, 3, 4] rfl)
              · have kc53 := jnle c53 tx52 t2
                refine lv_aload_n hx hb dX12_books_77 rfl (lv_at hl 1 rfl) ?_
                refine va_get (D := D) hx hb hts inlX12 hown hK hP 55 (jc_55 cI cL ad σ26 τ) rfl 60 (by decide) (hts _ kw_8_13) (fun _ h9 => h9) rfl dX12_books_78 ?_
                refine lv_bipush (v := 60) hx hb dX12_books_81 (by decide) ?_
                refine lv_iload_n hx hb dX12_books_83 rfl (lv_at hl 2 rfl) ?_
                refine lv_imul hx hb dX12_books_84 ?_
                refine lv_topi (fun x55 ex55 => ?_)
                have tx55 : x55.toInt = 60 * A1 := (jmul ex55 jz_60 t1 (by omega) (by omega)).trans (by omega)
                refine lv_iload_n hx hb dX12_books_85 rfl (lv_at hl 3 rfl) ?_
                refine lv_iadd hx hb dX12_books_86 ?_
                refine lv_topi (fun x56 ex56 => ?_)
                have tx56 : x56.toInt = 60 * A1 + A2 := (jadd ex56 tx55 t2 (by omega) (by omega)).trans (by omega)
                refine lv_aload_n hx hb dX12_books_87 rfl (lv_at hl 1 rfl) ?_
                refine va_get (D := D) hx hb hts inlX12 hown hK hP 55 (jc_55 cI cL ad σ26 τ) rfl 47 (by decide) (hts _ kw_15_15) (fun _ h9 => h9) rfl dX12_books_88 ?_
                refine lv_iadd hx hb dX12_books_91 ?_
                refine lv_topi (fun x57 ex57 => ?_)
                have tx57 : x57.toInt = 60 * A1 + A2 + (σ26 55 47).toInt := (jadd ex57 tx56 rfl (by omega) (by omega)).trans (by omega)
                refine jaldL hx hb hK hP (jc_88 cI cL ad σ26 τ) (jin tx57 (by omega) (by omega)) dX12_books_92 ?_
                refine lv_topl (fun lx58 elx58 => ?_)
                refine lv_goto (tgt := 99) hx hb dX12_books_93 (by decide) ?_
                refine lv_lstore (lv' := [(4, .long lx58), (3, .int x24), (0, .ref (ad 55)), (1, .int a1), (2, .int a2)]) hx hb dX12_books_99 hl (by decide) rfl (fun ls hl => ?_)
                refine lv_lload hx hb dX12_books_101 (lv_at hl 0 rfl) ?_
                refine lv_lconst (v := 0) hx hb dX12_books_103 (by decide) ?_
                refine W.lcmp hx hb dX12_books_104 ?_
                refine lv_if_lt (tgt := 140) hx hb dX12_books_105 (by decide) (fun c59 => ?_) (fun c59 => ?_)
                · have kc59 := jclt c59 rfl jzl_0
                  refine lv_iconst (v := 0) hx hb dX12_books_140 (by decide) ?_
                  refine lv_istore_n (lv' := [(3, .int 0), (4, .long lx58), (0, .ref (ad 55)), (1, .int a1), (2, .int a2)]) hx hb dX12_books_141 rfl hl (by decide) rfl (fun ls hl => ?_)
                  refine lv_goto (tgt := 58) hx hb dX12_books_142 (by decide) ?_
                  exact ihlp22 0 σ26 _ _ ls (by have h90 := jz_0; omega) (by have h90 := jz_0; omega) (by have h90 := jz_0; omega) (by have h90 := jz_0; omega) (by have h90 := jz_0; omega) (fun i hi => (f37 i hi)) (fun i hi => (f38 i hi))  p39 p40 p41 hP hS (lv_sub hl [0, 2, 3, 4] rfl)
                · have kc59 := jcnlt c59 rfl jzl_0
                  refine lv_lload hx hb dX12_books_108 (lv_at hl 0 rfl) ?_
                  refine lv_ldc2 (v := 20) hx hb hown (hts _ kw_9_12) dX12_books_110 ?_
                  refine W.lcmp hx hb dX12_books_113 ?_
                  refine lv_if_ge (tgt := 140) hx hb dX12_books_114 (by decide) (fun c60 => ?_) (fun c60 => ?_)
                  · have kc60 := jcge c60 rfl jzl_20
                    refine lv_iconst (v := 0) hx hb dX12_books_140 (by decide) ?_
                    refine lv_istore_n (lv' := [(3, .int 0), (4, .long lx58), (0, .ref (ad 55)), (1, .int a1), (2, .int a2)]) hx hb dX12_books_141 rfl hl (by decide) rfl (fun ls hl => ?_)
                    refine lv_goto (tgt := 58) hx hb dX12_books_142 (by decide) ?_
                    exact ihlp22 0 σ26 _ _ ls (by have h90 := jz_0; omega) (by have h90 := jz_0; omega) (by have h90 := jz_0; omega) (by have h90 := jz_0; omega) (by have h90 := jz_0; omega) (fun i hi => (f37 i hi)) (fun i hi => (f38 i hi))  p39 p40 p41 hP hS (lv_sub hl [0, 2, 3, 4] rfl)
                  · have kc60 := jcnge c60 rfl jzl_20
                    refine lv_aload_n hx hb dX12_books_117 rfl (lv_at hl 2 rfl) ?_
                    refine lv_lload hx hb dX12_books_118 (lv_at hl 0 rfl) ?_
                    refine lv_l2i hx hb dX12_books_120 rfl ?_
                    refine lv_topi (fun x61 ex61 => ?_)
                    have tx61 : x61.toInt = lx58.toInt := jtoI ex61 rfl (by omega) (by omega)
                    refine lv_bipush (v := 10) hx hb dX12_books_121 (by decide) ?_
                    refine lv_irem hx hb dX12_books_123 (by decide) ?_
                    refine lv_topi (fun x62 ex62 => ?_)
                    have tx62 : x62.toInt = (lx58.toInt % 10) := jrem ex62 tx61 jz_10 (by omega)
                    refine lv_lload hx hb dX12_books_124 (lv_at hl 0 rfl) ?_
                    refine lv_l2i hx hb dX12_books_126 rfl ?_
                    refine lv_topi (fun x63 ex63 => ?_)
                    have tx63 : x63.toInt = lx58.toInt := jtoI ex63 rfl (by omega) (by omega)
                    refine lv_bipush (v := 10) hx hb dX12_books_127 (by decide) ?_
                    refine lv_idiv hx hb dX12_books_129 (by decide) ?_
                    refine lv_topi (fun x64 ex64 => ?_)
                    have tx64 : x64.toInt = (lx58.toInt / 10) := jdiv ex64 tx63 jz_10 (by omega) (by omega)
                    have I65 : jI102 σ26 := jI102_fr ((f38 6 (by decide)).trans (jkp 6 eσ15 (by decide))) ((f37 60 (by decide)).trans (jnp 60 eσ15 (by decide))) ((f37 61 (by decide)).trans (jnp 61 eσ15 (by decide))) hI102
                    have I66 : jI104 σ26 := jI104_fr ((f38 10 (by decide)).trans (jkp 10 eσ15 (by decide))) ((f38 12 (by decide)).trans (jkp 12 eσ15 (by decide))) ((f38 13 (by decide)).trans (jkp 13 eσ15 (by decide))) ((f37 62 (by decide)).trans (jnp 62 eσ15 (by decide))) ((f37 67 (by decide)).trans (jnp 67 eσ15 (by decide))) hI104
                    have w67 : ∀ k : Nat, k < 4 → 0 ≤ (σ26 68 k).toInt ∧ (σ26 68 k).toInt ≤ 3 := p41
                    refine jcallV (As := [.int x62, .int x64]) (rest := []) ⟨hx, hb, hml, hown, hts⟩ hK hP hA hS hZ (c_X12_book l D cI cL ad zz hJ σ26 τ x62 ((lx58.toInt % 10)) tx62 x64 ((lx58.toInt / 10)) tx64 I65 I66 p40 w67 p39) cw_RX12_366 (jc_55 cI cL ad σ26 τ) rfl ⟨Nat.le_of_ble_eq_true rfl, Nat.le_of_ble_eq_true rfl⟩ rfl rfl rfl hl.1 rfl (Nat.le_of_ble_eq_true rfl) dX12_books_130 ⟨Nat.zero_le _, Nat.zero_le _⟩ (fun r69 σ68 τ68 H locs h68 hP hS => ?_)
                    obtain ⟨rfl, f70, f71, I72, w73, p74, h68⟩ := h68
                    obtain ⟨i76, i77, w78⟩ : (0 ≤ (σ68 55 47).toInt ∧ (σ68 55 47).toInt ≤ 12) ∧ ((σ68 55 47).toInt ≤ (σ68 55 12).toInt) ∧ (∀ k : Nat, k < 12 → 0 ≤ (σ68 80 k).toInt ∧ (σ68 80 k).toInt ≤ 3) := id I72
                    have z79 : (σ68 55 12).toInt = (σ 55 12).toInt := (congrArg Int32.toInt (show σ68 55 12 = (σ 55 12) from ((f71 12 (by decide)).trans ((f38 12 (by decide)).trans (jkp 12 eσ15 (by decide))))))
                    rcases h68 with h80 | h81
                    · obtain ⟨q84, k82, k83⟩ := h80
                      refine lv_if_le (tgt := 140) hx hb dX12_books_133 (by decide) (fun c => absurd (jle c rfl jz_0) (by omega)) (fun c85 => ?_)
                      have kc85 := jnle c85 rfl jz_0
                      refine lv_iconst (v := 1) hx hb dX12_books_136 (by decide) ?_
                      refine lv_goto (tgt := 141) hx hb dX12_books_137 (by decide) ?_
                      refine lv_istore_n (lv' := [(3, .int 1), (4, .long lx58), (0, .ref (ad 55)), (1, .int a1), (2, .int a2)]) hx hb dX12_books_141 rfl hl (by decide) rfl (fun ls hl => ?_)
                      refine lv_goto (tgt := 58) hx hb dX12_books_142 (by decide) ?_
                      have I86 : jI119 σ68 := w73
                      exact ihlp22 1 σ68 _ _ ls (by have h90 := jz_1; omega) (by have h90 := jz_1; omega) (by have h90 := jz_1; omega) (by have h90 := jz_1; omega) (by have h90 := jz_1; omega) (fun i hi => ((f70 i hi).trans (f37 i hi))) (fun i hi => ((f71 i hi).trans (f38 i hi)))  p74 I72 I86 hP hS (lv_sub hl [0, 2, 3, 4] rfl)
                    · obtain ⟨q89, k87, k88⟩ := h81
                      refine lv_if_le (tgt := 140) hx hb dX12_books_133 (by decide) (fun c90 => ?_) (fun c => absurd (jnle c rfl jz_0) (by omega))
                      have kc90 := jle c90 rfl jz_0
                      refine lv_iconst (v := 0) hx hb dX12_books_140 (by decide) ?_
                      refine lv_istore_n (lv' := [(3, .int 0), (4, .long lx58), (0, .ref (ad 55)), (1, .int a1), (2, .int a2)]) hx hb dX12_books_141 rfl hl (by decide) rfl (fun ls hl => ?_)
                      refine lv_goto (tgt := 58) hx hb dX12_books_142 (by decide) ?_
                      have I91 : jI119 σ68 := w73
                      exact ihlp22 0 σ68 _ _ ls (by have h90 := jz_0; omega) (by have h90 := jz_0; omega) (by have h90 := jz_0; omega) (by have h90 := jz_0; omega) (by have h90 := jz_0; omega) (fun i hi => ((f70 i hi).trans (f37 i hi))) (fun i hi => ((f71 i hi).trans (f38 i hi)))  p74 I72 I91 hP hS (lv_sub hl [0, 2, 3, 4] rfl)
        exact lp22 1000000 0 σ15 _ _ ls (by have h90 := jz_0; omega) (by have h90 := jz_0; omega) (by have h90 := jz_0; omega) (by have h90 := jz_0; omega) (by have h90 := jz_0; omega) (fun _ _ => rfl) (fun _ _ => rfl)  p17 I29 I30 hP hS hl
      · have kc21 := jeq c21 rfl jz_20
        refine lv_iload_n hx hb dX12_books_48 rfl (lv_at hl 2 rfl) ?_
        refine lv_if_lt (tgt := 56) hx hb dX12_books_49 (by decide) (fun c92 => ?_) (fun c92 => ?_)
        · have kc92 := jlt c92 t2 jz_0
          refine lv_iconst (v := 0) hx hb dX12_books_56 (by decide) ?_
          refine lv_istore_n (lv' := [(3, .int 0), (0, .ref (ad 55)), (1, .int a1), (2, .int a2)]) hx hb dX12_books_57 rfl hl (by decide) rfl (fun ls hl => ?_)
          have z98 : (σ15 55 12).toInt = (σ 55 12).toInt := (congrArg Int32.toInt (show σ15 55 12 = (σ 55 12) from (jkp 12 eσ15 (by decide))))
          have w99 : ∀ k : Nat, k < 12 → 0 ≤ (σ15 80 k).toInt ∧ (σ15 80 k).toInt ≤ 3 := (jrr_fr (jnp 80 eσ15 (by decide)) w3)
          have I100 : jI107 σ15 := ⟨(by omega), (by omega), w99⟩
          have I101 : jI119 σ15 := jI119_fr (jnp 68 eσ15 (by decide)) hI119
          have lp93 : ∀ (n94 : Nat) (x95 : Int32) (σ97 : Nat → Nat → Int32) (H : Heap) (locs : List Loc) (ls : Array Slot), (-(2 * (σ97 55 47).toInt) + x95.toInt + 26 : Int) < n94 → 0 ≤ x95.toInt → x95.toInt ≤ 1 → ((x95.toInt = 0) ∨ (0 ≤ A2)) → (σ97 55 47).toInt ≤ 12 → (∀ i : Nat, (i < 55 ∨ 55 < i) ∧ (i < 68 ∨ 69 < i) ∧ (i < 80 ∨ 81 < i) → σ97 i = σ15 i) → (∀ k : Nat, (k < 25 ∨ 25 < k) ∧ (k < 26 ∨ 26 < k) ∧ (k < 27 ∨ 27 < k) ∧ (k < 47 ∨ 47 < k) → σ97 55 k = σ15 55 k) → jBook σ97 → jI107 σ97 → jI119 σ97 → jH D cI cL ad σ97 τ H → va_S (jA ad) s.heap H locs → lv_has ls 6 [(3, .int x95), (0, .ref (ad 55)), (1, .int a1), (2, .int a2)] → W p l e ({ frames := 4, cells := 0, slots := 0, locals := 85 }) s m args below meth c H locs 0 0 Q (F0 m 58 ls []) := by
            intro n94
            induction n94 with
            | zero => intro x95 σ97 H locs ls h103 h104 h105 h106 h107; exact absurd h103 (by omega)
            | succ n94 ihlp93 =>
              intro x95 σ97 H locs ls h103 h104 h105 h106 h107 f108 f109 p110 p111 p112 hP hS hl
              obtain ⟨i113, i114, w115⟩ : (0 ≤ (σ97 55 47).toInt ∧ (σ97 55 47).toInt ≤ 12) ∧ ((σ97 55 47).toInt ≤ (σ97 55 12).toInt) ∧ (∀ k : Nat, k < 12 → 0 ≤ (σ97 80 k).toInt ∧ (σ97 80 k).toInt ≤ 3) := id p111
              have z116 : (σ97 55 12).toInt = (σ 55 12).toInt := (congrArg Int32.toInt (show σ97 55 12 = (σ 55 12) from ((f109 12 (by decide)).trans (jkp 12 eσ15 (by decide)))))
              refine lv_iload_n hx hb dX12_books_58 rfl (lv_at hl 0 rfl) ?_
              refine lv_if_eq (tgt := 145) hx hb dX12_books_59 (by decide) (fun c117 => ?_) (fun c => absurd (jne c rfl jz_0) (by omega))
              have kc117 := jeq c117 rfl jz_0
              refine lv_aload_n hx hb dX12_books_145 rfl (lv_at hl 1 rfl) ?_
              refine va_get (D := D) hx hb hts inlX12 hown hK hP 55 (jc_55 cI cL ad σ97 τ) rfl 47 (by decide) (hts _ kw_15_15) (fun _ h9 => h9) rfl dX12_books_146 ?_
              exact hret (σ97 55 47) σ97 τ _ _ _ _ rfl ⟨rfl, (fun i hi => ((f108 i hi).trans (jnp i eσ15 (imp_215 i hi)))), (fun i hi => ((f109 i hi).trans (jkp i eσ15 (imp_218 i hi)))), p111, p112, p110, trivial⟩ hP hS dX12_books_149
          exact lp93 1000000 0 σ15 _ _ ls (by have h90 := jz_0; omega) (by have h90 := jz_0; omega) (by have h90 := jz_0; omega) (by have h90 := jz_0; omega) (by have h90 := jz_0; omega) (fun _ _ => rfl) (fun _ _ => rfl)  p17 I100 I101 hP hS hl
        · have kc92 := jnlt c92 t2 jz_0
          refine lv_iconst (v := 1) hx hb dX12_books_52 (by decide) ?_
          refine lv_goto (tgt := 57) hx hb dX12_books_53 (by decide) ?_
          refine lv_istore_n (lv' := [(3, .int 1), (0, .ref (ad 55)), (1, .int a1), (2, .int a2)]) hx hb dX12_books_57 rfl hl (by decide) rfl (fun ls hl => ?_)
          have z123 : (σ15 55 12).toInt = (σ 55 12).toInt := (congrArg Int32.toInt (show σ15 55 12 = (σ 55 12) from (jkp 12 eσ15 (by decide))))
          have w124 : ∀ k : Nat, k < 12 → 0 ≤ (σ15 80 k).toInt ∧ (σ15 80 k).toInt ≤ 3 := (jrr_fr (jnp 80 eσ15 (by decide)) w3)
          have I125 : jI107 σ15 := ⟨(by omega), (by omega), w124⟩
          have I126 : jI119 σ15 := jI119_fr (jnp 68 eσ15 (by decide)) hI119
          have lp118 : ∀ (n119 : Nat) (x120 : Int32) (σ122 : Nat → Nat → Int32) (H : Heap) (locs : List Loc) (ls : Array Slot), (-(2 * (σ122 55 47).toInt) + x120.toInt + 26 : Int) < n119 → 0 ≤ x120.toInt → x120.toInt ≤ 1 → ((x120.toInt = 0) ∨ (0 ≤ A2)) → (σ122 55 47).toInt ≤ 12 → (∀ i : Nat, (i < 55 ∨ 55 < i) ∧ (i < 68 ∨ 69 < i) ∧ (i < 80 ∨ 81 < i) → σ122 i = σ15 i) → (∀ k : Nat, (k < 25 ∨ 25 < k) ∧ (k < 26 ∨ 26 < k) ∧ (k < 27 ∨ 27 < k) ∧ (k < 47 ∨ 47 < k) → σ122 55 k = σ15 55 k) → jBook σ122 → jI107 σ122 → jI119 σ122 → jH D cI cL ad σ122 τ H → va_S (jA ad) s.heap H locs → lv_has ls 6 [(3, .int x120), (0, .ref (ad 55)), (1, .int a1), (2, .int a2)] → W p l e ({ frames := 4, cells := 0, slots := 0, locals := 85 }) s m args below meth c H locs 0 0 Q (F0 m 58 ls []) := by
            intro n119
            induction n119 with
            | zero => intro x120 σ122 H locs ls h128 h129 h130 h131 h132; exact absurd h128 (by omega)
            | succ n119 ihlp118 =>
              intro x120 σ122 H locs ls h128 h129 h130 h131 h132 f133 f134 p135 p136 p137 hP hS hl
              obtain ⟨i138, i139, w140⟩ : (0 ≤ (σ122 55 47).toInt ∧ (σ122 55 47).toInt ≤ 12) ∧ ((σ122 55 47).toInt ≤ (σ122 55 12).toInt) ∧ (∀ k : Nat, k < 12 → 0 ≤ (σ122 80 k).toInt ∧ (σ122 80 k).toInt ≤ 3) := id p136
              have z141 : (σ122 55 12).toInt = (σ 55 12).toInt := (congrArg Int32.toInt (show σ122 55 12 = (σ 55 12) from ((f134 12 (by decide)).trans (jkp 12 eσ15 (by decide)))))
              refine lv_iload_n hx hb dX12_books_58 rfl (lv_at hl 0 rfl) ?_
              refine lv_if_eq (tgt := 145) hx hb dX12_books_59 (by decide) (fun c142 => ?_) (fun c142 => ?_)
              · have kc142 := jeq c142 rfl jz_0
                refine lv_aload_n hx hb dX12_books_145 rfl (lv_at hl 1 rfl) ?_
                refine va_get (D := D) hx hb hts inlX12 hown hK hP 55 (jc_55 cI cL ad σ122 τ) rfl 47 (by decide) (hts _ kw_15_15) (fun _ h9 => h9) rfl dX12_books_146 ?_
                exact hret (σ122 55 47) σ122 τ _ _ _ _ rfl ⟨rfl, (fun i hi => ((f133 i hi).trans (jnp i eσ15 (imp_215 i hi)))), (fun i hi => ((f134 i hi).trans (jkp i eσ15 (imp_218 i hi)))), p136, p137, p135, trivial⟩ hP hS dX12_books_149
              · have kc142 := jne c142 rfl jz_0
                refine lv_iload_n hx hb dX12_books_62 rfl (lv_at hl 3 rfl) ?_
                refine lv_aload_n hx hb dX12_books_63 rfl (lv_at hl 1 rfl) ?_
                refine va_get (D := D) hx hb hts inlX12 hown hK hP 55 (jc_55 cI cL ad σ122 τ) rfl 59 (by decide) (hts _ kw_8_12) (fun _ h9 => h9) rfl dX12_books_64 ?_
                refine lv_iload_n hx hb dX12_books_67 rfl (lv_at hl 2 rfl) ?_
                refine jald hx hb hK hP (jc_87 cI cL ad σ122 τ) (jin t1 (by omega) (by omega)) dX12_books_68 ?_
                have w143 : ∀ k : Nat, k < 6 → 0 ≤ (σ122 87 k).toInt ∧ (σ122 87 k).toInt ≤ 60 := (jrr_fr (f133 87 (by decide)) (jrr_fr (jnp 87 eσ15 (by decide)) w5))
                have g144 := w143 _ (jnat (x := a1) t1 (n := 6) (by omega) (by decide))
                refine lv_topi (fun x145 ex145 => ?_)
                rw [← ex145] at g144
                refine lv_aload_n hx hb dX12_books_69 rfl (lv_at hl 1 rfl) ?_
                refine va_get (D := D) hx hb hts inlX12 hown hK hP 55 (jc_55 cI cL ad σ122 τ) rfl 47 (by decide) (hts _ kw_15_15) (fun _ h9 => h9) rfl dX12_books_70 ?_
                have g146 := jrg (rfl : x145.toInt = x145.toInt)
                have g147 := jrg (rfl : (σ122 55 47).toInt = (σ122 55 47).toInt)
                refine lv_isub hx hb dX12_books_73 ?_
                refine lv_topi (fun x148 ex148 => ?_)
                have tx148 : x148.toInt = x145.toInt - (σ122 55 47).toInt := (jsub ex148 rfl rfl (by omega) (by omega)).trans (by omega)
                refine lv_icmp_ge (tgt := 96) hx hb dX12_books_74 (by decide) (fun c149 => ?_) (fun c149 => ?_)
                · have kc149 := jle c149 tx148 t2
                  refine lv_ldc2 (v := (-1)) hx hb hown (hts _ kw_43_16) dX12_books_96 ?_
                  refine lv_lstore (lv' := [(4, .long (-1)), (3, .int x120), (0, .ref (ad 55)), (1, .int a1), (2, .int a2)]) hx hb dX12_books_99 hl (by decide) rfl (fun ls hl => ?_)
                  refine lv_lload hx hb dX12_books_101 (lv_at hl 0 rfl) ?_
                  refine lv_lconst (v := 0) hx hb dX12_books_103 (by decide) ?_
                  refine W.lcmp hx hb dX12_books_104 ?_
                  refine lv_if_lt (tgt := 140) hx hb dX12_books_105 (by decide) (fun c150 => ?_) (fun c => absurd (jcnlt c jzl_m1 jzl_0) (by omega))
                  have kc150 := jclt c150 jzl_m1 jzl_0
                  refine lv_iconst (v := 0) hx hb dX12_books_140 (by decide) ?_
                  refine lv_istore_n (lv' := [(3, .int 0), (4, .long (-1)), (0, .ref (ad 55)), (1, .int a1), (2, .int a2)]) hx hb dX12_books_141 rfl hl (by decide) rfl (fun ls hl => ?_)
                  refine lv_goto (tgt := 58) hx hb dX12_books_142 (by decide) ?_
                  exact ihlp118 0 σ122 _ _ ls (by have h90 := jz_0; omega) (by have h90 := jz_0; omega) (by have h90 := jz_0; omega) (by have h90 := jz_0; omega) (by have h90 := jz_0; omega) (fun i hi => (f133 i hi)) (fun i hi => (f134 i hi))  p135 p136 p137 hP hS (lv_sub hl [0, 2, 3, 4] rfl)
                · have kc149 := jnle c149 tx148 t2
                  refine lv_aload_n hx hb dX12_books_77 rfl (lv_at hl 1 rfl) ?_
                  refine va_get (D := D) hx hb hts inlX12 hown hK hP 55 (jc_55 cI cL ad σ122 τ) rfl 60 (by decide) (hts _ kw_8_13) (fun _ h9 => h9) rfl dX12_books_78 ?_
                  refine lv_bipush (v := 60) hx hb dX12_books_81 (by decide) ?_
                  refine lv_iload_n hx hb dX12_books_83 rfl (lv_at hl 2 rfl) ?_
                  refine lv_imul hx hb dX12_books_84 ?_
                  refine lv_topi (fun x151 ex151 => ?_)
                  have tx151 : x151.toInt = 60 * A1 := (jmul ex151 jz_60 t1 (by omega) (by omega)).trans (by omega)
                  refine lv_iload_n hx hb dX12_books_85 rfl (lv_at hl 3 rfl) ?_
                  refine lv_iadd hx hb dX12_books_86 ?_
                  refine lv_topi (fun x152 ex152 => ?_)
                  have tx152 : x152.toInt = 60 * A1 + A2 := (jadd ex152 tx151 t2 (by omega) (by omega)).trans (by omega)
                  refine lv_aload_n hx hb dX12_books_87 rfl (lv_at hl 1 rfl) ?_
                  refine va_get (D := D) hx hb hts inlX12 hown hK hP 55 (jc_55 cI cL ad σ122 τ) rfl 47 (by decide) (hts _ kw_15_15) (fun _ h9 => h9) rfl dX12_books_88 ?_
                  refine lv_iadd hx hb dX12_books_91 ?_
                  refine lv_topi (fun x153 ex153 => ?_)
                  have tx153 : x153.toInt = 60 * A1 + A2 + (σ122 55 47).toInt := (jadd ex153 tx152 rfl (by omega) (by omega)).trans (by omega)
                  refine jaldL hx hb hK hP (jc_88 cI cL ad σ122 τ) (jin tx153 (by omega) (by omega)) dX12_books_92 ?_
                  refine lv_topl (fun lx154 elx154 => ?_)
                  refine lv_goto (tgt := 99) hx hb dX12_books_93 (by decide) ?_
                  refine lv_lstore (lv' := [(4, .long lx154), (3, .int x120), (0, .ref (ad 55)), (1, .int a1), (2, .int a2)]) hx hb dX12_books_99 hl (by decide) rfl (fun ls hl => ?_)
                  refine lv_lload hx hb dX12_books_101 (lv_at hl 0 rfl) ?_
                  refine lv_lconst (v := 0) hx hb dX12_books_103 (by decide) ?_
                  refine W.lcmp hx hb dX12_books_104 ?_
                  refine lv_if_lt (tgt := 140) hx hb dX12_books_105 (by decide) (fun c155 => ?_) (fun c155 => ?_)
                  · have kc155 := jclt c155 rfl jzl_0
                    refine lv_iconst (v := 0) hx hb dX12_books_140 (by decide) ?_
                    refine lv_istore_n (lv' := [(3, .int 0), (4, .long lx154), (0, .ref (ad 55)), (1, .int a1), (2, .int a2)]) hx hb dX12_books_141 rfl hl (by decide) rfl (fun ls hl => ?_)
                    refine lv_goto (tgt := 58) hx hb dX12_books_142 (by decide) ?_
                    exact ihlp118 0 σ122 _ _ ls (by have h90 := jz_0; omega) (by have h90 := jz_0; omega) (by have h90 := jz_0; omega) (by have h90 := jz_0; omega) (by have h90 := jz_0; omega) (fun i hi => (f133 i hi)) (fun i hi => (f134 i hi))  p135 p136 p137 hP hS (lv_sub hl [0, 2, 3, 4] rfl)
                  · have kc155 := jcnlt c155 rfl jzl_0
                    refine lv_lload hx hb dX12_books_108 (lv_at hl 0 rfl) ?_
                    refine lv_ldc2 (v := 20) hx hb hown (hts _ kw_9_12) dX12_books_110 ?_
                    refine W.lcmp hx hb dX12_books_113 ?_
                    refine lv_if_ge (tgt := 140) hx hb dX12_books_114 (by decide) (fun c156 => ?_) (fun c156 => ?_)
                    · have kc156 := jcge c156 rfl jzl_20
                      refine lv_iconst (v := 0) hx hb dX12_books_140 (by decide) ?_
                      refine lv_istore_n (lv' := [(3, .int 0), (4, .long lx154), (0, .ref (ad 55)), (1, .int a1), (2, .int a2)]) hx hb dX12_books_141 rfl hl (by decide) rfl (fun ls hl => ?_)
                      refine lv_goto (tgt := 58) hx hb dX12_books_142 (by decide) ?_
                      exact ihlp118 0 σ122 _ _ ls (by have h90 := jz_0; omega) (by have h90 := jz_0; omega) (by have h90 := jz_0; omega) (by have h90 := jz_0; omega) (by have h90 := jz_0; omega) (fun i hi => (f133 i hi)) (fun i hi => (f134 i hi))  p135 p136 p137 hP hS (lv_sub hl [0, 2, 3, 4] rfl)
                    · have kc156 := jcnge c156 rfl jzl_20
                      refine lv_aload_n hx hb dX12_books_117 rfl (lv_at hl 2 rfl) ?_
                      refine lv_lload hx hb dX12_books_118 (lv_at hl 0 rfl) ?_
                      refine lv_l2i hx hb dX12_books_120 rfl ?_
                      refine lv_topi (fun x157 ex157 => ?_)
                      have tx157 : x157.toInt = lx154.toInt := jtoI ex157 rfl (by omega) (by omega)
                      refine lv_bipush (v := 10) hx hb dX12_books_121 (by decide) ?_
                      refine lv_irem hx hb dX12_books_123 (by decide) ?_
                      refine lv_topi (fun x158 ex158 => ?_)
                      have tx158 : x158.toInt = (lx154.toInt % 10) := jrem ex158 tx157 jz_10 (by omega)
                      refine lv_lload hx hb dX12_books_124 (lv_at hl 0 rfl) ?_
                      refine lv_l2i hx hb dX12_books_126 rfl ?_
                      refine lv_topi (fun x159 ex159 => ?_)
                      have tx159 : x159.toInt = lx154.toInt := jtoI ex159 rfl (by omega) (by omega)
                      refine lv_bipush (v := 10) hx hb dX12_books_127 (by decide) ?_
                      refine lv_idiv hx hb dX12_books_129 (by decide) ?_
                      refine lv_topi (fun x160 ex160 => ?_)
                      have tx160 : x160.toInt = (lx154.toInt / 10) := jdiv ex160 tx159 jz_10 (by omega) (by omega)
                      have I161 : jI102 σ122 := jI102_fr ((f134 6 (by decide)).trans (jkp 6 eσ15 (by decide))) ((f133 60 (by decide)).trans (jnp 60 eσ15 (by decide))) ((f133 61 (by decide)).trans (jnp 61 eσ15 (by decide))) hI102
                      have I162 : jI104 σ122 := jI104_fr ((f134 10 (by decide)).trans (jkp 10 eσ15 (by decide))) ((f134 12 (by decide)).trans (jkp 12 eσ15 (by decide))) ((f134 13 (by decide)).trans (jkp 13 eσ15 (by decide))) ((f133 62 (by decide)).trans (jnp 62 eσ15 (by decide))) ((f133 67 (by decide)).trans (jnp 67 eσ15 (by decide))) hI104
                      have w163 : ∀ k : Nat, k < 4 → 0 ≤ (σ122 68 k).toInt ∧ (σ122 68 k).toInt ≤ 3 := p137
                      refine jcallV (As := [.int x158, .int x160]) (rest := []) ⟨hx, hb, hml, hown, hts⟩ hK hP hA hS hZ (c_X12_book l D cI cL ad zz hJ σ122 τ x158 ((lx154.toInt % 10)) tx158 x160 ((lx154.toInt / 10)) tx160 I161 I162 p136 w163 p135) cw_RX12_366 (jc_55 cI cL ad σ122 τ) rfl ⟨Nat.le_of_ble_eq_true rfl, Nat.le_of_ble_eq_true rfl⟩ rfl rfl rfl hl.1 rfl (Nat.le_of_ble_eq_true rfl) dX12_books_130 ⟨Nat.zero_le _, Nat.zero_le _⟩ (fun r165 σ164 τ164 H locs h164 hP hS => ?_)
                      obtain ⟨rfl, f166, f167, I168, w169, p170, h164⟩ := h164
                      obtain ⟨i172, i173, w174⟩ : (0 ≤ (σ164 55 47).toInt ∧ (σ164 55 47).toInt ≤ 12) ∧ ((σ164 55 47).toInt ≤ (σ164 55 12).toInt) ∧ (∀ k : Nat, k < 12 → 0 ≤ (σ164 80 k).toInt ∧ (σ164 80 k).toInt ≤ 3) := id I168
                      have z175 : (σ164 55 12).toInt = (σ 55 12).toInt := (congrArg Int32.toInt (show σ164 55 12 = (σ 55 12) from ((f167 12 (by decide)).trans ((f134 12 (by decide)).trans (jkp 12 eσ15 (by decide))))))
                      rcases h164 with h176 | h177
                      · obtain ⟨q180, k178, k179⟩ := h176
                        refine lv_if_le (tgt := 140) hx hb dX12_books_133 (by decide) (fun c => absurd (jle c rfl jz_0) (by omega)) (fun c181 => ?_)
                        have kc181 := jnle c181 rfl jz_0
                        refine lv_iconst (v := 1) hx hb dX12_books_136 (by decide) ?_
                        refine lv_goto (tgt := 141) hx hb dX12_books_137 (by decide) ?_
                        refine lv_istore_n (lv' := [(3, .int 1), (4, .long lx154), (0, .ref (ad 55)), (1, .int a1), (2, .int a2)]) hx hb dX12_books_141 rfl hl (by decide) rfl (fun ls hl => ?_)
                        refine lv_goto (tgt := 58) hx hb dX12_books_142 (by decide) ?_
                        have I182 : jI119 σ164 := w169
                        exact ihlp118 1 σ164 _ _ ls (by have h90 := jz_1; omega) (by have h90 := jz_1; omega) (by have h90 := jz_1; omega) (by have h90 := jz_1; omega) (by have h90 := jz_1; omega) (fun i hi => ((f166 i hi).trans (f133 i hi))) (fun i hi => ((f167 i hi).trans (f134 i hi)))  p170 I168 I182 hP hS (lv_sub hl [0, 2, 3, 4] rfl)
                      · obtain ⟨q185, k183, k184⟩ := h177
                        refine lv_if_le (tgt := 140) hx hb dX12_books_133 (by decide) (fun c186 => ?_) (fun c => absurd (jnle c rfl jz_0) (by omega))
                        have kc186 := jle c186 rfl jz_0
                        refine lv_iconst (v := 0) hx hb dX12_books_140 (by decide) ?_
                        refine lv_istore_n (lv' := [(3, .int 0), (4, .long lx154), (0, .ref (ad 55)), (1, .int a1), (2, .int a2)]) hx hb dX12_books_141 rfl hl (by decide) rfl (fun ls hl => ?_)
                        refine lv_goto (tgt := 58) hx hb dX12_books_142 (by decide) ?_
                        have I187 : jI119 σ164 := w169
                        exact ihlp118 0 σ164 _ _ ls (by have h90 := jz_0; omega) (by have h90 := jz_0; omega) (by have h90 := jz_0; omega) (by have h90 := jz_0; omega) (by have h90 := jz_0; omega) (fun i hi => ((f166 i hi).trans (f133 i hi))) (fun i hi => ((f167 i hi).trans (f134 i hi)))  p170 I168 I187 hP hS (lv_sub hl [0, 2, 3, 4] rfl)
          exact lp118 1000000 1 σ15 _ _ ls (by have h90 := jz_1; omega) (by have h90 := jz_1; omega) (by have h90 := jz_1; omega) (by have h90 := jz_1; omega) (by have h90 := jz_1; omega) (fun _ _ => rfl) (fun _ _ => rfl)  p17 I125 I126 hP hS hl
    · have kc14 := jnlt c14 rfl jz_0
      refine lv_aload_n hx hb dX12_books_18 rfl (lv_at hl 0 rfl) ?_
      refine va_get (D := D) hx hb hts inlX12 hown hK hP 55 (jc_55 cI cL ad σ τ) rfl 58 (by decide) (hts _ kw_8_11) (fun _ h9 => h9) rfl dX12_books_19 ?_
      refine lv_iload_n hx hb dX12_books_22 rfl (lv_at hl 1 rfl) ?_
      refine jald hx hb hK hP (jc_86 cI cL ad σ τ) (jin t1 (by omega) (by omega)) dX12_books_23 ?_
      have g188 := w4 _ (jnat (x := a1) t1 (n := 6) (by omega) (by decide))
      refine lv_topi (fun x189 ex189 => ?_)
      rw [← ex189] at g188
      refine lv_bipush (v := 20) hx hb dX12_books_24 (by decide) ?_
      refine lv_icmp_eq (tgt := 32) hx hb dX12_books_26 (by decide) (fun c190 => ?_) (fun c190 => ?_)
      · have kc190 := jeq c190 rfl jz_20
        refine lv_aload_n hx hb dX12_books_32 rfl (lv_at hl 0 rfl) ?_
        refine lv_iconst (v := 0) hx hb dX12_books_33 (by decide) ?_
        refine jput (ty := .int) hx hb hts inlX12 tyX12 tyX12_ok nmX12 hown hK hP hJ hA hS (jc_55 cI cL ad σ τ) rfl (k := 47) (by decide) (Nat.le_of_ble_eq_true rfl) (jp_55_47 cI cL ad σ τ 0) (hts _ kw_15_15) (fun _ h9 => h9) rfl (by decide +kernel) rfl rfl dX12_books_34 (fun σ191 H locs eσ191 hP hS => ?_)
        have z192 : (σ191 55 47).toInt = 0 := ((congrArg Int32.toInt (show σ191 55 47 = 0 from (jsp eσ191))).trans jz_0)
        have p193 : jBook σ191 := jBook.nil (by omega)
        refine lv_aload_n hx hb dX12_books_37 rfl (lv_at hl 0 rfl) ?_
        refine va_get (D := D) hx hb hts inlX12 hown hK hP 55 (jc_55 cI cL ad σ191 τ) rfl 58 (by decide) (hts _ kw_8_11) (fun _ h9 => h9) rfl dX12_books_38 ?_
        refine lv_iload_n hx hb dX12_books_41 rfl (lv_at hl 1 rfl) ?_
        refine jald hx hb hK hP (jc_86 cI cL ad σ191 τ) (jin t1 (by omega) (by omega)) dX12_books_42 ?_
        have w194 : ∀ k : Nat, k < 6 → (-1) ≤ (σ191 86 k).toInt ∧ (σ191 86 k).toInt ≤ 24 := (jrr_fr (jnp 86 eσ191 (by decide)) w4)
        have g195 := w194 _ (jnat (x := a1) t1 (n := 6) (by omega) (by decide))
        refine lv_topi (fun x196 ex196 => ?_)
        rw [← ex196] at g195
        refine lv_bipush (v := 20) hx hb dX12_books_43 (by decide) ?_
        refine lv_icmp_ne (tgt := 56) hx hb dX12_books_45 (by decide) (fun c197 => ?_) (fun c197 => ?_)
        · have kc197 := jne c197 rfl jz_20
          refine lv_iconst (v := 0) hx hb dX12_books_56 (by decide) ?_
          refine lv_istore_n (lv' := [(3, .int 0), (0, .ref (ad 55)), (1, .int a1), (2, .int a2)]) hx hb dX12_books_57 rfl hl (by decide) rfl (fun ls hl => ?_)
          have z203 : (σ191 55 12).toInt = (σ 55 12).toInt := (congrArg Int32.toInt (show σ191 55 12 = (σ 55 12) from (jkp 12 eσ191 (by decide))))
          have w204 : ∀ k : Nat, k < 12 → 0 ≤ (σ191 80 k).toInt ∧ (σ191 80 k).toInt ≤ 3 := (jrr_fr (jnp 80 eσ191 (by decide)) w3)
          have I205 : jI107 σ191 := ⟨(by omega), (by omega), w204⟩
          have I206 : jI119 σ191 := jI119_fr (jnp 68 eσ191 (by decide)) hI119
          have lp198 : ∀ (n199 : Nat) (x200 : Int32) (σ202 : Nat → Nat → Int32) (H : Heap) (locs : List Loc) (ls : Array Slot), (-(2 * (σ202 55 47).toInt) + x200.toInt + 26 : Int) < n199 → 0 ≤ x200.toInt → x200.toInt ≤ 1 → ((x200.toInt = 0) ∨ (0 ≤ A2)) → (σ202 55 47).toInt ≤ 12 → (∀ i : Nat, (i < 55 ∨ 55 < i) ∧ (i < 68 ∨ 69 < i) ∧ (i < 80 ∨ 81 < i) → σ202 i = σ191 i) → (∀ k : Nat, (k < 25 ∨ 25 < k) ∧ (k < 26 ∨ 26 < k) ∧ (k < 27 ∨ 27 < k) ∧ (k < 47 ∨ 47 < k) → σ202 55 k = σ191 55 k) → jBook σ202 → jI107 σ202 → jI119 σ202 → jH D cI cL ad σ202 τ H → va_S (jA ad) s.heap H locs → lv_has ls 6 [(3, .int x200), (0, .ref (ad 55)), (1, .int a1), (2, .int a2)] → W p l e ({ frames := 4, cells := 0, slots := 0, locals := 85 }) s m args below meth c H locs 0 0 Q (F0 m 58 ls []) := by
            intro n199
            induction n199 with
            | zero => intro x200 σ202 H locs ls h208 h209 h210 h211 h212; exact absurd h208 (by omega)
            | succ n199 ihlp198 =>
              intro x200 σ202 H locs ls h208 h209 h210 h211 h212 f213 f214 p215 p216 p217 hP hS hl
              obtain ⟨i218, i219, w220⟩ : (0 ≤ (σ202 55 47).toInt ∧ (σ202 55 47).toInt ≤ 12) ∧ ((σ202 55 47).toInt ≤ (σ202 55 12).toInt) ∧ (∀ k : Nat, k < 12 → 0 ≤ (σ202 80 k).toInt ∧ (σ202 80 k).toInt ≤ 3) := id p216
              have z221 : (σ202 55 12).toInt = (σ 55 12).toInt := (congrArg Int32.toInt (show σ202 55 12 = (σ 55 12) from ((f214 12 (by decide)).trans (jkp 12 eσ191 (by decide)))))
              refine lv_iload_n hx hb dX12_books_58 rfl (lv_at hl 0 rfl) ?_
              refine lv_if_eq (tgt := 145) hx hb dX12_books_59 (by decide) (fun c222 => ?_) (fun c222 => ?_)
              · have kc222 := jeq c222 rfl jz_0
                refine lv_aload_n hx hb dX12_books_145 rfl (lv_at hl 1 rfl) ?_
                refine va_get (D := D) hx hb hts inlX12 hown hK hP 55 (jc_55 cI cL ad σ202 τ) rfl 47 (by decide) (hts _ kw_15_15) (fun _ h9 => h9) rfl dX12_books_146 ?_
                exact hret (σ202 55 47) σ202 τ _ _ _ _ rfl ⟨rfl, (fun i hi => ((f213 i hi).trans (jnp i eσ191 (imp_215 i hi)))), (fun i hi => ((f214 i hi).trans (jkp i eσ191 (imp_218 i hi)))), p216, p217, p215, trivial⟩ hP hS dX12_books_149
              · have kc222 := jne c222 rfl jz_0
                refine lv_iload_n hx hb dX12_books_62 rfl (lv_at hl 3 rfl) ?_
                refine lv_aload_n hx hb dX12_books_63 rfl (lv_at hl 1 rfl) ?_
                refine va_get (D := D) hx hb hts inlX12 hown hK hP 55 (jc_55 cI cL ad σ202 τ) rfl 59 (by decide) (hts _ kw_8_12) (fun _ h9 => h9) rfl dX12_books_64 ?_
                refine lv_iload_n hx hb dX12_books_67 rfl (lv_at hl 2 rfl) ?_
                refine jald hx hb hK hP (jc_87 cI cL ad σ202 τ) (jin t1 (by omega) (by omega)) dX12_books_68 ?_
                have w223 : ∀ k : Nat, k < 6 → 0 ≤ (σ202 87 k).toInt ∧ (σ202 87 k).toInt ≤ 60 := (jrr_fr (f213 87 (by decide)) (jrr_fr (jnp 87 eσ191 (by decide)) w5))
                have g224 := w223 _ (jnat (x := a1) t1 (n := 6) (by omega) (by decide))
                refine lv_topi (fun x225 ex225 => ?_)
                rw [← ex225] at g224
                refine lv_aload_n hx hb dX12_books_69 rfl (lv_at hl 1 rfl) ?_
                refine va_get (D := D) hx hb hts inlX12 hown hK hP 55 (jc_55 cI cL ad σ202 τ) rfl 47 (by decide) (hts _ kw_15_15) (fun _ h9 => h9) rfl dX12_books_70 ?_
                have g226 := jrg (rfl : x225.toInt = x225.toInt)
                have g227 := jrg (rfl : (σ202 55 47).toInt = (σ202 55 47).toInt)
                refine lv_isub hx hb dX12_books_73 ?_
                refine lv_topi (fun x228 ex228 => ?_)
                have tx228 : x228.toInt = x225.toInt - (σ202 55 47).toInt := (jsub ex228 rfl rfl (by omega) (by omega)).trans (by omega)
                refine lv_icmp_ge (tgt := 96) hx hb dX12_books_74 (by decide) (fun c229 => ?_) (fun c229 => ?_)
                · have kc229 := jle c229 tx228 t2
                  refine lv_ldc2 (v := (-1)) hx hb hown (hts _ kw_43_16) dX12_books_96 ?_
                  refine lv_lstore (lv' := [(4, .long (-1)), (3, .int x200), (0, .ref (ad 55)), (1, .int a1), (2, .int a2)]) hx hb dX12_books_99 hl (by decide) rfl (fun ls hl => ?_)
                  refine lv_lload hx hb dX12_books_101 (lv_at hl 0 rfl) ?_
                  refine lv_lconst (v := 0) hx hb dX12_books_103 (by decide) ?_
                  refine W.lcmp hx hb dX12_books_104 ?_
                  refine lv_if_lt (tgt := 140) hx hb dX12_books_105 (by decide) (fun c230 => ?_) (fun c => absurd (jcnlt c jzl_m1 jzl_0) (by omega))
                  have kc230 := jclt c230 jzl_m1 jzl_0
                  refine lv_iconst (v := 0) hx hb dX12_books_140 (by decide) ?_
                  refine lv_istore_n (lv' := [(3, .int 0), (4, .long (-1)), (0, .ref (ad 55)), (1, .int a1), (2, .int a2)]) hx hb dX12_books_141 rfl hl (by decide) rfl (fun ls hl => ?_)
                  refine lv_goto (tgt := 58) hx hb dX12_books_142 (by decide) ?_
                  exact ihlp198 0 σ202 _ _ ls (by have h90 := jz_0; omega) (by have h90 := jz_0; omega) (by have h90 := jz_0; omega) (by have h90 := jz_0; omega) (by have h90 := jz_0; omega) (fun i hi => (f213 i hi)) (fun i hi => (f214 i hi))  p215 p216 p217 hP hS (lv_sub hl [0, 2, 3, 4] rfl)
                · have kc229 := jnle c229 tx228 t2
                  refine lv_aload_n hx hb dX12_books_77 rfl (lv_at hl 1 rfl) ?_
                  refine va_get (D := D) hx hb hts inlX12 hown hK hP 55 (jc_55 cI cL ad σ202 τ) rfl 60 (by decide) (hts _ kw_8_13) (fun _ h9 => h9) rfl dX12_books_78 ?_
                  refine lv_bipush (v := 60) hx hb dX12_books_81 (by decide) ?_
                  refine lv_iload_n hx hb dX12_books_83 rfl (lv_at hl 2 rfl) ?_
                  refine lv_imul hx hb dX12_books_84 ?_
                  refine lv_topi (fun x231 ex231 => ?_)
                  have tx231 : x231.toInt = 60 * A1 := (jmul ex231 jz_60 t1 (by omega) (by omega)).trans (by omega)
                  refine lv_iload_n hx hb dX12_books_85 rfl (lv_at hl 3 rfl) ?_
                  refine lv_iadd hx hb dX12_books_86 ?_
                  refine lv_topi (fun x232 ex232 => ?_)
                  have tx232 : x232.toInt = 60 * A1 + A2 := (jadd ex232 tx231 t2 (by omega) (by omega)).trans (by omega)
                  refine lv_aload_n hx hb dX12_books_87 rfl (lv_at hl 1 rfl) ?_
                  refine va_get (D := D) hx hb hts inlX12 hown hK hP 55 (jc_55 cI cL ad σ202 τ) rfl 47 (by decide) (hts _ kw_15_15) (fun _ h9 => h9) rfl dX12_books_88 ?_
                  refine lv_iadd hx hb dX12_books_91 ?_
                  refine lv_topi (fun x233 ex233 => ?_)
                  have tx233 : x233.toInt = 60 * A1 + A2 + (σ202 55 47).toInt := (jadd ex233 tx232 rfl (by omega) (by omega)).trans (by omega)
                  refine jaldL hx hb hK hP (jc_88 cI cL ad σ202 τ) (jin tx233 (by omega) (by omega)) dX12_books_92 ?_
                  refine lv_topl (fun lx234 elx234 => ?_)
                  refine lv_goto (tgt := 99) hx hb dX12_books_93 (by decide) ?_
                  refine lv_lstore (lv' := [(4, .long lx234), (3, .int x200), (0, .ref (ad 55)), (1, .int a1), (2, .int a2)]) hx hb dX12_books_99 hl (by decide) rfl (fun ls hl => ?_)
                  refine lv_lload hx hb dX12_books_101 (lv_at hl 0 rfl) ?_
                  refine lv_lconst (v := 0) hx hb dX12_books_103 (by decide) ?_
                  refine W.lcmp hx hb dX12_books_104 ?_
                  refine lv_if_lt (tgt := 140) hx hb dX12_books_105 (by decide) (fun c235 => ?_) (fun c235 => ?_)
                  · have kc235 := jclt c235 rfl jzl_0
                    refine lv_iconst (v := 0) hx hb dX12_books_140 (by decide) ?_
                    refine lv_istore_n (lv' := [(3, .int 0), (4, .long lx234), (0, .ref (ad 55)), (1, .int a1), (2, .int a2)]) hx hb dX12_books_141 rfl hl (by decide) rfl (fun ls hl => ?_)
                    refine lv_goto (tgt := 58) hx hb dX12_books_142 (by decide) ?_
                    exact ihlp198 0 σ202 _ _ ls (by have h90 := jz_0; omega) (by have h90 := jz_0; omega) (by have h90 := jz_0; omega) (by have h90 := jz_0; omega) (by have h90 := jz_0; omega) (fun i hi => (f213 i hi)) (fun i hi => (f214 i hi))  p215 p216 p217 hP hS (lv_sub hl [0, 2, 3, 4] rfl)
                  · have kc235 := jcnlt c235 rfl jzl_0
                    refine lv_lload hx hb dX12_books_108 (lv_at hl 0 rfl) ?_
                    refine lv_ldc2 (v := 20) hx hb hown (hts _ kw_9_12) dX12_books_110 ?_
                    refine W.lcmp hx hb dX12_books_113 ?_
                    refine lv_if_ge (tgt := 140) hx hb dX12_books_114 (by decide) (fun c236 => ?_) (fun c236 => ?_)
                    · have kc236 := jcge c236 rfl jzl_20
                      refine lv_iconst (v := 0) hx hb dX12_books_140 (by decide) ?_
                      refine lv_istore_n (lv' := [(3, .int 0), (4, .long lx234), (0, .ref (ad 55)), (1, .int a1), (2, .int a2)]) hx hb dX12_books_141 rfl hl (by decide) rfl (fun ls hl => ?_)
                      refine lv_goto (tgt := 58) hx hb dX12_books_142 (by decide) ?_
                      exact ihlp198 0 σ202 _ _ ls (by have h90 := jz_0; omega) (by have h90 := jz_0; omega) (by have h90 := jz_0; omega) (by have h90 := jz_0; omega) (by have h90 := jz_0; omega) (fun i hi => (f213 i hi)) (fun i hi => (f214 i hi))  p215 p216 p217 hP hS (lv_sub hl [0, 2, 3, 4] rfl)
                    · have kc236 := jcnge c236 rfl jzl_20
                      refine lv_aload_n hx hb dX12_books_117 rfl (lv_at hl 2 rfl) ?_
                      refine lv_lload hx hb dX12_books_118 (lv_at hl 0 rfl) ?_
                      refine lv_l2i hx hb dX12_books_120 rfl ?_
                      refine lv_topi (fun x237 ex237 => ?_)
                      have tx237 : x237.toInt = lx234.toInt := jtoI ex237 rfl (by omega) (by omega)
                      refine lv_bipush (v := 10) hx hb dX12_books_121 (by decide) ?_
                      refine lv_irem hx hb dX12_books_123 (by decide) ?_
                      refine lv_topi (fun x238 ex238 => ?_)
                      have tx238 : x238.toInt = (lx234.toInt % 10) := jrem ex238 tx237 jz_10 (by omega)
                      refine lv_lload hx hb dX12_books_124 (lv_at hl 0 rfl) ?_
                      refine lv_l2i hx hb dX12_books_126 rfl ?_
                      refine lv_topi (fun x239 ex239 => ?_)
                      have tx239 : x239.toInt = lx234.toInt := jtoI ex239 rfl (by omega) (by omega)
                      refine lv_bipush (v := 10) hx hb dX12_books_127 (by decide) ?_
                      refine lv_idiv hx hb dX12_books_129 (by decide) ?_
                      refine lv_topi (fun x240 ex240 => ?_)
                      have tx240 : x240.toInt = (lx234.toInt / 10) := jdiv ex240 tx239 jz_10 (by omega) (by omega)
                      have I241 : jI102 σ202 := jI102_fr ((f214 6 (by decide)).trans (jkp 6 eσ191 (by decide))) ((f213 60 (by decide)).trans (jnp 60 eσ191 (by decide))) ((f213 61 (by decide)).trans (jnp 61 eσ191 (by decide))) hI102
                      have I242 : jI104 σ202 := jI104_fr ((f214 10 (by decide)).trans (jkp 10 eσ191 (by decide))) ((f214 12 (by decide)).trans (jkp 12 eσ191 (by decide))) ((f214 13 (by decide)).trans (jkp 13 eσ191 (by decide))) ((f213 62 (by decide)).trans (jnp 62 eσ191 (by decide))) ((f213 67 (by decide)).trans (jnp 67 eσ191 (by decide))) hI104
                      have w243 : ∀ k : Nat, k < 4 → 0 ≤ (σ202 68 k).toInt ∧ (σ202 68 k).toInt ≤ 3 := p217
                      refine jcallV (As := [.int x238, .int x240]) (rest := []) ⟨hx, hb, hml, hown, hts⟩ hK hP hA hS hZ (c_X12_book l D cI cL ad zz hJ σ202 τ x238 ((lx234.toInt % 10)) tx238 x240 ((lx234.toInt / 10)) tx240 I241 I242 p216 w243 p215) cw_RX12_366 (jc_55 cI cL ad σ202 τ) rfl ⟨Nat.le_of_ble_eq_true rfl, Nat.le_of_ble_eq_true rfl⟩ rfl rfl rfl hl.1 rfl (Nat.le_of_ble_eq_true rfl) dX12_books_130 ⟨Nat.zero_le _, Nat.zero_le _⟩ (fun r245 σ244 τ244 H locs h244 hP hS => ?_)
                      obtain ⟨rfl, f246, f247, I248, w249, p250, h244⟩ := h244
                      obtain ⟨i252, i253, w254⟩ : (0 ≤ (σ244 55 47).toInt ∧ (σ244 55 47).toInt ≤ 12) ∧ ((σ244 55 47).toInt ≤ (σ244 55 12).toInt) ∧ (∀ k : Nat, k < 12 → 0 ≤ (σ244 80 k).toInt ∧ (σ244 80 k).toInt ≤ 3) := id I248
                      have z255 : (σ244 55 12).toInt = (σ 55 12).toInt := (congrArg Int32.toInt (show σ244 55 12 = (σ 55 12) from ((f247 12 (by decide)).trans ((f214 12 (by decide)).trans (jkp 12 eσ191 (by decide))))))
                      rcases h244 with h256 | h257
                      · obtain ⟨q260, k258, k259⟩ := h256
                        refine lv_if_le (tgt := 140) hx hb dX12_books_133 (by decide) (fun c => absurd (jle c rfl jz_0) (by omega)) (fun c261 => ?_)
                        have kc261 := jnle c261 rfl jz_0
                        refine lv_iconst (v := 1) hx hb dX12_books_136 (by decide) ?_
                        refine lv_goto (tgt := 141) hx hb dX12_books_137 (by decide) ?_
                        refine lv_istore_n (lv' := [(3, .int 1), (4, .long lx234), (0, .ref (ad 55)), (1, .int a1), (2, .int a2)]) hx hb dX12_books_141 rfl hl (by decide) rfl (fun ls hl => ?_)
                        refine lv_goto (tgt := 58) hx hb dX12_books_142 (by decide) ?_
                        have I262 : jI119 σ244 := w249
                        exact ihlp198 1 σ244 _ _ ls (by have h90 := jz_1; omega) (by have h90 := jz_1; omega) (by have h90 := jz_1; omega) (by have h90 := jz_1; omega) (by have h90 := jz_1; omega) (fun i hi => ((f246 i hi).trans (f213 i hi))) (fun i hi => ((f247 i hi).trans (f214 i hi)))  p250 I248 I262 hP hS (lv_sub hl [0, 2, 3, 4] rfl)
                      · obtain ⟨q265, k263, k264⟩ := h257
                        refine lv_if_le (tgt := 140) hx hb dX12_books_133 (by decide) (fun c266 => ?_) (fun c => absurd (jnle c rfl jz_0) (by omega))
                        have kc266 := jle c266 rfl jz_0
                        refine lv_iconst (v := 0) hx hb dX12_books_140 (by decide) ?_
                        refine lv_istore_n (lv' := [(3, .int 0), (4, .long lx234), (0, .ref (ad 55)), (1, .int a1), (2, .int a2)]) hx hb dX12_books_141 rfl hl (by decide) rfl (fun ls hl => ?_)
                        refine lv_goto (tgt := 58) hx hb dX12_books_142 (by decide) ?_
                        have I267 : jI119 σ244 := w249
                        exact ihlp198 0 σ244 _ _ ls (by have h90 := jz_0; omega) (by have h90 := jz_0; omega) (by have h90 := jz_0; omega) (by have h90 := jz_0; omega) (by have h90 := jz_0; omega) (fun i hi => ((f246 i hi).trans (f213 i hi))) (fun i hi => ((f247 i hi).trans (f214 i hi)))  p250 I248 I267 hP hS (lv_sub hl [0, 2, 3, 4] rfl)
          exact lp198 1000000 0 σ191 _ _ ls (by have h90 := jz_0; omega) (by have h90 := jz_0; omega) (by have h90 := jz_0; omega) (by have h90 := jz_0; omega) (by have h90 := jz_0; omega) (fun _ _ => rfl) (fun _ _ => rfl)  p193 I205 I206 hP hS hl
        · have kc197 := jeq c197 rfl jz_20
          refine lv_iload_n hx hb dX12_books_48 rfl (lv_at hl 2 rfl) ?_
          refine lv_if_lt (tgt := 56) hx hb dX12_books_49 (by decide) (fun c268 => ?_) (fun c268 => ?_)
          · have kc268 := jlt c268 t2 jz_0
            refine lv_iconst (v := 0) hx hb dX12_books_56 (by decide) ?_
            refine lv_istore_n (lv' := [(3, .int 0), (0, .ref (ad 55)), (1, .int a1), (2, .int a2)]) hx hb dX12_books_57 rfl hl (by decide) rfl (fun ls hl => ?_)
            have z274 : (σ191 55 12).toInt = (σ 55 12).toInt := (congrArg Int32.toInt (show σ191 55 12 = (σ 55 12) from (jkp 12 eσ191 (by decide))))
            have w275 : ∀ k : Nat, k < 12 → 0 ≤ (σ191 80 k).toInt ∧ (σ191 80 k).toInt ≤ 3 := (jrr_fr (jnp 80 eσ191 (by decide)) w3)
            have I276 : jI107 σ191 := ⟨(by omega), (by omega), w275⟩
            have I277 : jI119 σ191 := jI119_fr (jnp 68 eσ191 (by decide)) hI119
            have lp269 : ∀ (n270 : Nat) (x271 : Int32) (σ273 : Nat → Nat → Int32) (H : Heap) (locs : List Loc) (ls : Array Slot), (-(2 * (σ273 55 47).toInt) + x271.toInt + 26 : Int) < n270 → 0 ≤ x271.toInt → x271.toInt ≤ 1 → ((x271.toInt = 0) ∨ (0 ≤ A2)) → (σ273 55 47).toInt ≤ 12 → (∀ i : Nat, (i < 55 ∨ 55 < i) ∧ (i < 68 ∨ 69 < i) ∧ (i < 80 ∨ 81 < i) → σ273 i = σ191 i) → (∀ k : Nat, (k < 25 ∨ 25 < k) ∧ (k < 26 ∨ 26 < k) ∧ (k < 27 ∨ 27 < k) ∧ (k < 47 ∨ 47 < k) → σ273 55 k = σ191 55 k) → jBook σ273 → jI107 σ273 → jI119 σ273 → jH D cI cL ad σ273 τ H → va_S (jA ad) s.heap H locs → lv_has ls 6 [(3, .int x271), (0, .ref (ad 55)), (1, .int a1), (2, .int a2)] → W p l e ({ frames := 4, cells := 0, slots := 0, locals := 85 }) s m args below meth c H locs 0 0 Q (F0 m 58 ls []) := by
              intro n270
              induction n270 with
              | zero => intro x271 σ273 H locs ls h279 h280 h281 h282 h283; exact absurd h279 (by omega)
              | succ n270 ihlp269 =>
                intro x271 σ273 H locs ls h279 h280 h281 h282 h283 f284 f285 p286 p287 p288 hP hS hl
                obtain ⟨i289, i290, w291⟩ : (0 ≤ (σ273 55 47).toInt ∧ (σ273 55 47).toInt ≤ 12) ∧ ((σ273 55 47).toInt ≤ (σ273 55 12).toInt) ∧ (∀ k : Nat, k < 12 → 0 ≤ (σ273 80 k).toInt ∧ (σ273 80 k).toInt ≤ 3) := id p287
                have z292 : (σ273 55 12).toInt = (σ 55 12).toInt := (congrArg Int32.toInt (show σ273 55 12 = (σ 55 12) from ((f285 12 (by decide)).trans (jkp 12 eσ191 (by decide)))))
                refine lv_iload_n hx hb dX12_books_58 rfl (lv_at hl 0 rfl) ?_
                refine lv_if_eq (tgt := 145) hx hb dX12_books_59 (by decide) (fun c293 => ?_) (fun c => absurd (jne c rfl jz_0) (by omega))
                have kc293 := jeq c293 rfl jz_0
                refine lv_aload_n hx hb dX12_books_145 rfl (lv_at hl 1 rfl) ?_
                refine va_get (D := D) hx hb hts inlX12 hown hK hP 55 (jc_55 cI cL ad σ273 τ) rfl 47 (by decide) (hts _ kw_15_15) (fun _ h9 => h9) rfl dX12_books_146 ?_
                exact hret (σ273 55 47) σ273 τ _ _ _ _ rfl ⟨rfl, (fun i hi => ((f284 i hi).trans (jnp i eσ191 (imp_215 i hi)))), (fun i hi => ((f285 i hi).trans (jkp i eσ191 (imp_218 i hi)))), p287, p288, p286, trivial⟩ hP hS dX12_books_149
            exact lp269 1000000 0 σ191 _ _ ls (by have h90 := jz_0; omega) (by have h90 := jz_0; omega) (by have h90 := jz_0; omega) (by have h90 := jz_0; omega) (by have h90 := jz_0; omega) (fun _ _ => rfl) (fun _ _ => rfl)  p193 I276 I277 hP hS hl
          · have kc268 := jnlt c268 t2 jz_0
            refine lv_iconst (v := 1) hx hb dX12_books_52 (by decide) ?_
            refine lv_goto (tgt := 57) hx hb dX12_books_53 (by decide) ?_
            refine lv_istore_n (lv' := [(3, .int 1), (0, .ref (ad 55)), (1, .int a1), (2, .int a2)]) hx hb dX12_books_57 rfl hl (by decide) rfl (fun ls hl => ?_)
            have z299 : (σ191 55 12).toInt = (σ 55 12).toInt := (congrArg Int32.toInt (show σ191 55 12 = (σ 55 12) from (jkp 12 eσ191 (by decide))))
            have w300 : ∀ k : Nat, k < 12 → 0 ≤ (σ191 80 k).toInt ∧ (σ191 80 k).toInt ≤ 3 := (jrr_fr (jnp 80 eσ191 (by decide)) w3)
            have I301 : jI107 σ191 := ⟨(by omega), (by omega), w300⟩
            have I302 : jI119 σ191 := jI119_fr (jnp 68 eσ191 (by decide)) hI119
            have lp294 : ∀ (n295 : Nat) (x296 : Int32) (σ298 : Nat → Nat → Int32) (H : Heap) (locs : List Loc) (ls : Array Slot), (-(2 * (σ298 55 47).toInt) + x296.toInt + 26 : Int) < n295 → 0 ≤ x296.toInt → x296.toInt ≤ 1 → ((x296.toInt = 0) ∨ (0 ≤ A2)) → (σ298 55 47).toInt ≤ 12 → (∀ i : Nat, (i < 55 ∨ 55 < i) ∧ (i < 68 ∨ 69 < i) ∧ (i < 80 ∨ 81 < i) → σ298 i = σ191 i) → (∀ k : Nat, (k < 25 ∨ 25 < k) ∧ (k < 26 ∨ 26 < k) ∧ (k < 27 ∨ 27 < k) ∧ (k < 47 ∨ 47 < k) → σ298 55 k = σ191 55 k) → jBook σ298 → jI107 σ298 → jI119 σ298 → jH D cI cL ad σ298 τ H → va_S (jA ad) s.heap H locs → lv_has ls 6 [(3, .int x296), (0, .ref (ad 55)), (1, .int a1), (2, .int a2)] → W p l e ({ frames := 4, cells := 0, slots := 0, locals := 85 }) s m args below meth c H locs 0 0 Q (F0 m 58 ls []) := by
              intro n295
              induction n295 with
              | zero => intro x296 σ298 H locs ls h304 h305 h306 h307 h308; exact absurd h304 (by omega)
              | succ n295 ihlp294 =>
                intro x296 σ298 H locs ls h304 h305 h306 h307 h308 f309 f310 p311 p312 p313 hP hS hl
                obtain ⟨i314, i315, w316⟩ : (0 ≤ (σ298 55 47).toInt ∧ (σ298 55 47).toInt ≤ 12) ∧ ((σ298 55 47).toInt ≤ (σ298 55 12).toInt) ∧ (∀ k : Nat, k < 12 → 0 ≤ (σ298 80 k).toInt ∧ (σ298 80 k).toInt ≤ 3) := id p312
                have z317 : (σ298 55 12).toInt = (σ 55 12).toInt := (congrArg Int32.toInt (show σ298 55 12 = (σ 55 12) from ((f310 12 (by decide)).trans (jkp 12 eσ191 (by decide)))))
                refine lv_iload_n hx hb dX12_books_58 rfl (lv_at hl 0 rfl) ?_
                refine lv_if_eq (tgt := 145) hx hb dX12_books_59 (by decide) (fun c318 => ?_) (fun c318 => ?_)
                · have kc318 := jeq c318 rfl jz_0
                  refine lv_aload_n hx hb dX12_books_145 rfl (lv_at hl 1 rfl) ?_
                  refine va_get (D := D) hx hb hts inlX12 hown hK hP 55 (jc_55 cI cL ad σ298 τ) rfl 47 (by decide) (hts _ kw_15_15) (fun _ h9 => h9) rfl dX12_books_146 ?_
                  exact hret (σ298 55 47) σ298 τ _ _ _ _ rfl ⟨rfl, (fun i hi => ((f309 i hi).trans (jnp i eσ191 (imp_215 i hi)))), (fun i hi => ((f310 i hi).trans (jkp i eσ191 (imp_218 i hi)))), p312, p313, p311, trivial⟩ hP hS dX12_books_149
                · have kc318 := jne c318 rfl jz_0
                  refine lv_iload_n hx hb dX12_books_62 rfl (lv_at hl 3 rfl) ?_
                  refine lv_aload_n hx hb dX12_books_63 rfl (lv_at hl 1 rfl) ?_
                  refine va_get (D := D) hx hb hts inlX12 hown hK hP 55 (jc_55 cI cL ad σ298 τ) rfl 59 (by decide) (hts _ kw_8_12) (fun _ h9 => h9) rfl dX12_books_64 ?_
                  refine lv_iload_n hx hb dX12_books_67 rfl (lv_at hl 2 rfl) ?_
                  refine jald hx hb hK hP (jc_87 cI cL ad σ298 τ) (jin t1 (by omega) (by omega)) dX12_books_68 ?_
                  have w319 : ∀ k : Nat, k < 6 → 0 ≤ (σ298 87 k).toInt ∧ (σ298 87 k).toInt ≤ 60 := (jrr_fr (f309 87 (by decide)) (jrr_fr (jnp 87 eσ191 (by decide)) w5))
                  have g320 := w319 _ (jnat (x := a1) t1 (n := 6) (by omega) (by decide))
                  refine lv_topi (fun x321 ex321 => ?_)
                  rw [← ex321] at g320
                  refine lv_aload_n hx hb dX12_books_69 rfl (lv_at hl 1 rfl) ?_
                  refine va_get (D := D) hx hb hts inlX12 hown hK hP 55 (jc_55 cI cL ad σ298 τ) rfl 47 (by decide) (hts _ kw_15_15) (fun _ h9 => h9) rfl dX12_books_70 ?_
                  have g322 := jrg (rfl : x321.toInt = x321.toInt)
                  have g323 := jrg (rfl : (σ298 55 47).toInt = (σ298 55 47).toInt)
                  refine lv_isub hx hb dX12_books_73 ?_
                  refine lv_topi (fun x324 ex324 => ?_)
                  have tx324 : x324.toInt = x321.toInt - (σ298 55 47).toInt := (jsub ex324 rfl rfl (by omega) (by omega)).trans (by omega)
                  refine lv_icmp_ge (tgt := 96) hx hb dX12_books_74 (by decide) (fun c325 => ?_) (fun c325 => ?_)
                  · have kc325 := jle c325 tx324 t2
                    refine lv_ldc2 (v := (-1)) hx hb hown (hts _ kw_43_16) dX12_books_96 ?_
                    refine lv_lstore (lv' := [(4, .long (-1)), (3, .int x296), (0, .ref (ad 55)), (1, .int a1), (2, .int a2)]) hx hb dX12_books_99 hl (by decide) rfl (fun ls hl => ?_)
                    refine lv_lload hx hb dX12_books_101 (lv_at hl 0 rfl) ?_
                    refine lv_lconst (v := 0) hx hb dX12_books_103 (by decide) ?_
                    refine W.lcmp hx hb dX12_books_104 ?_
                    refine lv_if_lt (tgt := 140) hx hb dX12_books_105 (by decide) (fun c326 => ?_) (fun c => absurd (jcnlt c jzl_m1 jzl_0) (by omega))
                    have kc326 := jclt c326 jzl_m1 jzl_0
                    refine lv_iconst (v := 0) hx hb dX12_books_140 (by decide) ?_
                    refine lv_istore_n (lv' := [(3, .int 0), (4, .long (-1)), (0, .ref (ad 55)), (1, .int a1), (2, .int a2)]) hx hb dX12_books_141 rfl hl (by decide) rfl (fun ls hl => ?_)
                    refine lv_goto (tgt := 58) hx hb dX12_books_142 (by decide) ?_
                    exact ihlp294 0 σ298 _ _ ls (by have h90 := jz_0; omega) (by have h90 := jz_0; omega) (by have h90 := jz_0; omega) (by have h90 := jz_0; omega) (by have h90 := jz_0; omega) (fun i hi => (f309 i hi)) (fun i hi => (f310 i hi))  p311 p312 p313 hP hS (lv_sub hl [0, 2, 3, 4] rfl)
                  · have kc325 := jnle c325 tx324 t2
                    refine lv_aload_n hx hb dX12_books_77 rfl (lv_at hl 1 rfl) ?_
                    refine va_get (D := D) hx hb hts inlX12 hown hK hP 55 (jc_55 cI cL ad σ298 τ) rfl 60 (by decide) (hts _ kw_8_13) (fun _ h9 => h9) rfl dX12_books_78 ?_
                    refine lv_bipush (v := 60) hx hb dX12_books_81 (by decide) ?_
                    refine lv_iload_n hx hb dX12_books_83 rfl (lv_at hl 2 rfl) ?_
                    refine lv_imul hx hb dX12_books_84 ?_
                    refine lv_topi (fun x327 ex327 => ?_)
                    have tx327 : x327.toInt = 60 * A1 := (jmul ex327 jz_60 t1 (by omega) (by omega)).trans (by omega)
                    refine lv_iload_n hx hb dX12_books_85 rfl (lv_at hl 3 rfl) ?_
                    refine lv_iadd hx hb dX12_books_86 ?_
                    refine lv_topi (fun x328 ex328 => ?_)
                    have tx328 : x328.toInt = 60 * A1 + A2 := (jadd ex328 tx327 t2 (by omega) (by omega)).trans (by omega)
                    refine lv_aload_n hx hb dX12_books_87 rfl (lv_at hl 1 rfl) ?_
                    refine va_get (D := D) hx hb hts inlX12 hown hK hP 55 (jc_55 cI cL ad σ298 τ) rfl 47 (by decide) (hts _ kw_15_15) (fun _ h9 => h9) rfl dX12_books_88 ?_
                    refine lv_iadd hx hb dX12_books_91 ?_
                    refine lv_topi (fun x329 ex329 => ?_)
                    have tx329 : x329.toInt = 60 * A1 + A2 + (σ298 55 47).toInt := (jadd ex329 tx328 rfl (by omega) (by omega)).trans (by omega)
                    refine jaldL hx hb hK hP (jc_88 cI cL ad σ298 τ) (jin tx329 (by omega) (by omega)) dX12_books_92 ?_
                    refine lv_topl (fun lx330 elx330 => ?_)
                    refine lv_goto (tgt := 99) hx hb dX12_books_93 (by decide) ?_
                    refine lv_lstore (lv' := [(4, .long lx330), (3, .int x296), (0, .ref (ad 55)), (1, .int a1), (2, .int a2)]) hx hb dX12_books_99 hl (by decide) rfl (fun ls hl => ?_)
                    refine lv_lload hx hb dX12_books_101 (lv_at hl 0 rfl) ?_
                    refine lv_lconst (v := 0) hx hb dX12_books_103 (by decide) ?_
                    refine W.lcmp hx hb dX12_books_104 ?_
                    refine lv_if_lt (tgt := 140) hx hb dX12_books_105 (by decide) (fun c331 => ?_) (fun c331 => ?_)
                    · have kc331 := jclt c331 rfl jzl_0
                      refine lv_iconst (v := 0) hx hb dX12_books_140 (by decide) ?_
                      refine lv_istore_n (lv' := [(3, .int 0), (4, .long lx330), (0, .ref (ad 55)), (1, .int a1), (2, .int a2)]) hx hb dX12_books_141 rfl hl (by decide) rfl (fun ls hl => ?_)
                      refine lv_goto (tgt := 58) hx hb dX12_books_142 (by decide) ?_
                      exact ihlp294 0 σ298 _ _ ls (by have h90 := jz_0; omega) (by have h90 := jz_0; omega) (by have h90 := jz_0; omega) (by have h90 := jz_0; omega) (by have h90 := jz_0; omega) (fun i hi => (f309 i hi)) (fun i hi => (f310 i hi))  p311 p312 p313 hP hS (lv_sub hl [0, 2, 3, 4] rfl)
                    · have kc331 := jcnlt c331 rfl jzl_0
                      refine lv_lload hx hb dX12_books_108 (lv_at hl 0 rfl) ?_
                      refine lv_ldc2 (v := 20) hx hb hown (hts _ kw_9_12) dX12_books_110 ?_
                      refine W.lcmp hx hb dX12_books_113 ?_
                      refine lv_if_ge (tgt := 140) hx hb dX12_books_114 (by decide) (fun c332 => ?_) (fun c332 => ?_)
                      · have kc332 := jcge c332 rfl jzl_20
                        refine lv_iconst (v := 0) hx hb dX12_books_140 (by decide) ?_
                        refine lv_istore_n (lv' := [(3, .int 0), (4, .long lx330), (0, .ref (ad 55)), (1, .int a1), (2, .int a2)]) hx hb dX12_books_141 rfl hl (by decide) rfl (fun ls hl => ?_)
                        refine lv_goto (tgt := 58) hx hb dX12_books_142 (by decide) ?_
                        exact ihlp294 0 σ298 _ _ ls (by have h90 := jz_0; omega) (by have h90 := jz_0; omega) (by have h90 := jz_0; omega) (by have h90 := jz_0; omega) (by have h90 := jz_0; omega) (fun i hi => (f309 i hi)) (fun i hi => (f310 i hi))  p311 p312 p313 hP hS (lv_sub hl [0, 2, 3, 4] rfl)
                      · have kc332 := jcnge c332 rfl jzl_20
                        refine lv_aload_n hx hb dX12_books_117 rfl (lv_at hl 2 rfl) ?_
                        refine lv_lload hx hb dX12_books_118 (lv_at hl 0 rfl) ?_
                        refine lv_l2i hx hb dX12_books_120 rfl ?_
                        refine lv_topi (fun x333 ex333 => ?_)
                        have tx333 : x333.toInt = lx330.toInt := jtoI ex333 rfl (by omega) (by omega)
                        refine lv_bipush (v := 10) hx hb dX12_books_121 (by decide) ?_
                        refine lv_irem hx hb dX12_books_123 (by decide) ?_
                        refine lv_topi (fun x334 ex334 => ?_)
                        have tx334 : x334.toInt = (lx330.toInt % 10) := jrem ex334 tx333 jz_10 (by omega)
                        refine lv_lload hx hb dX12_books_124 (lv_at hl 0 rfl) ?_
                        refine lv_l2i hx hb dX12_books_126 rfl ?_
                        refine lv_topi (fun x335 ex335 => ?_)
                        have tx335 : x335.toInt = lx330.toInt := jtoI ex335 rfl (by omega) (by omega)
                        refine lv_bipush (v := 10) hx hb dX12_books_127 (by decide) ?_
                        refine lv_idiv hx hb dX12_books_129 (by decide) ?_
                        refine lv_topi (fun x336 ex336 => ?_)
                        have tx336 : x336.toInt = (lx330.toInt / 10) := jdiv ex336 tx335 jz_10 (by omega) (by omega)
                        have I337 : jI102 σ298 := jI102_fr ((f310 6 (by decide)).trans (jkp 6 eσ191 (by decide))) ((f309 60 (by decide)).trans (jnp 60 eσ191 (by decide))) ((f309 61 (by decide)).trans (jnp 61 eσ191 (by decide))) hI102
                        have I338 : jI104 σ298 := jI104_fr ((f310 10 (by decide)).trans (jkp 10 eσ191 (by decide))) ((f310 12 (by decide)).trans (jkp 12 eσ191 (by decide))) ((f310 13 (by decide)).trans (jkp 13 eσ191 (by decide))) ((f309 62 (by decide)).trans (jnp 62 eσ191 (by decide))) ((f309 67 (by decide)).trans (jnp 67 eσ191 (by decide))) hI104
                        have w339 : ∀ k : Nat, k < 4 → 0 ≤ (σ298 68 k).toInt ∧ (σ298 68 k).toInt ≤ 3 := p313
                        refine jcallV (As := [.int x334, .int x336]) (rest := []) ⟨hx, hb, hml, hown, hts⟩ hK hP hA hS hZ (c_X12_book l D cI cL ad zz hJ σ298 τ x334 ((lx330.toInt % 10)) tx334 x336 ((lx330.toInt / 10)) tx336 I337 I338 p312 w339 p311) cw_RX12_366 (jc_55 cI cL ad σ298 τ) rfl ⟨Nat.le_of_ble_eq_true rfl, Nat.le_of_ble_eq_true rfl⟩ rfl rfl rfl hl.1 rfl (Nat.le_of_ble_eq_true rfl) dX12_books_130 ⟨Nat.zero_le _, Nat.zero_le _⟩ (fun r341 σ340 τ340 H locs h340 hP hS => ?_)
                        obtain ⟨rfl, f342, f343, I344, w345, p346, h340⟩ := h340
                        obtain ⟨i348, i349, w350⟩ : (0 ≤ (σ340 55 47).toInt ∧ (σ340 55 47).toInt ≤ 12) ∧ ((σ340 55 47).toInt ≤ (σ340 55 12).toInt) ∧ (∀ k : Nat, k < 12 → 0 ≤ (σ340 80 k).toInt ∧ (σ340 80 k).toInt ≤ 3) := id I344
                        have z351 : (σ340 55 12).toInt = (σ 55 12).toInt := (congrArg Int32.toInt (show σ340 55 12 = (σ 55 12) from ((f343 12 (by decide)).trans ((f310 12 (by decide)).trans (jkp 12 eσ191 (by decide))))))
                        rcases h340 with h352 | h353
                        · obtain ⟨q356, k354, k355⟩ := h352
                          refine lv_if_le (tgt := 140) hx hb dX12_books_133 (by decide) (fun c => absurd (jle c rfl jz_0) (by omega)) (fun c357 => ?_)
                          have kc357 := jnle c357 rfl jz_0
                          refine lv_iconst (v := 1) hx hb dX12_books_136 (by decide) ?_
                          refine lv_goto (tgt := 141) hx hb dX12_books_137 (by decide) ?_
                          refine lv_istore_n (lv' := [(3, .int 1), (4, .long lx330), (0, .ref (ad 55)), (1, .int a1), (2, .int a2)]) hx hb dX12_books_141 rfl hl (by decide) rfl (fun ls hl => ?_)
                          refine lv_goto (tgt := 58) hx hb dX12_books_142 (by decide) ?_
                          have I358 : jI119 σ340 := w345
                          exact ihlp294 1 σ340 _ _ ls (by have h90 := jz_1; omega) (by have h90 := jz_1; omega) (by have h90 := jz_1; omega) (by have h90 := jz_1; omega) (by have h90 := jz_1; omega) (fun i hi => ((f342 i hi).trans (f309 i hi))) (fun i hi => ((f343 i hi).trans (f310 i hi)))  p346 I344 I358 hP hS (lv_sub hl [0, 2, 3, 4] rfl)
                        · obtain ⟨q361, k359, k360⟩ := h353
                          refine lv_if_le (tgt := 140) hx hb dX12_books_133 (by decide) (fun c362 => ?_) (fun c => absurd (jnle c rfl jz_0) (by omega))
                          have kc362 := jle c362 rfl jz_0
                          refine lv_iconst (v := 0) hx hb dX12_books_140 (by decide) ?_
                          refine lv_istore_n (lv' := [(3, .int 0), (4, .long lx330), (0, .ref (ad 55)), (1, .int a1), (2, .int a2)]) hx hb dX12_books_141 rfl hl (by decide) rfl (fun ls hl => ?_)
                          refine lv_goto (tgt := 58) hx hb dX12_books_142 (by decide) ?_
                          have I363 : jI119 σ340 := w345
                          exact ihlp294 0 σ340 _ _ ls (by have h90 := jz_0; omega) (by have h90 := jz_0; omega) (by have h90 := jz_0; omega) (by have h90 := jz_0; omega) (by have h90 := jz_0; omega) (fun i hi => ((f342 i hi).trans (f309 i hi))) (fun i hi => ((f343 i hi).trans (f310 i hi)))  p346 I344 I363 hP hS (lv_sub hl [0, 2, 3, 4] rfl)
            exact lp294 1000000 1 σ191 _ _ ls (by have h90 := jz_1; omega) (by have h90 := jz_1; omega) (by have h90 := jz_1; omega) (by have h90 := jz_1; omega) (by have h90 := jz_1; omega) (fun _ _ => rfl) (fun _ _ => rfl)  p193 I301 I302 hP hS hl
      · have kc190 := jne c190 rfl jz_20
        refine lv_bipush (v := (-12)) hx hb dX12_books_29 (by decide) ?_
        exact hret (-12) σ τ _ _ _ _ rfl ⟨rfl, (fun _ _ => rfl), (fun _ _ => rfl), hI107, hI119, hs_jBook, trivial⟩ hP hS dX12_books_31
  · obtain ⟨q365, k364⟩ := h9
    have q365 := q365.symm
    subst q365
    refine lv_if_ne (tgt := 9) hx hb dX12_books_4 (by decide) (fun c => absurd (by decide) c) (fun _ => ?_)
    refine lv_iconst (v := (-1)) hx hb dX12_books_7 (by decide) ?_
    exact hret (-1) σ τ _ _ _ _ rfl ⟨rfl, (fun _ _ => rfl), (fun _ _ => rfl), hI107, hI119, hs_jBook, trivial⟩ hP hS dX12_books_8
set_option maxHeartbeats 4000000 in
set_option maxRecDepth 100000 in
theorem c_X12_costOf (l : Launch) (D : va_G) (cI cL : ClassId) (ad zz : Nat → Nat) (hJ : jD ad) (σ : Nat → Nat → Int32) (τ : Nat → Nat → Int64) (a1 : Int32) (A1 : Int) (t1 : a1.toInt = A1) (hI101 : jI101 σ) (hI102 : jI102 σ) (hI103 : jI103 σ) (hI104 : jI104 σ) (hI105 : jI105 σ) (hI106 : jI106 σ) (hI107 : jI107 σ) (hI119 : jI119 σ) (hs_jKept : jKept σ) (hs_jBook : jBook σ) (hp0 : 0 ≤ A1) (hp1 : A1 < (σ 55 47).toInt) (hp2 : (σ 55 12).toInt - A1 ≤ 8) : jM l yX12_costOf cX12_costOf 3 (some .int) ({ frames := 103, cells := 0, slots := 0, locals := 5061 }) D cI cL ad zz [.ref (ad 55), .int a1] σ τ (fun r σ' τ' => τ = τ' ∧ (∀ i : Nat, (i < 55 ∨ 55 < i) ∧ (i < 66 ∨ 66 < i) ∧ (i < 68 ∨ 69 < i) ∧ (i < 74 ∨ 78 < i) → σ' i = σ i) ∧ (∀ k : Nat, (k < 18 ∨ 18 < k) ∧ (k < 19 ∨ 19 < k) ∧ (k < 20 ∨ 20 < k) ∧ (k < 21 ∨ 21 < k) ∧ (k < 22 ∨ 22 < k) ∧ (k < 25 ∨ 25 < k) ∧ (k < 26 ∨ 26 < k) ∧ (k < 27 ∨ 27 < k) ∧ (k < 37 ∨ 37 < k) ∧ (k < 42 ∨ 42 < k) → σ' 55 k = σ 55 k) ∧ (jI119 σ') ∧ (jKept σ') ∧ (jBook σ') ∧ True) := by
  refine jM.of hJ (by decide +kernel) (nt := .int) rfl (Nat.le_of_ble_eq_true rfl) ?_
  intro p e s m args below meth c Q ls hC hret hl hP
  obtain ⟨hx, hb, hr, hml, hown, hts, hK, -, hlocks, hZ⟩ := hC
  have hown : s.vm.findClass RX12 = some m.cls := hown
  have hS : va_S (jA ad) s.heap s.heap [] := va_S.rf
  have hA : ∀ q, jA ad q → jA ad q := fun _ h => h
  have hl : lv_has ls 3 [(0, .ref (ad 55)), (1, .int a1)] := hl
  have g1 := jrg t1
  obtain ⟨i1, w2, w3⟩ : (0 ≤ (σ 55 6).toInt ∧ (σ 55 6).toInt ≤ 4) ∧ (∀ k : Nat, k < 4 → 0 ≤ (σ 60 k).toInt ∧ (σ 60 k).toInt ≤ 50) ∧ (∀ k : Nat, k < 4 → 0 ≤ (σ 61 k).toInt ∧ (σ 61 k).toInt ≤ 20) := id hI102
  obtain ⟨i4, i5, i6, w7, w8⟩ : (1 ≤ (σ 55 10).toInt ∧ (σ 55 10).toInt ≤ 8) ∧ (1 ≤ (σ 55 12).toInt ∧ (σ 55 12).toInt ≤ 12) ∧ (0 ≤ (σ 55 13).toInt ∧ (σ 55 13).toInt ≤ 999) ∧ (∀ k : Nat, k < 8 → 0 ≤ (σ 62 k).toInt ∧ (σ 62 k).toInt ≤ 3) ∧ (∀ k : Nat, k < 8 → 0 ≤ (σ 67 k).toInt ∧ (σ 67 k).toInt ≤ 3) := id hI104
  obtain ⟨i9, i10, w11⟩ : (0 ≤ (σ 55 47).toInt ∧ (σ 55 47).toInt ≤ 12) ∧ ((σ 55 47).toInt ≤ (σ 55 12).toInt) ∧ (∀ k : Nat, k < 12 → 0 ≤ (σ 80 k).toInt ∧ (σ 80 k).toInt ≤ 3) := id hI107
  refine lv_aload_n hx hb dX12_costOf_0 rfl (lv_at hl 0 rfl) ?_
  refine lv_iload_n hx hb dX12_costOf_1 rfl (lv_at hl 1 rfl) ?_
  have w12 : ∀ k : Nat, k < 4 → 0 ≤ (σ 68 k).toInt ∧ (σ 68 k).toInt ≤ 3 := hI119
  refine jcallVv (As := [.int a1]) (rest := []) ⟨hx, hb, hml, hown, hts⟩ hK hP hA hS hZ (c_X12_goThroughBook l D cI cL ad zz hJ σ τ a1 (A1) t1 hI102 hI104 hI107 w12 hs_jBook (by omega) (by omega)) cw_RX12_334 (jc_55 cI cL ad σ τ) rfl ⟨Nat.le_of_ble_eq_true rfl, Nat.le_of_ble_eq_true rfl⟩ rfl rfl rfl hl.1 rfl (Nat.le_of_ble_eq_true rfl) dX12_costOf_2 ⟨Nat.zero_le _, Nat.zero_le _⟩ (fun σ13 τ13 H locs h13 hP hS => ?_)
  obtain ⟨rfl, f15, f16, I17, p18, h13⟩ := h13
  obtain ⟨i20, i21, i22, i23, i24, w25⟩ : (0 ≤ (σ13 55 25).toInt) ∧ ((σ13 55 25).toInt ≤ (σ13 55 10).toInt) ∧ (0 ≤ (σ13 55 26).toInt) ∧ ((σ13 55 26).toInt ≤ (σ13 55 12).toInt) ∧ ((-1) ≤ (σ13 55 27).toInt ∧ (σ13 55 27).toInt ≤ 3) ∧ (∀ k : Nat, k < 4 → 0 ≤ (σ13 68 k).toInt ∧ (σ13 68 k).toInt ≤ 3) := id I17
  have z26 : (σ13 55 10).toInt = (σ 55 10).toInt := (congrArg Int32.toInt (show σ13 55 10 = (σ 55 10) from (f16 10 (by decide))))
  have z27 : (σ13 55 12).toInt = (σ 55 12).toInt := (congrArg Int32.toInt (show σ13 55 12 = (σ 55 12) from (f16 12 (by decide))))
  obtain ⟨k28, k29, k30, h13⟩ := h13
  refine lv_aload_n hx hb dX12_costOf_5 rfl (lv_at hl 0 rfl) ?_
  refine jcallVv (As := []) (rest := []) ⟨hx, hb, hml, hown, hts⟩ hK hP hA hS hZ (c_X12_forgets l D cI cL ad zz hJ σ13 τ) cw_RX12_341 (jc_55 cI cL ad σ13 τ) rfl ⟨Nat.le_of_ble_eq_true rfl, Nat.le_of_ble_eq_true rfl⟩ rfl rfl rfl hl.1 rfl (Nat.le_of_ble_eq_true rfl) dX12_costOf_6 ⟨Nat.zero_le _, Nat.zero_le _⟩ (fun σ31 τ31 H locs h31 hP hS => ?_)
  obtain ⟨rfl, f33, f34, h31⟩ := h31
  refine lv_aload_n hx hb dX12_costOf_9 rfl (lv_at hl 0 rfl) ?_
  have I36 : jI102 σ31 := jI102_fr ((f34 6 (by decide)).trans (f16 6 (by decide))) ((f33 60 (by decide)).trans (f15 60 (by decide))) ((f33 61 (by decide)).trans (f15 61 (by decide))) hI102
  have I37 : jI104 σ31 := jI104_fr ((f34 10 (by decide)).trans (f16 10 (by decide))) ((f34 12 (by decide)).trans (f16 12 (by decide))) ((f34 13 (by decide)).trans (f16 13 (by decide))) ((f33 62 (by decide)).trans (f15 62 (by decide))) ((f33 67 (by decide)).trans (f15 67 (by decide))) hI104
  have I38 : jI120 σ31 := jI120_fr (f34 10 (by decide)) (f34 12 (by decide)) (f34 25 (by decide)) (f34 26 (by decide)) (f34 27 (by decide)) (f33 68 (by decide)) I17
  have z39 : (σ31 55 25).toInt = (σ13 55 25).toInt := (congrArg Int32.toInt (show σ31 55 25 = (σ13 55 25) from (f34 25 (by decide))))
  have z40 : (σ31 55 10).toInt = (σ 55 10).toInt := (congrArg Int32.toInt (show σ31 55 10 = (σ 55 10) from ((f34 10 (by decide)).trans (f16 10 (by decide)))))
  have z41 : (σ31 55 26).toInt = (σ13 55 26).toInt := (congrArg Int32.toInt (show σ31 55 26 = (σ13 55 26) from (f34 26 (by decide))))
  have z42 : (σ31 55 12).toInt = (σ 55 12).toInt := (congrArg Int32.toInt (show σ31 55 12 = (σ 55 12) from ((f34 12 (by decide)).trans (f16 12 (by decide)))))
  refine jcallV (As := []) (rest := []) ⟨hx, hb, hml, hown, hts⟩ hK hP hA hS hZ (c_X12_isEnded l D cI cL ad zz hJ σ31 τ I36 I37 I38) cw_RX12_307 (jc_55 cI cL ad σ31 τ) rfl ⟨Nat.le_of_ble_eq_true rfl, Nat.le_of_ble_eq_true rfl⟩ rfl rfl rfl hl.1 rfl (Nat.le_of_ble_eq_true rfl) dX12_costOf_10 ⟨Nat.zero_le _, Nat.zero_le _⟩ (fun r44 σ43 τ43 H locs h43 hP hS => ?_)
  obtain ⟨⟨rfl, rfl⟩, h43⟩ := h43
  rcases h43 with h45 | h46
  · obtain ⟨q48, k47⟩ := h45
    have q48 := q48.symm
    subst q48
    refine lv_if_eq (tgt := 20) hx hb dX12_costOf_13 (by decide) (fun c => absurd c (by decide)) (fun _ => ?_)
    refine lv_iconst (v := 0) hx hb dX12_costOf_16 (by decide) ?_
    refine lv_goto (tgt := 24) hx hb dX12_costOf_17 (by decide) ?_
    refine lv_istore_n (lv' := [(2, .int 0), (0, .ref (ad 55)), (1, .int a1)]) hx hb dX12_costOf_24 rfl hl (by decide) rfl (fun ls hl => ?_)
    refine lv_aload_n hx hb dX12_costOf_25 rfl (lv_at hl 1 rfl) ?_
    refine lv_aload_n hx hb dX12_costOf_26 rfl (lv_at hl 1 rfl) ?_
    refine va_get (D := D) hx hb hts inlX12 hown hK hP 55 (jc_55 cI cL ad σ31 τ) rfl 48 (by decide) (hts _ kw_8_5) (fun _ h9 => h9) rfl dX12_costOf_27 ?_
    refine lv_iload_n hx hb dX12_costOf_30 rfl (lv_at hl 2 rfl) ?_
    refine jald hx hb hK hP (jc_80 cI cL ad σ31 τ) (jin t1 (by omega) (by omega)) dX12_costOf_31 ?_
    have w49 : ∀ k : Nat, k < 12 → 0 ≤ (σ31 80 k).toInt ∧ (σ31 80 k).toInt ≤ 3 := (jrr_fr (f33 80 (by decide)) (jrr_fr (f15 80 (by decide)) w11))
    have g50 := w49 _ (jnat (x := a1) t1 (n := 12) (by omega) (by decide))
    refine lv_topi (fun x51 ex51 => ?_)
    rw [← ex51] at g50
    have I52 : jI101 σ31 := jI101_fr ((f34 4 (by decide)).trans (f16 4 (by decide))) ((f34 5 (by decide)).trans (f16 5 (by decide))) ((f33 56 (by decide)).trans (f15 56 (by decide))) ((f33 57 (by decide)).trans (f15 57 (by decide))) ((f33 58 (by decide)).trans (f15 58 (by decide))) ((f33 59 (by decide)).trans (f15 59 (by decide))) hI101
    have I53 : jI103 σ31 := jI103_fr ((f34 9 (by decide)).trans (f16 9 (by decide))) hI103
    have I54 : jI105 σ31 := jI105_fr ((f34 15 (by decide)).trans (f16 15 (by decide))) ((f33 65 (by decide)).trans (f15 65 (by decide))) hI105
    have I55 : jI106 σ31 := jI106_fr ((f34 32 (by decide)).trans (f16 32 (by decide))) ((f33 70 (by decide)).trans (f15 70 (by decide))) ((f33 71 (by decide)).trans (f15 71 (by decide))) ((f33 72 (by decide)).trans (f15 72 (by decide))) hI106
    have p56 : jKept σ31 := jKept.fr ((f33 75 (by decide)).trans (f15 75 (by decide))) ((f33 76 (by decide)).trans (f15 76 (by decide))) ((f33 77 (by decide)).trans (f15 77 (by decide))) hs_jKept
    refine jcallV (As := [.int x51]) (rest := []) ⟨hx, hb, hml, hown, hts⟩ hK hP hA hS hZ ((c_X12_bests l D cI cL ad zz hJ 8).1 σ31 τ x51 (x51.toInt) rfl I52 I36 I53 I37 I54 I55 I38 p56 (by omega) (by omega) (by omega) (by omega)) cw_RX12_318 (jc_55 cI cL ad σ31 τ) rfl ⟨Nat.le_of_ble_eq_true rfl, Nat.le_of_ble_eq_true rfl⟩ rfl rfl rfl hl.1 rfl (Nat.le_of_ble_eq_true rfl) dX12_costOf_32 ⟨Nat.zero_le _, Nat.zero_le _⟩ (fun r58 σ57 τ57 H locs h57 hP hS => ?_)
    obtain ⟨rfl, f59, f60, p61, h57⟩ := h57
    have h63 := h57
    obtain ⟨q65, k64⟩ := h63
    refine lv_iload_n hx hb dX12_costOf_35 rfl (lv_at hl 0 rfl) ?_
    refine lv_isub hx hb dX12_costOf_36 ?_
    refine jtopr (y := r58) (by rw [Int32.sub_zero]) ?_
    have w66 : ∀ k : Nat, k < 4 → 0 ≤ (σ57 68 k).toInt ∧ (σ57 68 k).toInt ≤ 3 := (jrr_fr (f59 68 (by decide)) (jrr_fr (f33 68 (by decide)) w25))
    have I67 : jI119 σ57 := w66
    have p68 : jBook σ57 := jBook.fr ((f60 47 (by decide)).trans (f34 47 (by decide))) ((f60 10 (by decide)).trans (f34 10 (by decide))) ((f59 81 (by decide)).trans (f33 81 (by decide))) p18
    exact hret r58 σ57 τ _ _ _ _ rfl ⟨rfl, (fun i hi => ((f59 i (imp_258 i hi)).trans ((f33 i (imp_259 i hi)).trans (f15 i (imp_256 i hi))))), (fun i hi => ((f60 i (imp_260 i hi)).trans ((f34 i (imp_261 i hi)).trans (f16 i (imp_257 i hi))))), I67, p61, p68, trivial⟩ hP hS dX12_costOf_37
  · obtain ⟨q72, k69, k70, k71⟩ := h46
    have q72 := q72.symm
    subst q72
    obtain ⟨B73, k74, k75, w76⟩ := k71
    have z77 : (σ31 55 6).toInt = (σ 55 6).toInt := (congrArg Int32.toInt (show σ31 55 6 = (σ 55 6) from ((f34 6 (by decide)).trans (f16 6 (by decide)))))
    refine lv_if_eq (tgt := 20) hx hb dX12_costOf_13 (by decide) (fun _ => ?_) (fun c => absurd (by decide) c)
    refine lv_aload_n hx hb dX12_costOf_20 rfl (lv_at hl 0 rfl) ?_
    have p78 : jmb σ31 B73 = 1 := (jmb_fr rfl rfl rfl rfl rfl B73).trans w76
    have I79 : jI101 σ31 := jI101_fr ((f34 4 (by decide)).trans (f16 4 (by decide))) ((f34 5 (by decide)).trans (f16 5 (by decide))) ((f33 56 (by decide)).trans (f15 56 (by decide))) ((f33 57 (by decide)).trans (f15 57 (by decide))) ((f33 58 (by decide)).trans (f15 58 (by decide))) ((f33 59 (by decide)).trans (f15 59 (by decide))) hI101
    have I80 : jI103 σ31 := jI103_fr ((f34 9 (by decide)).trans (f16 9 (by decide))) hI103
    have I81 : jI105 σ31 := jI105_fr ((f34 15 (by decide)).trans (f16 15 (by decide))) ((f33 65 (by decide)).trans (f15 65 (by decide))) hI105
    have I82 : jI106 σ31 := jI106_fr ((f34 32 (by decide)).trans (f16 32 (by decide))) ((f33 70 (by decide)).trans (f15 70 (by decide))) ((f33 71 (by decide)).trans (f15 71 (by decide))) ((f33 72 (by decide)).trans (f15 72 (by decide))) hI106
    have p83 : jKept σ31 := jKept.fr ((f33 75 (by decide)).trans (f15 75 (by decide))) ((f33 76 (by decide)).trans (f15 76 (by decide))) ((f33 77 (by decide)).trans (f15 77 (by decide))) hs_jKept
    refine jcallV (As := []) (rest := []) ⟨hx, hb, hml, hown, hts⟩ hK hP hA hS hZ ((c_X12_bests l D cI cL ad zz hJ 8).2.2 σ31 τ B73 p78 I79 I36 I80 I37 I81 I82 I38 p83 (by omega) (by omega) (by omega) (by omega)) cw_RX12_280 (jc_55 cI cL ad σ31 τ) rfl ⟨Nat.le_of_ble_eq_true rfl, Nat.le_of_ble_eq_true rfl⟩ rfl rfl rfl hl.1 rfl (Nat.le_of_ble_eq_true rfl) dX12_costOf_21 ⟨Nat.zero_le _, Nat.zero_le _⟩ (fun r85 σ84 τ84 H locs h84 hP hS => ?_)
    obtain ⟨rfl, f86, f87, p88, h84⟩ := h84
    obtain ⟨k90, h84⟩ := h84
    have h91 := h84
    obtain ⟨q93, k92⟩ := h91
    refine lv_istore_n (lv' := [(2, .int r85), (0, .ref (ad 55)), (1, .int a1)]) hx hb dX12_costOf_24 rfl hl (by decide) rfl (fun ls hl => ?_)
    refine lv_aload_n hx hb dX12_costOf_25 rfl (lv_at hl 1 rfl) ?_
    refine lv_aload_n hx hb dX12_costOf_26 rfl (lv_at hl 1 rfl) ?_
    refine va_get (D := D) hx hb hts inlX12 hown hK hP 55 (jc_55 cI cL ad σ84 τ) rfl 48 (by decide) (hts _ kw_8_5) (fun _ h9 => h9) rfl dX12_costOf_27 ?_
    refine lv_iload_n hx hb dX12_costOf_30 rfl (lv_at hl 2 rfl) ?_
    refine jald hx hb hK hP (jc_80 cI cL ad σ84 τ) (jin t1 (by omega) (by omega)) dX12_costOf_31 ?_
    have w94 : ∀ k : Nat, k < 12 → 0 ≤ (σ84 80 k).toInt ∧ (σ84 80 k).toInt ≤ 3 := (jrr_fr (f86 80 (by decide)) (jrr_fr (f33 80 (by decide)) (jrr_fr (f15 80 (by decide)) w11)))
    have g95 := w94 _ (jnat (x := a1) t1 (n := 12) (by omega) (by decide))
    refine lv_topi (fun x96 ex96 => ?_)
    rw [← ex96] at g95
    have I97 : jI101 σ84 := jI101_fr (f87 4 (by decide)) (f87 5 (by decide)) (f86 56 (by decide)) (f86 57 (by decide)) (f86 58 (by decide)) (f86 59 (by decide)) I79
    have I98 : jI102 σ84 := jI102_fr (f87 6 (by decide)) (f86 60 (by decide)) (f86 61 (by decide)) I36
    have I99 : jI103 σ84 := jI103_fr (f87 9 (by decide)) I80
    have I100 : jI104 σ84 := jI104_fr (f87 10 (by decide)) (f87 12 (by decide)) (f87 13 (by decide)) (f86 62 (by decide)) (f86 67 (by decide)) I37
    have I101 : jI105 σ84 := jI105_fr (f87 15 (by decide)) (f86 65 (by decide)) I81
    have I102 : jI106 σ84 := jI106_fr (f87 32 (by decide)) (f86 70 (by decide)) (f86 71 (by decide)) (f86 72 (by decide)) I82
    have I103 : jI120 σ84 := jI120_fr (f87 10 (by decide)) (f87 12 (by decide)) (f87 25 (by decide)) (f87 26 (by decide)) (f87 27 (by decide)) (f86 68 (by decide)) I38
    have z104 : (σ84 55 25).toInt = (σ13 55 25).toInt := (congrArg Int32.toInt (show σ84 55 25 = (σ13 55 25) from ((f87 25 (by decide)).trans (f34 25 (by decide)))))
    have z105 : (σ84 55 10).toInt = (σ 55 10).toInt := (congrArg Int32.toInt (show σ84 55 10 = (σ 55 10) from ((f87 10 (by decide)).trans ((f34 10 (by decide)).trans (f16 10 (by decide))))))
    have z106 : (σ84 55 26).toInt = (σ13 55 26).toInt := (congrArg Int32.toInt (show σ84 55 26 = (σ13 55 26) from ((f87 26 (by decide)).trans (f34 26 (by decide)))))
    have z107 : (σ84 55 12).toInt = (σ 55 12).toInt := (congrArg Int32.toInt (show σ84 55 12 = (σ 55 12) from ((f87 12 (by decide)).trans ((f34 12 (by decide)).trans (f16 12 (by decide))))))
    refine jcallV (As := [.int x96]) (rest := []) ⟨hx, hb, hml, hown, hts⟩ hK hP hA hS hZ ((c_X12_bests l D cI cL ad zz hJ 8).1 σ84 τ x96 (x96.toInt) rfl I97 I98 I99 I100 I101 I102 I103 p88 (by omega) (by omega) (by omega) (by omega)) cw_RX12_318 (jc_55 cI cL ad σ84 τ) rfl ⟨Nat.le_of_ble_eq_true rfl, Nat.le_of_ble_eq_true rfl⟩ rfl rfl rfl hl.1 rfl (Nat.le_of_ble_eq_true rfl) dX12_costOf_32 ⟨Nat.zero_le _, Nat.zero_le _⟩ (fun r109 σ108 τ108 H locs h108 hP hS => ?_)
    obtain ⟨rfl, f110, f111, p112, h108⟩ := h108
    have h114 := h108
    obtain ⟨q116, k115⟩ := h114
    refine lv_iload_n hx hb dX12_costOf_35 rfl (lv_at hl 0 rfl) ?_
    have g117 := jrg (rfl : r109.toInt = r109.toInt)
    have g118 := jrg (rfl : r85.toInt = r85.toInt)
    refine lv_isub hx hb dX12_costOf_36 ?_
    refine lv_topi (fun x119 ex119 => ?_)
    have tx119 : x119.toInt = r109.toInt - r85.toInt := (jsub ex119 rfl rfl (by omega) (by omega)).trans (by omega)
    have w120 : ∀ k : Nat, k < 4 → 0 ≤ (σ108 68 k).toInt ∧ (σ108 68 k).toInt ≤ 3 := (jrr_fr (f110 68 (by decide)) (jrr_fr (f86 68 (by decide)) (jrr_fr (f33 68 (by decide)) w25)))
    have I121 : jI119 σ108 := w120
    have p122 : jBook σ108 := jBook.fr ((f111 47 (by decide)).trans ((f87 47 (by decide)).trans (f34 47 (by decide)))) ((f111 10 (by decide)).trans ((f87 10 (by decide)).trans (f34 10 (by decide)))) ((f110 81 (by decide)).trans ((f86 81 (by decide)).trans (f33 81 (by decide)))) p18
    exact hret x119 σ108 τ _ _ _ _ rfl ⟨rfl, (fun i hi => ((f110 i (imp_258 i hi)).trans ((f86 i (imp_258 i hi)).trans ((f33 i (imp_259 i hi)).trans (f15 i (imp_256 i hi)))))), (fun i hi => ((f111 i (imp_260 i hi)).trans ((f87 i (imp_260 i hi)).trans ((f34 i (imp_261 i hi)).trans (f16 i (imp_257 i hi)))))), I121, p112, p122, trivial⟩ hP hS dX12_costOf_37
set_option maxHeartbeats 4000000 in
set_option maxRecDepth 100000 in
theorem c_X12_cost (l : Launch) (D : va_G) (cI cL : ClassId) (ad zz : Nat → Nat) (hJ : jD ad) (σ : Nat → Nat → Int32) (τ : Nat → Nat → Int64) (a1 : Int32) (A1 : Int) (t1 : a1.toInt = A1) (hI101 : jI101 σ) (hI102 : jI102 σ) (hI103 : jI103 σ) (hI104 : jI104 σ) (hI105 : jI105 σ) (hI106 : jI106 σ) (hI107 : jI107 σ) (hI119 : jI119 σ) (hs_jKept : jKept σ) (hs_jBook : jBook σ) : jM l yX12_cost cX12_cost 2 (some .int) ({ frames := 104, cells := 0, slots := 0, locals := 5083 }) D cI cL ad zz [.ref (ad 55), .int a1] σ τ (fun r σ' τ' => τ = τ' ∧ (∀ i : Nat, (i < 55 ∨ 55 < i) ∧ (i < 66 ∨ 66 < i) ∧ (i < 68 ∨ 69 < i) ∧ (i < 74 ∨ 78 < i) → σ' i = σ i) ∧ (∀ k : Nat, (k < 18 ∨ 18 < k) ∧ (k < 19 ∨ 19 < k) ∧ (k < 20 ∨ 20 < k) ∧ (k < 21 ∨ 21 < k) ∧ (k < 22 ∨ 22 < k) ∧ (k < 25 ∨ 25 < k) ∧ (k < 26 ∨ 26 < k) ∧ (k < 27 ∨ 27 < k) ∧ (k < 37 ∨ 37 < k) ∧ (k < 42 ∨ 42 < k) → σ' 55 k = σ 55 k) ∧ (jI119 σ') ∧ (jKept σ') ∧ (jBook σ') ∧ True) := by
  refine jM.of hJ (by decide +kernel) (nt := .int) rfl (Nat.le_of_ble_eq_true rfl) ?_
  intro p e s m args below meth c Q ls hC hret hl hP
  obtain ⟨hx, hb, hr, hml, hown, hts, hK, -, hlocks, hZ⟩ := hC
  have hown : s.vm.findClass RX12 = some m.cls := hown
  have hS : va_S (jA ad) s.heap s.heap [] := va_S.rf
  have hA : ∀ q, jA ad q → jA ad q := fun _ h => h
  have hl : lv_has ls 2 [(0, .ref (ad 55)), (1, .int a1)] := hl
  have g1 := jrg t1
  obtain ⟨i1, i2, i3, w4, w5⟩ : (1 ≤ (σ 55 10).toInt ∧ (σ 55 10).toInt ≤ 8) ∧ (1 ≤ (σ 55 12).toInt ∧ (σ 55 12).toInt ≤ 12) ∧ (0 ≤ (σ 55 13).toInt ∧ (σ 55 13).toInt ≤ 999) ∧ (∀ k : Nat, k < 8 → 0 ≤ (σ 62 k).toInt ∧ (σ 62 k).toInt ≤ 3) ∧ (∀ k : Nat, k < 8 → 0 ≤ (σ 67 k).toInt ∧ (σ 67 k).toInt ≤ 3) := id hI104
  obtain ⟨i6, i7, w8⟩ : (0 ≤ (σ 55 47).toInt ∧ (σ 55 47).toInt ≤ 12) ∧ ((σ 55 47).toInt ≤ (σ 55 12).toInt) ∧ (∀ k : Nat, k < 12 → 0 ≤ (σ 80 k).toInt ∧ (σ 80 k).toInt ≤ 3) := id hI107
  refine lv_iload_n hx hb dX12_cost_0 rfl (lv_at hl 1 rfl) ?_
  refine lv_i2l (v := a1.toInt64) hx hb dX12_cost_1 rfl ?_
  refine lv_lconst (v := 0) hx hb dX12_cost_2 (by decide) ?_
  refine lv_aload_n hx hb dX12_cost_3 rfl (lv_at hl 0 rfl) ?_
  refine va_get (D := D) hx hb hts inlX12 hown hK hP 55 (jc_55 cI cL ad σ τ) rfl 47 (by decide) (hts _ kw_15_15) (fun _ h9 => h9) rfl dX12_cost_4 ?_
  refine lv_iconst (v := 1) hx hb dX12_cost_7 (by decide) ?_
  have g9 := jrg (rfl : (σ 55 47).toInt = (σ 55 47).toInt)
  refine lv_isub hx hb dX12_cost_8 ?_
  refine lv_topi (fun x10 ex10 => ?_)
  have tx10 : x10.toInt = (σ 55 47).toInt - 1 := (jsub ex10 rfl jz_1 (by omega) (by omega)).trans (by omega)
  refine lv_i2l (v := x10.toInt64) hx hb dX12_cost_9 rfl ?_
  refine jcallS (As := [.long a1.toInt64, .long 0, .long x10.toInt64]) (rest := []) ⟨hx, hb, hml, hown, hts⟩ hK hP hA hS hZ (c_X12_within l D cI cL ad zz hJ σ τ a1.toInt64 (A1) (jtoL t1) 0 (0) jzl_0 x10.toInt64 ((σ 55 47).toInt - 1) (jtoL tx10)) cw_RX12_136 ⟨Nat.le_of_ble_eq_true rfl, Nat.le_of_ble_eq_true rfl⟩ rfl rfl rfl hl.1 rfl (Nat.le_of_ble_eq_true rfl) dX12_cost_10 ⟨Nat.zero_le _, Nat.zero_le _⟩ (fun r12 σ11 τ11 H locs h11 hP hS => ?_)
  obtain ⟨⟨rfl, rfl⟩, h11⟩ := h11
  rcases h11 with h13 | h14
  · obtain ⟨q16, k15⟩ := h13
    have q16 := q16.symm
    subst q16
    refine lv_if_eq (tgt := 27) hx hb dX12_cost_13 (by decide) (fun c => absurd c (by decide)) (fun _ => ?_)
    refine lv_aload_n hx hb dX12_cost_16 rfl (lv_at hl 0 rfl) ?_
    refine va_get (D := D) hx hb hts inlX12 hown hK hP 55 (jc_55 cI cL ad σ τ) rfl 12 (by decide) (hts _ kw_8_16) (fun _ h9 => h9) rfl dX12_cost_17 ?_
    refine lv_iload_n hx hb dX12_cost_20 rfl (lv_at hl 1 rfl) ?_
    have g17 := jrg (rfl : (σ 55 12).toInt = (σ 55 12).toInt)
    refine lv_isub hx hb dX12_cost_21 ?_
    refine lv_topi (fun x18 ex18 => ?_)
    have tx18 : x18.toInt = (σ 55 12).toInt - A1 := (jsub ex18 rfl t1 (by omega) (by omega)).trans (by omega)
    refine lv_bipush (v := 8) hx hb dX12_cost_22 (by decide) ?_
    refine lv_icmp_le (tgt := 32) hx hb dX12_cost_24 (by decide) (fun c19 => ?_) (fun c19 => ?_)
    · have kc19 := jle c19 tx18 jz_8
      refine lv_aload_n hx hb dX12_cost_32 rfl (lv_at hl 0 rfl) ?_
      refine lv_iload_n hx hb dX12_cost_33 rfl (lv_at hl 1 rfl) ?_
      refine jcallV (As := [.int a1]) (rest := []) ⟨hx, hb, hml, hown, hts⟩ hK hP hA hS hZ (c_X12_costOf l D cI cL ad zz hJ σ τ a1 (A1) t1 hI101 hI102 hI103 hI104 hI105 hI106 hI107 hI119 hs_jKept hs_jBook (by omega) (by omega) (by omega)) cw_RX12_369 (jc_55 cI cL ad σ τ) rfl ⟨Nat.le_of_ble_eq_true rfl, Nat.le_of_ble_eq_true rfl⟩ rfl rfl rfl hl.1 rfl (Nat.le_of_ble_eq_true rfl) dX12_cost_34 ⟨Nat.zero_le _, Nat.zero_le _⟩ (fun r21 σ20 τ20 H locs h20 hP hS => ?_)
      obtain ⟨rfl, f22, f23, I24, p25, p26, h20⟩ := h20
      exact hret r21 σ20 τ _ _ _ _ rfl ⟨rfl, (fun i hi => (f22 i hi)), (fun i hi => (f23 i hi)), I24, p25, p26, trivial⟩ hP hS dX12_cost_37
    · have kc19 := jnle c19 tx18 jz_8
      refine lv_ldc (v := (-2000000000)) hx hb hown (hts _ kw_11_4) dX12_cost_27 ?_
      refine lv_goto (tgt := 37) hx hb dX12_cost_29 (by decide) ?_
      exact hret (-2000000000) σ τ _ _ _ _ rfl ⟨rfl, (fun _ _ => rfl), (fun _ _ => rfl), hI119, hs_jKept, hs_jBook, trivial⟩ hP hS dX12_cost_37
  · obtain ⟨q29, k28⟩ := h14
    have q29 := q29.symm
    subst q29
    refine lv_if_eq (tgt := 27) hx hb dX12_cost_13 (by decide) (fun _ => ?_) (fun c => absurd (by decide) c)
    refine lv_ldc (v := (-2000000000)) hx hb hown (hts _ kw_11_4) dX12_cost_27 ?_
    refine lv_goto (tgt := 37) hx hb dX12_cost_29 (by decide) ?_
    exact hret (-2000000000) σ τ _ _ _ _ rfl ⟨rfl, (fun _ _ => rfl), (fun _ _ => rfl), hI119, hs_jKept, hs_jBook, trivial⟩ hP hS dX12_cost_37
set_option maxHeartbeats 4000000 in
set_option maxRecDepth 100000 in
theorem c_X12_lost (l : Launch) (D : va_G) (cI cL : ClassId) (ad zz : Nat → Nat) (hJ : jD ad) (σ : Nat → Nat → Int32) (τ : Nat → Nat → Int64) (a1 : Int32) (A1 : Int) (t1 : a1.toInt = A1) (hI101 : jI101 σ) (hI102 : jI102 σ) (hI103 : jI103 σ) (hI104 : jI104 σ) (hI105 : jI105 σ) (hI106 : jI106 σ) (hI107 : jI107 σ) (hI119 : jI119 σ) (hs_jKept : jKept σ) (hs_jBook : jBook σ) : jM l yX12_lost cX12_lost 7 (some .int) ({ frames := 104, cells := 0, slots := 0, locals := 5083 }) D cI cL ad zz [.ref (ad 55), .int a1] σ τ (fun r σ' τ' => τ = τ' ∧ (∀ i : Nat, (i < 55 ∨ 55 < i) ∧ (i < 66 ∨ 66 < i) ∧ (i < 68 ∨ 69 < i) ∧ (i < 74 ∨ 78 < i) → σ' i = σ i) ∧ (∀ k : Nat, (k < 18 ∨ 18 < k) ∧ (k < 19 ∨ 19 < k) ∧ (k < 20 ∨ 20 < k) ∧ (k < 21 ∨ 21 < k) ∧ (k < 22 ∨ 22 < k) ∧ (k < 25 ∨ 25 < k) ∧ (k < 26 ∨ 26 < k) ∧ (k < 27 ∨ 27 < k) ∧ (k < 37 ∨ 37 < k) ∧ (k < 42 ∨ 42 < k) → σ' 55 k = σ 55 k) ∧ (jI119 σ') ∧ (jKept σ') ∧ (jBook σ') ∧ True) := by
  refine jM.of hJ (by decide +kernel) (nt := .int) rfl (Nat.le_of_ble_eq_true rfl) ?_
  intro p e s m args below meth c Q ls hC hret hl hP
  obtain ⟨hx, hb, hr, hml, hown, hts, hK, -, hlocks, hZ⟩ := hC
  have hown : s.vm.findClass RX12 = some m.cls := hown
  have hS : va_S (jA ad) s.heap s.heap [] := va_S.rf
  have hA : ∀ q, jA ad q → jA ad q := fun _ h => h
  have hl : lv_has ls 7 [(0, .ref (ad 55)), (1, .int a1)] := hl
  have g1 := jrg t1
  obtain ⟨i1, i2, i3, w4, w5⟩ : (1 ≤ (σ 55 10).toInt ∧ (σ 55 10).toInt ≤ 8) ∧ (1 ≤ (σ 55 12).toInt ∧ (σ 55 12).toInt ≤ 12) ∧ (0 ≤ (σ 55 13).toInt ∧ (σ 55 13).toInt ≤ 999) ∧ (∀ k : Nat, k < 8 → 0 ≤ (σ 62 k).toInt ∧ (σ 62 k).toInt ≤ 3) ∧ (∀ k : Nat, k < 8 → 0 ≤ (σ 67 k).toInt ∧ (σ 67 k).toInt ≤ 3) := id hI104
  obtain ⟨i6, i7, w8⟩ : (0 ≤ (σ 55 47).toInt ∧ (σ 55 47).toInt ≤ 12) ∧ ((σ 55 47).toInt ≤ (σ 55 12).toInt) ∧ (∀ k : Nat, k < 12 → 0 ≤ (σ 80 k).toInt ∧ (σ 80 k).toInt ≤ 3) := id hI107
  refine lv_iload_n hx hb dX12_lost_0 rfl (lv_at hl 1 rfl) ?_
  refine lv_i2l (v := a1.toInt64) hx hb dX12_lost_1 rfl ?_
  refine lv_lconst (v := 0) hx hb dX12_lost_2 (by decide) ?_
  refine lv_ldc2 (v := 2) hx hb hown (hts _ kw_11_3) dX12_lost_3 ?_
  refine jcallS (As := [.long a1.toInt64, .long 0, .long 2]) (rest := []) ⟨hx, hb, hml, hown, hts⟩ hK hP hA hS hZ (c_X12_within l D cI cL ad zz hJ σ τ a1.toInt64 (A1) (jtoL t1) 0 (0) jzl_0 2 (2) jzl_2) cw_RX12_136 ⟨Nat.le_of_ble_eq_true rfl, Nat.le_of_ble_eq_true rfl⟩ rfl rfl rfl hl.1 rfl (Nat.le_of_ble_eq_true rfl) dX12_lost_6 ⟨Nat.zero_le _, Nat.zero_le _⟩ (fun r10 σ9 τ9 H locs h9 hP hS => ?_)
  obtain ⟨⟨rfl, rfl⟩, h9⟩ := h9
  rcases h9 with h11 | h12
  · obtain ⟨q14, k13⟩ := h11
    have q14 := q14.symm
    subst q14
    refine lv_if_eq (tgt := 19) hx hb dX12_lost_9 (by decide) (fun c => absurd c (by decide)) (fun _ => ?_)
    refine lv_aload_n hx hb dX12_lost_12 rfl (lv_at hl 0 rfl) ?_
    refine va_get (D := D) hx hb hts inlX12 hown hK hP 55 (jc_55 cI cL ad σ τ) rfl 47 (by decide) (hts _ kw_15_15) (fun _ h9 => h9) rfl dX12_lost_13 ?_
    refine lv_if_ne (tgt := 21) hx hb dX12_lost_16 (by decide) (fun c15 => ?_) (fun c15 => ?_)
    · have kc15 := jne c15 rfl jz_0
      refine lv_aload_n hx hb dX12_lost_21 rfl (lv_at hl 0 rfl) ?_
      refine va_get (D := D) hx hb hts inlX12 hown hK hP 55 (jc_55 cI cL ad σ τ) rfl 12 (by decide) (hts _ kw_8_16) (fun _ h9 => h9) rfl dX12_lost_22 ?_
      refine lv_bipush (v := 8) hx hb dX12_lost_25 (by decide) ?_
      refine lv_icmp_le (tgt := 33) hx hb dX12_lost_27 (by decide) (fun c16 => ?_) (fun c16 => ?_)
      · have kc16 := jle c16 rfl jz_8
        refine lv_iconst (v := 0) hx hb dX12_lost_33 (by decide) ?_
        refine lv_istore_n (lv' := [(2, .int 0), (0, .ref (ad 55)), (1, .int a1)]) hx hb dX12_lost_34 rfl hl (by decide) rfl (fun ls hl => ?_)
        refine lv_ldc (v := (-2000000000)) hx hb hown (hts _ kw_11_4) dX12_lost_35 ?_
        refine lv_istore_n (lv' := [(3, .int (-2000000000)), (2, .int 0), (0, .ref (ad 55)), (1, .int a1)]) hx hb dX12_lost_37 rfl hl (by decide) rfl (fun ls hl => ?_)
        refine lv_iconst (v := 0) hx hb dX12_lost_38 (by decide) ?_
        refine lv_istore (lv' := [(4, .int 0), (3, .int (-2000000000)), (2, .int 0), (0, .ref (ad 55)), (1, .int a1)]) hx hb dX12_lost_39 hl (by decide) rfl (fun ls hl => ?_)
        refine lv_iconst (v := 0) hx hb dX12_lost_41 (by decide) ?_
        refine lv_istore (lv' := [(5, .int 0), (4, .int 0), (3, .int (-2000000000)), (2, .int 0), (0, .ref (ad 55)), (1, .int a1)]) hx hb dX12_lost_42 hl (by decide) rfl (fun ls hl => ?_)
        have lp17 : ∀ (n18 : Nat) (x19 : Int32) (x20 : Int32) (x21 : Int32) (x22 : Int32) (σ24 : Nat → Nat → Int32) (H : Heap) (locs : List Loc) (ls : Array Slot), ((σ24 55 47).toInt - x22.toInt : Int) < n18 → 0 ≤ x22.toInt → x22.toInt ≤ 12 → x22.toInt ≤ (σ24 55 47).toInt → (∀ i : Nat, (i < 55 ∨ 55 < i) ∧ (i < 66 ∨ 66 < i) ∧ (i < 68 ∨ 69 < i) ∧ (i < 74 ∨ 78 < i) → σ24 i = σ i) → (∀ k : Nat, (k < 18 ∨ 18 < k) ∧ (k < 19 ∨ 19 < k) ∧ (k < 20 ∨ 20 < k) ∧ (k < 21 ∨ 21 < k) ∧ (k < 22 ∨ 22 < k) ∧ (k < 25 ∨ 25 < k) ∧ (k < 26 ∨ 26 < k) ∧ (k < 27 ∨ 27 < k) ∧ (k < 37 ∨ 37 < k) ∧ (k < 42 ∨ 42 < k) → σ24 55 k = σ 55 k) → jKept σ24 → jI119 σ24 → jH D cI cL ad σ24 τ H → va_S (jA ad) s.heap H locs → lv_has ls 7 [(5, .int x22), (4, .int x21), (3, .int x20), (2, .int x19), (0, .ref (ad 55)), (1, .int a1)] → W p l e ({ frames := 104, cells := 0, slots := 0, locals := 5083 }) s m args below meth c H locs 0 0 Q (F0 m 44 ls []) := by
          intro n18
          induction n18 with
          | zero => intro x19 x20 x21 x22 σ24 H locs ls h26 h27 h28 h29; have gx19 := jrg (rfl : x19.toInt = x19.toInt); have gx20 := jrg (rfl : x20.toInt = x20.toInt); have gx21 := jrg (rfl : x21.toInt = x21.toInt); exact absurd h26 (by omega)
          | succ n18 ihlp17 =>
            intro x19 x20 x21 x22 σ24 H locs ls h26 h27 h28 h29 f30 f31 p32 p33 hP hS hl
            have gx19 := jrg (rfl : x19.toInt = x19.toInt); have gx20 := jrg (rfl : x20.toInt = x20.toInt); have gx21 := jrg (rfl : x21.toInt = x21.toInt)
            have z34 : (σ24 55 47).toInt = (σ 55 47).toInt := (congrArg Int32.toInt (show σ24 55 47 = (σ 55 47) from (f31 47 (by decide))))
            refine lv_iload hx hb dX12_lost_44 (lv_at hl 0 rfl) ?_
            refine lv_aload_n hx hb dX12_lost_46 rfl (lv_at hl 4 rfl) ?_
            refine va_get (D := D) hx hb hts inlX12 hown hK hP 55 (jc_55 cI cL ad σ24 τ) rfl 47 (by decide) (hts _ kw_15_15) (fun _ h9 => h9) rfl dX12_lost_47 ?_
            have m35 : σ24 55 47 = (σ 55 47) := (f31 47 (by decide))
            refine jtopr m35 ?_
            refine lv_icmp_ge (tgt := 86) hx hb dX12_lost_50 (by decide) (fun c36 => ?_) (fun c36 => ?_)
            · have kc36 := jle c36 rfl rfl
              refine lv_iload_n hx hb dX12_lost_86 rfl (lv_at hl 5 rfl) ?_
              refine lv_if_ne (tgt := 94) hx hb dX12_lost_87 (by decide) (fun c37 => ?_) (fun c37 => ?_)
              · have kc37 := jne c37 t1 jz_0
                refine lv_iload_n hx hb dX12_lost_94 rfl (lv_at hl 5 rfl) ?_
                refine lv_iconst (v := 1) hx hb dX12_lost_95 (by decide) ?_
                refine lv_icmp_ne (tgt := 103) hx hb dX12_lost_96 (by decide) (fun c38 => ?_) (fun c38 => ?_)
                · have kc38 := jne c38 t1 jz_1
                  refine lv_iload hx hb dX12_lost_103 (lv_at hl 1 rfl) ?_
                  have p39 : jBook σ24 := jBook.fr (f31 47 (by decide)) (f31 10 (by decide)) (f30 81 (by decide)) hs_jBook
                  exact hret x21 σ24 τ _ _ _ _ rfl ⟨rfl, (fun i hi => (f30 i hi)), (fun i hi => (f31 i hi)), p33, p32, p39, trivial⟩ hP hS dX12_lost_105
                · have kc38 := jeq c38 t1 jz_1
                  refine lv_iload_n hx hb dX12_lost_99 rfl (lv_at hl 2 rfl) ?_
                  refine lv_goto (tgt := 105) hx hb dX12_lost_100 (by decide) ?_
                  have p40 : jBook σ24 := jBook.fr (f31 47 (by decide)) (f31 10 (by decide)) (f30 81 (by decide)) hs_jBook
                  exact hret x20 σ24 τ _ _ _ _ rfl ⟨rfl, (fun i hi => (f30 i hi)), (fun i hi => (f31 i hi)), p33, p32, p40, trivial⟩ hP hS dX12_lost_105
              · have kc37 := jeq c37 t1 jz_0
                refine lv_iload_n hx hb dX12_lost_90 rfl (lv_at hl 3 rfl) ?_
                refine lv_goto (tgt := 105) hx hb dX12_lost_91 (by decide) ?_
                have p41 : jBook σ24 := jBook.fr (f31 47 (by decide)) (f31 10 (by decide)) (f30 81 (by decide)) hs_jBook
                exact hret x19 σ24 τ _ _ _ _ rfl ⟨rfl, (fun i hi => (f30 i hi)), (fun i hi => (f31 i hi)), p33, p32, p41, trivial⟩ hP hS dX12_lost_105
            · have kc36 := jnle c36 rfl rfl
              refine lv_aload_n hx hb dX12_lost_53 rfl (lv_at hl 4 rfl) ?_
              refine lv_iload hx hb dX12_lost_54 (lv_at hl 0 rfl) ?_
              have I42 : jI101 σ24 := jI101_fr (f31 4 (by decide)) (f31 5 (by decide)) (f30 56 (by decide)) (f30 57 (by decide)) (f30 58 (by decide)) (f30 59 (by decide)) hI101
              have I43 : jI102 σ24 := jI102_fr (f31 6 (by decide)) (f30 60 (by decide)) (f30 61 (by decide)) hI102
              have I44 : jI103 σ24 := jI103_fr (f31 9 (by decide)) hI103
              have I45 : jI104 σ24 := jI104_fr (f31 10 (by decide)) (f31 12 (by decide)) (f31 13 (by decide)) (f30 62 (by decide)) (f30 67 (by decide)) hI104
              have I46 : jI105 σ24 := jI105_fr (f31 15 (by decide)) (f30 65 (by decide)) hI105
              have I47 : jI106 σ24 := jI106_fr (f31 32 (by decide)) (f30 70 (by decide)) (f30 71 (by decide)) (f30 72 (by decide)) hI106
              have I48 : jI107 σ24 := jI107_fr (f31 12 (by decide)) (f31 47 (by decide)) (f30 80 (by decide)) hI107
              have p49 : jBook σ24 := jBook.fr (f31 47 (by decide)) (f31 10 (by decide)) (f30 81 (by decide)) hs_jBook
              have z50 : (σ24 55 12).toInt = (σ 55 12).toInt := (congrArg Int32.toInt (show σ24 55 12 = (σ 55 12) from (f31 12 (by decide))))
              refine jcallV (As := [.int x22]) (rest := []) ⟨hx, hb, hml, hown, hts⟩ hK hP hA hS hZ (c_X12_costOf l D cI cL ad zz hJ σ24 τ x22 (x22.toInt) rfl I42 I43 I44 I45 I46 I47 I48 p33 p32 p49 (by omega) (by omega) (by omega)) cw_RX12_369 (jc_55 cI cL ad σ24 τ) rfl ⟨Nat.le_of_ble_eq_true rfl, Nat.le_of_ble_eq_true rfl⟩ rfl rfl rfl hl.1 rfl (Nat.le_of_ble_eq_true rfl) dX12_lost_56 ⟨Nat.zero_le _, Nat.zero_le _⟩ (fun r52 σ51 τ51 H locs h51 hP hS => ?_)
              obtain ⟨rfl, f53, f54, I55, p56, p57, h51⟩ := h51
              refine lv_istore (lv' := [(6, .int r52), (5, .int x22), (4, .int x21), (3, .int x20), (2, .int x19), (0, .ref (ad 55)), (1, .int a1)]) hx hb dX12_lost_59 hl (by decide) rfl (fun ls hl => ?_)
              refine lv_iload hx hb dX12_lost_61 (lv_at hl 2 rfl) ?_
              refine lv_iload hx hb dX12_lost_63 (lv_at hl 0 rfl) ?_
              have g59 := jrg (rfl : x21.toInt = x21.toInt)
              have g60 := jrg (rfl : r52.toInt = r52.toInt)
              refine lv_iadd hx hb dX12_lost_65 ?_
              refine lv_topi (fun x61 ex61 => ?_)
              have gx61 := jrg (rfl : x61.toInt = x61.toInt)
              refine lv_istore (lv' := [(4, .int x61), (6, .int r52), (5, .int x22), (3, .int x20), (2, .int x19), (0, .ref (ad 55)), (1, .int a1)]) hx hb dX12_lost_66 hl (by decide) rfl (fun ls hl => ?_)
              refine lv_iload hx hb dX12_lost_68 (lv_at hl 1 rfl) ?_
              refine lv_iload_n hx hb dX12_lost_70 rfl (lv_at hl 3 rfl) ?_
              refine lv_icmp_le (tgt := 80) hx hb dX12_lost_71 (by decide) (fun c62 => ?_) (fun c62 => ?_)
              · have kc62 := jle c62 rfl rfl
                obtain ⟨x63, ex63⟩ : ∃ y : Int32, y = x22 + 1 := ⟨_, rfl⟩
                have tx63 : x63.toInt = x22.toInt + 1 := (jadd ex63 rfl jz_1 (by omega) (by omega)).trans (by omega)
                refine lv_iinc (v := x63) (lv' := [(5, .int x63), (4, .int x61), (6, .int r52), (3, .int x20), (2, .int x19), (0, .ref (ad 55)), (1, .int a1)]) hx hb dX12_lost_80 hl (k := 2) rfl (by rw [ex63]; rfl) (by decide) rfl (fun ls hl => ?_)
                refine lv_goto (tgt := 44) hx hb dX12_lost_83 (by decide) ?_
                have z64 : (σ51 55 47).toInt = (σ 55 47).toInt := (congrArg Int32.toInt (show σ51 55 47 = (σ 55 47) from ((f54 47 (by decide)).trans m35)))
                exact ihlp17 x19 x20 x61 x63 σ51 _ _ ls (by have h93 := tx63; omega) (by have h93 := tx63; omega) (by have h93 := tx63; omega) (by have h93 := tx63; omega) (fun i hi => ((f53 i hi).trans (f30 i hi))) (fun i hi => ((f54 i hi).trans (f31 i hi)))  p56 I55 hP hS (lv_sub hl [0, 1, 3, 4, 5, 6] rfl)
              · have kc62 := jnle c62 rfl rfl
                refine lv_iload hx hb dX12_lost_74 (lv_at hl 2 rfl) ?_
                refine lv_istore_n (lv' := [(2, .int x22), (4, .int x61), (6, .int r52), (5, .int x22), (3, .int x20), (0, .ref (ad 55)), (1, .int a1)]) hx hb dX12_lost_76 rfl hl (by decide) rfl (fun ls hl => ?_)
                refine lv_iload hx hb dX12_lost_77 (lv_at hl 2 rfl) ?_
                refine lv_istore_n (lv' := [(3, .int r52), (2, .int x22), (4, .int x61), (6, .int r52), (5, .int x22), (0, .ref (ad 55)), (1, .int a1)]) hx hb dX12_lost_79 rfl hl (by decide) rfl (fun ls hl => ?_)
                obtain ⟨x65, ex65⟩ : ∃ y : Int32, y = x22 + 1 := ⟨_, rfl⟩
                have tx65 : x65.toInt = x22.toInt + 1 := (jadd ex65 rfl jz_1 (by omega) (by omega)).trans (by omega)
                refine lv_iinc (v := x65) (lv' := [(5, .int x65), (3, .int r52), (2, .int x22), (4, .int x61), (6, .int r52), (0, .ref (ad 55)), (1, .int a1)]) hx hb dX12_lost_80 hl (k := 4) rfl (by rw [ex65]; rfl) (by decide) rfl (fun ls hl => ?_)
                refine lv_goto (tgt := 44) hx hb dX12_lost_83 (by decide) ?_
                have z66 : (σ51 55 47).toInt = (σ 55 47).toInt := (congrArg Int32.toInt (show σ51 55 47 = (σ 55 47) from ((f54 47 (by decide)).trans m35)))
                exact ihlp17 x22 r52 x61 x65 σ51 _ _ ls (by have h93 := tx65; omega) (by have h93 := tx65; omega) (by have h93 := tx65; omega) (by have h93 := tx65; omega) (fun i hi => ((f53 i hi).trans (f30 i hi))) (fun i hi => ((f54 i hi).trans (f31 i hi)))  p56 I55 hP hS (lv_sub hl [0, 3, 1, 2, 5, 6] rfl)
        exact lp17 1000000 0 (-2000000000) 0 0 σ _ _ ls (by have h90 := jz_0; have h91 := jz_m2000000000; have h92 := jz_0; have h93 := jz_0; omega) (by have h90 := jz_0; have h91 := jz_m2000000000; have h92 := jz_0; have h93 := jz_0; omega) (by have h90 := jz_0; have h91 := jz_m2000000000; have h92 := jz_0; have h93 := jz_0; omega) (by have h90 := jz_0; have h91 := jz_m2000000000; have h92 := jz_0; have h93 := jz_0; omega) (fun _ _ => rfl) (fun _ _ => rfl)  hs_jKept hI119 hP hS hl
      · have kc16 := jnle c16 rfl jz_8
        refine lv_bipush (v := (-4)) hx hb dX12_lost_30 (by decide) ?_
        exact hret (-4) σ τ _ _ _ _ rfl ⟨rfl, (fun _ _ => rfl), (fun _ _ => rfl), hI119, hs_jKept, hs_jBook, trivial⟩ hP hS dX12_lost_32
    · have kc15 := jeq c15 rfl jz_0
      refine lv_iconst (v := (-1)) hx hb dX12_lost_19 (by decide) ?_
      exact hret (-1) σ τ _ _ _ _ rfl ⟨rfl, (fun _ _ => rfl), (fun _ _ => rfl), hI119, hs_jKept, hs_jBook, trivial⟩ hP hS dX12_lost_20
  · obtain ⟨q68, k67⟩ := h12
    have q68 := q68.symm
    subst q68
    refine lv_if_eq (tgt := 19) hx hb dX12_lost_9 (by decide) (fun _ => ?_) (fun c => absurd (by decide) c)
    refine lv_iconst (v := (-1)) hx hb dX12_lost_19 (by decide) ?_
    exact hret (-1) σ τ _ _ _ _ rfl ⟨rfl, (fun _ _ => rfl), (fun _ _ => rfl), hI119, hs_jKept, hs_jBook, trivial⟩ hP hS dX12_lost_20
set_option maxHeartbeats 4000000 in
set_option maxRecDepth 100000 in
theorem c_X12_game (l : Launch) (D : va_G) (cI cL : ClassId) (ad zz : Nat → Nat) (hJ : jD ad) (σ : Nat → Nat → Int32) (τ : Nat → Nat → Int64) (a1 : Int32) (A1 : Int) (t1 : a1.toInt = A1) (a2 : Int32) (A2 : Int) (t2 : a2.toInt = A2) (hI101 : jI101 σ) (hI102 : jI102 σ) (hI103 : jI103 σ) (hI104 : jI104 σ) (hI105 : jI105 σ) (hI106 : jI106 σ) (hI119 : jI119 σ) (hI109 : jI109 σ) (hs_jKept : jKept σ) : jM l yX12_game cX12_game 10 (some .int) ({ frames := 104, cells := 0, slots := 0, locals := 5087 }) D cI cL ad zz [.ref (ad 55), .int a1, .int a2] σ τ (fun r σ' τ' => τ = τ' ∧ (∀ i : Nat, (i < 55 ∨ 55 < i) ∧ (i < 66 ∨ 66 < i) ∧ (i < 68 ∨ 69 < i) ∧ (i < 74 ∨ 78 < i) ∧ (i < 82 ∨ 84 < i) → σ' i = σ i) ∧ (∀ k : Nat, (k < 18 ∨ 18 < k) ∧ (k < 19 ∨ 19 < k) ∧ (k < 20 ∨ 20 < k) ∧ (k < 21 ∨ 21 < k) ∧ (k < 22 ∨ 22 < k) ∧ (k < 25 ∨ 25 < k) ∧ (k < 26 ∨ 26 < k) ∧ (k < 27 ∨ 27 < k) ∧ (k < 37 ∨ 37 < k) ∧ (k < 42 ∨ 42 < k) ∧ (k < 50 ∨ 50 < k) → σ' 55 k = σ 55 k) ∧ (jI109 σ') ∧ (jI119 σ') ∧ (jKept σ') ∧ True) := by
  refine jM.of hJ (by decide +kernel) (nt := .int) rfl (Nat.le_of_ble_eq_true rfl) ?_
  intro p e s m args below meth c Q ls hC hret hl hP
  obtain ⟨hx, hb, hr, hml, hown, hts, hK, -, hlocks, hZ⟩ := hC
  have hown : s.vm.findClass RX12 = some m.cls := hown
  have hS : va_S (jA ad) s.heap s.heap [] := va_S.rf
  have hA : ∀ q, jA ad q → jA ad q := fun _ h => h
  have hl : lv_has ls 10 [(0, .ref (ad 55)), (1, .int a1), (2, .int a2)] := hl
  have g1 := jrg t1
  have g2 := jrg t2
  obtain ⟨i1, w2, w3⟩ : (0 ≤ (σ 55 6).toInt ∧ (σ 55 6).toInt ≤ 4) ∧ (∀ k : Nat, k < 4 → 0 ≤ (σ 60 k).toInt ∧ (σ 60 k).toInt ≤ 50) ∧ (∀ k : Nat, k < 4 → 0 ≤ (σ 61 k).toInt ∧ (σ 61 k).toInt ≤ 20) := id hI102
  obtain ⟨i4, i5, i6, w7, w8⟩ : (1 ≤ (σ 55 10).toInt ∧ (σ 55 10).toInt ≤ 8) ∧ (1 ≤ (σ 55 12).toInt ∧ (σ 55 12).toInt ≤ 12) ∧ (0 ≤ (σ 55 13).toInt ∧ (σ 55 13).toInt ≤ 999) ∧ (∀ k : Nat, k < 8 → 0 ≤ (σ 62 k).toInt ∧ (σ 62 k).toInt ≤ 3) ∧ (∀ k : Nat, k < 8 → 0 ≤ (σ 67 k).toInt ∧ (σ 67 k).toInt ≤ 3) := id hI104
  obtain ⟨i9, w10, w11, w12⟩ : (0 ≤ (σ 55 32).toInt ∧ (σ 55 32).toInt ≤ 20) ∧ (∀ k : Nat, k < 20 → 0 ≤ (σ 70 k).toInt ∧ (σ 70 k).toInt ≤ 6) ∧ (∀ k : Nat, k < 20 → 0 ≤ (σ 71 k).toInt ∧ (σ 71 k).toInt ≤ 8) ∧ (∀ k : Nat, k < 160 → 0 ≤ (σ 72 k).toInt ∧ (σ 72 k).toInt ≤ 3) := id hI106
  have i13 : 0 ≤ (σ 55 50).toInt ∧ (σ 55 50).toInt ≤ 12 := hI109
  refine lv_aload_n hx hb dX12_game_0 rfl (lv_at hl 0 rfl) ?_
  refine lv_iload_n hx hb dX12_game_1 rfl (lv_at hl 1 rfl) ?_
  refine jcallV (As := [.int a1]) (rest := []) ⟨hx, hb, hml, hown, hts⟩ hK hP hA hS hZ (c_X12_isRule l D cI cL ad zz hJ σ τ a1 (A1) t1 hI106) cw_RX12_331 (jc_55 cI cL ad σ τ) rfl ⟨Nat.le_of_ble_eq_true rfl, Nat.le_of_ble_eq_true rfl⟩ rfl rfl rfl hl.1 rfl (Nat.le_of_ble_eq_true rfl) dX12_game_2 ⟨Nat.zero_le _, Nat.zero_le _⟩ (fun r15 σ14 τ14 H locs h14 hP hS => ?_)
  obtain ⟨⟨rfl, rfl⟩, h14⟩ := h14
  rcases h14 with h16 | h17
  · obtain ⟨q19, k18⟩ := h16
    have q19 := q19.symm
    subst q19
    refine lv_if_ne (tgt := 10) hx hb dX12_game_5 (by decide) (fun _ => ?_) (fun c => absurd c (by decide))
    refine lv_aload_n hx hb dX12_game_10 rfl (lv_at hl 0 rfl) ?_
    refine va_get (D := D) hx hb hts inlX12 hown hK hP 55 (jc_55 cI cL ad σ τ) rfl 12 (by decide) (hts _ kw_8_16) (fun _ h9 => h9) rfl dX12_game_11 ?_
    refine lv_bipush (v := 8) hx hb dX12_game_14 (by decide) ?_
    refine lv_icmp_le (tgt := 22) hx hb dX12_game_16 (by decide) (fun c20 => ?_) (fun c20 => ?_)
    · have kc20 := jle c20 rfl jz_8
      refine lv_aload_n hx hb dX12_game_22 rfl (lv_at hl 0 rfl) ?_
      have w21 : ∀ k : Nat, k < 4 → 0 ≤ (σ 68 k).toInt ∧ (σ 68 k).toInt ≤ 3 := hI119
      refine jcallVv (As := []) (rest := []) ⟨hx, hb, hml, hown, hts⟩ hK hP hA hS hZ (c_X12_begin l D cI cL ad zz hJ σ τ hI104 w21) cw_RX12_256 (jc_55 cI cL ad σ τ) rfl ⟨Nat.le_of_ble_eq_true rfl, Nat.le_of_ble_eq_true rfl⟩ rfl rfl rfl hl.1 rfl (Nat.le_of_ble_eq_true rfl) dX12_game_23 ⟨Nat.zero_le _, Nat.zero_le _⟩ (fun σ22 τ22 H locs h22 hP hS => ?_)
      obtain ⟨rfl, f24, f25, I26, h22⟩ := h22
      obtain ⟨i28, i29, i30, i31, i32, w33⟩ : (0 ≤ (σ22 55 25).toInt) ∧ ((σ22 55 25).toInt ≤ (σ22 55 10).toInt) ∧ (0 ≤ (σ22 55 26).toInt) ∧ ((σ22 55 26).toInt ≤ (σ22 55 12).toInt) ∧ ((-1) ≤ (σ22 55 27).toInt ∧ (σ22 55 27).toInt ≤ 3) ∧ (∀ k : Nat, k < 4 → 0 ≤ (σ22 68 k).toInt ∧ (σ22 68 k).toInt ≤ 3) := id I26
      have z34 : (σ22 55 10).toInt = (σ 55 10).toInt := (congrArg Int32.toInt (show σ22 55 10 = (σ 55 10) from (f25 10 (by decide))))
      have z35 : (σ22 55 12).toInt = (σ 55 12).toInt := (congrArg Int32.toInt (show σ22 55 12 = (σ 55 12) from (f25 12 (by decide))))
      obtain ⟨k36, k37, k38, h22⟩ := h22
      refine lv_aload_n hx hb dX12_game_26 rfl (lv_at hl 0 rfl) ?_
      refine jcallVv (As := []) (rest := []) ⟨hx, hb, hml, hown, hts⟩ hK hP hA hS hZ (c_X12_forgets l D cI cL ad zz hJ σ22 τ) cw_RX12_341 (jc_55 cI cL ad σ22 τ) rfl ⟨Nat.le_of_ble_eq_true rfl, Nat.le_of_ble_eq_true rfl⟩ rfl rfl rfl hl.1 rfl (Nat.le_of_ble_eq_true rfl) dX12_game_27 ⟨Nat.zero_le _, Nat.zero_le _⟩ (fun σ39 τ39 H locs h39 hP hS => ?_)
      obtain ⟨rfl, f41, f42, h39⟩ := h39
      refine lv_aload_n hx hb dX12_game_30 rfl (lv_at hl 0 rfl) ?_
      refine lv_iconst (v := 0) hx hb dX12_game_31 (by decide) ?_
      refine jput (ty := .int) hx hb hts inlX12 tyX12 tyX12_ok nmX12 hown hK hP hJ hA hS (jc_55 cI cL ad σ39 τ) rfl (k := 50) (by decide) (Nat.le_of_ble_eq_true rfl) (jp_55_50 cI cL ad σ39 τ 0) (hts _ kw_46_13) (fun _ h9 => h9) rfl (by decide +kernel) rfl rfl dX12_game_32 (fun σ44 H locs eσ44 hP hS => ?_)
      refine lv_iload_n hx hb dX12_game_35 rfl (lv_at hl 2 rfl) ?_
      refine lv_istore_n (lv' := [(3, .int a2), (0, .ref (ad 55)), (1, .int a1), (2, .int a2)]) hx hb dX12_game_36 rfl hl (by decide) rfl (fun ls hl => ?_)
      refine lv_iconst (v := 0) hx hb dX12_game_37 (by decide) ?_
      refine lv_istore (lv' := [(4, .int 0), (3, .int a2), (0, .ref (ad 55)), (1, .int a1), (2, .int a2)]) hx hb dX12_game_38 hl (by decide) rfl (fun ls hl => ?_)
      refine lv_iconst (v := 0) hx hb dX12_game_40 (by decide) ?_
      refine lv_istore (lv' := [(5, .int 0), (4, .int 0), (3, .int a2), (0, .ref (ad 55)), (1, .int a1), (2, .int a2)]) hx hb dX12_game_41 hl (by decide) rfl (fun ls hl => ?_)
      have z55 : (σ44 55 50).toInt = 0 := ((congrArg Int32.toInt (show σ44 55 50 = 0 from (jsp eσ44))).trans jz_0)
      have I56 : jI109 σ44 := (show 0 ≤ (σ44 55 50).toInt ∧ (σ44 55 50).toInt ≤ 12 by omega)
      have w57 : ∀ k : Nat, k < 4 → 0 ≤ (σ44 68 k).toInt ∧ (σ44 68 k).toInt ≤ 3 := (jrr_fr (jnp 68 eσ44 (by decide)) (jrr_fr (f41 68 (by decide)) w33))
      have I58 : jI119 σ44 := w57
      have z59 : (σ44 55 12).toInt = (σ 55 12).toInt := (congrArg Int32.toInt (show σ44 55 12 = (σ 55 12) from ((jkp 12 eσ44 (by decide)).trans ((f42 12 (by decide)).trans (f25 12 (by decide))))))
      have z60 : (σ44 55 26).toInt = (σ22 55 26).toInt := (congrArg Int32.toInt (show σ44 55 26 = (σ22 55 26) from ((jkp 26 eσ44 (by decide)).trans (f42 26 (by decide)))))
      have z61 : (σ44 55 25).toInt = (σ22 55 25).toInt := (congrArg Int32.toInt (show σ44 55 25 = (σ22 55 25) from ((jkp 25 eσ44 (by decide)).trans (f42 25 (by decide)))))
      have z62 : (σ44 55 10).toInt = (σ 55 10).toInt := (congrArg Int32.toInt (show σ44 55 10 = (σ 55 10) from ((jkp 10 eσ44 (by decide)).trans ((f42 10 (by decide)).trans (f25 10 (by decide))))))
      have z63 : (σ44 55 27).toInt = (σ22 55 27).toInt := (congrArg Int32.toInt (show σ44 55 27 = (σ22 55 27) from ((jkp 27 eσ44 (by decide)).trans (f42 27 (by decide)))))
      have p65 : jKept σ44 := jKept.fr ((jnp 75 eσ44 (by decide)).trans ((f41 75 (by decide)).trans (f24 75 (by decide)))) ((jnp 76 eσ44 (by decide)).trans ((f41 76 (by decide)).trans (f24 76 (by decide)))) ((jnp 77 eσ44 (by decide)).trans ((f41 77 (by decide)).trans (f24 77 (by decide)))) hs_jKept
      have lp45 : ∀ (n46 : Nat) (x47 : Int32) (x48 : Int32) (x49 : Int32) (σ54 : Nat → Nat → Int32) (H : Heap) (locs : List Loc) (ls : Array Slot), ((σ54 55 12).toInt - (σ54 55 26).toInt : Int) < n46 → 0 ≤ (σ54 55 25).toInt → (σ54 55 25).toInt ≤ (σ54 55 10).toInt → 0 ≤ (σ54 55 26).toInt → (σ54 55 26).toInt ≤ (σ54 55 12).toInt → (-1) ≤ (σ54 55 27).toInt ∧ (σ54 55 27).toInt ≤ 3 → (σ54 55 50).toInt = (σ54 55 26).toInt → (∀ i : Nat, (i < 55 ∨ 55 < i) ∧ (i < 66 ∨ 66 < i) ∧ (i < 68 ∨ 69 < i) ∧ (i < 74 ∨ 78 < i) ∧ (i < 82 ∨ 84 < i) → σ54 i = σ44 i) → (∀ k : Nat, (k < 18 ∨ 18 < k) ∧ (k < 19 ∨ 19 < k) ∧ (k < 20 ∨ 20 < k) ∧ (k < 21 ∨ 21 < k) ∧ (k < 22 ∨ 22 < k) ∧ (k < 25 ∨ 25 < k) ∧ (k < 26 ∨ 26 < k) ∧ (k < 27 ∨ 27 < k) ∧ (k < 37 ∨ 37 < k) ∧ (k < 50 ∨ 50 < k) → σ54 55 k = σ44 55 k) → jKept σ54 → jI109 σ54 → jI119 σ54 → jH D cI cL ad σ54 τ H → va_S (jA ad) s.heap H locs → lv_has ls 10 [(5, .int x49), (4, .int x48), (3, .int x47), (0, .ref (ad 55)), (1, .int a1), (2, .int a2)] → W p l e ({ frames := 104, cells := 0, slots := 0, locals := 5087 }) s m args below meth c H locs 0 0 Q (F0 m 43 ls []) := by
        intro n46
        induction n46 with
        | zero => intro x47 x48 x49 σ54 H locs ls h66 h67 h68 h69 h70 h71 h72; have gx47 := jrg (rfl : x47.toInt = x47.toInt); have gx48 := jrg (rfl : x48.toInt = x48.toInt); have gx49 := jrg (rfl : x49.toInt = x49.toInt); exact absurd h66 (by omega)
        | succ n46 ihlp45 =>
          intro x47 x48 x49 σ54 H locs ls h66 h67 h68 h69 h70 h71 h72 f73 f74 p75 p76 p77 hP hS hl
          have gx47 := jrg (rfl : x47.toInt = x47.toInt); have gx48 := jrg (rfl : x48.toInt = x48.toInt); have gx49 := jrg (rfl : x49.toInt = x49.toInt)
          have i78 : 0 ≤ (σ54 55 50).toInt ∧ (σ54 55 50).toInt ≤ 12 := p76
          have z79 : (σ54 55 12).toInt = (σ 55 12).toInt := (congrArg Int32.toInt (show σ54 55 12 = (σ 55 12) from ((f74 12 (by decide)).trans ((jkp 12 eσ44 (by decide)).trans ((f42 12 (by decide)).trans (f25 12 (by decide)))))))
          have z80 : (σ54 55 10).toInt = (σ 55 10).toInt := (congrArg Int32.toInt (show σ54 55 10 = (σ 55 10) from ((f74 10 (by decide)).trans ((jkp 10 eσ44 (by decide)).trans ((f42 10 (by decide)).trans (f25 10 (by decide)))))))
          refine lv_iload hx hb dX12_game_43 (lv_at hl 0 rfl) ?_
          refine lv_if_ne (tgt := 233) hx hb dX12_game_45 (by decide) (fun c81 => ?_) (fun c81 => ?_)
          · have kc81 := jne c81 rfl jz_0
            refine lv_iload hx hb dX12_game_233 (lv_at hl 1 rfl) ?_
            exact hret x48 σ54 τ _ _ _ _ rfl ⟨rfl, (fun i hi => ((f73 i hi).trans ((jnp i eσ44 (imp_282 i hi)).trans ((f41 i (imp_283 i hi)).trans (f24 i (imp_284 i hi)))))), (fun i hi => ((f74 i (imp_285 i hi)).trans ((jkp i eσ44 (imp_286 i hi)).trans ((f42 i (imp_287 i hi)).trans (f25 i (imp_288 i hi)))))), p76, p77, p75, trivial⟩ hP hS dX12_game_235
          · have kc81 := jeq c81 rfl jz_0
            refine lv_aload_n hx hb dX12_game_48 rfl (lv_at hl 3 rfl) ?_
            have I82 : jI102 σ54 := jI102_fr ((f74 6 (by decide)).trans ((jkp 6 eσ44 (by decide)).trans ((f42 6 (by decide)).trans (f25 6 (by decide))))) ((f73 60 (by decide)).trans ((jnp 60 eσ44 (by decide)).trans ((f41 60 (by decide)).trans (f24 60 (by decide))))) ((f73 61 (by decide)).trans ((jnp 61 eσ44 (by decide)).trans ((f41 61 (by decide)).trans (f24 61 (by decide))))) hI102
            have I83 : jI104 σ54 := jI104_fr ((f74 10 (by decide)).trans ((jkp 10 eσ44 (by decide)).trans ((f42 10 (by decide)).trans (f25 10 (by decide))))) ((f74 12 (by decide)).trans ((jkp 12 eσ44 (by decide)).trans ((f42 12 (by decide)).trans (f25 12 (by decide))))) ((f74 13 (by decide)).trans ((jkp 13 eσ44 (by decide)).trans ((f42 13 (by decide)).trans (f25 13 (by decide))))) ((f73 62 (by decide)).trans ((jnp 62 eσ44 (by decide)).trans ((f41 62 (by decide)).trans (f24 62 (by decide))))) ((f73 67 (by decide)).trans ((jnp 67 eσ44 (by decide)).trans ((f41 67 (by decide)).trans (f24 67 (by decide))))) hI104
            have w84 : ∀ k : Nat, k < 4 → 0 ≤ (σ54 68 k).toInt ∧ (σ54 68 k).toInt ≤ 3 := p77
            have I85 : jI120 σ54 := ⟨(by omega), (by omega), (by omega), (by omega), (by omega), w84⟩
            refine jcallV (As := []) (rest := []) ⟨hx, hb, hml, hown, hts⟩ hK hP hA hS hZ (c_X12_isEnded l D cI cL ad zz hJ σ54 τ I82 I83 I85) cw_RX12_307 (jc_55 cI cL ad σ54 τ) rfl ⟨Nat.le_of_ble_eq_true rfl, Nat.le_of_ble_eq_true rfl⟩ rfl rfl rfl hl.1 rfl (Nat.le_of_ble_eq_true rfl) dX12_game_49 ⟨Nat.zero_le _, Nat.zero_le _⟩ (fun r87 σ86 τ86 H locs h86 hP hS => ?_)
            obtain ⟨⟨rfl, rfl⟩, h86⟩ := h86
            rcases h86 with h88 | h89
            · obtain ⟨q91, k90⟩ := h88
              have q91 := q91.symm
              subst q91
              refine lv_if_ne (tgt := 233) hx hb dX12_game_52 (by decide) (fun _ => ?_) (fun c => absurd c (by decide))
              refine lv_iload hx hb dX12_game_233 (lv_at hl 1 rfl) ?_
              exact hret x48 σ54 τ _ _ _ _ rfl ⟨rfl, (fun i hi => ((f73 i hi).trans ((jnp i eσ44 (imp_282 i hi)).trans ((f41 i (imp_283 i hi)).trans (f24 i (imp_284 i hi)))))), (fun i hi => ((f74 i (imp_285 i hi)).trans ((jkp i eσ44 (imp_286 i hi)).trans ((f42 i (imp_287 i hi)).trans (f25 i (imp_288 i hi)))))), p76, p77, p75, trivial⟩ hP hS dX12_game_235
            · obtain ⟨q95, k92, k93, k94⟩ := h89
              have q95 := q95.symm
              subst q95
              obtain ⟨B96, k97, k98, w99⟩ := k94
              have z100 : (σ54 55 6).toInt = (σ 55 6).toInt := (congrArg Int32.toInt (show σ54 55 6 = (σ 55 6) from ((f74 6 (by decide)).trans ((jkp 6 eσ44 (by decide)).trans ((f42 6 (by decide)).trans (f25 6 (by decide)))))))
              refine lv_if_ne (tgt := 233) hx hb dX12_game_52 (by decide) (fun c => absurd (by decide) c) (fun _ => ?_)
              refine lv_aload_n hx hb dX12_game_55 rfl (lv_at hl 3 rfl) ?_
              refine lv_iload_n hx hb dX12_game_56 rfl (lv_at hl 4 rfl) ?_
              have p101 : jmb σ54 B96 = 1 := (jmb_fr rfl rfl rfl rfl rfl B96).trans w99
              have I102 : jI101 σ54 := jI101_fr ((f74 4 (by decide)).trans ((jkp 4 eσ44 (by decide)).trans ((f42 4 (by decide)).trans (f25 4 (by decide))))) ((f74 5 (by decide)).trans ((jkp 5 eσ44 (by decide)).trans ((f42 5 (by decide)).trans (f25 5 (by decide))))) ((f73 56 (by decide)).trans ((jnp 56 eσ44 (by decide)).trans ((f41 56 (by decide)).trans (f24 56 (by decide))))) ((f73 57 (by decide)).trans ((jnp 57 eσ44 (by decide)).trans ((f41 57 (by decide)).trans (f24 57 (by decide))))) ((f73 58 (by decide)).trans ((jnp 58 eσ44 (by decide)).trans ((f41 58 (by decide)).trans (f24 58 (by decide))))) ((f73 59 (by decide)).trans ((jnp 59 eσ44 (by decide)).trans ((f41 59 (by decide)).trans (f24 59 (by decide))))) hI101
              have I103 : jI103 σ54 := jI103_fr ((f74 9 (by decide)).trans ((jkp 9 eσ44 (by decide)).trans ((f42 9 (by decide)).trans (f25 9 (by decide))))) hI103
              have I104 : jI105 σ54 := jI105_fr ((f74 15 (by decide)).trans ((jkp 15 eσ44 (by decide)).trans ((f42 15 (by decide)).trans (f25 15 (by decide))))) ((f73 65 (by decide)).trans ((jnp 65 eσ44 (by decide)).trans ((f41 65 (by decide)).trans (f24 65 (by decide))))) hI105
              have I105 : jI106 σ54 := jI106_fr ((f74 32 (by decide)).trans ((jkp 32 eσ44 (by decide)).trans ((f42 32 (by decide)).trans (f25 32 (by decide))))) ((f73 70 (by decide)).trans ((jnp 70 eσ44 (by decide)).trans ((f41 70 (by decide)).trans (f24 70 (by decide))))) ((f73 71 (by decide)).trans ((jnp 71 eσ44 (by decide)).trans ((f41 71 (by decide)).trans (f24 71 (by decide))))) ((f73 72 (by decide)).trans ((jnp 72 eσ44 (by decide)).trans ((f41 72 (by decide)).trans (f24 72 (by decide))))) hI106
              have z106 : (σ54 70 a1.toNatClampNeg).toInt = (σ 70 a1.toNatClampNeg).toInt := by rw [f73 70 (by decide), jnp 70 eσ44 (by decide), f41 70 (by decide), f24 70 (by decide)]
              refine jcallV (As := [.int a1]) (rest := []) ⟨hx, hb, hml, hown, hts⟩ hK hP hA hS hZ (c_X12_putsOn l D cI cL ad zz hJ σ54 τ B96 p101 a1 (A1) t1 I102 I82 I103 I83 I104 I105 I85 p75 (by omega) (by omega) (by omega) (by omega) (by omega)) cw_RX12_321 (jc_55 cI cL ad σ54 τ) rfl ⟨Nat.le_of_ble_eq_true rfl, Nat.le_of_ble_eq_true rfl⟩ rfl rfl rfl hl.1 rfl (Nat.le_of_ble_eq_true rfl) dX12_game_57 ⟨Nat.zero_le _, Nat.zero_le _⟩ (fun r108 σ107 τ107 H locs h107 hP hS => ?_)
              obtain ⟨rfl, f109, f110, p111, h107⟩ := h107
              have h113 := h107
              obtain ⟨q115, k114⟩ := h113
              refine lv_istore (lv' := [(6, .int r108), (5, .int x49), (4, .int x48), (3, .int x47), (0, .ref (ad 55)), (1, .int a1), (2, .int a2)]) hx hb dX12_game_60 hl (by decide) rfl (fun ls hl => ?_)
              refine lv_aload_n hx hb dX12_game_62 rfl (lv_at hl 4 rfl) ?_
              refine va_get (D := D) hx hb hts inlX12 hown hK hP 55 (jc_55 cI cL ad σ107 τ) rfl 11 (by decide) (hts _ kw_7_8) (fun _ h9 => h9) rfl dX12_game_63 ?_
              refine lv_aload_n hx hb dX12_game_66 rfl (lv_at hl 4 rfl) ?_
              refine va_get (D := D) hx hb hts inlX12 hown hK hP 55 (jc_55 cI cL ad σ107 τ) rfl 25 (by decide) (hts _ kw_23_6) (fun _ h9 => h9) rfl dX12_game_67 ?_
              have m116 : σ107 55 25 = (σ54 55 25) := (f110 25 (by decide))
              refine jtopr m116 ?_
              refine jald hx hb hK hP (jc_62 cI cL ad σ107 τ) (jin rfl (by omega) (by omega)) dX12_game_70 ?_
              have w117 : ∀ k : Nat, k < 8 → 0 ≤ (σ107 62 k).toInt ∧ (σ107 62 k).toInt ≤ 3 := (jrr_fr (f109 62 (by decide)) (jrr_fr (f73 62 (by decide)) (jrr_fr (jnp 62 eσ44 (by decide)) (jrr_fr (f41 62 (by decide)) (jrr_fr (f24 62 (by decide)) w7)))))
              have g118 := w117 _ (jnat (x := (σ54 55 25)) rfl (n := 8) (by omega) (by decide))
              refine lv_topi (fun x119 ex119 => ?_)
              rw [← ex119] at g118
              refine lv_istore (lv' := [(7, .int x119), (6, .int r108), (5, .int x49), (4, .int x48), (3, .int x47), (0, .ref (ad 55)), (1, .int a1), (2, .int a2)]) hx hb dX12_game_71 hl (by decide) rfl (fun ls hl => ?_)
              refine lv_aload_n hx hb dX12_game_73 rfl (lv_at hl 5 rfl) ?_
              refine lv_iload hx hb dX12_game_74 (lv_at hl 1 rfl) ?_
              refine lv_iload hx hb dX12_game_76 (lv_at hl 0 rfl) ?_
              have I120 : jI101 σ107 := jI101_fr (f110 4 (by decide)) (f110 5 (by decide)) (f109 56 (by decide)) (f109 57 (by decide)) (f109 58 (by decide)) (f109 59 (by decide)) I102
              have I121 : jI102 σ107 := jI102_fr (f110 6 (by decide)) (f109 60 (by decide)) (f109 61 (by decide)) I82
              have I122 : jI103 σ107 := jI103_fr (f110 9 (by decide)) I103
              have I123 : jI105 σ107 := jI105_fr (f110 15 (by decide)) (f109 65 (by decide)) I104
              have w124 : ∀ k : Nat, k < 4 → 0 ≤ (σ107 68 k).toInt ∧ (σ107 68 k).toInt ≤ 3 := (jrr_fr (f109 68 (by decide)) w84)
              refine jcallV (As := [.int r108, .int x119]) (rest := []) ⟨hx, hb, hml, hown, hts⟩ hK hP hA hS hZ (c_X12_outBy l D cI cL ad zz hJ σ107 τ r108 (r108.toInt) rfl x119 (x119.toInt) rfl I120 I121 I122 I123 w124 (by omega) (by omega)) cw_RX12_259 (jc_55 cI cL ad σ107 τ) rfl ⟨Nat.le_of_ble_eq_true rfl, Nat.le_of_ble_eq_true rfl⟩ rfl rfl rfl hl.1 rfl (Nat.le_of_ble_eq_true rfl) dX12_game_78 ⟨Nat.zero_le _, Nat.zero_le _⟩ (fun r126 σ125 τ125 H locs h125 hP hS => ?_)
              obtain ⟨rfl, f127, f128, h125⟩ := h125
              have h130 := h125
              obtain ⟨q132, k131⟩ := h130
              refine lv_istore (lv' := [(8, .int r126), (7, .int x119), (6, .int r108), (5, .int x49), (4, .int x48), (3, .int x47), (0, .ref (ad 55)), (1, .int a1), (2, .int a2)]) hx hb dX12_game_81 hl (by decide) rfl (fun ls hl => ?_)
              refine lv_aload_n hx hb dX12_game_83 rfl (lv_at hl 6 rfl) ?_
              refine va_get (D := D) hx hb hts inlX12 hown hK hP 55 (jc_55 cI cL ad σ125 τ) rfl 51 (by decide) (hts _ kw_8_7) (fun _ h9 => h9) rfl dX12_game_84 ?_
              refine lv_aload_n hx hb dX12_game_87 rfl (lv_at hl 6 rfl) ?_
              refine va_get (D := D) hx hb hts inlX12 hown hK hP 55 (jc_55 cI cL ad σ125 τ) rfl 50 (by decide) (hts _ kw_46_13) (fun _ h9 => h9) rfl dX12_game_88 ?_
              have m133 : σ125 55 50 = (σ54 55 50) := ((f128 50 (by decide)).trans (f110 50 (by decide)))
              refine jtopr m133 ?_
              refine lv_iload hx hb dX12_game_91 (lv_at hl 2 rfl) ?_
              refine jast hx hb hK hP hJ hA hS (jc_82 cI cL ad σ125 τ) (ja_82 cI cL ad σ125 τ _ _) (jin rfl (by omega) (by omega)) dX12_game_93 (fun σ134 H locs eσ134 hP hS => ?_)
              refine lv_aload_n hx hb dX12_game_94 rfl (lv_at hl 6 rfl) ?_
              refine va_get (D := D) hx hb hts inlX12 hown hK hP 55 (jc_55 cI cL ad σ134 τ) rfl 52 (by decide) (hts _ kw_8_8) (fun _ h9 => h9) rfl dX12_game_95 ?_
              refine lv_aload_n hx hb dX12_game_98 rfl (lv_at hl 6 rfl) ?_
              refine va_get (D := D) hx hb hts inlX12 hown hK hP 55 (jc_55 cI cL ad σ134 τ) rfl 50 (by decide) (hts _ kw_46_13) (fun _ h9 => h9) rfl dX12_game_99 ?_
              have m135 : σ134 55 50 = (σ54 55 50) := ((congrFun (jnp 55 eσ134 (by decide)) 50).trans m133)
              refine jtopr m135 ?_
              refine lv_aload_n hx hb dX12_game_102 rfl (lv_at hl 6 rfl) ?_
              refine lv_iload hx hb dX12_game_103 (lv_at hl 2 rfl) ?_
              refine lv_iload hx hb dX12_game_105 (lv_at hl 1 rfl) ?_
              have I136 : jI101 σ134 := jI101_fr ((congrFun (jnp 55 eσ134 (by decide)) 4).trans (f128 4 (by decide))) ((congrFun (jnp 55 eσ134 (by decide)) 5).trans (f128 5 (by decide))) ((jnp 56 eσ134 (by decide)).trans (f127 56 (by decide))) ((jnp 57 eσ134 (by decide)).trans (f127 57 (by decide))) ((jnp 58 eσ134 (by decide)).trans (f127 58 (by decide))) ((jnp 59 eσ134 (by decide)).trans (f127 59 (by decide))) I120
              have I137 : jI102 σ134 := jI102_fr ((congrFun (jnp 55 eσ134 (by decide)) 6).trans (f128 6 (by decide))) ((jnp 60 eσ134 (by decide)).trans (f127 60 (by decide))) ((jnp 61 eσ134 (by decide)).trans (f127 61 (by decide))) I121
              have I138 : jI103 σ134 := jI103_fr ((congrFun (jnp 55 eσ134 (by decide)) 9).trans (f128 9 (by decide))) I122
              have w139 : ∀ k : Nat, k < 4 → 0 ≤ (σ134 68 k).toInt ∧ (σ134 68 k).toInt ≤ 3 := (jrr_fr (jnp 68 eσ134 (by decide)) (jrr_fr (f127 68 (by decide)) w124))
              refine jcallV (As := [.int r108, .int x119]) (rest := [.int (σ54 55 50), .ref (ad 83)]) ⟨hx, hb, hml, hown, hts⟩ hK hP hA hS hZ (c_X12_runsBy l D cI cL ad zz hJ σ134 τ r108 (r108.toInt) rfl x119 (x119.toInt) rfl I136 I137 I138 w139 (by omega) (by omega)) cw_RX12_262 (jc_55 cI cL ad σ134 τ) rfl ⟨Nat.le_of_ble_eq_true rfl, Nat.le_of_ble_eq_true rfl⟩ rfl rfl rfl hl.1 rfl (Nat.le_of_ble_eq_true rfl) dX12_game_107 ⟨Nat.zero_le _, Nat.zero_le _⟩ (fun r141 σ140 τ140 H locs h140 hP hS => ?_)
              obtain ⟨⟨rfl, rfl⟩, h140⟩ := h140
              have h142 := h140
              obtain ⟨q144, k143⟩ := h142
              refine jast hx hb hK hP hJ hA hS (jc_83 cI cL ad σ134 τ) (ja_83 cI cL ad σ134 τ _ _) (jin rfl (by omega) (by omega)) dX12_game_110 (fun σ145 H locs eσ145 hP hS => ?_)
              refine lv_iload hx hb dX12_game_111 (lv_at hl 4 rfl) ?_
              refine lv_aload_n hx hb dX12_game_113 rfl (lv_at hl 6 rfl) ?_
              refine va_get (D := D) hx hb hts inlX12 hown hK hP 55 (jc_55 cI cL ad σ145 τ) rfl 52 (by decide) (hts _ kw_8_8) (fun _ h9 => h9) rfl dX12_game_114 ?_
              refine lv_aload_n hx hb dX12_game_117 rfl (lv_at hl 6 rfl) ?_
              refine va_get (D := D) hx hb hts inlX12 hown hK hP 55 (jc_55 cI cL ad σ145 τ) rfl 50 (by decide) (hts _ kw_46_13) (fun _ h9 => h9) rfl dX12_game_118 ?_
              have m146 : σ145 55 50 = (σ54 55 50) := ((congrFun (jnp 55 eσ145 (by decide)) 50).trans m135)
              refine jtopr m146 ?_
              refine jald hx hb hK hP (jc_83 cI cL ad σ145 τ) (jin rfl (by omega) (by omega)) dX12_game_121 ?_
              refine lv_topi (fun x147 ex147 => ?_)
              have g148 := jrg (rfl : x48.toInt = x48.toInt)
              have g149 := jrg (rfl : x147.toInt = x147.toInt)
              refine lv_iadd hx hb dX12_game_122 ?_
              refine lv_topi (fun x150 ex150 => ?_)
              have gx150 := jrg (rfl : x150.toInt = x150.toInt)
              refine lv_istore (lv' := [(4, .int x150), (8, .int r126), (7, .int x119), (6, .int r108), (5, .int x49), (3, .int x47), (0, .ref (ad 55)), (1, .int a1), (2, .int a2)]) hx hb dX12_game_123 hl (by decide) rfl (fun ls hl => ?_)
              refine lv_iload_n hx hb dX12_game_125 rfl (lv_at hl 5 rfl) ?_
              refine lv_ldcw (v := 1103515245) hx hb hown (hts _ kw_46_14) dX12_game_126 ?_
              have g151 := jrg (rfl : x47.toInt = x47.toInt)
              refine lv_imul hx hb dX12_game_129 ?_
              refine lv_topi (fun x152 ex152 => ?_)
              have gx152 := jrg (rfl : x152.toInt = x152.toInt)
              refine lv_sipush (v := 12345) hx hb dX12_game_130 (by decide) ?_
              have g153 := jrg (rfl : x152.toInt = x152.toInt)
              refine lv_iadd hx hb dX12_game_133 ?_
              refine lv_topi (fun x154 ex154 => ?_)
              have gx154 := jrg (rfl : x154.toInt = x154.toInt)
              refine lv_istore_n (lv' := [(3, .int x154), (4, .int x150), (8, .int r126), (7, .int x119), (6, .int r108), (5, .int x49), (0, .ref (ad 55)), (1, .int a1), (2, .int a2)]) hx hb dX12_game_134 rfl hl (by decide) rfl (fun ls hl => ?_)
              refine lv_aload_n hx hb dX12_game_135 rfl (lv_at hl 6 rfl) ?_
              refine va_get (D := D) hx hb hts inlX12 hown hK hP 55 (jc_55 cI cL ad σ145 τ) rfl 53 (by decide) (hts _ kw_8_9) (fun _ h9 => h9) rfl dX12_game_136 ?_
              refine lv_aload_n hx hb dX12_game_139 rfl (lv_at hl 6 rfl) ?_
              refine va_get (D := D) hx hb hts inlX12 hown hK hP 55 (jc_55 cI cL ad σ145 τ) rfl 50 (by decide) (hts _ kw_46_13) (fun _ h9 => h9) rfl dX12_game_140 ?_
              refine jtopr m146 ?_
              refine lv_iload_n hx hb dX12_game_143 rfl (lv_at hl 0 rfl) ?_
              refine lv_bipush (v := 8) hx hb dX12_game_144 (by decide) ?_
              refine lv_iushr hx hb dX12_game_146 rfl ?_
              refine lv_topi (fun x155 ex155 => ?_)
              have gx155 := jrg (rfl : x155.toInt = x155.toInt)
              have g156 : 0 ≤ x155.toInt ∧ x155.toInt ≤ 16777215 := jushr8 ex155
              refine lv_sipush (v := 1000) hx hb dX12_game_147 (by decide) ?_
              refine lv_irem hx hb dX12_game_150 (by decide) ?_
              refine lv_topi (fun x157 ex157 => ?_)
              have tx157 : x157.toInt = (x155.toInt % 1000) := jrem ex157 rfl jz_1000 (by omega)
              refine lv_iload hx hb dX12_game_151 (lv_at hl 2 rfl) ?_
              refine lv_icmp_ge (tgt := 160) hx hb dX12_game_153 (by decide) (fun c158 => ?_) (fun c158 => ?_)
              · have kc158 := jle c158 rfl tx157
                refine lv_iconst (v := 0) hx hb dX12_game_160 (by decide) ?_
                refine jast hx hb hK hP hJ hA hS (jc_84 cI cL ad σ145 τ) (ja_84 cI cL ad σ145 τ _ _) (jin rfl (by omega) (by omega)) dX12_game_161 (fun σ159 H locs eσ159 hP hS => ?_)
                refine lv_aload_n hx hb dX12_game_162 rfl (lv_at hl 6 rfl) ?_
                refine lv_iload hx hb dX12_game_163 (lv_at hl 4 rfl) ?_
                refine lv_aload_n hx hb dX12_game_165 rfl (lv_at hl 6 rfl) ?_
                refine va_get (D := D) hx hb hts inlX12 hown hK hP 55 (jc_55 cI cL ad σ159 τ) rfl 53 (by decide) (hts _ kw_8_9) (fun _ h9 => h9) rfl dX12_game_166 ?_
                refine lv_aload_n hx hb dX12_game_169 rfl (lv_at hl 6 rfl) ?_
                refine va_get (D := D) hx hb hts inlX12 hown hK hP 55 (jc_55 cI cL ad σ159 τ) rfl 50 (by decide) (hts _ kw_46_13) (fun _ h9 => h9) rfl dX12_game_170 ?_
                have m160 : σ159 55 50 = (σ54 55 50) := ((congrFun (jnp 55 eσ159 (by decide)) 50).trans m146)
                refine jtopr m160 ?_
                refine jald hx hb hK hP (jc_84 cI cL ad σ159 τ) (jin rfl (by omega) (by omega)) dX12_game_173 ?_
                refine lv_topi (fun x161 ex161 => ?_)
                refine lv_iconst (v := 1) hx hb dX12_game_174 (by decide) ?_
                refine lv_icmp_ne (tgt := 182) hx hb dX12_game_175 (by decide) (fun c162 => ?_) (fun c162 => ?_)
                · have kc162 := jne c162 rfl jz_1
                  refine lv_iconst (v := 0) hx hb dX12_game_182 (by decide) ?_
                  have w163 : ∀ k : Nat, k < 4 → 0 ≤ (σ159 68 k).toInt ∧ (σ159 68 k).toInt ≤ 3 := (jrr_fr (jnp 68 eσ159 (by decide)) (jrr_fr (jnp 68 eσ145 (by decide)) w139))
                  have z164 : (σ159 55 6).toInt = (σ 55 6).toInt := (congrArg Int32.toInt (show σ159 55 6 = (σ 55 6) from ((congrFun (jnp 55 eσ159 (by decide)) 6).trans ((congrFun (jnp 55 eσ145 (by decide)) 6).trans ((congrFun (jnp 55 eσ134 (by decide)) 6).trans ((f128 6 (by decide)).trans ((f110 6 (by decide)).trans ((f74 6 (by decide)).trans ((jkp 6 eσ44 (by decide)).trans ((f42 6 (by decide)).trans (f25 6 (by decide))))))))))))
                  have z165 : (σ159 55 27).toInt = (σ54 55 27).toInt := (congrArg Int32.toInt (show σ159 55 27 = (σ54 55 27) from ((congrFun (jnp 55 eσ159 (by decide)) 27).trans ((congrFun (jnp 55 eσ145 (by decide)) 27).trans ((congrFun (jnp 55 eσ134 (by decide)) 27).trans ((f128 27 (by decide)).trans (f110 27 (by decide))))))))
                  have z166 : (σ159 55 25).toInt = (σ54 55 25).toInt := (congrArg Int32.toInt (show σ159 55 25 = (σ54 55 25) from ((congrFun (jnp 55 eσ159 (by decide)) 25).trans ((congrFun (jnp 55 eσ145 (by decide)) 25).trans ((congrFun (jnp 55 eσ134 (by decide)) 25).trans ((f128 25 (by decide)).trans m116))))))
                  have z167 : (σ159 55 26).toInt = (σ54 55 26).toInt := (congrArg Int32.toInt (show σ159 55 26 = (σ54 55 26) from ((congrFun (jnp 55 eσ159 (by decide)) 26).trans ((congrFun (jnp 55 eσ145 (by decide)) 26).trans ((congrFun (jnp 55 eσ134 (by decide)) 26).trans ((f128 26 (by decide)).trans (f110 26 (by decide))))))))
                  have z168 : (σ159 68 0).toInt = (σ54 68 0).toInt := (congrArg Int32.toInt (show σ159 68 0 = (σ54 68 0) from ((congrFun (jnp 68 eσ159 (by decide)) 0).trans ((congrFun (jnp 68 eσ145 (by decide)) 0).trans ((congrFun (jnp 68 eσ134 (by decide)) 0).trans ((congrFun (f127 68 (by decide)) 0).trans (congrFun (f109 68 (by decide)) 0)))))))
                  have z169 : (σ159 68 1).toInt = (σ54 68 1).toInt := (congrArg Int32.toInt (show σ159 68 1 = (σ54 68 1) from ((congrFun (jnp 68 eσ159 (by decide)) 1).trans ((congrFun (jnp 68 eσ145 (by decide)) 1).trans ((congrFun (jnp 68 eσ134 (by decide)) 1).trans ((congrFun (f127 68 (by decide)) 1).trans (congrFun (f109 68 (by decide)) 1)))))))
                  have z170 : (σ159 68 2).toInt = (σ54 68 2).toInt := (congrArg Int32.toInt (show σ159 68 2 = (σ54 68 2) from ((congrFun (jnp 68 eσ159 (by decide)) 2).trans ((congrFun (jnp 68 eσ145 (by decide)) 2).trans ((congrFun (jnp 68 eσ134 (by decide)) 2).trans ((congrFun (f127 68 (by decide)) 2).trans (congrFun (f109 68 (by decide)) 2)))))))
                  have z171 : (σ159 68 3).toInt = (σ54 68 3).toInt := (congrArg Int32.toInt (show σ159 68 3 = (σ54 68 3) from ((congrFun (jnp 68 eσ159 (by decide)) 3).trans ((congrFun (jnp 68 eσ145 (by decide)) 3).trans ((congrFun (jnp 68 eσ134 (by decide)) 3).trans ((congrFun (f127 68 (by decide)) 3).trans (congrFun (f109 68 (by decide)) 3)))))))
                  refine jcallV (As := [.int r108, .int 0]) (rest := []) ⟨hx, hb, hml, hown, hts⟩ hK hP hA hS hZ (c_X12_goes_0 l D cI cL ad zz hJ σ159 τ r108 (r108.toInt) rfl w163 (by omega) (by omega) (by omega) (by omega) (by omega)) cw_RX12_296 (jc_55 cI cL ad σ159 τ) rfl ⟨Nat.le_of_ble_eq_true rfl, Nat.le_of_ble_eq_true rfl⟩ rfl rfl rfl hl.1 rfl (Nat.le_of_ble_eq_true rfl) dX12_game_183 ⟨Nat.zero_le _, Nat.zero_le _⟩ (fun r173 σ172 τ172 H locs h172 hP hS => ?_)
                  obtain ⟨rfl, f174, f175, w176, w177, w178, h172⟩ := h172
                  obtain ⟨k180, k181, k182, h172⟩ := h172
                  have h183 := h172
                  obtain ⟨q189, k184, k185, k186, k187, k188⟩ := h183
                  refine lv_istore (lv' := [(9, .int r173), (3, .int x154), (4, .int x150), (8, .int r126), (7, .int x119), (6, .int r108), (5, .int x49), (0, .ref (ad 55)), (1, .int a1), (2, .int a2)]) hx hb dX12_game_186 hl (by decide) rfl (fun ls hl => ?_)
                  refine lv_iload_n hx hb dX12_game_188 rfl (lv_at hl 1 rfl) ?_
                  refine lv_ldcw (v := 1103515245) hx hb hown (hts _ kw_46_14) dX12_game_189 ?_
                  have g190 := jrg (rfl : x154.toInt = x154.toInt)
                  refine lv_imul hx hb dX12_game_192 ?_
                  refine lv_topi (fun x191 ex191 => ?_)
                  have gx191 := jrg (rfl : x191.toInt = x191.toInt)
                  refine lv_sipush (v := 12345) hx hb dX12_game_193 (by decide) ?_
                  have g192 := jrg (rfl : x191.toInt = x191.toInt)
                  refine lv_iadd hx hb dX12_game_196 ?_
                  refine lv_topi (fun x193 ex193 => ?_)
                  have gx193 := jrg (rfl : x193.toInt = x193.toInt)
                  refine lv_istore_n (lv' := [(3, .int x193), (9, .int r173), (4, .int x150), (8, .int r126), (7, .int x119), (6, .int r108), (5, .int x49), (0, .ref (ad 55)), (1, .int a1), (2, .int a2)]) hx hb dX12_game_197 rfl hl (by decide) rfl (fun ls hl => ?_)
                  refine lv_iload_n hx hb dX12_game_198 rfl (lv_at hl 0 rfl) ?_
                  refine lv_bipush (v := 8) hx hb dX12_game_199 (by decide) ?_
                  refine lv_iushr hx hb dX12_game_201 rfl ?_
                  refine lv_topi (fun x194 ex194 => ?_)
                  have gx194 := jrg (rfl : x194.toInt = x194.toInt)
                  have g195 : 0 ≤ x194.toInt ∧ x194.toInt ≤ 16777215 := jushr8 ex194
                  refine lv_sipush (v := 1000) hx hb dX12_game_202 (by decide) ?_
                  refine lv_irem hx hb dX12_game_205 (by decide) ?_
                  refine lv_topi (fun x196 ex196 => ?_)
                  have tx196 : x196.toInt = (x194.toInt % 1000) := jrem ex196 rfl jz_1000 (by omega)
                  refine lv_aload_n hx hb dX12_game_206 rfl (lv_at hl 7 rfl) ?_
                  refine va_get (D := D) hx hb hts inlX12 hown hK hP 55 (jc_55 cI cL ad σ172 τ) rfl 13 (by decide) (hts _ kw_15_14) (fun _ h9 => h9) rfl dX12_game_207 ?_
                  have m197 : σ172 55 13 = (σ 55 13) := ((f175 13 (by decide)).trans ((congrFun (jnp 55 eσ159 (by decide)) 13).trans ((congrFun (jnp 55 eσ145 (by decide)) 13).trans ((congrFun (jnp 55 eσ134 (by decide)) 13).trans ((f128 13 (by decide)).trans ((f110 13 (by decide)).trans ((f74 13 (by decide)).trans ((jkp 13 eσ44 (by decide)).trans ((f42 13 (by decide)).trans (f25 13 (by decide)))))))))))
                  refine jtopr m197 ?_
                  refine lv_icmp_ge (tgt := 217) hx hb dX12_game_210 (by decide) (fun c198 => ?_) (fun c198 => ?_)
                  · have kc198 := jle c198 rfl tx196
                    refine lv_iconst (v := 0) hx hb dX12_game_217 (by decide) ?_
                    refine lv_istore (lv' := [(5, .int 0), (3, .int x193), (9, .int r173), (4, .int x150), (8, .int r126), (7, .int x119), (6, .int r108), (0, .ref (ad 55)), (1, .int a1), (2, .int a2)]) hx hb dX12_game_218 hl (by decide) rfl (fun ls hl => ?_)
                    refine lv_aload_n hx hb dX12_game_220 rfl (lv_at hl 7 rfl) ?_
                    refine lv_dup hx hb dX12_game_221 rfl ?_
                    refine va_get (D := D) hx hb hts inlX12 hown hK hP 55 (jc_55 cI cL ad σ172 τ) rfl 50 (by decide) (hts _ kw_46_13) (fun _ h9 => h9) rfl dX12_game_222 ?_
                    have m199 : σ172 55 50 = (σ54 55 50) := ((f175 50 (by decide)).trans m160)
                    refine jtopr m199 ?_
                    refine lv_iconst (v := 1) hx hb dX12_game_225 (by decide) ?_
                    have g200 := jrg (rfl : (σ54 55 50).toInt = (σ54 55 50).toInt)
                    refine lv_iadd hx hb dX12_game_226 ?_
                    refine lv_topi (fun x201 ex201 => ?_)
                    have tx201 : x201.toInt = (σ54 55 50).toInt + 1 := (jadd ex201 rfl jz_1 (by omega) (by omega)).trans (by omega)
                    refine jput (ty := .int) hx hb hts inlX12 tyX12 tyX12_ok nmX12 hown hK hP hJ hA hS (jc_55 cI cL ad σ172 τ) rfl (k := 50) (by decide) (Nat.le_of_ble_eq_true rfl) (jp_55_50 cI cL ad σ172 τ x201) (hts _ kw_46_13) (fun _ h9 => h9) rfl (by decide +kernel) rfl rfl dX12_game_227 (fun σ202 H locs eσ202 hP hS => ?_)
                    refine lv_goto (tgt := 43) hx hb dX12_game_230 (by decide) ?_
                    have z203 : (σ202 55 12).toInt = (σ 55 12).toInt := (congrArg Int32.toInt (show σ202 55 12 = (σ 55 12) from ((jkp 12 eσ202 (by decide)).trans ((f175 12 (by decide)).trans ((congrFun (jnp 55 eσ159 (by decide)) 12).trans ((congrFun (jnp 55 eσ145 (by decide)) 12).trans ((congrFun (jnp 55 eσ134 (by decide)) 12).trans ((f128 12 (by decide)).trans ((f110 12 (by decide)).trans ((f74 12 (by decide)).trans ((jkp 12 eσ44 (by decide)).trans ((f42 12 (by decide)).trans (f25 12 (by decide))))))))))))))
                    have z204 : (σ202 55 26).toInt = (σ172 55 26).toInt := (congrArg Int32.toInt (show σ202 55 26 = (σ172 55 26) from (jkp 26 eσ202 (by decide))))
                    have z205 : (σ202 55 25).toInt = (σ172 55 25).toInt := (congrArg Int32.toInt (show σ202 55 25 = (σ172 55 25) from (jkp 25 eσ202 (by decide))))
                    have z206 : (σ202 55 10).toInt = (σ 55 10).toInt := (congrArg Int32.toInt (show σ202 55 10 = (σ 55 10) from ((jkp 10 eσ202 (by decide)).trans ((f175 10 (by decide)).trans ((congrFun (jnp 55 eσ159 (by decide)) 10).trans ((congrFun (jnp 55 eσ145 (by decide)) 10).trans ((congrFun (jnp 55 eσ134 (by decide)) 10).trans ((f128 10 (by decide)).trans ((f110 10 (by decide)).trans ((f74 10 (by decide)).trans ((jkp 10 eσ44 (by decide)).trans ((f42 10 (by decide)).trans (f25 10 (by decide))))))))))))))
                    have z207 : (σ202 55 27).toInt = (σ172 55 27).toInt := (congrArg Int32.toInt (show σ202 55 27 = (σ172 55 27) from (jkp 27 eσ202 (by decide))))
                    have z208 : (σ202 55 50).toInt = (σ54 55 50).toInt + 1 := ((congrArg Int32.toInt (show σ202 55 50 = x201 from (jsp eσ202))).trans tx201)
                    have p209 : jKept σ202 := jKept.fr ((jnp 75 eσ202 (by decide)).trans ((f174 75 (by decide)).trans ((jnp 75 eσ159 (by decide)).trans ((jnp 75 eσ145 (by decide)).trans ((jnp 75 eσ134 (by decide)).trans (f127 75 (by decide))))))) ((jnp 76 eσ202 (by decide)).trans ((f174 76 (by decide)).trans ((jnp 76 eσ159 (by decide)).trans ((jnp 76 eσ145 (by decide)).trans ((jnp 76 eσ134 (by decide)).trans (f127 76 (by decide))))))) ((jnp 77 eσ202 (by decide)).trans ((f174 77 (by decide)).trans ((jnp 77 eσ159 (by decide)).trans ((jnp 77 eσ145 (by decide)).trans ((jnp 77 eσ134 (by decide)).trans (f127 77 (by decide))))))) p111
                    have I210 : jI109 σ202 := (show 0 ≤ (σ202 55 50).toInt ∧ (σ202 55 50).toInt ≤ 12 by omega)
                    have w211 : ∀ k : Nat, k < 4 → 0 ≤ (σ202 68 k).toInt ∧ (σ202 68 k).toInt ≤ 3 := (jrr_fr (jnp 68 eσ202 (by decide)) w176)
                    have I212 : jI119 σ202 := w211
                    exact ihlp45 x193 x150 0 σ202 _ _ ls (by have h92 := jz_0; omega) (by have h92 := jz_0; omega) (by have h92 := jz_0; omega) (by have h92 := jz_0; omega) (by have h92 := jz_0; omega) (by have h92 := jz_0; omega) (by have h92 := jz_0; omega) (fun i hi => ((jnp i eσ202 (imp_282 i hi)).trans ((f174 i (imp_284 i hi)).trans ((jnp i eσ159 (imp_289 i hi)).trans ((jnp i eσ145 (imp_290 i hi)).trans ((jnp i eσ134 (imp_291 i hi)).trans ((f127 i (imp_292 i hi)).trans ((f109 i (imp_293 i hi)).trans (f73 i hi))))))))) (fun i hi => ((jkp i eσ202 (imp_294 i hi)).trans ((f175 i (imp_295 i hi)).trans ((congrFun (jnp 55 eσ159 (by decide)) i).trans ((congrFun (jnp 55 eσ145 (by decide)) i).trans ((congrFun (jnp 55 eσ134 (by decide)) i).trans ((f128 i (imp_296 i hi)).trans ((f110 i (imp_297 i hi)).trans (f74 i hi)))))))))  p209 I210 I212 hP hS (lv_sub hl [0, 3, 1, 7, 8, 9] rfl)
                  · have kc198 := jnle c198 rfl tx196
                    refine lv_iconst (v := 1) hx hb dX12_game_213 (by decide) ?_
                    refine lv_goto (tgt := 218) hx hb dX12_game_214 (by decide) ?_
                    refine lv_istore (lv' := [(5, .int 1), (3, .int x193), (9, .int r173), (4, .int x150), (8, .int r126), (7, .int x119), (6, .int r108), (0, .ref (ad 55)), (1, .int a1), (2, .int a2)]) hx hb dX12_game_218 hl (by decide) rfl (fun ls hl => ?_)
                    refine lv_aload_n hx hb dX12_game_220 rfl (lv_at hl 7 rfl) ?_
                    refine lv_dup hx hb dX12_game_221 rfl ?_
                    refine va_get (D := D) hx hb hts inlX12 hown hK hP 55 (jc_55 cI cL ad σ172 τ) rfl 50 (by decide) (hts _ kw_46_13) (fun _ h9 => h9) rfl dX12_game_222 ?_
                    have m213 : σ172 55 50 = (σ54 55 50) := ((f175 50 (by decide)).trans m160)
                    refine jtopr m213 ?_
                    refine lv_iconst (v := 1) hx hb dX12_game_225 (by decide) ?_
                    have g214 := jrg (rfl : (σ54 55 50).toInt = (σ54 55 50).toInt)
                    refine lv_iadd hx hb dX12_game_226 ?_
                    refine lv_topi (fun x215 ex215 => ?_)
                    have tx215 : x215.toInt = (σ54 55 50).toInt + 1 := (jadd ex215 rfl jz_1 (by omega) (by omega)).trans (by omega)
                    refine jput (ty := .int) hx hb hts inlX12 tyX12 tyX12_ok nmX12 hown hK hP hJ hA hS (jc_55 cI cL ad σ172 τ) rfl (k := 50) (by decide) (Nat.le_of_ble_eq_true rfl) (jp_55_50 cI cL ad σ172 τ x215) (hts _ kw_46_13) (fun _ h9 => h9) rfl (by decide +kernel) rfl rfl dX12_game_227 (fun σ216 H locs eσ216 hP hS => ?_)
                    refine lv_goto (tgt := 43) hx hb dX12_game_230 (by decide) ?_
                    have z217 : (σ216 55 12).toInt = (σ 55 12).toInt := (congrArg Int32.toInt (show σ216 55 12 = (σ 55 12) from ((jkp 12 eσ216 (by decide)).trans ((f175 12 (by decide)).trans ((congrFun (jnp 55 eσ159 (by decide)) 12).trans ((congrFun (jnp 55 eσ145 (by decide)) 12).trans ((congrFun (jnp 55 eσ134 (by decide)) 12).trans ((f128 12 (by decide)).trans ((f110 12 (by decide)).trans ((f74 12 (by decide)).trans ((jkp 12 eσ44 (by decide)).trans ((f42 12 (by decide)).trans (f25 12 (by decide))))))))))))))
                    have z218 : (σ216 55 26).toInt = (σ172 55 26).toInt := (congrArg Int32.toInt (show σ216 55 26 = (σ172 55 26) from (jkp 26 eσ216 (by decide))))
                    have z219 : (σ216 55 25).toInt = (σ172 55 25).toInt := (congrArg Int32.toInt (show σ216 55 25 = (σ172 55 25) from (jkp 25 eσ216 (by decide))))
                    have z220 : (σ216 55 10).toInt = (σ 55 10).toInt := (congrArg Int32.toInt (show σ216 55 10 = (σ 55 10) from ((jkp 10 eσ216 (by decide)).trans ((f175 10 (by decide)).trans ((congrFun (jnp 55 eσ159 (by decide)) 10).trans ((congrFun (jnp 55 eσ145 (by decide)) 10).trans ((congrFun (jnp 55 eσ134 (by decide)) 10).trans ((f128 10 (by decide)).trans ((f110 10 (by decide)).trans ((f74 10 (by decide)).trans ((jkp 10 eσ44 (by decide)).trans ((f42 10 (by decide)).trans (f25 10 (by decide))))))))))))))
                    have z221 : (σ216 55 27).toInt = (σ172 55 27).toInt := (congrArg Int32.toInt (show σ216 55 27 = (σ172 55 27) from (jkp 27 eσ216 (by decide))))
                    have z222 : (σ216 55 50).toInt = (σ54 55 50).toInt + 1 := ((congrArg Int32.toInt (show σ216 55 50 = x215 from (jsp eσ216))).trans tx215)
                    have p223 : jKept σ216 := jKept.fr ((jnp 75 eσ216 (by decide)).trans ((f174 75 (by decide)).trans ((jnp 75 eσ159 (by decide)).trans ((jnp 75 eσ145 (by decide)).trans ((jnp 75 eσ134 (by decide)).trans (f127 75 (by decide))))))) ((jnp 76 eσ216 (by decide)).trans ((f174 76 (by decide)).trans ((jnp 76 eσ159 (by decide)).trans ((jnp 76 eσ145 (by decide)).trans ((jnp 76 eσ134 (by decide)).trans (f127 76 (by decide))))))) ((jnp 77 eσ216 (by decide)).trans ((f174 77 (by decide)).trans ((jnp 77 eσ159 (by decide)).trans ((jnp 77 eσ145 (by decide)).trans ((jnp 77 eσ134 (by decide)).trans (f127 77 (by decide))))))) p111
                    have I224 : jI109 σ216 := (show 0 ≤ (σ216 55 50).toInt ∧ (σ216 55 50).toInt ≤ 12 by omega)
                    have w225 : ∀ k : Nat, k < 4 → 0 ≤ (σ216 68 k).toInt ∧ (σ216 68 k).toInt ≤ 3 := (jrr_fr (jnp 68 eσ216 (by decide)) w176)
                    have I226 : jI119 σ216 := w225
                    exact ihlp45 x193 x150 1 σ216 _ _ ls (by have h92 := jz_1; omega) (by have h92 := jz_1; omega) (by have h92 := jz_1; omega) (by have h92 := jz_1; omega) (by have h92 := jz_1; omega) (by have h92 := jz_1; omega) (by have h92 := jz_1; omega) (fun i hi => ((jnp i eσ216 (imp_282 i hi)).trans ((f174 i (imp_284 i hi)).trans ((jnp i eσ159 (imp_289 i hi)).trans ((jnp i eσ145 (imp_290 i hi)).trans ((jnp i eσ134 (imp_291 i hi)).trans ((f127 i (imp_292 i hi)).trans ((f109 i (imp_293 i hi)).trans (f73 i hi))))))))) (fun i hi => ((jkp i eσ216 (imp_294 i hi)).trans ((f175 i (imp_295 i hi)).trans ((congrFun (jnp 55 eσ159 (by decide)) i).trans ((congrFun (jnp 55 eσ145 (by decide)) i).trans ((congrFun (jnp 55 eσ134 (by decide)) i).trans ((f128 i (imp_296 i hi)).trans ((f110 i (imp_297 i hi)).trans (f74 i hi)))))))))  p223 I224 I226 hP hS (lv_sub hl [0, 3, 1, 7, 8, 9] rfl)
                · have kc162 := jeq c162 rfl jz_1
                  refine lv_iconst (v := 1) hx hb dX12_game_178 (by decide) ?_
                  refine lv_goto (tgt := 183) hx hb dX12_game_179 (by decide) ?_
                  have w227 : ∀ k : Nat, k < 4 → 0 ≤ (σ159 68 k).toInt ∧ (σ159 68 k).toInt ≤ 3 := (jrr_fr (jnp 68 eσ159 (by decide)) (jrr_fr (jnp 68 eσ145 (by decide)) w139))
                  have z228 : (σ159 55 6).toInt = (σ 55 6).toInt := (congrArg Int32.toInt (show σ159 55 6 = (σ 55 6) from ((congrFun (jnp 55 eσ159 (by decide)) 6).trans ((congrFun (jnp 55 eσ145 (by decide)) 6).trans ((congrFun (jnp 55 eσ134 (by decide)) 6).trans ((f128 6 (by decide)).trans ((f110 6 (by decide)).trans ((f74 6 (by decide)).trans ((jkp 6 eσ44 (by decide)).trans ((f42 6 (by decide)).trans (f25 6 (by decide))))))))))))
                  have z229 : (σ159 55 27).toInt = (σ54 55 27).toInt := (congrArg Int32.toInt (show σ159 55 27 = (σ54 55 27) from ((congrFun (jnp 55 eσ159 (by decide)) 27).trans ((congrFun (jnp 55 eσ145 (by decide)) 27).trans ((congrFun (jnp 55 eσ134 (by decide)) 27).trans ((f128 27 (by decide)).trans (f110 27 (by decide))))))))
                  have z230 : (σ159 55 25).toInt = (σ54 55 25).toInt := (congrArg Int32.toInt (show σ159 55 25 = (σ54 55 25) from ((congrFun (jnp 55 eσ159 (by decide)) 25).trans ((congrFun (jnp 55 eσ145 (by decide)) 25).trans ((congrFun (jnp 55 eσ134 (by decide)) 25).trans ((f128 25 (by decide)).trans m116))))))
                  have z231 : (σ159 55 26).toInt = (σ54 55 26).toInt := (congrArg Int32.toInt (show σ159 55 26 = (σ54 55 26) from ((congrFun (jnp 55 eσ159 (by decide)) 26).trans ((congrFun (jnp 55 eσ145 (by decide)) 26).trans ((congrFun (jnp 55 eσ134 (by decide)) 26).trans ((f128 26 (by decide)).trans (f110 26 (by decide))))))))
                  have z232 : (σ159 68 0).toInt = (σ54 68 0).toInt := (congrArg Int32.toInt (show σ159 68 0 = (σ54 68 0) from ((congrFun (jnp 68 eσ159 (by decide)) 0).trans ((congrFun (jnp 68 eσ145 (by decide)) 0).trans ((congrFun (jnp 68 eσ134 (by decide)) 0).trans ((congrFun (f127 68 (by decide)) 0).trans (congrFun (f109 68 (by decide)) 0)))))))
                  have z233 : (σ159 68 1).toInt = (σ54 68 1).toInt := (congrArg Int32.toInt (show σ159 68 1 = (σ54 68 1) from ((congrFun (jnp 68 eσ159 (by decide)) 1).trans ((congrFun (jnp 68 eσ145 (by decide)) 1).trans ((congrFun (jnp 68 eσ134 (by decide)) 1).trans ((congrFun (f127 68 (by decide)) 1).trans (congrFun (f109 68 (by decide)) 1)))))))
                  have z234 : (σ159 68 2).toInt = (σ54 68 2).toInt := (congrArg Int32.toInt (show σ159 68 2 = (σ54 68 2) from ((congrFun (jnp 68 eσ159 (by decide)) 2).trans ((congrFun (jnp 68 eσ145 (by decide)) 2).trans ((congrFun (jnp 68 eσ134 (by decide)) 2).trans ((congrFun (f127 68 (by decide)) 2).trans (congrFun (f109 68 (by decide)) 2)))))))
                  have z235 : (σ159 68 3).toInt = (σ54 68 3).toInt := (congrArg Int32.toInt (show σ159 68 3 = (σ54 68 3) from ((congrFun (jnp 68 eσ159 (by decide)) 3).trans ((congrFun (jnp 68 eσ145 (by decide)) 3).trans ((congrFun (jnp 68 eσ134 (by decide)) 3).trans ((congrFun (f127 68 (by decide)) 3).trans (congrFun (f109 68 (by decide)) 3)))))))
                  refine jcallV (As := [.int r108, .int 1]) (rest := []) ⟨hx, hb, hml, hown, hts⟩ hK hP hA hS hZ (c_X12_goes_1 l D cI cL ad zz hJ σ159 τ r108 (r108.toInt) rfl w227 (by omega) (by omega) (by omega) (by omega) (by omega)) cw_RX12_296 (jc_55 cI cL ad σ159 τ) rfl ⟨Nat.le_of_ble_eq_true rfl, Nat.le_of_ble_eq_true rfl⟩ rfl rfl rfl hl.1 rfl (Nat.le_of_ble_eq_true rfl) dX12_game_183 ⟨Nat.zero_le _, Nat.zero_le _⟩ (fun r237 σ236 τ236 H locs h236 hP hS => ?_)
                  obtain ⟨rfl, f238, f239, w240, w241, w242, h236⟩ := h236
                  obtain ⟨k244, k245, k246, h236⟩ := h236
                  have h247 := h236
                  obtain ⟨q253, k248, k249, k250, k251, k252⟩ := h247
                  refine lv_istore (lv' := [(9, .int r237), (3, .int x154), (4, .int x150), (8, .int r126), (7, .int x119), (6, .int r108), (5, .int x49), (0, .ref (ad 55)), (1, .int a1), (2, .int a2)]) hx hb dX12_game_186 hl (by decide) rfl (fun ls hl => ?_)
                  refine lv_iload_n hx hb dX12_game_188 rfl (lv_at hl 1 rfl) ?_
                  refine lv_ldcw (v := 1103515245) hx hb hown (hts _ kw_46_14) dX12_game_189 ?_
                  have g254 := jrg (rfl : x154.toInt = x154.toInt)
                  refine lv_imul hx hb dX12_game_192 ?_
                  refine lv_topi (fun x255 ex255 => ?_)
                  have gx255 := jrg (rfl : x255.toInt = x255.toInt)
                  refine lv_sipush (v := 12345) hx hb dX12_game_193 (by decide) ?_
                  have g256 := jrg (rfl : x255.toInt = x255.toInt)
                  refine lv_iadd hx hb dX12_game_196 ?_
                  refine lv_topi (fun x257 ex257 => ?_)
                  have gx257 := jrg (rfl : x257.toInt = x257.toInt)
                  refine lv_istore_n (lv' := [(3, .int x257), (9, .int r237), (4, .int x150), (8, .int r126), (7, .int x119), (6, .int r108), (5, .int x49), (0, .ref (ad 55)), (1, .int a1), (2, .int a2)]) hx hb dX12_game_197 rfl hl (by decide) rfl (fun ls hl => ?_)
                  refine lv_iload_n hx hb dX12_game_198 rfl (lv_at hl 0 rfl) ?_
                  refine lv_bipush (v := 8) hx hb dX12_game_199 (by decide) ?_
                  refine lv_iushr hx hb dX12_game_201 rfl ?_
                  refine lv_topi (fun x258 ex258 => ?_)
                  have gx258 := jrg (rfl : x258.toInt = x258.toInt)
                  have g259 : 0 ≤ x258.toInt ∧ x258.toInt ≤ 16777215 := jushr8 ex258
                  refine lv_sipush (v := 1000) hx hb dX12_game_202 (by decide) ?_
                  refine lv_irem hx hb dX12_game_205 (by decide) ?_
                  refine lv_topi (fun x260 ex260 => ?_)
                  have tx260 : x260.toInt = (x258.toInt % 1000) := jrem ex260 rfl jz_1000 (by omega)
                  refine lv_aload_n hx hb dX12_game_206 rfl (lv_at hl 7 rfl) ?_
                  refine va_get (D := D) hx hb hts inlX12 hown hK hP 55 (jc_55 cI cL ad σ236 τ) rfl 13 (by decide) (hts _ kw_15_14) (fun _ h9 => h9) rfl dX12_game_207 ?_
                  have m261 : σ236 55 13 = (σ 55 13) := ((f239 13 (by decide)).trans ((congrFun (jnp 55 eσ159 (by decide)) 13).trans ((congrFun (jnp 55 eσ145 (by decide)) 13).trans ((congrFun (jnp 55 eσ134 (by decide)) 13).trans ((f128 13 (by decide)).trans ((f110 13 (by decide)).trans ((f74 13 (by decide)).trans ((jkp 13 eσ44 (by decide)).trans ((f42 13 (by decide)).trans (f25 13 (by decide)))))))))))
                  refine jtopr m261 ?_
                  refine lv_icmp_ge (tgt := 217) hx hb dX12_game_210 (by decide) (fun c262 => ?_) (fun c262 => ?_)
                  · have kc262 := jle c262 rfl tx260
                    refine lv_iconst (v := 0) hx hb dX12_game_217 (by decide) ?_
                    refine lv_istore (lv' := [(5, .int 0), (3, .int x257), (9, .int r237), (4, .int x150), (8, .int r126), (7, .int x119), (6, .int r108), (0, .ref (ad 55)), (1, .int a1), (2, .int a2)]) hx hb dX12_game_218 hl (by decide) rfl (fun ls hl => ?_)
                    refine lv_aload_n hx hb dX12_game_220 rfl (lv_at hl 7 rfl) ?_
                    refine lv_dup hx hb dX12_game_221 rfl ?_
                    refine va_get (D := D) hx hb hts inlX12 hown hK hP 55 (jc_55 cI cL ad σ236 τ) rfl 50 (by decide) (hts _ kw_46_13) (fun _ h9 => h9) rfl dX12_game_222 ?_
                    have m263 : σ236 55 50 = (σ54 55 50) := ((f239 50 (by decide)).trans m160)
                    refine jtopr m263 ?_
                    refine lv_iconst (v := 1) hx hb dX12_game_225 (by decide) ?_
                    have g264 := jrg (rfl : (σ54 55 50).toInt = (σ54 55 50).toInt)
                    refine lv_iadd hx hb dX12_game_226 ?_
                    refine lv_topi (fun x265 ex265 => ?_)
                    have tx265 : x265.toInt = (σ54 55 50).toInt + 1 := (jadd ex265 rfl jz_1 (by omega) (by omega)).trans (by omega)
                    refine jput (ty := .int) hx hb hts inlX12 tyX12 tyX12_ok nmX12 hown hK hP hJ hA hS (jc_55 cI cL ad σ236 τ) rfl (k := 50) (by decide) (Nat.le_of_ble_eq_true rfl) (jp_55_50 cI cL ad σ236 τ x265) (hts _ kw_46_13) (fun _ h9 => h9) rfl (by decide +kernel) rfl rfl dX12_game_227 (fun σ266 H locs eσ266 hP hS => ?_)
                    refine lv_goto (tgt := 43) hx hb dX12_game_230 (by decide) ?_
                    have z267 : (σ266 55 12).toInt = (σ 55 12).toInt := (congrArg Int32.toInt (show σ266 55 12 = (σ 55 12) from ((jkp 12 eσ266 (by decide)).trans ((f239 12 (by decide)).trans ((congrFun (jnp 55 eσ159 (by decide)) 12).trans ((congrFun (jnp 55 eσ145 (by decide)) 12).trans ((congrFun (jnp 55 eσ134 (by decide)) 12).trans ((f128 12 (by decide)).trans ((f110 12 (by decide)).trans ((f74 12 (by decide)).trans ((jkp 12 eσ44 (by decide)).trans ((f42 12 (by decide)).trans (f25 12 (by decide))))))))))))))
                    have z268 : (σ266 55 26).toInt = (σ236 55 26).toInt := (congrArg Int32.toInt (show σ266 55 26 = (σ236 55 26) from (jkp 26 eσ266 (by decide))))
                    have z269 : (σ266 55 25).toInt = (σ236 55 25).toInt := (congrArg Int32.toInt (show σ266 55 25 = (σ236 55 25) from (jkp 25 eσ266 (by decide))))
                    have z270 : (σ266 55 10).toInt = (σ 55 10).toInt := (congrArg Int32.toInt (show σ266 55 10 = (σ 55 10) from ((jkp 10 eσ266 (by decide)).trans ((f239 10 (by decide)).trans ((congrFun (jnp 55 eσ159 (by decide)) 10).trans ((congrFun (jnp 55 eσ145 (by decide)) 10).trans ((congrFun (jnp 55 eσ134 (by decide)) 10).trans ((f128 10 (by decide)).trans ((f110 10 (by decide)).trans ((f74 10 (by decide)).trans ((jkp 10 eσ44 (by decide)).trans ((f42 10 (by decide)).trans (f25 10 (by decide))))))))))))))
                    have z271 : (σ266 55 27).toInt = (σ236 55 27).toInt := (congrArg Int32.toInt (show σ266 55 27 = (σ236 55 27) from (jkp 27 eσ266 (by decide))))
                    have z272 : (σ266 55 50).toInt = (σ54 55 50).toInt + 1 := ((congrArg Int32.toInt (show σ266 55 50 = x265 from (jsp eσ266))).trans tx265)
                    have p273 : jKept σ266 := jKept.fr ((jnp 75 eσ266 (by decide)).trans ((f238 75 (by decide)).trans ((jnp 75 eσ159 (by decide)).trans ((jnp 75 eσ145 (by decide)).trans ((jnp 75 eσ134 (by decide)).trans (f127 75 (by decide))))))) ((jnp 76 eσ266 (by decide)).trans ((f238 76 (by decide)).trans ((jnp 76 eσ159 (by decide)).trans ((jnp 76 eσ145 (by decide)).trans ((jnp 76 eσ134 (by decide)).trans (f127 76 (by decide))))))) ((jnp 77 eσ266 (by decide)).trans ((f238 77 (by decide)).trans ((jnp 77 eσ159 (by decide)).trans ((jnp 77 eσ145 (by decide)).trans ((jnp 77 eσ134 (by decide)).trans (f127 77 (by decide))))))) p111
                    have I274 : jI109 σ266 := (show 0 ≤ (σ266 55 50).toInt ∧ (σ266 55 50).toInt ≤ 12 by omega)
                    have w275 : ∀ k : Nat, k < 4 → 0 ≤ (σ266 68 k).toInt ∧ (σ266 68 k).toInt ≤ 3 := (jrr_fr (jnp 68 eσ266 (by decide)) w240)
                    have I276 : jI119 σ266 := w275
                    exact ihlp45 x257 x150 0 σ266 _ _ ls (by have h92 := jz_0; omega) (by have h92 := jz_0; omega) (by have h92 := jz_0; omega) (by have h92 := jz_0; omega) (by have h92 := jz_0; omega) (by have h92 := jz_0; omega) (by have h92 := jz_0; omega) (fun i hi => ((jnp i eσ266 (imp_282 i hi)).trans ((f238 i (imp_284 i hi)).trans ((jnp i eσ159 (imp_289 i hi)).trans ((jnp i eσ145 (imp_290 i hi)).trans ((jnp i eσ134 (imp_291 i hi)).trans ((f127 i (imp_292 i hi)).trans ((f109 i (imp_293 i hi)).trans (f73 i hi))))))))) (fun i hi => ((jkp i eσ266 (imp_294 i hi)).trans ((f239 i (imp_295 i hi)).trans ((congrFun (jnp 55 eσ159 (by decide)) i).trans ((congrFun (jnp 55 eσ145 (by decide)) i).trans ((congrFun (jnp 55 eσ134 (by decide)) i).trans ((f128 i (imp_296 i hi)).trans ((f110 i (imp_297 i hi)).trans (f74 i hi)))))))))  p273 I274 I276 hP hS (lv_sub hl [0, 3, 1, 7, 8, 9] rfl)
                  · have kc262 := jnle c262 rfl tx260
                    refine lv_iconst (v := 1) hx hb dX12_game_213 (by decide) ?_
                    refine lv_goto (tgt := 218) hx hb dX12_game_214 (by decide) ?_
                    refine lv_istore (lv' := [(5, .int 1), (3, .int x257), (9, .int r237), (4, .int x150), (8, .int r126), (7, .int x119), (6, .int r108), (0, .ref (ad 55)), (1, .int a1), (2, .int a2)]) hx hb dX12_game_218 hl (by decide) rfl (fun ls hl => ?_)
                    refine lv_aload_n hx hb dX12_game_220 rfl (lv_at hl 7 rfl) ?_
                    refine lv_dup hx hb dX12_game_221 rfl ?_
                    refine va_get (D := D) hx hb hts inlX12 hown hK hP 55 (jc_55 cI cL ad σ236 τ) rfl 50 (by decide) (hts _ kw_46_13) (fun _ h9 => h9) rfl dX12_game_222 ?_
                    have m277 : σ236 55 50 = (σ54 55 50) := ((f239 50 (by decide)).trans m160)
                    refine jtopr m277 ?_
                    refine lv_iconst (v := 1) hx hb dX12_game_225 (by decide) ?_
                    have g278 := jrg (rfl : (σ54 55 50).toInt = (σ54 55 50).toInt)
                    refine lv_iadd hx hb dX12_game_226 ?_
                    refine lv_topi (fun x279 ex279 => ?_)
                    have tx279 : x279.toInt = (σ54 55 50).toInt + 1 := (jadd ex279 rfl jz_1 (by omega) (by omega)).trans (by omega)
                    refine jput (ty := .int) hx hb hts inlX12 tyX12 tyX12_ok nmX12 hown hK hP hJ hA hS (jc_55 cI cL ad σ236 τ) rfl (k := 50) (by decide) (Nat.le_of_ble_eq_true rfl) (jp_55_50 cI cL ad σ236 τ x279) (hts _ kw_46_13) (fun _ h9 => h9) rfl (by decide +kernel) rfl rfl dX12_game_227 (fun σ280 H locs eσ280 hP hS => ?_)
                    refine lv_goto (tgt := 43) hx hb dX12_game_230 (by decide) ?_
                    have z281 : (σ280 55 12).toInt = (σ 55 12).toInt := (congrArg Int32.toInt (show σ280 55 12 = (σ 55 12) from ((jkp 12 eσ280 (by decide)).trans ((f239 12 (by decide)).trans ((congrFun (jnp 55 eσ159 (by decide)) 12).trans ((congrFun (jnp 55 eσ145 (by decide)) 12).trans ((congrFun (jnp 55 eσ134 (by decide)) 12).trans ((f128 12 (by decide)).trans ((f110 12 (by decide)).trans ((f74 12 (by decide)).trans ((jkp 12 eσ44 (by decide)).trans ((f42 12 (by decide)).trans (f25 12 (by decide))))))))))))))
                    have z282 : (σ280 55 26).toInt = (σ236 55 26).toInt := (congrArg Int32.toInt (show σ280 55 26 = (σ236 55 26) from (jkp 26 eσ280 (by decide))))
                    have z283 : (σ280 55 25).toInt = (σ236 55 25).toInt := (congrArg Int32.toInt (show σ280 55 25 = (σ236 55 25) from (jkp 25 eσ280 (by decide))))
                    have z284 : (σ280 55 10).toInt = (σ 55 10).toInt := (congrArg Int32.toInt (show σ280 55 10 = (σ 55 10) from ((jkp 10 eσ280 (by decide)).trans ((f239 10 (by decide)).trans ((congrFun (jnp 55 eσ159 (by decide)) 10).trans ((congrFun (jnp 55 eσ145 (by decide)) 10).trans ((congrFun (jnp 55 eσ134 (by decide)) 10).trans ((f128 10 (by decide)).trans ((f110 10 (by decide)).trans ((f74 10 (by decide)).trans ((jkp 10 eσ44 (by decide)).trans ((f42 10 (by decide)).trans (f25 10 (by decide))))))))))))))
                    have z285 : (σ280 55 27).toInt = (σ236 55 27).toInt := (congrArg Int32.toInt (show σ280 55 27 = (σ236 55 27) from (jkp 27 eσ280 (by decide))))
                    have z286 : (σ280 55 50).toInt = (σ54 55 50).toInt + 1 := ((congrArg Int32.toInt (show σ280 55 50 = x279 from (jsp eσ280))).trans tx279)
                    have p287 : jKept σ280 := jKept.fr ((jnp 75 eσ280 (by decide)).trans ((f238 75 (by decide)).trans ((jnp 75 eσ159 (by decide)).trans ((jnp 75 eσ145 (by decide)).trans ((jnp 75 eσ134 (by decide)).trans (f127 75 (by decide))))))) ((jnp 76 eσ280 (by decide)).trans ((f238 76 (by decide)).trans ((jnp 76 eσ159 (by decide)).trans ((jnp 76 eσ145 (by decide)).trans ((jnp 76 eσ134 (by decide)).trans (f127 76 (by decide))))))) ((jnp 77 eσ280 (by decide)).trans ((f238 77 (by decide)).trans ((jnp 77 eσ159 (by decide)).trans ((jnp 77 eσ145 (by decide)).trans ((jnp 77 eσ134 (by decide)).trans (f127 77 (by decide))))))) p111
                    have I288 : jI109 σ280 := (show 0 ≤ (σ280 55 50).toInt ∧ (σ280 55 50).toInt ≤ 12 by omega)
                    have w289 : ∀ k : Nat, k < 4 → 0 ≤ (σ280 68 k).toInt ∧ (σ280 68 k).toInt ≤ 3 := (jrr_fr (jnp 68 eσ280 (by decide)) w240)
                    have I290 : jI119 σ280 := w289
                    exact ihlp45 x257 x150 1 σ280 _ _ ls (by have h92 := jz_1; omega) (by have h92 := jz_1; omega) (by have h92 := jz_1; omega) (by have h92 := jz_1; omega) (by have h92 := jz_1; omega) (by have h92 := jz_1; omega) (by have h92 := jz_1; omega) (fun i hi => ((jnp i eσ280 (imp_282 i hi)).trans ((f238 i (imp_284 i hi)).trans ((jnp i eσ159 (imp_289 i hi)).trans ((jnp i eσ145 (imp_290 i hi)).trans ((jnp i eσ134 (imp_291 i hi)).trans ((f127 i (imp_292 i hi)).trans ((f109 i (imp_293 i hi)).trans (f73 i hi))))))))) (fun i hi => ((jkp i eσ280 (imp_294 i hi)).trans ((f239 i (imp_295 i hi)).trans ((congrFun (jnp 55 eσ159 (by decide)) i).trans ((congrFun (jnp 55 eσ145 (by decide)) i).trans ((congrFun (jnp 55 eσ134 (by decide)) i).trans ((f128 i (imp_296 i hi)).trans ((f110 i (imp_297 i hi)).trans (f74 i hi)))))))))  p287 I288 I290 hP hS (lv_sub hl [0, 3, 1, 7, 8, 9] rfl)
              · have kc158 := jnle c158 rfl tx157
                refine lv_iconst (v := 1) hx hb dX12_game_156 (by decide) ?_
                refine lv_goto (tgt := 161) hx hb dX12_game_157 (by decide) ?_
                refine jast hx hb hK hP hJ hA hS (jc_84 cI cL ad σ145 τ) (ja_84 cI cL ad σ145 τ _ _) (jin rfl (by omega) (by omega)) dX12_game_161 (fun σ291 H locs eσ291 hP hS => ?_)
                refine lv_aload_n hx hb dX12_game_162 rfl (lv_at hl 6 rfl) ?_
                refine lv_iload hx hb dX12_game_163 (lv_at hl 4 rfl) ?_
                refine lv_aload_n hx hb dX12_game_165 rfl (lv_at hl 6 rfl) ?_
                refine va_get (D := D) hx hb hts inlX12 hown hK hP 55 (jc_55 cI cL ad σ291 τ) rfl 53 (by decide) (hts _ kw_8_9) (fun _ h9 => h9) rfl dX12_game_166 ?_
                refine lv_aload_n hx hb dX12_game_169 rfl (lv_at hl 6 rfl) ?_
                refine va_get (D := D) hx hb hts inlX12 hown hK hP 55 (jc_55 cI cL ad σ291 τ) rfl 50 (by decide) (hts _ kw_46_13) (fun _ h9 => h9) rfl dX12_game_170 ?_
                have m292 : σ291 55 50 = (σ54 55 50) := ((congrFun (jnp 55 eσ291 (by decide)) 50).trans m146)
                refine jtopr m292 ?_
                refine jald hx hb hK hP (jc_84 cI cL ad σ291 τ) (jin rfl (by omega) (by omega)) dX12_game_173 ?_
                refine lv_topi (fun x293 ex293 => ?_)
                refine lv_iconst (v := 1) hx hb dX12_game_174 (by decide) ?_
                refine lv_icmp_ne (tgt := 182) hx hb dX12_game_175 (by decide) (fun c294 => ?_) (fun c294 => ?_)
                · have kc294 := jne c294 rfl jz_1
                  refine lv_iconst (v := 0) hx hb dX12_game_182 (by decide) ?_
                  have w295 : ∀ k : Nat, k < 4 → 0 ≤ (σ291 68 k).toInt ∧ (σ291 68 k).toInt ≤ 3 := (jrr_fr (jnp 68 eσ291 (by decide)) (jrr_fr (jnp 68 eσ145 (by decide)) w139))
                  have z296 : (σ291 55 6).toInt = (σ 55 6).toInt := (congrArg Int32.toInt (show σ291 55 6 = (σ 55 6) from ((congrFun (jnp 55 eσ291 (by decide)) 6).trans ((congrFun (jnp 55 eσ145 (by decide)) 6).trans ((congrFun (jnp 55 eσ134 (by decide)) 6).trans ((f128 6 (by decide)).trans ((f110 6 (by decide)).trans ((f74 6 (by decide)).trans ((jkp 6 eσ44 (by decide)).trans ((f42 6 (by decide)).trans (f25 6 (by decide))))))))))))
                  have z297 : (σ291 55 27).toInt = (σ54 55 27).toInt := (congrArg Int32.toInt (show σ291 55 27 = (σ54 55 27) from ((congrFun (jnp 55 eσ291 (by decide)) 27).trans ((congrFun (jnp 55 eσ145 (by decide)) 27).trans ((congrFun (jnp 55 eσ134 (by decide)) 27).trans ((f128 27 (by decide)).trans (f110 27 (by decide))))))))
                  have z298 : (σ291 55 25).toInt = (σ54 55 25).toInt := (congrArg Int32.toInt (show σ291 55 25 = (σ54 55 25) from ((congrFun (jnp 55 eσ291 (by decide)) 25).trans ((congrFun (jnp 55 eσ145 (by decide)) 25).trans ((congrFun (jnp 55 eσ134 (by decide)) 25).trans ((f128 25 (by decide)).trans m116))))))
                  have z299 : (σ291 55 26).toInt = (σ54 55 26).toInt := (congrArg Int32.toInt (show σ291 55 26 = (σ54 55 26) from ((congrFun (jnp 55 eσ291 (by decide)) 26).trans ((congrFun (jnp 55 eσ145 (by decide)) 26).trans ((congrFun (jnp 55 eσ134 (by decide)) 26).trans ((f128 26 (by decide)).trans (f110 26 (by decide))))))))
                  have z300 : (σ291 68 0).toInt = (σ54 68 0).toInt := (congrArg Int32.toInt (show σ291 68 0 = (σ54 68 0) from ((congrFun (jnp 68 eσ291 (by decide)) 0).trans ((congrFun (jnp 68 eσ145 (by decide)) 0).trans ((congrFun (jnp 68 eσ134 (by decide)) 0).trans ((congrFun (f127 68 (by decide)) 0).trans (congrFun (f109 68 (by decide)) 0)))))))
                  have z301 : (σ291 68 1).toInt = (σ54 68 1).toInt := (congrArg Int32.toInt (show σ291 68 1 = (σ54 68 1) from ((congrFun (jnp 68 eσ291 (by decide)) 1).trans ((congrFun (jnp 68 eσ145 (by decide)) 1).trans ((congrFun (jnp 68 eσ134 (by decide)) 1).trans ((congrFun (f127 68 (by decide)) 1).trans (congrFun (f109 68 (by decide)) 1)))))))
                  have z302 : (σ291 68 2).toInt = (σ54 68 2).toInt := (congrArg Int32.toInt (show σ291 68 2 = (σ54 68 2) from ((congrFun (jnp 68 eσ291 (by decide)) 2).trans ((congrFun (jnp 68 eσ145 (by decide)) 2).trans ((congrFun (jnp 68 eσ134 (by decide)) 2).trans ((congrFun (f127 68 (by decide)) 2).trans (congrFun (f109 68 (by decide)) 2)))))))
                  have z303 : (σ291 68 3).toInt = (σ54 68 3).toInt := (congrArg Int32.toInt (show σ291 68 3 = (σ54 68 3) from ((congrFun (jnp 68 eσ291 (by decide)) 3).trans ((congrFun (jnp 68 eσ145 (by decide)) 3).trans ((congrFun (jnp 68 eσ134 (by decide)) 3).trans ((congrFun (f127 68 (by decide)) 3).trans (congrFun (f109 68 (by decide)) 3)))))))
                  refine jcallV (As := [.int r108, .int 0]) (rest := []) ⟨hx, hb, hml, hown, hts⟩ hK hP hA hS hZ (c_X12_goes_0 l D cI cL ad zz hJ σ291 τ r108 (r108.toInt) rfl w295 (by omega) (by omega) (by omega) (by omega) (by omega)) cw_RX12_296 (jc_55 cI cL ad σ291 τ) rfl ⟨Nat.le_of_ble_eq_true rfl, Nat.le_of_ble_eq_true rfl⟩ rfl rfl rfl hl.1 rfl (Nat.le_of_ble_eq_true rfl) dX12_game_183 ⟨Nat.zero_le _, Nat.zero_le _⟩ (fun r305 σ304 τ304 H locs h304 hP hS => ?_)
                  obtain ⟨rfl, f306, f307, w308, w309, w310, h304⟩ := h304
                  obtain ⟨k312, k313, k314, h304⟩ := h304
                  have h315 := h304
                  obtain ⟨q321, k316, k317, k318, k319, k320⟩ := h315
                  refine lv_istore (lv' := [(9, .int r305), (3, .int x154), (4, .int x150), (8, .int r126), (7, .int x119), (6, .int r108), (5, .int x49), (0, .ref (ad 55)), (1, .int a1), (2, .int a2)]) hx hb dX12_game_186 hl (by decide) rfl (fun ls hl => ?_)
                  refine lv_iload_n hx hb dX12_game_188 rfl (lv_at hl 1 rfl) ?_
                  refine lv_ldcw (v := 1103515245) hx hb hown (hts _ kw_46_14) dX12_game_189 ?_
                  have g322 := jrg (rfl : x154.toInt = x154.toInt)
                  refine lv_imul hx hb dX12_game_192 ?_
                  refine lv_topi (fun x323 ex323 => ?_)
                  have gx323 := jrg (rfl : x323.toInt = x323.toInt)
                  refine lv_sipush (v := 12345) hx hb dX12_game_193 (by decide) ?_
                  have g324 := jrg (rfl : x323.toInt = x323.toInt)
                  refine lv_iadd hx hb dX12_game_196 ?_
                  refine lv_topi (fun x325 ex325 => ?_)
                  have gx325 := jrg (rfl : x325.toInt = x325.toInt)
                  refine lv_istore_n (lv' := [(3, .int x325), (9, .int r305), (4, .int x150), (8, .int r126), (7, .int x119), (6, .int r108), (5, .int x49), (0, .ref (ad 55)), (1, .int a1), (2, .int a2)]) hx hb dX12_game_197 rfl hl (by decide) rfl (fun ls hl => ?_)
                  refine lv_iload_n hx hb dX12_game_198 rfl (lv_at hl 0 rfl) ?_
                  refine lv_bipush (v := 8) hx hb dX12_game_199 (by decide) ?_
                  refine lv_iushr hx hb dX12_game_201 rfl ?_
                  refine lv_topi (fun x326 ex326 => ?_)
                  have gx326 := jrg (rfl : x326.toInt = x326.toInt)
                  have g327 : 0 ≤ x326.toInt ∧ x326.toInt ≤ 16777215 := jushr8 ex326
                  refine lv_sipush (v := 1000) hx hb dX12_game_202 (by decide) ?_
                  refine lv_irem hx hb dX12_game_205 (by decide) ?_
                  refine lv_topi (fun x328 ex328 => ?_)
                  have tx328 : x328.toInt = (x326.toInt % 1000) := jrem ex328 rfl jz_1000 (by omega)
                  refine lv_aload_n hx hb dX12_game_206 rfl (lv_at hl 7 rfl) ?_
                  refine va_get (D := D) hx hb hts inlX12 hown hK hP 55 (jc_55 cI cL ad σ304 τ) rfl 13 (by decide) (hts _ kw_15_14) (fun _ h9 => h9) rfl dX12_game_207 ?_
                  have m329 : σ304 55 13 = (σ 55 13) := ((f307 13 (by decide)).trans ((congrFun (jnp 55 eσ291 (by decide)) 13).trans ((congrFun (jnp 55 eσ145 (by decide)) 13).trans ((congrFun (jnp 55 eσ134 (by decide)) 13).trans ((f128 13 (by decide)).trans ((f110 13 (by decide)).trans ((f74 13 (by decide)).trans ((jkp 13 eσ44 (by decide)).trans ((f42 13 (by decide)).trans (f25 13 (by decide)))))))))))
                  refine jtopr m329 ?_
                  refine lv_icmp_ge (tgt := 217) hx hb dX12_game_210 (by decide) (fun c330 => ?_) (fun c330 => ?_)
                  · have kc330 := jle c330 rfl tx328
                    refine lv_iconst (v := 0) hx hb dX12_game_217 (by decide) ?_
                    refine lv_istore (lv' := [(5, .int 0), (3, .int x325), (9, .int r305), (4, .int x150), (8, .int r126), (7, .int x119), (6, .int r108), (0, .ref (ad 55)), (1, .int a1), (2, .int a2)]) hx hb dX12_game_218 hl (by decide) rfl (fun ls hl => ?_)
                    refine lv_aload_n hx hb dX12_game_220 rfl (lv_at hl 7 rfl) ?_
                    refine lv_dup hx hb dX12_game_221 rfl ?_
                    refine va_get (D := D) hx hb hts inlX12 hown hK hP 55 (jc_55 cI cL ad σ304 τ) rfl 50 (by decide) (hts _ kw_46_13) (fun _ h9 => h9) rfl dX12_game_222 ?_
                    have m331 : σ304 55 50 = (σ54 55 50) := ((f307 50 (by decide)).trans m292)
                    refine jtopr m331 ?_
                    refine lv_iconst (v := 1) hx hb dX12_game_225 (by decide) ?_
                    have g332 := jrg (rfl : (σ54 55 50).toInt = (σ54 55 50).toInt)
                    refine lv_iadd hx hb dX12_game_226 ?_
                    refine lv_topi (fun x333 ex333 => ?_)
                    have tx333 : x333.toInt = (σ54 55 50).toInt + 1 := (jadd ex333 rfl jz_1 (by omega) (by omega)).trans (by omega)
                    refine jput (ty := .int) hx hb hts inlX12 tyX12 tyX12_ok nmX12 hown hK hP hJ hA hS (jc_55 cI cL ad σ304 τ) rfl (k := 50) (by decide) (Nat.le_of_ble_eq_true rfl) (jp_55_50 cI cL ad σ304 τ x333) (hts _ kw_46_13) (fun _ h9 => h9) rfl (by decide +kernel) rfl rfl dX12_game_227 (fun σ334 H locs eσ334 hP hS => ?_)
                    refine lv_goto (tgt := 43) hx hb dX12_game_230 (by decide) ?_
                    have z335 : (σ334 55 12).toInt = (σ 55 12).toInt := (congrArg Int32.toInt (show σ334 55 12 = (σ 55 12) from ((jkp 12 eσ334 (by decide)).trans ((f307 12 (by decide)).trans ((congrFun (jnp 55 eσ291 (by decide)) 12).trans ((congrFun (jnp 55 eσ145 (by decide)) 12).trans ((congrFun (jnp 55 eσ134 (by decide)) 12).trans ((f128 12 (by decide)).trans ((f110 12 (by decide)).trans ((f74 12 (by decide)).trans ((jkp 12 eσ44 (by decide)).trans ((f42 12 (by decide)).trans (f25 12 (by decide))))))))))))))
                    have z336 : (σ334 55 26).toInt = (σ304 55 26).toInt := (congrArg Int32.toInt (show σ334 55 26 = (σ304 55 26) from (jkp 26 eσ334 (by decide))))
                    have z337 : (σ334 55 25).toInt = (σ304 55 25).toInt := (congrArg Int32.toInt (show σ334 55 25 = (σ304 55 25) from (jkp 25 eσ334 (by decide))))
                    have z338 : (σ334 55 10).toInt = (σ 55 10).toInt := (congrArg Int32.toInt (show σ334 55 10 = (σ 55 10) from ((jkp 10 eσ334 (by decide)).trans ((f307 10 (by decide)).trans ((congrFun (jnp 55 eσ291 (by decide)) 10).trans ((congrFun (jnp 55 eσ145 (by decide)) 10).trans ((congrFun (jnp 55 eσ134 (by decide)) 10).trans ((f128 10 (by decide)).trans ((f110 10 (by decide)).trans ((f74 10 (by decide)).trans ((jkp 10 eσ44 (by decide)).trans ((f42 10 (by decide)).trans (f25 10 (by decide))))))))))))))
                    have z339 : (σ334 55 27).toInt = (σ304 55 27).toInt := (congrArg Int32.toInt (show σ334 55 27 = (σ304 55 27) from (jkp 27 eσ334 (by decide))))
                    have z340 : (σ334 55 50).toInt = (σ54 55 50).toInt + 1 := ((congrArg Int32.toInt (show σ334 55 50 = x333 from (jsp eσ334))).trans tx333)
                    have p341 : jKept σ334 := jKept.fr ((jnp 75 eσ334 (by decide)).trans ((f306 75 (by decide)).trans ((jnp 75 eσ291 (by decide)).trans ((jnp 75 eσ145 (by decide)).trans ((jnp 75 eσ134 (by decide)).trans (f127 75 (by decide))))))) ((jnp 76 eσ334 (by decide)).trans ((f306 76 (by decide)).trans ((jnp 76 eσ291 (by decide)).trans ((jnp 76 eσ145 (by decide)).trans ((jnp 76 eσ134 (by decide)).trans (f127 76 (by decide))))))) ((jnp 77 eσ334 (by decide)).trans ((f306 77 (by decide)).trans ((jnp 77 eσ291 (by decide)).trans ((jnp 77 eσ145 (by decide)).trans ((jnp 77 eσ134 (by decide)).trans (f127 77 (by decide))))))) p111
                    have I342 : jI109 σ334 := (show 0 ≤ (σ334 55 50).toInt ∧ (σ334 55 50).toInt ≤ 12 by omega)
                    have w343 : ∀ k : Nat, k < 4 → 0 ≤ (σ334 68 k).toInt ∧ (σ334 68 k).toInt ≤ 3 := (jrr_fr (jnp 68 eσ334 (by decide)) w308)
                    have I344 : jI119 σ334 := w343
                    exact ihlp45 x325 x150 0 σ334 _ _ ls (by have h92 := jz_0; omega) (by have h92 := jz_0; omega) (by have h92 := jz_0; omega) (by have h92 := jz_0; omega) (by have h92 := jz_0; omega) (by have h92 := jz_0; omega) (by have h92 := jz_0; omega) (fun i hi => ((jnp i eσ334 (imp_282 i hi)).trans ((f306 i (imp_284 i hi)).trans ((jnp i eσ291 (imp_289 i hi)).trans ((jnp i eσ145 (imp_290 i hi)).trans ((jnp i eσ134 (imp_291 i hi)).trans ((f127 i (imp_292 i hi)).trans ((f109 i (imp_293 i hi)).trans (f73 i hi))))))))) (fun i hi => ((jkp i eσ334 (imp_294 i hi)).trans ((f307 i (imp_295 i hi)).trans ((congrFun (jnp 55 eσ291 (by decide)) i).trans ((congrFun (jnp 55 eσ145 (by decide)) i).trans ((congrFun (jnp 55 eσ134 (by decide)) i).trans ((f128 i (imp_296 i hi)).trans ((f110 i (imp_297 i hi)).trans (f74 i hi)))))))))  p341 I342 I344 hP hS (lv_sub hl [0, 3, 1, 7, 8, 9] rfl)
                  · have kc330 := jnle c330 rfl tx328
                    refine lv_iconst (v := 1) hx hb dX12_game_213 (by decide) ?_
                    refine lv_goto (tgt := 218) hx hb dX12_game_214 (by decide) ?_
                    refine lv_istore (lv' := [(5, .int 1), (3, .int x325), (9, .int r305), (4, .int x150), (8, .int r126), (7, .int x119), (6, .int r108), (0, .ref (ad 55)), (1, .int a1), (2, .int a2)]) hx hb dX12_game_218 hl (by decide) rfl (fun ls hl => ?_)
                    refine lv_aload_n hx hb dX12_game_220 rfl (lv_at hl 7 rfl) ?_
                    refine lv_dup hx hb dX12_game_221 rfl ?_
                    refine va_get (D := D) hx hb hts inlX12 hown hK hP 55 (jc_55 cI cL ad σ304 τ) rfl 50 (by decide) (hts _ kw_46_13) (fun _ h9 => h9) rfl dX12_game_222 ?_
                    have m345 : σ304 55 50 = (σ54 55 50) := ((f307 50 (by decide)).trans m292)
                    refine jtopr m345 ?_
                    refine lv_iconst (v := 1) hx hb dX12_game_225 (by decide) ?_
                    have g346 := jrg (rfl : (σ54 55 50).toInt = (σ54 55 50).toInt)
                    refine lv_iadd hx hb dX12_game_226 ?_
                    refine lv_topi (fun x347 ex347 => ?_)
                    have tx347 : x347.toInt = (σ54 55 50).toInt + 1 := (jadd ex347 rfl jz_1 (by omega) (by omega)).trans (by omega)
                    refine jput (ty := .int) hx hb hts inlX12 tyX12 tyX12_ok nmX12 hown hK hP hJ hA hS (jc_55 cI cL ad σ304 τ) rfl (k := 50) (by decide) (Nat.le_of_ble_eq_true rfl) (jp_55_50 cI cL ad σ304 τ x347) (hts _ kw_46_13) (fun _ h9 => h9) rfl (by decide +kernel) rfl rfl dX12_game_227 (fun σ348 H locs eσ348 hP hS => ?_)
                    refine lv_goto (tgt := 43) hx hb dX12_game_230 (by decide) ?_
                    have z349 : (σ348 55 12).toInt = (σ 55 12).toInt := (congrArg Int32.toInt (show σ348 55 12 = (σ 55 12) from ((jkp 12 eσ348 (by decide)).trans ((f307 12 (by decide)).trans ((congrFun (jnp 55 eσ291 (by decide)) 12).trans ((congrFun (jnp 55 eσ145 (by decide)) 12).trans ((congrFun (jnp 55 eσ134 (by decide)) 12).trans ((f128 12 (by decide)).trans ((f110 12 (by decide)).trans ((f74 12 (by decide)).trans ((jkp 12 eσ44 (by decide)).trans ((f42 12 (by decide)).trans (f25 12 (by decide))))))))))))))
                    have z350 : (σ348 55 26).toInt = (σ304 55 26).toInt := (congrArg Int32.toInt (show σ348 55 26 = (σ304 55 26) from (jkp 26 eσ348 (by decide))))
                    have z351 : (σ348 55 25).toInt = (σ304 55 25).toInt := (congrArg Int32.toInt (show σ348 55 25 = (σ304 55 25) from (jkp 25 eσ348 (by decide))))
                    have z352 : (σ348 55 10).toInt = (σ 55 10).toInt := (congrArg Int32.toInt (show σ348 55 10 = (σ 55 10) from ((jkp 10 eσ348 (by decide)).trans ((f307 10 (by decide)).trans ((congrFun (jnp 55 eσ291 (by decide)) 10).trans ((congrFun (jnp 55 eσ145 (by decide)) 10).trans ((congrFun (jnp 55 eσ134 (by decide)) 10).trans ((f128 10 (by decide)).trans ((f110 10 (by decide)).trans ((f74 10 (by decide)).trans ((jkp 10 eσ44 (by decide)).trans ((f42 10 (by decide)).trans (f25 10 (by decide))))))))))))))
                    have z353 : (σ348 55 27).toInt = (σ304 55 27).toInt := (congrArg Int32.toInt (show σ348 55 27 = (σ304 55 27) from (jkp 27 eσ348 (by decide))))
                    have z354 : (σ348 55 50).toInt = (σ54 55 50).toInt + 1 := ((congrArg Int32.toInt (show σ348 55 50 = x347 from (jsp eσ348))).trans tx347)
                    have p355 : jKept σ348 := jKept.fr ((jnp 75 eσ348 (by decide)).trans ((f306 75 (by decide)).trans ((jnp 75 eσ291 (by decide)).trans ((jnp 75 eσ145 (by decide)).trans ((jnp 75 eσ134 (by decide)).trans (f127 75 (by decide))))))) ((jnp 76 eσ348 (by decide)).trans ((f306 76 (by decide)).trans ((jnp 76 eσ291 (by decide)).trans ((jnp 76 eσ145 (by decide)).trans ((jnp 76 eσ134 (by decide)).trans (f127 76 (by decide))))))) ((jnp 77 eσ348 (by decide)).trans ((f306 77 (by decide)).trans ((jnp 77 eσ291 (by decide)).trans ((jnp 77 eσ145 (by decide)).trans ((jnp 77 eσ134 (by decide)).trans (f127 77 (by decide))))))) p111
                    have I356 : jI109 σ348 := (show 0 ≤ (σ348 55 50).toInt ∧ (σ348 55 50).toInt ≤ 12 by omega)
                    have w357 : ∀ k : Nat, k < 4 → 0 ≤ (σ348 68 k).toInt ∧ (σ348 68 k).toInt ≤ 3 := (jrr_fr (jnp 68 eσ348 (by decide)) w308)
                    have I358 : jI119 σ348 := w357
                    exact ihlp45 x325 x150 1 σ348 _ _ ls (by have h92 := jz_1; omega) (by have h92 := jz_1; omega) (by have h92 := jz_1; omega) (by have h92 := jz_1; omega) (by have h92 := jz_1; omega) (by have h92 := jz_1; omega) (by have h92 := jz_1; omega) (fun i hi => ((jnp i eσ348 (imp_282 i hi)).trans ((f306 i (imp_284 i hi)).trans ((jnp i eσ291 (imp_289 i hi)).trans ((jnp i eσ145 (imp_290 i hi)).trans ((jnp i eσ134 (imp_291 i hi)).trans ((f127 i (imp_292 i hi)).trans ((f109 i (imp_293 i hi)).trans (f73 i hi))))))))) (fun i hi => ((jkp i eσ348 (imp_294 i hi)).trans ((f307 i (imp_295 i hi)).trans ((congrFun (jnp 55 eσ291 (by decide)) i).trans ((congrFun (jnp 55 eσ145 (by decide)) i).trans ((congrFun (jnp 55 eσ134 (by decide)) i).trans ((f128 i (imp_296 i hi)).trans ((f110 i (imp_297 i hi)).trans (f74 i hi)))))))))  p355 I356 I358 hP hS (lv_sub hl [0, 3, 1, 7, 8, 9] rfl)
                · have kc294 := jeq c294 rfl jz_1
                  refine lv_iconst (v := 1) hx hb dX12_game_178 (by decide) ?_
                  refine lv_goto (tgt := 183) hx hb dX12_game_179 (by decide) ?_
                  have w359 : ∀ k : Nat, k < 4 → 0 ≤ (σ291 68 k).toInt ∧ (σ291 68 k).toInt ≤ 3 := (jrr_fr (jnp 68 eσ291 (by decide)) (jrr_fr (jnp 68 eσ145 (by decide)) w139))
                  have z360 : (σ291 55 6).toInt = (σ 55 6).toInt := (congrArg Int32.toInt (show σ291 55 6 = (σ 55 6) from ((congrFun (jnp 55 eσ291 (by decide)) 6).trans ((congrFun (jnp 55 eσ145 (by decide)) 6).trans ((congrFun (jnp 55 eσ134 (by decide)) 6).trans ((f128 6 (by decide)).trans ((f110 6 (by decide)).trans ((f74 6 (by decide)).trans ((jkp 6 eσ44 (by decide)).trans ((f42 6 (by decide)).trans (f25 6 (by decide))))))))))))
                  have z361 : (σ291 55 27).toInt = (σ54 55 27).toInt := (congrArg Int32.toInt (show σ291 55 27 = (σ54 55 27) from ((congrFun (jnp 55 eσ291 (by decide)) 27).trans ((congrFun (jnp 55 eσ145 (by decide)) 27).trans ((congrFun (jnp 55 eσ134 (by decide)) 27).trans ((f128 27 (by decide)).trans (f110 27 (by decide))))))))
                  have z362 : (σ291 55 25).toInt = (σ54 55 25).toInt := (congrArg Int32.toInt (show σ291 55 25 = (σ54 55 25) from ((congrFun (jnp 55 eσ291 (by decide)) 25).trans ((congrFun (jnp 55 eσ145 (by decide)) 25).trans ((congrFun (jnp 55 eσ134 (by decide)) 25).trans ((f128 25 (by decide)).trans m116))))))
                  have z363 : (σ291 55 26).toInt = (σ54 55 26).toInt := (congrArg Int32.toInt (show σ291 55 26 = (σ54 55 26) from ((congrFun (jnp 55 eσ291 (by decide)) 26).trans ((congrFun (jnp 55 eσ145 (by decide)) 26).trans ((congrFun (jnp 55 eσ134 (by decide)) 26).trans ((f128 26 (by decide)).trans (f110 26 (by decide))))))))
                  have z364 : (σ291 68 0).toInt = (σ54 68 0).toInt := (congrArg Int32.toInt (show σ291 68 0 = (σ54 68 0) from ((congrFun (jnp 68 eσ291 (by decide)) 0).trans ((congrFun (jnp 68 eσ145 (by decide)) 0).trans ((congrFun (jnp 68 eσ134 (by decide)) 0).trans ((congrFun (f127 68 (by decide)) 0).trans (congrFun (f109 68 (by decide)) 0)))))))
                  have z365 : (σ291 68 1).toInt = (σ54 68 1).toInt := (congrArg Int32.toInt (show σ291 68 1 = (σ54 68 1) from ((congrFun (jnp 68 eσ291 (by decide)) 1).trans ((congrFun (jnp 68 eσ145 (by decide)) 1).trans ((congrFun (jnp 68 eσ134 (by decide)) 1).trans ((congrFun (f127 68 (by decide)) 1).trans (congrFun (f109 68 (by decide)) 1)))))))
                  have z366 : (σ291 68 2).toInt = (σ54 68 2).toInt := (congrArg Int32.toInt (show σ291 68 2 = (σ54 68 2) from ((congrFun (jnp 68 eσ291 (by decide)) 2).trans ((congrFun (jnp 68 eσ145 (by decide)) 2).trans ((congrFun (jnp 68 eσ134 (by decide)) 2).trans ((congrFun (f127 68 (by decide)) 2).trans (congrFun (f109 68 (by decide)) 2)))))))
                  have z367 : (σ291 68 3).toInt = (σ54 68 3).toInt := (congrArg Int32.toInt (show σ291 68 3 = (σ54 68 3) from ((congrFun (jnp 68 eσ291 (by decide)) 3).trans ((congrFun (jnp 68 eσ145 (by decide)) 3).trans ((congrFun (jnp 68 eσ134 (by decide)) 3).trans ((congrFun (f127 68 (by decide)) 3).trans (congrFun (f109 68 (by decide)) 3)))))))
                  refine jcallV (As := [.int r108, .int 1]) (rest := []) ⟨hx, hb, hml, hown, hts⟩ hK hP hA hS hZ (c_X12_goes_1 l D cI cL ad zz hJ σ291 τ r108 (r108.toInt) rfl w359 (by omega) (by omega) (by omega) (by omega) (by omega)) cw_RX12_296 (jc_55 cI cL ad σ291 τ) rfl ⟨Nat.le_of_ble_eq_true rfl, Nat.le_of_ble_eq_true rfl⟩ rfl rfl rfl hl.1 rfl (Nat.le_of_ble_eq_true rfl) dX12_game_183 ⟨Nat.zero_le _, Nat.zero_le _⟩ (fun r369 σ368 τ368 H locs h368 hP hS => ?_)
                  obtain ⟨rfl, f370, f371, w372, w373, w374, h368⟩ := h368
                  obtain ⟨k376, k377, k378, h368⟩ := h368
                  have h379 := h368
                  obtain ⟨q385, k380, k381, k382, k383, k384⟩ := h379
                  refine lv_istore (lv' := [(9, .int r369), (3, .int x154), (4, .int x150), (8, .int r126), (7, .int x119), (6, .int r108), (5, .int x49), (0, .ref (ad 55)), (1, .int a1), (2, .int a2)]) hx hb dX12_game_186 hl (by decide) rfl (fun ls hl => ?_)
                  refine lv_iload_n hx hb dX12_game_188 rfl (lv_at hl 1 rfl) ?_
                  refine lv_ldcw (v := 1103515245) hx hb hown (hts _ kw_46_14) dX12_game_189 ?_
                  have g386 := jrg (rfl : x154.toInt = x154.toInt)
                  refine lv_imul hx hb dX12_game_192 ?_
                  refine lv_topi (fun x387 ex387 => ?_)
                  have gx387 := jrg (rfl : x387.toInt = x387.toInt)
                  refine lv_sipush (v := 12345) hx hb dX12_game_193 (by decide) ?_
                  have g388 := jrg (rfl : x387.toInt = x387.toInt)
                  refine lv_iadd hx hb dX12_game_196 ?_
                  refine lv_topi (fun x389 ex389 => ?_)
                  have gx389 := jrg (rfl : x389.toInt = x389.toInt)
                  refine lv_istore_n (lv' := [(3, .int x389), (9, .int r369), (4, .int x150), (8, .int r126), (7, .int x119), (6, .int r108), (5, .int x49), (0, .ref (ad 55)), (1, .int a1), (2, .int a2)]) hx hb dX12_game_197 rfl hl (by decide) rfl (fun ls hl => ?_)
                  refine lv_iload_n hx hb dX12_game_198 rfl (lv_at hl 0 rfl) ?_
                  refine lv_bipush (v := 8) hx hb dX12_game_199 (by decide) ?_
                  refine lv_iushr hx hb dX12_game_201 rfl ?_
                  refine lv_topi (fun x390 ex390 => ?_)
                  have gx390 := jrg (rfl : x390.toInt = x390.toInt)
                  have g391 : 0 ≤ x390.toInt ∧ x390.toInt ≤ 16777215 := jushr8 ex390
                  refine lv_sipush (v := 1000) hx hb dX12_game_202 (by decide) ?_
                  refine lv_irem hx hb dX12_game_205 (by decide) ?_
                  refine lv_topi (fun x392 ex392 => ?_)
                  have tx392 : x392.toInt = (x390.toInt % 1000) := jrem ex392 rfl jz_1000 (by omega)
                  refine lv_aload_n hx hb dX12_game_206 rfl (lv_at hl 7 rfl) ?_
                  refine va_get (D := D) hx hb hts inlX12 hown hK hP 55 (jc_55 cI cL ad σ368 τ) rfl 13 (by decide) (hts _ kw_15_14) (fun _ h9 => h9) rfl dX12_game_207 ?_
                  have m393 : σ368 55 13 = (σ 55 13) := ((f371 13 (by decide)).trans ((congrFun (jnp 55 eσ291 (by decide)) 13).trans ((congrFun (jnp 55 eσ145 (by decide)) 13).trans ((congrFun (jnp 55 eσ134 (by decide)) 13).trans ((f128 13 (by decide)).trans ((f110 13 (by decide)).trans ((f74 13 (by decide)).trans ((jkp 13 eσ44 (by decide)).trans ((f42 13 (by decide)).trans (f25 13 (by decide)))))))))))
                  refine jtopr m393 ?_
                  refine lv_icmp_ge (tgt := 217) hx hb dX12_game_210 (by decide) (fun c394 => ?_) (fun c394 => ?_)
                  · have kc394 := jle c394 rfl tx392
                    refine lv_iconst (v := 0) hx hb dX12_game_217 (by decide) ?_
                    refine lv_istore (lv' := [(5, .int 0), (3, .int x389), (9, .int r369), (4, .int x150), (8, .int r126), (7, .int x119), (6, .int r108), (0, .ref (ad 55)), (1, .int a1), (2, .int a2)]) hx hb dX12_game_218 hl (by decide) rfl (fun ls hl => ?_)
                    refine lv_aload_n hx hb dX12_game_220 rfl (lv_at hl 7 rfl) ?_
                    refine lv_dup hx hb dX12_game_221 rfl ?_
                    refine va_get (D := D) hx hb hts inlX12 hown hK hP 55 (jc_55 cI cL ad σ368 τ) rfl 50 (by decide) (hts _ kw_46_13) (fun _ h9 => h9) rfl dX12_game_222 ?_
                    have m395 : σ368 55 50 = (σ54 55 50) := ((f371 50 (by decide)).trans m292)
                    refine jtopr m395 ?_
                    refine lv_iconst (v := 1) hx hb dX12_game_225 (by decide) ?_
                    have g396 := jrg (rfl : (σ54 55 50).toInt = (σ54 55 50).toInt)
                    refine lv_iadd hx hb dX12_game_226 ?_
                    refine lv_topi (fun x397 ex397 => ?_)
                    have tx397 : x397.toInt = (σ54 55 50).toInt + 1 := (jadd ex397 rfl jz_1 (by omega) (by omega)).trans (by omega)
                    refine jput (ty := .int) hx hb hts inlX12 tyX12 tyX12_ok nmX12 hown hK hP hJ hA hS (jc_55 cI cL ad σ368 τ) rfl (k := 50) (by decide) (Nat.le_of_ble_eq_true rfl) (jp_55_50 cI cL ad σ368 τ x397) (hts _ kw_46_13) (fun _ h9 => h9) rfl (by decide +kernel) rfl rfl dX12_game_227 (fun σ398 H locs eσ398 hP hS => ?_)
                    refine lv_goto (tgt := 43) hx hb dX12_game_230 (by decide) ?_
                    have z399 : (σ398 55 12).toInt = (σ 55 12).toInt := (congrArg Int32.toInt (show σ398 55 12 = (σ 55 12) from ((jkp 12 eσ398 (by decide)).trans ((f371 12 (by decide)).trans ((congrFun (jnp 55 eσ291 (by decide)) 12).trans ((congrFun (jnp 55 eσ145 (by decide)) 12).trans ((congrFun (jnp 55 eσ134 (by decide)) 12).trans ((f128 12 (by decide)).trans ((f110 12 (by decide)).trans ((f74 12 (by decide)).trans ((jkp 12 eσ44 (by decide)).trans ((f42 12 (by decide)).trans (f25 12 (by decide))))))))))))))
                    have z400 : (σ398 55 26).toInt = (σ368 55 26).toInt := (congrArg Int32.toInt (show σ398 55 26 = (σ368 55 26) from (jkp 26 eσ398 (by decide))))
                    have z401 : (σ398 55 25).toInt = (σ368 55 25).toInt := (congrArg Int32.toInt (show σ398 55 25 = (σ368 55 25) from (jkp 25 eσ398 (by decide))))
                    have z402 : (σ398 55 10).toInt = (σ 55 10).toInt := (congrArg Int32.toInt (show σ398 55 10 = (σ 55 10) from ((jkp 10 eσ398 (by decide)).trans ((f371 10 (by decide)).trans ((congrFun (jnp 55 eσ291 (by decide)) 10).trans ((congrFun (jnp 55 eσ145 (by decide)) 10).trans ((congrFun (jnp 55 eσ134 (by decide)) 10).trans ((f128 10 (by decide)).trans ((f110 10 (by decide)).trans ((f74 10 (by decide)).trans ((jkp 10 eσ44 (by decide)).trans ((f42 10 (by decide)).trans (f25 10 (by decide))))))))))))))
                    have z403 : (σ398 55 27).toInt = (σ368 55 27).toInt := (congrArg Int32.toInt (show σ398 55 27 = (σ368 55 27) from (jkp 27 eσ398 (by decide))))
                    have z404 : (σ398 55 50).toInt = (σ54 55 50).toInt + 1 := ((congrArg Int32.toInt (show σ398 55 50 = x397 from (jsp eσ398))).trans tx397)
                    have p405 : jKept σ398 := jKept.fr ((jnp 75 eσ398 (by decide)).trans ((f370 75 (by decide)).trans ((jnp 75 eσ291 (by decide)).trans ((jnp 75 eσ145 (by decide)).trans ((jnp 75 eσ134 (by decide)).trans (f127 75 (by decide))))))) ((jnp 76 eσ398 (by decide)).trans ((f370 76 (by decide)).trans ((jnp 76 eσ291 (by decide)).trans ((jnp 76 eσ145 (by decide)).trans ((jnp 76 eσ134 (by decide)).trans (f127 76 (by decide))))))) ((jnp 77 eσ398 (by decide)).trans ((f370 77 (by decide)).trans ((jnp 77 eσ291 (by decide)).trans ((jnp 77 eσ145 (by decide)).trans ((jnp 77 eσ134 (by decide)).trans (f127 77 (by decide))))))) p111
                    have I406 : jI109 σ398 := (show 0 ≤ (σ398 55 50).toInt ∧ (σ398 55 50).toInt ≤ 12 by omega)
                    have w407 : ∀ k : Nat, k < 4 → 0 ≤ (σ398 68 k).toInt ∧ (σ398 68 k).toInt ≤ 3 := (jrr_fr (jnp 68 eσ398 (by decide)) w372)
                    have I408 : jI119 σ398 := w407
                    exact ihlp45 x389 x150 0 σ398 _ _ ls (by have h92 := jz_0; omega) (by have h92 := jz_0; omega) (by have h92 := jz_0; omega) (by have h92 := jz_0; omega) (by have h92 := jz_0; omega) (by have h92 := jz_0; omega) (by have h92 := jz_0; omega) (fun i hi => ((jnp i eσ398 (imp_282 i hi)).trans ((f370 i (imp_284 i hi)).trans ((jnp i eσ291 (imp_289 i hi)).trans ((jnp i eσ145 (imp_290 i hi)).trans ((jnp i eσ134 (imp_291 i hi)).trans ((f127 i (imp_292 i hi)).trans ((f109 i (imp_293 i hi)).trans (f73 i hi))))))))) (fun i hi => ((jkp i eσ398 (imp_294 i hi)).trans ((f371 i (imp_295 i hi)).trans ((congrFun (jnp 55 eσ291 (by decide)) i).trans ((congrFun (jnp 55 eσ145 (by decide)) i).trans ((congrFun (jnp 55 eσ134 (by decide)) i).trans ((f128 i (imp_296 i hi)).trans ((f110 i (imp_297 i hi)).trans (f74 i hi)))))))))  p405 I406 I408 hP hS (lv_sub hl [0, 3, 1, 7, 8, 9] rfl)
                  · have kc394 := jnle c394 rfl tx392
                    refine lv_iconst (v := 1) hx hb dX12_game_213 (by decide) ?_
                    refine lv_goto (tgt := 218) hx hb dX12_game_214 (by decide) ?_
                    refine lv_istore (lv' := [(5, .int 1), (3, .int x389), (9, .int r369), (4, .int x150), (8, .int r126), (7, .int x119), (6, .int r108), (0, .ref (ad 55)), (1, .int a1), (2, .int a2)]) hx hb dX12_game_218 hl (by decide) rfl (fun ls hl => ?_)
                    refine lv_aload_n hx hb dX12_game_220 rfl (lv_at hl 7 rfl) ?_
                    refine lv_dup hx hb dX12_game_221 rfl ?_
                    refine va_get (D := D) hx hb hts inlX12 hown hK hP 55 (jc_55 cI cL ad σ368 τ) rfl 50 (by decide) (hts _ kw_46_13) (fun _ h9 => h9) rfl dX12_game_222 ?_
                    have m409 : σ368 55 50 = (σ54 55 50) := ((f371 50 (by decide)).trans m292)
                    refine jtopr m409 ?_
                    refine lv_iconst (v := 1) hx hb dX12_game_225 (by decide) ?_
                    have g410 := jrg (rfl : (σ54 55 50).toInt = (σ54 55 50).toInt)
                    refine lv_iadd hx hb dX12_game_226 ?_
                    refine lv_topi (fun x411 ex411 => ?_)
                    have tx411 : x411.toInt = (σ54 55 50).toInt + 1 := (jadd ex411 rfl jz_1 (by omega) (by omega)).trans (by omega)
                    refine jput (ty := .int) hx hb hts inlX12 tyX12 tyX12_ok nmX12 hown hK hP hJ hA hS (jc_55 cI cL ad σ368 τ) rfl (k := 50) (by decide) (Nat.le_of_ble_eq_true rfl) (jp_55_50 cI cL ad σ368 τ x411) (hts _ kw_46_13) (fun _ h9 => h9) rfl (by decide +kernel) rfl rfl dX12_game_227 (fun σ412 H locs eσ412 hP hS => ?_)
                    refine lv_goto (tgt := 43) hx hb dX12_game_230 (by decide) ?_
                    have z413 : (σ412 55 12).toInt = (σ 55 12).toInt := (congrArg Int32.toInt (show σ412 55 12 = (σ 55 12) from ((jkp 12 eσ412 (by decide)).trans ((f371 12 (by decide)).trans ((congrFun (jnp 55 eσ291 (by decide)) 12).trans ((congrFun (jnp 55 eσ145 (by decide)) 12).trans ((congrFun (jnp 55 eσ134 (by decide)) 12).trans ((f128 12 (by decide)).trans ((f110 12 (by decide)).trans ((f74 12 (by decide)).trans ((jkp 12 eσ44 (by decide)).trans ((f42 12 (by decide)).trans (f25 12 (by decide))))))))))))))
                    have z414 : (σ412 55 26).toInt = (σ368 55 26).toInt := (congrArg Int32.toInt (show σ412 55 26 = (σ368 55 26) from (jkp 26 eσ412 (by decide))))
                    have z415 : (σ412 55 25).toInt = (σ368 55 25).toInt := (congrArg Int32.toInt (show σ412 55 25 = (σ368 55 25) from (jkp 25 eσ412 (by decide))))
                    have z416 : (σ412 55 10).toInt = (σ 55 10).toInt := (congrArg Int32.toInt (show σ412 55 10 = (σ 55 10) from ((jkp 10 eσ412 (by decide)).trans ((f371 10 (by decide)).trans ((congrFun (jnp 55 eσ291 (by decide)) 10).trans ((congrFun (jnp 55 eσ145 (by decide)) 10).trans ((congrFun (jnp 55 eσ134 (by decide)) 10).trans ((f128 10 (by decide)).trans ((f110 10 (by decide)).trans ((f74 10 (by decide)).trans ((jkp 10 eσ44 (by decide)).trans ((f42 10 (by decide)).trans (f25 10 (by decide))))))))))))))
                    have z417 : (σ412 55 27).toInt = (σ368 55 27).toInt := (congrArg Int32.toInt (show σ412 55 27 = (σ368 55 27) from (jkp 27 eσ412 (by decide))))
                    have z418 : (σ412 55 50).toInt = (σ54 55 50).toInt + 1 := ((congrArg Int32.toInt (show σ412 55 50 = x411 from (jsp eσ412))).trans tx411)
                    have p419 : jKept σ412 := jKept.fr ((jnp 75 eσ412 (by decide)).trans ((f370 75 (by decide)).trans ((jnp 75 eσ291 (by decide)).trans ((jnp 75 eσ145 (by decide)).trans ((jnp 75 eσ134 (by decide)).trans (f127 75 (by decide))))))) ((jnp 76 eσ412 (by decide)).trans ((f370 76 (by decide)).trans ((jnp 76 eσ291 (by decide)).trans ((jnp 76 eσ145 (by decide)).trans ((jnp 76 eσ134 (by decide)).trans (f127 76 (by decide))))))) ((jnp 77 eσ412 (by decide)).trans ((f370 77 (by decide)).trans ((jnp 77 eσ291 (by decide)).trans ((jnp 77 eσ145 (by decide)).trans ((jnp 77 eσ134 (by decide)).trans (f127 77 (by decide))))))) p111
                    have I420 : jI109 σ412 := (show 0 ≤ (σ412 55 50).toInt ∧ (σ412 55 50).toInt ≤ 12 by omega)
                    have w421 : ∀ k : Nat, k < 4 → 0 ≤ (σ412 68 k).toInt ∧ (σ412 68 k).toInt ≤ 3 := (jrr_fr (jnp 68 eσ412 (by decide)) w372)
                    have I422 : jI119 σ412 := w421
                    exact ihlp45 x389 x150 1 σ412 _ _ ls (by have h92 := jz_1; omega) (by have h92 := jz_1; omega) (by have h92 := jz_1; omega) (by have h92 := jz_1; omega) (by have h92 := jz_1; omega) (by have h92 := jz_1; omega) (by have h92 := jz_1; omega) (fun i hi => ((jnp i eσ412 (imp_282 i hi)).trans ((f370 i (imp_284 i hi)).trans ((jnp i eσ291 (imp_289 i hi)).trans ((jnp i eσ145 (imp_290 i hi)).trans ((jnp i eσ134 (imp_291 i hi)).trans ((f127 i (imp_292 i hi)).trans ((f109 i (imp_293 i hi)).trans (f73 i hi))))))))) (fun i hi => ((jkp i eσ412 (imp_294 i hi)).trans ((f371 i (imp_295 i hi)).trans ((congrFun (jnp 55 eσ291 (by decide)) i).trans ((congrFun (jnp 55 eσ145 (by decide)) i).trans ((congrFun (jnp 55 eσ134 (by decide)) i).trans ((f128 i (imp_296 i hi)).trans ((f110 i (imp_297 i hi)).trans (f74 i hi)))))))))  p419 I420 I422 hP hS (lv_sub hl [0, 3, 1, 7, 8, 9] rfl)
      exact lp45 1000000 a2 0 0 σ44 _ _ ls (by have h90 := t2; have h91 := jz_0; have h92 := jz_0; omega) (by have h90 := t2; have h91 := jz_0; have h92 := jz_0; omega) (by have h90 := t2; have h91 := jz_0; have h92 := jz_0; omega) (by have h90 := t2; have h91 := jz_0; have h92 := jz_0; omega) (by have h90 := t2; have h91 := jz_0; have h92 := jz_0; omega) (by have h90 := t2; have h91 := jz_0; have h92 := jz_0; omega) (by have h90 := t2; have h91 := jz_0; have h92 := jz_0; omega) (fun _ _ => rfl) (fun _ _ => rfl)  p65 I56 I58 hP hS hl
    · have kc20 := jnle c20 rfl jz_8
      refine lv_bipush (v := (-4)) hx hb dX12_game_19 (by decide) ?_
      exact hret (-4) σ τ _ _ _ _ rfl ⟨rfl, (fun _ _ => rfl), (fun _ _ => rfl), hI109, hI119, hs_jKept, trivial⟩ hP hS dX12_game_21
  · obtain ⟨q424, k423⟩ := h17
    have q424 := q424.symm
    subst q424
    refine lv_if_ne (tgt := 10) hx hb dX12_game_5 (by decide) (fun c => absurd (by decide) c) (fun _ => ?_)
    refine lv_iconst (v := (-1)) hx hb dX12_game_8 (by decide) ?_
    exact hret (-1) σ τ _ _ _ _ rfl ⟨rfl, (fun _ _ => rfl), (fun _ _ => rfl), hI109, hI119, hs_jKept, trivial⟩ hP hS dX12_game_9
set_option maxHeartbeats 4000000 in
set_option maxRecDepth 100000 in
theorem c_X12_led (l : Launch) (D : va_G) (cI cL : ClassId) (ad zz : Nat → Nat) (hJ : jD ad) (σ : Nat → Nat → Int32) (τ : Nat → Nat → Int64) (a1 : Int32) (A1 : Int) (t1 : a1.toInt = A1) (a2 : Int32) (A2 : Int) (t2 : a2.toInt = A2) (hI109 : jI109 σ) : jM l yX12_led cX12_led 3 (some .int) ({ frames := 1, cells := 0, slots := 0, locals := 25 }) D cI cL ad zz [.ref (ad 55), .int a1, .int a2] σ τ (fun r σ' τ' => (σ = σ' ∧ τ = τ') ∧ True) := by
  refine jM.of hJ (by decide +kernel) (nt := .int) rfl (Nat.le_of_ble_eq_true rfl) ?_
  intro p e s m args below meth c Q ls hC hret hl hP
  obtain ⟨hx, hb, hr, hml, hown, hts, hK, -, hlocks, hZ⟩ := hC
  have hown : s.vm.findClass RX12 = some m.cls := hown
  have hS : va_S (jA ad) s.heap s.heap [] := va_S.rf
  have hA : ∀ q, jA ad q → jA ad q := fun _ h => h
  have hl : lv_has ls 3 [(0, .ref (ad 55)), (1, .int a1), (2, .int a2)] := hl
  have g1 := jrg t1
  have g2 := jrg t2
  have i1 : 0 ≤ (σ 55 50).toInt ∧ (σ 55 50).toInt ≤ 12 := hI109
  refine lv_iload_n hx hb dX12_led_0 rfl (lv_at hl 1 rfl) ?_
  refine lv_iconst (v := (-1)) hx hb dX12_led_1 (by decide) ?_
  refine lv_icmp_ne (tgt := 18) hx hb dX12_led_2 (by decide) (fun c2 => ?_) (fun c2 => ?_)
  · have kc2 := jne c2 t1 jz_m1
    refine lv_iload_n hx hb dX12_led_18 rfl (lv_at hl 1 rfl) ?_
    refine lv_i2l (v := a1.toInt64) hx hb dX12_led_19 rfl ?_
    refine lv_lconst (v := 0) hx hb dX12_led_20 (by decide) ?_
    refine lv_aload_n hx hb dX12_led_21 rfl (lv_at hl 0 rfl) ?_
    refine va_get (D := D) hx hb hts inlX12 hown hK hP 55 (jc_55 cI cL ad σ τ) rfl 50 (by decide) (hts _ kw_46_13) (fun _ h9 => h9) rfl dX12_led_22 ?_
    refine lv_iconst (v := 1) hx hb dX12_led_25 (by decide) ?_
    have g3 := jrg (rfl : (σ 55 50).toInt = (σ 55 50).toInt)
    refine lv_isub hx hb dX12_led_26 ?_
    refine lv_topi (fun x4 ex4 => ?_)
    have tx4 : x4.toInt = (σ 55 50).toInt - 1 := (jsub ex4 rfl jz_1 (by omega) (by omega)).trans (by omega)
    refine lv_i2l (v := x4.toInt64) hx hb dX12_led_27 rfl ?_
    refine jcallS (As := [.long a1.toInt64, .long 0, .long x4.toInt64]) (rest := []) ⟨hx, hb, hml, hown, hts⟩ hK hP hA hS hZ (c_X12_within l D cI cL ad zz hJ σ τ a1.toInt64 (A1) (jtoL t1) 0 (0) jzl_0 x4.toInt64 ((σ 55 50).toInt - 1) (jtoL tx4)) cw_RX12_136 ⟨Nat.le_of_ble_eq_true rfl, Nat.le_of_ble_eq_true rfl⟩ rfl rfl rfl hl.1 rfl (Nat.le_of_ble_eq_true rfl) dX12_led_28 ⟨Nat.zero_le _, Nat.zero_le _⟩ (fun r6 σ5 τ5 H locs h5 hP hS => ?_)
    obtain ⟨⟨rfl, rfl⟩, h5⟩ := h5
    rcases h5 with h7 | h8
    · obtain ⟨q10, k9⟩ := h7
      have q10 := q10.symm
      subst q10
      refine lv_if_ne (tgt := 36) hx hb dX12_led_31 (by decide) (fun _ => ?_) (fun c => absurd c (by decide))
      refine lv_iload_n hx hb dX12_led_36 rfl (lv_at hl 2 rfl) ?_
      by_cases c11 : a2 = 0
      · have kc11 := jeq c11 t2 jz_0
        refine jtopr c11 ?_
        refine lv_tableIn (off := 27) (tgt := 64) hx hb dX12_led_37 (by decide) (by decide) (by decide) (by decide) ?_
        refine lv_aload_n hx hb dX12_led_64 rfl (lv_at hl 0 rfl) ?_
        refine va_get (D := D) hx hb hts inlX12 hown hK hP 55 (jc_55 cI cL ad σ τ) rfl 51 (by decide) (hts _ kw_8_7) (fun _ h9 => h9) rfl dX12_led_65 ?_
        refine lv_iload_n hx hb dX12_led_68 rfl (lv_at hl 1 rfl) ?_
        refine jald hx hb hK hP (jc_82 cI cL ad σ τ) (jin t1 (by omega) (by omega)) dX12_led_69 ?_
        refine lv_topi (fun x12 ex12 => ?_)
        exact hret x12 σ τ _ _ _ _ rfl ⟨⟨rfl, rfl⟩, trivial⟩ hP hS dX12_led_70
      have kc11 := jne c11 t2 jz_0
      by_cases c13 : a2 = 1
      · have kc13 := jeq c13 t2 jz_1
        refine jtopr c13 ?_
        refine lv_tableIn (off := 34) (tgt := 71) hx hb dX12_led_37 (by decide) (by decide) (by decide) (by decide) ?_
        refine lv_aload_n hx hb dX12_led_71 rfl (lv_at hl 0 rfl) ?_
        refine va_get (D := D) hx hb hts inlX12 hown hK hP 55 (jc_55 cI cL ad σ τ) rfl 52 (by decide) (hts _ kw_8_8) (fun _ h9 => h9) rfl dX12_led_72 ?_
        refine lv_iload_n hx hb dX12_led_75 rfl (lv_at hl 1 rfl) ?_
        refine jald hx hb hK hP (jc_83 cI cL ad σ τ) (jin t1 (by omega) (by omega)) dX12_led_76 ?_
        refine lv_topi (fun x14 ex14 => ?_)
        exact hret x14 σ τ _ _ _ _ rfl ⟨⟨rfl, rfl⟩, trivial⟩ hP hS dX12_led_77
      have kc13 := jne c13 t2 jz_1
      by_cases c15 : a2 = 2
      · have kc15 := jeq c15 t2 jz_2
        refine jtopr c15 ?_
        refine lv_tableIn (off := 41) (tgt := 78) hx hb dX12_led_37 (by decide) (by decide) (by decide) (by decide) ?_
        refine lv_aload_n hx hb dX12_led_78 rfl (lv_at hl 0 rfl) ?_
        refine va_get (D := D) hx hb hts inlX12 hown hK hP 55 (jc_55 cI cL ad σ τ) rfl 53 (by decide) (hts _ kw_8_9) (fun _ h9 => h9) rfl dX12_led_79 ?_
        refine lv_iload_n hx hb dX12_led_82 rfl (lv_at hl 1 rfl) ?_
        refine jald hx hb hK hP (jc_84 cI cL ad σ τ) (jin t1 (by omega) (by omega)) dX12_led_83 ?_
        refine lv_topi (fun x16 ex16 => ?_)
        exact hret x16 σ τ _ _ _ _ rfl ⟨⟨rfl, rfl⟩, trivial⟩ hP hS dX12_led_84
      have kc15 := jne c15 t2 jz_2
      refine lv_tableOut (tgt := 85) hx hb dX12_led_37 (by rw [t2]; omega) (by decide) ?_
      refine lv_iconst (v := (-1)) hx hb dX12_led_85 (by decide) ?_
      exact hret (-1) σ τ _ _ _ _ rfl ⟨⟨rfl, rfl⟩, trivial⟩ hP hS dX12_led_86
    · obtain ⟨q18, k17⟩ := h8
      have q18 := q18.symm
      subst q18
      refine lv_if_ne (tgt := 36) hx hb dX12_led_31 (by decide) (fun c => absurd (by decide) c) (fun _ => ?_)
      refine lv_iconst (v := (-1)) hx hb dX12_led_34 (by decide) ?_
      exact hret (-1) σ τ _ _ _ _ rfl ⟨⟨rfl, rfl⟩, trivial⟩ hP hS dX12_led_35
  · have kc2 := jeq c2 t1 jz_m1
    refine lv_iload_n hx hb dX12_led_5 rfl (lv_at hl 2 rfl) ?_
    refine lv_if_ne (tgt := 16) hx hb dX12_led_6 (by decide) (fun c19 => ?_) (fun c19 => ?_)
    · have kc19 := jne c19 t2 jz_0
      refine lv_iconst (v := (-1)) hx hb dX12_led_16 (by decide) ?_
      exact hret (-1) σ τ _ _ _ _ rfl ⟨⟨rfl, rfl⟩, trivial⟩ hP hS dX12_led_17
    · have kc19 := jeq c19 t2 jz_0
      refine lv_aload_n hx hb dX12_led_9 rfl (lv_at hl 0 rfl) ?_
      refine va_get (D := D) hx hb hts inlX12 hown hK hP 55 (jc_55 cI cL ad σ τ) rfl 50 (by decide) (hts _ kw_46_13) (fun _ h9 => h9) rfl dX12_led_10 ?_
      refine lv_goto (tgt := 17) hx hb dX12_led_13 (by decide) ?_
      exact hret (σ 55 50) σ τ _ _ _ _ rfl ⟨⟨rfl, rfl⟩, trivial⟩ hP hS dX12_led_17
